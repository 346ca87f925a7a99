set_option maxRecDepth 20000 in
theorem ggX6_bestCast_X6_offerActors : GoodIn wsX6_bestCast wsX6_offerActors := goodIn_r _ [7, 1, 2, 8, 9, 10, 11, 12, 13, 14, 15, 16, 17, 18, 19, 20, 21, 22, 23, 24, 25, 26, 27, 28, 6, 29, 30, 31, 32, 33, 34, 35, 36, 37, 38, 39, 40, 41, 42, 43, 44, 45, 46, 47, 48, 49, 50, 51, 52, 53, 54, 55, 56, 57, 58, 77, 78, 79, 80, 81, 82, 83, 84, 85, 86, 87, 88, 89, 90, 91, 92, 93, 94, 95, 96, 97] (by decide +kernel) (by decide +kernel)
set_option maxRecDepth 20000 in
theorem gX6_bestCast_X6_offerActors : GoodIn wsX6_bestCast (wsV RX6 156 RX6 yX6_offerActors wsX6_offerActors) := goodIn_app (goodIn_of _ (by decide +kernel)) ggX6_bestCast_X6_offerActors
set_option maxRecDepth 20000 in
theorem ggX6_bestCast_X1_leastKey : GoodIn wsX6_bestCast wsX1_leastKey := goodIn_r _ [62, 63, 18, 64, 65, 66, 67, 68, 69, 70, 71, 72, 73, 15, 74, 17, 51, 32, 6, 33, 75, 76, 88, 89, 90, 91] (by decide +kernel) (by decide +kernel)
set_option maxRecDepth 20000 in
theorem gX6_bestCast_X1_leastKey : GoodIn wsX6_bestCast (wsV RX6 241 RX1 yX1_leastKey wsX1_leastKey) := goodIn_app (goodIn_of _ (by decide +kernel)) ggX6_bestCast_X1_leastKey
set_option maxRecDepth 20000 in
theorem ggX6_actorIn_X1_rankOf : GoodIn wsX6_actorIn wsX1_rankOf := goodIn_r _ [5, 6, 7, 4, 8] (by decide +kernel) (by decide +kernel)
set_option maxRecDepth 20000 in
theorem gX6_actorIn_X1_rankOf : GoodIn wsX6_actorIn (va_wsS RX6 244 yX1_rankOf wsX1_rankOf) := goodIn_app (goodIn_of _ (by decide +kernel)) ggX6_actorIn_X1_rankOf
set_option maxRecDepth 20000 in
theorem ggX6_actorIn_X3_actorAt : GoodIn wsX6_actorIn wsX3_actorAt := goodIn_r _ [13, 14, 15, 24, 25] (by decide +kernel) (by decide +kernel)
set_option maxRecDepth 20000 in
theorem gX6_actorIn_X3_actorAt : GoodIn wsX6_actorIn (wsV RX6 193 RX3 yX3_actorAt wsX3_actorAt) := goodIn_app (goodIn_of _ (by decide +kernel)) ggX6_actorIn_X3_actorAt
set_option maxRecDepth 20000 in
theorem ggX6_countOthers_X6_actorIn : GoodIn wsX6_countOthers wsX6_actorIn := goodIn_r _ [6, 7, 8, 9, 10, 11, 12, 13, 14, 15, 16, 17, 18, 19, 20, 21, 22, 23, 24, 25, 26, 27, 28, 29, 30, 31] (by decide +kernel) (by decide +kernel)
set_option maxRecDepth 20000 in
theorem gX6_countOthers_X6_actorIn : GoodIn wsX6_countOthers (wsV RX6 165 RX6 yX6_actorIn wsX6_actorIn) := goodIn_app (goodIn_of _ (by decide +kernel)) ggX6_countOthers_X6_actorIn
