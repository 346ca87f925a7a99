set_option maxRecDepth 20000 in
theorem ggX6_play_X6_perform : GoodIn wsX6_play wsX6_perform := goodIn_r _ [16, 17, 18, 3, 4, 19, 20, 21, 22, 23, 24, 15, 25, 26, 27, 28, 29, 30, 31, 32, 33, 34, 35, 36, 37, 38, 39, 40, 41, 42, 43, 44, 45, 46, 47, 48, 49, 50, 51, 52, 53, 54, 55, 56, 57, 58, 59, 60, 61, 62, 63, 64, 65, 66, 67, 68, 69, 70, 71, 72, 73, 74, 75, 76, 77, 78, 79, 80, 81, 82, 83, 84, 85, 86, 87, 88, 89, 90, 91, 92, 93, 94, 95, 96, 97, 98, 99, 100, 101, 102, 103, 104, 105, 106, 107, 108, 109, 110, 111, 112, 113, 114, 115, 116, 117, 118, 119, 120, 121, 122, 123, 124, 125, 126, 127, 128, 129, 130, 131, 132, 133, 134, 135, 136, 137, 138, 139, 140, 141, 142, 143, 144, 145, 146, 151, 152, 153, 147, 148, 149, 150, 154, 155, 156, 157, 158, 159, 160, 161, 162, 163, 164, 165, 166, 167, 168, 169, 170, 171] (by decide +kernel) (by decide +kernel)
set_option maxRecDepth 20000 in
theorem gX6_play_X6_perform : GoodIn wsX6_play (wsV RX6 203 RX6 yX6_perform wsX6_perform) := goodIn_app (goodIn_of _ (by decide +kernel)) ggX6_play_X6_perform
set_option maxRecDepth 20000 in
theorem ggX6_stateOf_X6_needOneOf : GoodIn wsX6_stateOf wsX6_needOneOf := goodIn_ca (goodIn_r _ [7, 8, 9] (by decide +kernel) (by decide +kernel)) (goodIn_sub (fun _ h => List.mem_cons_of_mem _ (List.mem_append_right _ h)) (by decide +kernel))
set_option maxRecDepth 20000 in
theorem gX6_stateOf_X6_needOneOf : GoodIn wsX6_stateOf (va_wsS RX6 128 yX6_needOneOf wsX6_needOneOf) := goodIn_app (goodIn_of _ (by decide +kernel)) ggX6_stateOf_X6_needOneOf
set_option maxRecDepth 20000 in
theorem ggX6_played_X6_needOneOf : GoodIn wsX6_played wsX6_needOneOf := goodIn_ca (goodIn_r _ [7, 8, 9] (by decide +kernel) (by decide +kernel)) (goodIn_sub (fun _ h => List.mem_cons_of_mem _ (List.mem_append_right _ h)) (by decide +kernel))
set_option maxRecDepth 20000 in
theorem gX6_played_X6_needOneOf : GoodIn wsX6_played (va_wsS RX6 128 yX6_needOneOf wsX6_needOneOf) := goodIn_app (goodIn_of _ (by decide +kernel)) ggX6_played_X6_needOneOf
set_option maxRecDepth 20000 in
theorem ggX6_played_X6_needPart : GoodIn wsX6_played wsX6_needPart := goodIn_ca (goodIn_r _ [12, 8, 9] (by decide +kernel) (by decide +kernel)) (goodIn_sub (fun _ h => List.mem_cons_of_mem _ (List.mem_append_right _ h)) (by decide +kernel))
set_option maxRecDepth 20000 in
theorem gX6_played_X6_needPart : GoodIn wsX6_played (va_wsS RX6 76 yX6_needPart wsX6_needPart) := goodIn_app (goodIn_of _ (by decide +kernel)) ggX6_played_X6_needPart
set_option maxRecDepth 20000 in
theorem ggX6_refund_X6_needOneOf : GoodIn wsX6_refund wsX6_needOneOf := goodIn_ca (goodIn_r _ [7, 8, 9] (by decide +kernel) (by decide +kernel)) (goodIn_sub (fun _ h => List.mem_cons_of_mem _ (List.mem_append_right _ h)) (by decide +kernel))
set_option maxRecDepth 20000 in
theorem gX6_refund_X6_needOneOf : GoodIn wsX6_refund (va_wsS RX6 128 yX6_needOneOf wsX6_needOneOf) := goodIn_app (goodIn_of _ (by decide +kernel)) ggX6_refund_X6_needOneOf
set_option maxRecDepth 20000 in
theorem ggX6_isReady_X6_has : GoodIn wsX6_isReady wsX6_has := goodIn_r _ [8] (by decide +kernel) (by decide +kernel)
set_option maxRecDepth 20000 in
theorem gX6_isReady_X6_has : GoodIn wsX6_isReady (va_wsS RX6 142 yX6_has wsX6_has) := goodIn_app (goodIn_of _ (by decide +kernel)) ggX6_isReady_X6_has
set_option maxRecDepth 20000 in
theorem ggX6_isReady_X5_lowestFitting : GoodIn wsX6_isReady wsX5_lowestFitting := goodIn_r _ [13, 14, 15, 16, 33, 34, 35, 36] (by decide +kernel) (by decide +kernel)
set_option maxRecDepth 20000 in
theorem gX6_isReady_X5_lowestFitting : GoodIn wsX6_isReady (wsV RX6 228 RX5 yX5_lowestFitting wsX5_lowestFitting) := goodIn_app (goodIn_of _ (by decide +kernel)) ggX6_isReady_X5_lowestFitting
set_option maxRecDepth 20000 in
theorem ggX6_isReady_X5_lowestToLetOut : GoodIn wsX6_isReady wsX5_lowestToLetOut := goodIn_r _ [20, 14, 15, 16, 21, 33, 34, 35, 36] (by decide +kernel) (by decide +kernel)
set_option maxRecDepth 20000 in
theorem gX6_isReady_X5_lowestToLetOut : GoodIn wsX6_isReady (wsV RX6 231 RX5 yX5_lowestToLetOut wsX5_lowestToLetOut) := goodIn_app (goodIn_of _ (by decide +kernel)) ggX6_isReady_X5_lowestToLetOut
set_option maxRecDepth 20000 in
theorem ggX6_offerActors_X1_clear : GoodIn wsX6_offerActors wsX1_clear := goodIn_r _ [11, 12, 13, 66, 67, 68, 69] (by decide +kernel) (by decide +kernel)
set_option maxRecDepth 20000 in
theorem gX6_offerActors_X1_clear : GoodIn wsX6_offerActors (wsV RX6 234 RX1 yX1_clear wsX1_clear) := goodIn_app (goodIn_of _ (by decide +kernel)) ggX6_offerActors_X1_clear
set_option maxRecDepth 20000 in
theorem ggX6_offerActors_X3_actorAt : GoodIn wsX6_offerActors wsX3_actorAt := goodIn_r _ [18, 19, 20, 70, 71] (by decide +kernel) (by decide +kernel)
set_option maxRecDepth 20000 in
theorem gX6_offerActors_X3_actorAt : GoodIn wsX6_offerActors (wsV RX6 193 RX3 yX3_actorAt wsX3_actorAt) := goodIn_app (goodIn_of _ (by decide +kernel)) ggX6_offerActors_X3_actorAt
set_option maxRecDepth 20000 in
theorem ggX6_offerActors_X6_isReady : GoodIn wsX6_offerActors wsX6_isReady := goodIn_r _ [25, 5, 6, 26, 4, 27, 28, 24, 29, 30, 31, 32, 33, 34, 35, 36, 37, 38, 39, 40, 41, 42, 55, 56, 57, 58, 59, 60, 61, 62, 63, 64, 65, 72, 73, 74, 75] (by decide +kernel) (by decide +kernel)
set_option maxRecDepth 20000 in
theorem gX6_offerActors_X6_isReady : GoodIn wsX6_offerActors (wsV RX6 146 RX6 yX6_isReady wsX6_isReady) := goodIn_app (goodIn_of _ (by decide +kernel)) ggX6_offerActors_X6_isReady
set_option maxRecDepth 20000 in
theorem ggX6_offerActors_X5_lowestFitting : GoodIn wsX6_offerActors wsX5_lowestFitting := goodIn_r _ [34, 35, 36, 37, 72, 73, 74, 75] (by decide +kernel) (by decide +kernel)
set_option maxRecDepth 20000 in
theorem gX6_offerActors_X5_lowestFitting : GoodIn wsX6_offerActors (wsV RX6 228 RX5 yX5_lowestFitting wsX5_lowestFitting) := goodIn_app (goodIn_of _ (by decide +kernel)) ggX6_offerActors_X5_lowestFitting
set_option maxRecDepth 20000 in
theorem ggX6_offerActors_X1_offer : GoodIn wsX6_offerActors wsX1_offer := goodIn_r _ [46, 12, 47, 13, 48, 49, 50, 51, 52, 53, 10, 54, 66, 67, 68, 69] (by decide +kernel) (by decide +kernel)
set_option maxRecDepth 20000 in
theorem gX6_offerActors_X1_offer : GoodIn wsX6_offerActors (wsV RX6 237 RX1 yX1_offer wsX1_offer) := goodIn_app (goodIn_of _ (by decide +kernel)) ggX6_offerActors_X1_offer
set_option maxRecDepth 20000 in
theorem ggX6_bestCast_X6_offerActors : GoodIn wsX6_bestCast wsX6_offerActors := goodIn_r _ [7, 1, 2, 8, 9, 10, 11, 12, 13, 14, 15, 16, 17, 18, 19, 20, 21, 22, 23, 24, 25, 26, 27, 28, 6, 29, 30, 31, 32, 33, 34, 35, 36, 37, 38, 39, 40, 41, 42, 43, 44, 45, 46, 47, 48, 49, 50, 51, 52, 53, 54, 55, 56, 57, 58, 77, 78, 79, 80, 81, 82, 83, 84, 85, 86, 87, 88, 89, 90, 91, 92, 93, 94, 95, 96, 97] (by decide +kernel) (by decide +kernel)
set_option maxRecDepth 20000 in
theorem gX6_bestCast_X6_offerActors : GoodIn wsX6_bestCast (wsV RX6 156 RX6 yX6_offerActors wsX6_offerActors) := goodIn_app (goodIn_of _ (by decide +kernel)) ggX6_bestCast_X6_offerActors
set_option maxRecDepth 20000 in
theorem ggX6_bestCast_X1_leastKey : GoodIn wsX6_bestCast wsX1_leastKey := goodIn_r _ [62, 63, 18, 64, 65, 66, 67, 68, 69, 70, 71, 72, 73, 15, 74, 17, 51, 32, 6, 33, 75, 76, 88, 89, 90, 91] (by decide +kernel) (by decide +kernel)
set_option maxRecDepth 20000 in
theorem gX6_bestCast_X1_leastKey : GoodIn wsX6_bestCast (wsV RX6 241 RX1 yX1_leastKey wsX1_leastKey) := goodIn_app (goodIn_of _ (by decide +kernel)) ggX6_bestCast_X1_leastKey
set_option maxRecDepth 20000 in
theorem ggX6_actorIn_X1_rankOf : GoodIn wsX6_actorIn wsX1_rankOf := goodIn_r _ [5, 6, 7, 4, 8] (by decide +kernel) (by decide +kernel)
set_option maxRecDepth 20000 in
theorem gX6_actorIn_X1_rankOf : GoodIn wsX6_actorIn (va_wsS RX6 244 yX1_rankOf wsX1_rankOf) := goodIn_app (goodIn_of _ (by decide +kernel)) ggX6_actorIn_X1_rankOf
set_option maxRecDepth 20000 in
theorem ggX6_actorIn_X3_actorAt : GoodIn wsX6_actorIn wsX3_actorAt := goodIn_r _ [13, 14, 15, 24, 25] (by decide +kernel) (by decide +kernel)
set_option maxRecDepth 20000 in
theorem gX6_actorIn_X3_actorAt : GoodIn wsX6_actorIn (wsV RX6 193 RX3 yX3_actorAt wsX3_actorAt) := goodIn_app (goodIn_of _ (by decide +kernel)) ggX6_actorIn_X3_actorAt
set_option maxRecDepth 20000 in
theorem ggX6_countOthers_X6_actorIn : GoodIn wsX6_countOthers wsX6_actorIn := goodIn_r _ [6, 7, 8, 9, 10, 11, 12, 13, 14, 15, 16, 17, 18, 19, 20, 21, 22, 23, 24, 25, 26, 27, 28, 29, 30, 31] (by decide +kernel) (by decide +kernel)
set_option maxRecDepth 20000 in
theorem gX6_countOthers_X6_actorIn : GoodIn wsX6_countOthers (wsV RX6 165 RX6 yX6_actorIn wsX6_actorIn) := goodIn_app (goodIn_of _ (by decide +kernel)) ggX6_countOthers_X6_actorIn
set_option maxRecDepth 20000 in
theorem ggX6_perform_X6_bestCast : GoodIn wsX6_perform wsX6_bestCast := goodIn_r _ [12, 13, 6, 14, 15, 16, 11, 17, 18, 19, 1, 20, 21, 22, 23, 24, 25, 26, 27, 28, 29, 30, 31, 32, 33, 34, 35, 36, 37, 38, 39, 40, 41, 42, 43, 44, 45, 46, 47, 48, 49, 50, 51, 52, 53, 54, 55, 56, 57, 58, 59, 60, 61, 62, 63, 64, 65, 66, 67, 68, 69, 70, 71, 72, 73, 74, 75, 76, 77, 78, 79, 80, 81, 82, 83, 84, 85, 126, 127, 128, 129, 130, 131, 132, 133, 134, 135, 136, 141, 142, 143, 144, 145, 146, 147, 148, 149, 150] (by decide +kernel) (by decide +kernel)
set_option maxRecDepth 20000 in
theorem gX6_perform_X6_bestCast : GoodIn wsX6_perform (wsV RX6 150 RX6 yX6_bestCast wsX6_bestCast) := goodIn_app (goodIn_of _ (by decide +kernel)) ggX6_perform_X6_bestCast
set_option maxRecDepth 20000 in
theorem ggX6_perform_X6_actorIn : GoodIn wsX6_perform wsX6_actorIn := goodIn_r _ [89, 18, 90, 91, 24, 92, 65, 66, 67, 28, 29, 30, 31, 32, 33, 34, 126, 127, 128, 129, 130, 131, 132, 133, 145, 146] (by decide +kernel) (by decide +kernel)
set_option maxRecDepth 20000 in
theorem gX6_perform_X6_actorIn : GoodIn wsX6_perform (wsV RX6 165 RX6 yX6_actorIn wsX6_actorIn) := goodIn_app (goodIn_of _ (by decide +kernel)) ggX6_perform_X6_actorIn
set_option maxRecDepth 20000 in
theorem ggX6_perform_X6_dress : GoodIn wsX6_perform wsX6_dress := goodIn_r _ [96, 1, 20, 19, 43, 44, 45, 46, 47, 48, 49, 50, 51, 52, 53, 54, 55, 97, 98, 99, 100, 126, 127, 128, 129, 130, 131, 132, 133, 134, 135, 136, 147, 148, 149, 150] (by decide +kernel) (by decide +kernel)
set_option maxRecDepth 20000 in
theorem gX6_perform_X6_dress : GoodIn wsX6_perform (wsV RX6 247 RX6 yX6_dress wsX6_dress) := goodIn_app (goodIn_of _ (by decide +kernel)) ggX6_perform_X6_dress
set_option maxRecDepth 20000 in
theorem ggX6_perform_X6_refundSeats : GoodIn wsX6_perform wsX6_refundSeats := goodIn_r _ [104, 105, 106, 107, 108, 109, 110, 11, 111, 112, 6, 113, 114, 86, 87, 88, 89, 18, 90, 91, 24, 92, 65, 66, 67, 28, 29, 30, 31, 32, 33, 34, 115, 116, 117, 118, 119, 120, 121, 122, 123, 124, 125, 126, 127, 128, 129, 130, 131, 132, 133, 151, 152, 153, 154, 155, 156, 157, 158, 145, 146] (by decide +kernel) (by decide +kernel)
set_option maxRecDepth 20000 in
theorem gX6_perform_X6_refundSeats : GoodIn wsX6_perform (wsV RX6 250 RX6 yX6_refundSeats wsX6_refundSeats) := goodIn_app (goodIn_of _ (by decide +kernel)) ggX6_perform_X6_refundSeats
set_option maxRecDepth 20000 in
theorem ggX6_dress_X5_lowestFitting : GoodIn wsX6_dress wsX5_lowestFitting := goodIn_r _ [8, 9, 10, 11, 32, 33, 34, 35] (by decide +kernel) (by decide +kernel)
set_option maxRecDepth 20000 in
theorem gX6_dress_X5_lowestFitting : GoodIn wsX6_dress (wsV RX6 228 RX5 yX5_lowestFitting wsX5_lowestFitting) := goodIn_app (goodIn_of _ (by decide +kernel)) ggX6_dress_X5_lowestFitting
set_option maxRecDepth 20000 in
theorem ggX6_dress_X5_lowestToLetOut : GoodIn wsX6_dress wsX5_lowestToLetOut := goodIn_r _ [15, 9, 10, 11, 16, 32, 33, 34, 35] (by decide +kernel) (by decide +kernel)
set_option maxRecDepth 20000 in
theorem gX6_dress_X5_lowestToLetOut : GoodIn wsX6_dress (wsV RX6 231 RX5 yX5_lowestToLetOut wsX5_lowestToLetOut) := goodIn_app (goodIn_of _ (by decide +kernel)) ggX6_dress_X5_lowestToLetOut
set_option maxRecDepth 20000 in
theorem ggX6_dress_X5_letOut : GoodIn wsX6_dress wsX5_letOut := goodIn_r _ [20, 11, 16, 32, 33, 34, 35] (by decide +kernel) (by decide +kernel)
set_option maxRecDepth 20000 in
theorem gX6_dress_X5_letOut : GoodIn wsX6_dress (wsV RX6 253 RX5 yX5_letOut wsX5_letOut) := goodIn_app (goodIn_of _ (by decide +kernel)) ggX6_dress_X5_letOut
set_option maxRecDepth 20000 in
theorem ggX6_refundSeats_X6_shareBack : GoodIn wsX6_refundSeats wsX6_shareBack := goodIn_r _ [8, 1, 9, 10, 11, 12, 13, 14, 15, 7, 16, 17, 18, 19, 20, 21, 22, 23, 24, 25, 26, 27, 28, 29, 30, 31, 32, 33, 34, 43, 44, 45, 46, 47, 48, 49, 50, 51, 52, 53, 54, 55, 56, 57, 58, 59, 60] (by decide +kernel) (by decide +kernel)
set_option maxRecDepth 20000 in
theorem gX6_refundSeats_X6_shareBack : GoodIn wsX6_refundSeats (wsV RX6 259 RX6 yX6_shareBack wsX6_shareBack) := goodIn_app (goodIn_of _ (by decide +kernel)) ggX6_refundSeats_X6_shareBack
set_option maxRecDepth 20000 in
theorem ggX6_refundSeats_X0_giveBack : GoodIn wsX6_refundSeats wsX0_giveBack := goodIn_r _ [39, 40, 41, 42, 51, 52, 53, 54, 55, 56, 57, 58] (by decide +kernel) (by decide +kernel)
set_option maxRecDepth 20000 in
theorem gX6_refundSeats_X0_giveBack : GoodIn wsX6_refundSeats (wsV RX6 262 RX0 yX0_giveBack wsX0_giveBack) := goodIn_app (goodIn_of _ (by decide +kernel)) ggX6_refundSeats_X0_giveBack
set_option maxRecDepth 20000 in
theorem ggX6_shareBack_X6_actorIn : GoodIn wsX6_shareBack wsX6_actorIn := goodIn_r _ [10, 11, 12, 13, 14, 15, 16, 17, 18, 19, 20, 21, 22, 23, 24, 25, 29, 30, 31, 32, 33, 34, 35, 36, 45, 46] (by decide +kernel) (by decide +kernel)
set_option maxRecDepth 20000 in
theorem gX6_shareBack_X6_actorIn : GoodIn wsX6_shareBack (wsV RX6 165 RX6 yX6_actorIn wsX6_actorIn) := goodIn_app (goodIn_of _ (by decide +kernel)) ggX6_shareBack_X6_actorIn
set_option maxRecDepth 20000 in
theorem ggX6_shareBack_X1_strainOf : GoodIn wsX6_shareBack wsX1_strainOf := goodIn_r _ [28] (by decide +kernel) (by decide +kernel)
set_option maxRecDepth 20000 in
theorem gX6_shareBack_X1_strainOf : GoodIn wsX6_shareBack (va_wsS RX6 153 yX1_strainOf wsX1_strainOf) := goodIn_app (goodIn_of _ (by decide +kernel)) ggX6_shareBack_X1_strainOf
set_option maxRecDepth 20000 in
theorem ggX6_shareBack_X1_rankOf : GoodIn wsX6_shareBack wsX1_rankOf := goodIn_r _ [15, 16, 17, 14, 18] (by decide +kernel) (by decide +kernel)
set_option maxRecDepth 20000 in
theorem gX6_shareBack_X1_rankOf : GoodIn wsX6_shareBack (va_wsS RX6 244 yX1_rankOf wsX1_rankOf) := goodIn_app (goodIn_of _ (by decide +kernel)) ggX6_shareBack_X1_rankOf
set_option maxRecDepth 20000 in
theorem ggX7_isActor_X7_in : GoodIn wsX7_isActor wsX7_in := goodIn_r _ [4] (by decide +kernel) (by decide +kernel)
set_option maxRecDepth 20000 in
theorem gX7_isActor_X7_in : GoodIn wsX7_isActor (va_wsS RX7 77 yX7_in wsX7_in) := goodIn_app (goodIn_of _ (by decide +kernel)) ggX7_isActor_X7_in
set_option maxRecDepth 20000 in
theorem ggX7_isPart_X7_in : GoodIn wsX7_isPart wsX7_in := goodIn_r _ [4] (by decide +kernel) (by decide +kernel)
set_option maxRecDepth 20000 in
theorem gX7_isPart_X7_in : GoodIn wsX7_isPart (va_wsS RX7 77 yX7_in wsX7_in) := goodIn_app (goodIn_of _ (by decide +kernel)) ggX7_isPart_X7_in
set_option maxRecDepth 20000 in
theorem ggX7_isDay_X7_in : GoodIn wsX7_isDay wsX7_in := goodIn_r _ [4] (by decide +kernel) (by decide +kernel)
set_option maxRecDepth 20000 in
theorem gX7_isDay_X7_in : GoodIn wsX7_isDay (va_wsS RX7 77 yX7_in wsX7_in) := goodIn_app (goodIn_of _ (by decide +kernel)) ggX7_isDay_X7_in
set_option maxRecDepth 20000 in
theorem ggX7_setParts_X7_in : GoodIn wsX7_setParts wsX7_in := goodIn_r _ [6] (by decide +kernel) (by decide +kernel)
set_option maxRecDepth 20000 in
theorem gX7_setParts_X7_in : GoodIn wsX7_setParts (va_wsS RX7 77 yX7_in wsX7_in) := goodIn_app (goodIn_of _ (by decide +kernel)) ggX7_setParts_X7_in
set_option maxRecDepth 20000 in
theorem ggX7_setParts_X7_fails : GoodIn wsX7_setParts wsX7_fails := goodIn_r _ [10, 1, 11, 12, 13, 14, 15, 16, 17, 18, 19, 20, 21, 22, 23, 24, 25, 26, 27, 28, 29, 30, 31, 32, 33, 34, 35, 36, 37, 38, 39] (by decide +kernel) (by decide +kernel)
set_option maxRecDepth 20000 in
theorem gX7_setParts_X7_fails : GoodIn wsX7_setParts (wsV RX7 81 RX7 yX7_fails wsX7_fails) := goodIn_app (goodIn_of _ (by decide +kernel)) ggX7_setParts_X7_fails
set_option maxRecDepth 20000 in
theorem ggX7_setSize_X7_isActor : GoodIn wsX7_setSize wsX7_isActor := goodIn_r _ [6, 7, 8, 5, 9] (by decide +kernel) (by decide +kernel)
set_option maxRecDepth 20000 in
theorem gX7_setSize_X7_isActor : GoodIn wsX7_setSize (va_wsS RX7 85 yX7_isActor wsX7_isActor) := goodIn_app (goodIn_of _ (by decide +kernel)) ggX7_setSize_X7_isActor
set_option maxRecDepth 20000 in
theorem ggX7_setSize_X7_fails : GoodIn wsX7_setSize wsX7_fails := goodIn_r _ [13, 1, 14, 15, 16, 17, 18, 19, 20, 21, 22, 23, 24, 25, 26, 27, 28, 29, 30, 31, 32, 33, 34, 35, 36, 37, 38, 39, 40, 41, 42] (by decide +kernel) (by decide +kernel)
set_option maxRecDepth 20000 in
theorem gX7_setSize_X7_fails : GoodIn wsX7_setSize (wsV RX7 81 RX7 yX7_fails wsX7_fails) := goodIn_app (goodIn_of _ (by decide +kernel)) ggX7_setSize_X7_fails
set_option maxRecDepth 20000 in
theorem ggX7_setSize_X7_in : GoodIn wsX7_setSize wsX7_in := goodIn_r _ [9] (by decide +kernel) (by decide +kernel)
set_option maxRecDepth 20000 in
theorem gX7_setSize_X7_in : GoodIn wsX7_setSize (va_wsS RX7 77 yX7_in wsX7_in) := goodIn_app (goodIn_of _ (by decide +kernel)) ggX7_setSize_X7_in
set_option maxRecDepth 20000 in
theorem ggX7_learn_X7_isActor : GoodIn wsX7_learn wsX7_isActor := goodIn_r _ [6, 7, 8, 5, 9] (by decide +kernel) (by decide +kernel)
set_option maxRecDepth 20000 in
theorem gX7_learn_X7_isActor : GoodIn wsX7_learn (va_wsS RX7 85 yX7_isActor wsX7_isActor) := goodIn_app (goodIn_of _ (by decide +kernel)) ggX7_learn_X7_isActor
set_option maxRecDepth 20000 in
theorem ggX7_learn_X7_isPart : GoodIn wsX7_learn wsX7_isPart := goodIn_r _ [12, 7, 8, 5, 9] (by decide +kernel) (by decide +kernel)
set_option maxRecDepth 20000 in
theorem gX7_learn_X7_isPart : GoodIn wsX7_learn (va_wsS RX7 89 yX7_isPart wsX7_isPart) := goodIn_app (goodIn_of _ (by decide +kernel)) ggX7_learn_X7_isPart
set_option maxRecDepth 20000 in
theorem ggX7_learn_X7_fails : GoodIn wsX7_learn wsX7_fails := goodIn_r _ [16, 1, 25, 26, 27, 28, 29, 30, 31, 32, 33, 34, 35, 36, 37, 38, 39, 40, 41, 42, 43, 44, 45, 46, 47, 48, 49, 50, 51, 52, 53] (by decide +kernel) (by decide +kernel)
set_option maxRecDepth 20000 in
theorem gX7_learn_X7_fails : GoodIn wsX7_learn (wsV RX7 81 RX7 yX7_fails wsX7_fails) := goodIn_app (goodIn_of _ (by decide +kernel)) ggX7_learn_X7_fails
set_option maxRecDepth 20000 in
theorem ggX7_learn_X7_knows : GoodIn wsX7_learn wsX7_knows := goodIn_r _ [20, 2, 25, 26, 27, 28, 29, 30, 31, 32, 33, 34, 35, 36, 37, 38, 39, 40, 41, 42, 43, 44, 45, 46, 47, 48, 49, 50, 51, 52, 53] (by decide +kernel) (by decide +kernel)
set_option maxRecDepth 20000 in
theorem gX7_learn_X7_knows : GoodIn wsX7_learn (wsV RX7 92 RX7 yX7_knows wsX7_knows) := goodIn_app (goodIn_of _ (by decide +kernel)) ggX7_learn_X7_knows
set_option maxRecDepth 20000 in
theorem ggX7_learn_X7_knownBy : GoodIn wsX7_learn wsX7_knownBy := goodIn_r _ [24, 2, 25, 26, 27, 28, 29, 30, 31, 32, 33, 34, 35, 36, 37, 38, 39, 40, 41, 42, 43, 44, 45, 46, 47, 48, 49, 50, 51, 52, 53] (by decide +kernel) (by decide +kernel)
set_option maxRecDepth 20000 in
theorem gX7_learn_X7_knownBy : GoodIn wsX7_learn (wsV RX7 96 RX7 yX7_knownBy wsX7_knownBy) := goodIn_app (goodIn_of _ (by decide +kernel)) ggX7_learn_X7_knownBy
set_option maxRecDepth 20000 in
theorem ggX7_put_X7_isPart : GoodIn wsX7_put wsX7_isPart := goodIn_r _ [7, 8, 9, 6, 10] (by decide +kernel) (by decide +kernel)
set_option maxRecDepth 20000 in
theorem gX7_put_X7_isPart : GoodIn wsX7_put (va_wsS RX7 89 yX7_isPart wsX7_isPart) := goodIn_app (goodIn_of _ (by decide +kernel)) ggX7_put_X7_isPart
set_option maxRecDepth 20000 in
theorem ggX7_put_X7_isActor : GoodIn wsX7_put wsX7_isActor := goodIn_r _ [13, 8, 9, 6, 10] (by decide +kernel) (by decide +kernel)
set_option maxRecDepth 20000 in
theorem gX7_put_X7_isActor : GoodIn wsX7_put (va_wsS RX7 85 yX7_isActor wsX7_isActor) := goodIn_app (goodIn_of _ (by decide +kernel)) ggX7_put_X7_isActor
set_option maxRecDepth 20000 in
theorem ggX7_put_X7_fails : GoodIn wsX7_put wsX7_fails := goodIn_r _ [17, 1, 22, 23, 24, 25, 26, 27, 28, 29, 30, 31, 32, 33, 34, 35, 36, 37, 38, 39, 40, 41, 42, 43, 44, 45, 46, 47, 48, 49, 50] (by decide +kernel) (by decide +kernel)
set_option maxRecDepth 20000 in
theorem gX7_put_X7_fails : GoodIn wsX7_put (wsV RX7 81 RX7 yX7_fails wsX7_fails) := goodIn_app (goodIn_of _ (by decide +kernel)) ggX7_put_X7_fails
set_option maxRecDepth 20000 in
theorem ggX7_put_X7_rankOf : GoodIn wsX7_put wsX7_rankOf := goodIn_r _ [21, 2, 3, 22, 23, 24, 25, 26, 27, 28, 29, 30, 31, 32, 33, 34, 35, 36, 37, 38, 39, 40, 41, 42, 43, 44, 45, 46, 47, 48, 49, 50] (by decide +kernel) (by decide +kernel)
set_option maxRecDepth 20000 in
theorem gX7_put_X7_rankOf : GoodIn wsX7_put (wsV RX7 99 RX7 yX7_rankOf wsX7_rankOf) := goodIn_app (goodIn_of _ (by decide +kernel)) ggX7_put_X7_rankOf
set_option maxRecDepth 20000 in
theorem ggX7_take_X7_isPart : GoodIn wsX7_take wsX7_isPart := goodIn_r _ [7, 8, 9, 6, 10] (by decide +kernel) (by decide +kernel)
set_option maxRecDepth 20000 in
theorem gX7_take_X7_isPart : GoodIn wsX7_take (va_wsS RX7 89 yX7_isPart wsX7_isPart) := goodIn_app (goodIn_of _ (by decide +kernel)) ggX7_take_X7_isPart
set_option maxRecDepth 20000 in
theorem ggX7_take_X7_isActor : GoodIn wsX7_take wsX7_isActor := goodIn_r _ [13, 8, 9, 6, 10] (by decide +kernel) (by decide +kernel)
set_option maxRecDepth 20000 in
theorem gX7_take_X7_isActor : GoodIn wsX7_take (va_wsS RX7 85 yX7_isActor wsX7_isActor) := goodIn_app (goodIn_of _ (by decide +kernel)) ggX7_take_X7_isActor
set_option maxRecDepth 20000 in
theorem ggX7_take_X7_fails : GoodIn wsX7_take wsX7_fails := goodIn_r _ [17, 1, 22, 23, 24, 25, 26, 27, 28, 29, 30, 31, 32, 33, 34, 35, 36, 37, 38, 39, 40, 41, 42, 43, 44, 45, 46, 47, 48, 49, 50] (by decide +kernel) (by decide +kernel)
set_option maxRecDepth 20000 in
theorem gX7_take_X7_fails : GoodIn wsX7_take (wsV RX7 81 RX7 yX7_fails wsX7_fails) := goodIn_app (goodIn_of _ (by decide +kernel)) ggX7_take_X7_fails
set_option maxRecDepth 20000 in
theorem ggX7_take_X7_rankOf : GoodIn wsX7_take wsX7_rankOf := goodIn_r _ [21, 2, 3, 22, 23, 24, 25, 26, 27, 28, 29, 30, 31, 32, 33, 34, 35, 36, 37, 38, 39, 40, 41, 42, 43, 44, 45, 46, 47, 48, 49, 50] (by decide +kernel) (by decide +kernel)
set_option maxRecDepth 20000 in
theorem gX7_take_X7_rankOf : GoodIn wsX7_take (wsV RX7 99 RX7 yX7_rankOf wsX7_rankOf) := goodIn_app (goodIn_of _ (by decide +kernel)) ggX7_take_X7_rankOf
set_option maxRecDepth 20000 in
theorem ggX7_costume_X7_isPart : GoodIn wsX7_costume wsX7_isPart := goodIn_r _ [8, 9, 10, 7, 11] (by decide +kernel) (by decide +kernel)
set_option maxRecDepth 20000 in
theorem gX7_costume_X7_isPart : GoodIn wsX7_costume (va_wsS RX7 89 yX7_isPart wsX7_isPart) := goodIn_app (goodIn_of _ (by decide +kernel)) ggX7_costume_X7_isPart
set_option maxRecDepth 20000 in
theorem ggX7_costume_X7_fails : GoodIn wsX7_costume wsX7_fails := goodIn_r _ [15, 1, 16, 17, 18, 19, 20, 21, 22, 23, 24, 25, 26, 27, 28, 29, 30, 31, 32, 33, 34, 35, 36, 37, 38, 39, 40, 41, 42, 43, 44] (by decide +kernel) (by decide +kernel)
set_option maxRecDepth 20000 in
theorem gX7_costume_X7_fails : GoodIn wsX7_costume (wsV RX7 81 RX7 yX7_fails wsX7_fails) := goodIn_app (goodIn_of _ (by decide +kernel)) ggX7_costume_X7_fails
set_option maxRecDepth 20000 in
theorem ggX7_costume_X7_in : GoodIn wsX7_costume wsX7_in := goodIn_r _ [11] (by decide +kernel) (by decide +kernel)
set_option maxRecDepth 20000 in
theorem gX7_costume_X7_in : GoodIn wsX7_costume (va_wsS RX7 77 yX7_in wsX7_in) := goodIn_app (goodIn_of _ (by decide +kernel)) ggX7_costume_X7_in
set_option maxRecDepth 20000 in
theorem ggX7_sizeOf_X7_in : GoodIn wsX7_sizeOf wsX7_in := goodIn_r _ [7] (by decide +kernel) (by decide +kernel)
set_option maxRecDepth 20000 in
theorem gX7_sizeOf_X7_in : GoodIn wsX7_sizeOf (va_wsS RX7 77 yX7_in wsX7_in) := goodIn_app (goodIn_of _ (by decide +kernel)) ggX7_sizeOf_X7_in
set_option maxRecDepth 20000 in
theorem ggX7_sizeOf_X7_fails : GoodIn wsX7_sizeOf wsX7_fails := goodIn_r _ [11, 1, 12, 13, 14, 15, 16, 17, 18, 19, 20, 21, 22, 23, 24, 25, 26, 27, 28, 29, 30, 31, 32, 33, 34, 35, 36, 37, 38, 39, 40] (by decide +kernel) (by decide +kernel)
set_option maxRecDepth 20000 in
theorem gX7_sizeOf_X7_fails : GoodIn wsX7_sizeOf (wsV RX7 81 RX7 yX7_fails wsX7_fails) := goodIn_app (goodIn_of _ (by decide +kernel)) ggX7_sizeOf_X7_fails
set_option maxRecDepth 20000 in
theorem ggX7_cold_X7_isActor : GoodIn wsX7_cold wsX7_isActor := goodIn_r _ [7, 8, 9, 6, 10] (by decide +kernel) (by decide +kernel)
set_option maxRecDepth 20000 in
theorem gX7_cold_X7_isActor : GoodIn wsX7_cold (va_wsS RX7 85 yX7_isActor wsX7_isActor) := goodIn_app (goodIn_of _ (by decide +kernel)) ggX7_cold_X7_isActor
set_option maxRecDepth 20000 in
theorem ggX7_cold_X7_fails : GoodIn wsX7_cold wsX7_fails := goodIn_r _ [14, 1, 15, 16, 17, 18, 19, 20, 21, 22, 23, 24, 25, 26, 27, 28, 29, 30, 31, 32, 33, 34, 35, 36, 37, 38, 39, 40, 41, 42, 43] (by decide +kernel) (by decide +kernel)
set_option maxRecDepth 20000 in
theorem gX7_cold_X7_fails : GoodIn wsX7_cold (wsV RX7 81 RX7 yX7_fails wsX7_fails) := goodIn_app (goodIn_of _ (by decide +kernel)) ggX7_cold_X7_fails
set_option maxRecDepth 20000 in
theorem ggX7_cold_X7_in : GoodIn wsX7_cold wsX7_in := goodIn_r _ [10] (by decide +kernel) (by decide +kernel)
set_option maxRecDepth 20000 in
theorem gX7_cold_X7_in : GoodIn wsX7_cold (va_wsS RX7 77 yX7_in wsX7_in) := goodIn_app (goodIn_of _ (by decide +kernel)) ggX7_cold_X7_in
set_option maxRecDepth 20000 in
theorem ggX7_isIll_X7_isActor : GoodIn wsX7_isIll wsX7_isActor := goodIn_r _ [6, 7, 8, 5, 9] (by decide +kernel) (by decide +kernel)
set_option maxRecDepth 20000 in
theorem gX7_isIll_X7_isActor : GoodIn wsX7_isIll (va_wsS RX7 85 yX7_isActor wsX7_isActor) := goodIn_app (goodIn_of _ (by decide +kernel)) ggX7_isIll_X7_isActor
set_option maxRecDepth 20000 in
theorem ggX7_isIll_X7_fails : GoodIn wsX7_isIll wsX7_fails := goodIn_r _ [13, 1, 17, 18, 19, 20, 21, 22, 23, 24, 25, 26, 27, 28, 29, 30, 31, 32, 33, 34, 35, 36, 37, 38, 39, 40, 41, 42, 43, 44, 45] (by decide +kernel) (by decide +kernel)
set_option maxRecDepth 20000 in
theorem gX7_isIll_X7_fails : GoodIn wsX7_isIll (wsV RX7 81 RX7 yX7_fails wsX7_fails) := goodIn_app (goodIn_of _ (by decide +kernel)) ggX7_isIll_X7_fails
set_option maxRecDepth 20000 in
theorem ggX7_isIll_X7_isDay : GoodIn wsX7_isIll wsX7_isDay := goodIn_r _ [16, 7, 8, 5, 9] (by decide +kernel) (by decide +kernel)
set_option maxRecDepth 20000 in
theorem gX7_isIll_X7_isDay : GoodIn wsX7_isIll (va_wsS RX7 109 yX7_isDay wsX7_isDay) := goodIn_app (goodIn_of _ (by decide +kernel)) ggX7_isIll_X7_isDay
set_option maxRecDepth 20000 in
theorem ggX7_can_X7_rankOf : GoodIn wsX7_can wsX7_rankOf := goodIn_r _ [6, 7, 8, 27, 28, 29, 30, 31, 32, 33, 34, 35, 36, 37, 38, 39, 40, 41, 42, 43, 44, 45, 46, 47, 48, 49, 50, 51, 52, 53, 54, 55] (by decide +kernel) (by decide +kernel)
set_option maxRecDepth 20000 in
theorem gX7_can_X7_rankOf : GoodIn wsX7_can (wsV RX7 99 RX7 yX7_rankOf wsX7_rankOf) := goodIn_app (goodIn_of _ (by decide +kernel)) ggX7_can_X7_rankOf
set_option maxRecDepth 20000 in
theorem ggX7_can_X7_knows : GoodIn wsX7_can wsX7_knows := goodIn_r _ [12, 13, 27, 28, 29, 30, 31, 32, 33, 34, 35, 36, 37, 38, 39, 40, 41, 42, 43, 44, 45, 46, 47, 48, 49, 50, 51, 52, 53, 54, 55] (by decide +kernel) (by decide +kernel)
set_option maxRecDepth 20000 in
theorem gX7_can_X7_knows : GoodIn wsX7_can (wsV RX7 92 RX7 yX7_knows wsX7_knows) := goodIn_app (goodIn_of _ (by decide +kernel)) ggX7_can_X7_knows
set_option maxRecDepth 20000 in
theorem ggX7_can_X7_fits : GoodIn wsX7_can wsX7_fits := goodIn_r _ [17, 18, 19, 20, 21, 27, 28, 29, 30, 31, 32, 33, 34, 35, 36, 37, 38, 39, 40, 41, 42, 43, 44, 45, 46, 47, 48, 49, 50, 51, 52, 53, 54, 55] (by decide +kernel) (by decide +kernel)
set_option maxRecDepth 20000 in
theorem gX7_can_X7_fits : GoodIn wsX7_can (wsV RX7 112 RX7 yX7_fits wsX7_fits) := goodIn_app (goodIn_of _ (by decide +kernel)) ggX7_can_X7_fits
set_option maxRecDepth 20000 in
theorem ggX7_can_X7_toLetOut : GoodIn wsX7_can wsX7_toLetOut := goodIn_r _ [25, 18, 19, 26, 20, 21, 27, 28, 29, 30, 31, 32, 33, 34, 35, 36, 37, 38, 39, 40, 41, 42, 43, 44, 45, 46, 47, 48, 49, 50, 51, 52, 53, 54, 55] (by decide +kernel) (by decide +kernel)
set_option maxRecDepth 20000 in
theorem gX7_can_X7_toLetOut : GoodIn wsX7_can (wsV RX7 115 RX7 yX7_toLetOut wsX7_toLetOut) := goodIn_app (goodIn_of _ (by decide +kernel)) ggX7_can_X7_toLetOut
set_option maxRecDepth 20000 in
theorem ggX7_canPlay_X7_isActor : GoodIn wsX7_canPlay wsX7_isActor := goodIn_r _ [5, 6, 7, 4, 8] (by decide +kernel) (by decide +kernel)
set_option maxRecDepth 20000 in
theorem gX7_canPlay_X7_isActor : GoodIn wsX7_canPlay (va_wsS RX7 85 yX7_isActor wsX7_isActor) := goodIn_app (goodIn_of _ (by decide +kernel)) ggX7_canPlay_X7_isActor
set_option maxRecDepth 20000 in
theorem ggX7_canPlay_X7_isPart : GoodIn wsX7_canPlay wsX7_isPart := goodIn_r _ [11, 6, 7, 4, 8] (by decide +kernel) (by decide +kernel)
set_option maxRecDepth 20000 in
theorem gX7_canPlay_X7_isPart : GoodIn wsX7_canPlay (va_wsS RX7 89 yX7_isPart wsX7_isPart) := goodIn_app (goodIn_of _ (by decide +kernel)) ggX7_canPlay_X7_isPart
set_option maxRecDepth 20000 in
theorem ggX7_canPlay_X7_fails : GoodIn wsX7_canPlay wsX7_fails := goodIn_r _ [15, 1, 48, 49, 50, 51, 52, 53, 54, 55, 56, 57, 58, 59, 60, 61, 62, 63, 64, 65, 66, 67, 68, 69, 70, 71, 72, 73, 74, 75, 76] (by decide +kernel) (by decide +kernel)
set_option maxRecDepth 20000 in
theorem gX7_canPlay_X7_fails : GoodIn wsX7_canPlay (wsV RX7 81 RX7 yX7_fails wsX7_fails) := goodIn_app (goodIn_of _ (by decide +kernel)) ggX7_canPlay_X7_fails
set_option maxRecDepth 20000 in
theorem ggX7_canPlay_X7_isDay : GoodIn wsX7_canPlay wsX7_isDay := goodIn_r _ [18, 6, 7, 4, 8] (by decide +kernel) (by decide +kernel)
set_option maxRecDepth 20000 in
theorem gX7_canPlay_X7_isDay : GoodIn wsX7_canPlay (va_wsS RX7 109 yX7_isDay wsX7_isDay) := goodIn_app (goodIn_of _ (by decide +kernel)) ggX7_canPlay_X7_isDay
set_option maxRecDepth 20000 in
theorem ggX7_canPlay_X7_can : GoodIn wsX7_canPlay wsX7_can := goodIn_r _ [22, 23, 24, 25, 26, 4, 27, 28, 29, 30, 31, 32, 33, 34, 35, 36, 37, 38, 39, 40, 41, 42, 43, 44, 45, 46, 47, 48, 49, 50, 51, 52, 53, 54, 55, 56, 57, 58, 59, 60, 61, 62, 63, 64, 65, 66, 67, 68, 69, 70, 71, 72, 73, 74, 75, 76] (by decide +kernel) (by decide +kernel)
set_option maxRecDepth 20000 in
theorem gX7_canPlay_X7_can : GoodIn wsX7_canPlay (wsV RX7 118 RX7 yX7_can wsX7_can) := goodIn_app (goodIn_of _ (by decide +kernel)) ggX7_canPlay_X7_can
set_option maxRecDepth 20000 in
theorem ggX7_layAble_X7_can : GoodIn wsX7_layAble wsX7_can := goodIn_r _ [9, 10, 11, 12, 13, 8, 14, 2, 3, 15, 16, 17, 18, 19, 20, 21, 22, 23, 24, 25, 26, 27, 28, 29, 30, 31, 32, 33, 34, 35, 36, 37, 38, 39, 40, 41, 42, 43, 44, 45, 46, 47, 48, 49, 50, 51, 52, 53, 54, 55, 56, 57, 58, 59, 60, 61] (by decide +kernel) (by decide +kernel)
set_option maxRecDepth 20000 in
theorem gX7_layAble_X7_can : GoodIn wsX7_layAble (wsV RX7 118 RX7 yX7_can wsX7_can) := goodIn_app (goodIn_of _ (by decide +kernel)) ggX7_layAble_X7_can
set_option maxRecDepth 20000 in
theorem ggX7_layAble_X7_fits : GoodIn wsX7_layAble wsX7_fits := goodIn_r _ [23, 24, 25, 26, 27, 33, 34, 35, 36, 37, 38, 39, 40, 41, 42, 43, 44, 45, 46, 47, 48, 49, 50, 51, 52, 53, 54, 55, 56, 57, 58, 59, 60, 61] (by decide +kernel) (by decide +kernel)
set_option maxRecDepth 20000 in
theorem gX7_layAble_X7_fits : GoodIn wsX7_layAble (wsV RX7 112 RX7 yX7_fits wsX7_fits) := goodIn_app (goodIn_of _ (by decide +kernel)) ggX7_layAble_X7_fits
set_option maxRecDepth 20000 in
theorem ggX7_lay_X7_layAble : GoodIn wsX7_lay wsX7_layAble := goodIn_r _ [9, 4, 10, 11, 12, 13, 14, 15, 8, 16, 17, 18, 19, 20, 21, 22, 23, 24, 25, 26, 27, 28, 29, 30, 31, 32, 33, 34, 35, 36, 37, 38, 39, 48, 49, 50, 51, 52, 53, 54, 55, 56, 57, 58, 59, 60, 61, 62, 63, 64, 65, 66, 67, 68, 69, 70, 71, 72, 73, 74, 75, 76] (by decide +kernel) (by decide +kernel)
set_option maxRecDepth 20000 in
theorem gX7_lay_X7_layAble : GoodIn wsX7_lay (wsV RX7 127 RX7 yX7_layAble wsX7_layAble) := goodIn_app (goodIn_of _ (by decide +kernel)) ggX7_lay_X7_layAble
set_option maxRecDepth 20000 in
theorem ggX7_lay_X7_firstBad : GoodIn wsX7_lay wsX7_firstBad := goodIn_r _ [43, 4, 12, 11, 48, 49, 50, 51, 52, 53, 54, 55, 56, 57, 58, 59, 60, 61, 62, 63, 64, 65, 66, 67, 68, 69, 70, 71, 72, 73, 74, 75, 76] (by decide +kernel) (by decide +kernel)
set_option maxRecDepth 20000 in
theorem gX7_lay_X7_firstBad : GoodIn wsX7_lay (wsV RX7 131 RX7 yX7_firstBad wsX7_firstBad) := goodIn_app (goodIn_of _ (by decide +kernel)) ggX7_lay_X7_firstBad
