set_option maxRecDepth 20000 in
theorem ggX7_lay_X7_keep : GoodIn wsX7_lay wsX7_keep := goodIn_r _ [47, 4, 12, 1, 2, 3, 11, 48, 49, 50, 51, 52, 53, 54, 55, 56, 57, 58, 59, 60, 61, 62, 63, 64, 65, 66, 67, 68, 69, 70, 71, 72, 73, 74, 75, 76] (by decide +kernel) (by decide +kernel)
set_option maxRecDepth 20000 in
theorem gX7_lay_X7_keep : GoodIn wsX7_lay (wsV RX7 134 RX7 yX7_keep wsX7_keep) := goodIn_app (goodIn_of _ (by decide +kernel)) ggX7_lay_X7_keep
set_option maxRecDepth 20000 in
theorem ggX7_strain_X7_isDay : GoodIn wsX7_strain wsX7_isDay := goodIn_r _ [6, 7, 8, 5, 9] (by decide +kernel) (by decide +kernel)
set_option maxRecDepth 20000 in
theorem gX7_strain_X7_isDay : GoodIn wsX7_strain (va_wsS RX7 109 yX7_isDay wsX7_isDay) := goodIn_app (goodIn_of _ (by decide +kernel)) ggX7_strain_X7_isDay
set_option maxRecDepth 20000 in
theorem ggX7_strain_X7_fails : GoodIn wsX7_strain wsX7_fails := goodIn_r _ [13, 1, 63, 64, 65, 66, 67, 68, 69, 70, 71, 72, 73, 74, 75, 76, 77, 78, 79, 80, 81, 82, 83, 84, 85, 86, 87, 88, 89, 90, 91] (by decide +kernel) (by decide +kernel)
set_option maxRecDepth 20000 in
theorem gX7_strain_X7_fails : GoodIn wsX7_strain (wsV RX7 81 RX7 yX7_fails wsX7_fails) := goodIn_app (goodIn_of _ (by decide +kernel)) ggX7_strain_X7_fails
set_option maxRecDepth 20000 in
theorem ggX7_strain_X7_lay : GoodIn wsX7_strain wsX7_lay := goodIn_r _ [17, 2, 18, 19, 20, 21, 22, 23, 5, 24, 25, 26, 27, 28, 29, 30, 31, 32, 33, 34, 35, 36, 37, 38, 39, 40, 41, 42, 43, 44, 45, 46, 47, 48, 49, 50, 51, 52, 53, 54, 55, 56, 57, 58, 59, 60, 61, 62, 63, 64, 65, 66, 67, 68, 69, 70, 71, 72, 73, 74, 75, 76, 77, 78, 79, 80, 81, 82, 83, 84, 85, 86, 87, 88, 89, 90, 91] (by decide +kernel) (by decide +kernel)
set_option maxRecDepth 20000 in
theorem gX7_strain_X7_lay : GoodIn wsX7_strain (wsV RX7 138 RX7 yX7_lay wsX7_lay) := goodIn_app (goodIn_of _ (by decide +kernel)) ggX7_strain_X7_lay
set_option maxRecDepth 20000 in
theorem ggX7_strainByAll_X7_isDay : GoodIn wsX7_strainByAll wsX7_isDay := goodIn_r _ [6, 7, 8, 5, 9] (by decide +kernel) (by decide +kernel)
set_option maxRecDepth 20000 in
theorem gX7_strainByAll_X7_isDay : GoodIn wsX7_strainByAll (va_wsS RX7 109 yX7_isDay wsX7_isDay) := goodIn_app (goodIn_of _ (by decide +kernel)) ggX7_strainByAll_X7_isDay
set_option maxRecDepth 20000 in
theorem ggX7_strainByAll_X7_fails : GoodIn wsX7_strainByAll wsX7_fails := goodIn_r _ [13, 1, 63, 64, 65, 66, 67, 68, 69, 70, 71, 72, 73, 74, 75, 76, 77, 78, 79, 80, 81, 82, 83, 84, 85, 86, 87, 88, 89, 90, 91] (by decide +kernel) (by decide +kernel)
set_option maxRecDepth 20000 in
theorem gX7_strainByAll_X7_fails : GoodIn wsX7_strainByAll (wsV RX7 81 RX7 yX7_fails wsX7_fails) := goodIn_app (goodIn_of _ (by decide +kernel)) ggX7_strainByAll_X7_fails
set_option maxRecDepth 20000 in
theorem ggX7_strainByAll_X7_lay : GoodIn wsX7_strainByAll wsX7_lay := goodIn_r _ [17, 2, 18, 19, 20, 21, 22, 23, 5, 24, 25, 26, 27, 28, 29, 30, 31, 32, 33, 34, 35, 36, 37, 38, 39, 40, 41, 42, 43, 44, 45, 46, 47, 48, 49, 50, 51, 52, 53, 54, 55, 56, 57, 58, 59, 60, 61, 62, 63, 64, 65, 66, 67, 68, 69, 70, 71, 72, 73, 74, 75, 76, 77, 78, 79, 80, 81, 82, 83, 84, 85, 86, 87, 88, 89, 90, 91] (by decide +kernel) (by decide +kernel)
set_option maxRecDepth 20000 in
theorem gX7_strainByAll_X7_lay : GoodIn wsX7_strainByAll (wsV RX7 138 RX7 yX7_lay wsX7_lay) := goodIn_app (goodIn_of _ (by decide +kernel)) ggX7_strainByAll_X7_lay
set_option maxRecDepth 20000 in
theorem ggX7_work_X7_isDay : GoodIn wsX7_work wsX7_isDay := goodIn_r _ [6, 7, 8, 5, 9] (by decide +kernel) (by decide +kernel)
set_option maxRecDepth 20000 in
theorem gX7_work_X7_isDay : GoodIn wsX7_work (va_wsS RX7 109 yX7_isDay wsX7_isDay) := goodIn_app (goodIn_of _ (by decide +kernel)) ggX7_work_X7_isDay
set_option maxRecDepth 20000 in
theorem ggX7_work_X7_fails : GoodIn wsX7_work wsX7_fails := goodIn_r _ [13, 1, 63, 64, 65, 66, 67, 68, 69, 70, 71, 72, 73, 74, 75, 76, 77, 78, 79, 80, 81, 82, 83, 84, 85, 86, 87, 88, 89, 90, 91] (by decide +kernel) (by decide +kernel)
set_option maxRecDepth 20000 in
theorem gX7_work_X7_fails : GoodIn wsX7_work (wsV RX7 81 RX7 yX7_fails wsX7_fails) := goodIn_app (goodIn_of _ (by decide +kernel)) ggX7_work_X7_fails
set_option maxRecDepth 20000 in
theorem ggX7_work_X7_lay : GoodIn wsX7_work wsX7_lay := goodIn_r _ [17, 18, 2, 19, 20, 21, 22, 23, 5, 24, 25, 26, 27, 28, 29, 30, 31, 32, 33, 34, 35, 36, 37, 38, 39, 40, 41, 42, 43, 44, 45, 46, 47, 48, 49, 50, 51, 52, 53, 54, 55, 56, 57, 58, 59, 60, 61, 62, 63, 64, 65, 66, 67, 68, 69, 70, 71, 72, 73, 74, 75, 76, 77, 78, 79, 80, 81, 82, 83, 84, 85, 86, 87, 88, 89, 90, 91] (by decide +kernel) (by decide +kernel)
set_option maxRecDepth 20000 in
theorem gX7_work_X7_lay : GoodIn wsX7_work (wsV RX7 138 RX7 yX7_lay wsX7_lay) := goodIn_app (goodIn_of _ (by decide +kernel)) ggX7_work_X7_lay
set_option maxRecDepth 20000 in
theorem ggX7_actorFor_X7_isPart : GoodIn wsX7_actorFor wsX7_isPart := goodIn_r _ [6, 7, 8, 5, 9] (by decide +kernel) (by decide +kernel)
set_option maxRecDepth 20000 in
theorem gX7_actorFor_X7_isPart : GoodIn wsX7_actorFor (va_wsS RX7 89 yX7_isPart wsX7_isPart) := goodIn_app (goodIn_of _ (by decide +kernel)) ggX7_actorFor_X7_isPart
set_option maxRecDepth 20000 in
theorem ggX7_actorFor_X7_fails : GoodIn wsX7_actorFor wsX7_fails := goodIn_r _ [13, 1, 66, 67, 68, 69, 70, 71, 72, 73, 74, 75, 76, 77, 78, 79, 80, 81, 82, 83, 84, 85, 86, 87, 88, 89, 90, 91, 92, 93, 94] (by decide +kernel) (by decide +kernel)
set_option maxRecDepth 20000 in
theorem gX7_actorFor_X7_fails : GoodIn wsX7_actorFor (wsV RX7 81 RX7 yX7_fails wsX7_fails) := goodIn_app (goodIn_of _ (by decide +kernel)) ggX7_actorFor_X7_fails
set_option maxRecDepth 20000 in
theorem ggX7_actorFor_X7_isDay : GoodIn wsX7_actorFor wsX7_isDay := goodIn_r _ [16, 7, 8, 5, 9] (by decide +kernel) (by decide +kernel)
set_option maxRecDepth 20000 in
theorem gX7_actorFor_X7_isDay : GoodIn wsX7_actorFor (va_wsS RX7 109 yX7_isDay wsX7_isDay) := goodIn_app (goodIn_of _ (by decide +kernel)) ggX7_actorFor_X7_isDay
set_option maxRecDepth 20000 in
theorem ggX7_actorFor_X7_lay : GoodIn wsX7_actorFor wsX7_lay := goodIn_r _ [20, 21, 22, 2, 23, 24, 25, 26, 5, 27, 28, 29, 30, 31, 32, 33, 34, 35, 36, 37, 38, 39, 40, 41, 42, 43, 44, 45, 46, 47, 48, 49, 50, 51, 52, 53, 54, 55, 56, 57, 58, 59, 60, 61, 62, 63, 64, 65, 66, 67, 68, 69, 70, 71, 72, 73, 74, 75, 76, 77, 78, 79, 80, 81, 82, 83, 84, 85, 86, 87, 88, 89, 90, 91, 92, 93, 94] (by decide +kernel) (by decide +kernel)
set_option maxRecDepth 20000 in
theorem gX7_actorFor_X7_lay : GoodIn wsX7_actorFor (wsV RX7 138 RX7 yX7_lay wsX7_lay) := goodIn_app (goodIn_of _ (by decide +kernel)) ggX7_actorFor_X7_lay
set_option maxRecDepth 20000 in
theorem ggX7_chain_X7_isActor : GoodIn wsX7_chain wsX7_isActor := goodIn_r _ [8, 9, 10, 7, 11] (by decide +kernel) (by decide +kernel)
set_option maxRecDepth 20000 in
theorem gX7_chain_X7_isActor : GoodIn wsX7_chain (va_wsS RX7 85 yX7_isActor wsX7_isActor) := goodIn_app (goodIn_of _ (by decide +kernel)) ggX7_chain_X7_isActor
set_option maxRecDepth 20000 in
theorem ggX7_chain_X7_fails : GoodIn wsX7_chain wsX7_fails := goodIn_r _ [15, 1, 67, 68, 69, 70, 71, 72, 73, 74, 75, 76, 77, 78, 79, 80, 81, 82, 83, 84, 85, 86, 87, 88, 89, 90, 91, 92, 93, 94, 95] (by decide +kernel) (by decide +kernel)
set_option maxRecDepth 20000 in
theorem gX7_chain_X7_fails : GoodIn wsX7_chain (wsV RX7 81 RX7 yX7_fails wsX7_fails) := goodIn_app (goodIn_of _ (by decide +kernel)) ggX7_chain_X7_fails
set_option maxRecDepth 20000 in
theorem ggX7_chain_X7_isDay : GoodIn wsX7_chain wsX7_isDay := goodIn_r _ [18, 9, 10, 7, 11] (by decide +kernel) (by decide +kernel)
set_option maxRecDepth 20000 in
theorem gX7_chain_X7_isDay : GoodIn wsX7_chain (va_wsS RX7 109 yX7_isDay wsX7_isDay) := goodIn_app (goodIn_of _ (by decide +kernel)) ggX7_chain_X7_isDay
set_option maxRecDepth 20000 in
theorem ggX7_chain_X7_lay : GoodIn wsX7_chain wsX7_lay := goodIn_r _ [22, 23, 24, 3, 4, 25, 26, 27, 7, 28, 29, 30, 31, 32, 33, 34, 35, 36, 37, 38, 39, 40, 41, 42, 43, 44, 45, 46, 47, 48, 49, 50, 51, 52, 53, 54, 55, 56, 57, 58, 59, 60, 61, 62, 63, 64, 65, 66, 67, 68, 69, 70, 71, 72, 73, 74, 75, 76, 77, 78, 79, 80, 81, 82, 83, 84, 85, 86, 87, 88, 89, 90, 91, 92, 93, 94, 95] (by decide +kernel) (by decide +kernel)
set_option maxRecDepth 20000 in
theorem gX7_chain_X7_lay : GoodIn wsX7_chain (wsV RX7 138 RX7 yX7_lay wsX7_lay) := goodIn_app (goodIn_of _ (by decide +kernel)) ggX7_chain_X7_lay
set_option maxRecDepth 20000 in
theorem ggX7_show_X7_in : GoodIn wsX7_show wsX7_in := goodIn_r _ [9] (by decide +kernel) (by decide +kernel)
set_option maxRecDepth 20000 in
theorem gX7_show_X7_in : GoodIn wsX7_show (va_wsS RX7 77 yX7_in wsX7_in) := goodIn_app (goodIn_of _ (by decide +kernel)) ggX7_show_X7_in
set_option maxRecDepth 20000 in
theorem ggX7_show_X7_fails : GoodIn wsX7_show wsX7_fails := goodIn_r _ [13, 1, 18, 19, 20, 21, 22, 23, 24, 25, 26, 27, 28, 29, 30, 31, 32, 33, 34, 35, 36, 37, 38, 39, 40, 41, 42, 43, 44, 45, 46] (by decide +kernel) (by decide +kernel)
set_option maxRecDepth 20000 in
theorem gX7_show_X7_fails : GoodIn wsX7_show (wsV RX7 81 RX7 yX7_fails wsX7_fails) := goodIn_app (goodIn_of _ (by decide +kernel)) ggX7_show_X7_fails
set_option maxRecDepth 20000 in
theorem ggX7_show_X7_showOn : GoodIn wsX7_show wsX7_showOn := goodIn_r _ [17, 3, 4, 18, 19, 20, 21, 22, 23, 24, 25, 26, 27, 28, 29, 30, 31, 32, 33, 34, 35, 36, 37, 38, 39, 40, 41, 42, 43, 44, 45, 46] (by decide +kernel) (by decide +kernel)
set_option maxRecDepth 20000 in
theorem gX7_show_X7_showOn : GoodIn wsX7_show (wsV RX7 144 RX7 yX7_showOn wsX7_showOn) := goodIn_app (goodIn_of _ (by decide +kernel)) ggX7_show_X7_showOn
set_option maxRecDepth 20000 in
theorem ggX7_sell_X7_in : GoodIn wsX7_sell wsX7_in := goodIn_r _ [16] (by decide +kernel) (by decide +kernel)
set_option maxRecDepth 20000 in
theorem gX7_sell_X7_in : GoodIn wsX7_sell (va_wsS RX7 77 yX7_in wsX7_in) := goodIn_app (goodIn_of _ (by decide +kernel)) ggX7_sell_X7_in
set_option maxRecDepth 20000 in
theorem ggX7_sell_X7_isPart : GoodIn wsX7_sell wsX7_isPart := goodIn_r _ [19, 13, 14, 15, 16] (by decide +kernel) (by decide +kernel)
set_option maxRecDepth 20000 in
theorem gX7_sell_X7_isPart : GoodIn wsX7_sell (va_wsS RX7 89 yX7_isPart wsX7_isPart) := goodIn_app (goodIn_of _ (by decide +kernel)) ggX7_sell_X7_isPart
set_option maxRecDepth 20000 in
theorem ggX7_sell_X7_fails : GoodIn wsX7_sell wsX7_fails := goodIn_r _ [23, 1, 24, 25, 26, 27, 28, 29, 30, 31, 32, 33, 34, 35, 36, 37, 38, 39, 40, 41, 42, 43, 44, 45, 46, 47, 48, 49, 50, 51, 52] (by decide +kernel) (by decide +kernel)
set_option maxRecDepth 20000 in
theorem gX7_sell_X7_fails : GoodIn wsX7_sell (wsV RX7 81 RX7 yX7_fails wsX7_fails) := goodIn_app (goodIn_of _ (by decide +kernel)) ggX7_sell_X7_fails
set_option maxRecDepth 20000 in
theorem ggX7_refundOf_X7_rankOf : GoodIn wsX7_refundOf wsX7_rankOf := goodIn_r _ [12, 13, 14, 15, 16, 17, 18, 19, 20, 21, 22, 23, 24, 25, 26, 27, 28, 29, 30, 31, 32, 33, 34, 35, 36, 37, 38, 39, 40, 41, 42, 43] (by decide +kernel) (by decide +kernel)
set_option maxRecDepth 20000 in
theorem gX7_refundOf_X7_rankOf : GoodIn wsX7_refundOf (wsV RX7 99 RX7 yX7_rankOf wsX7_rankOf) := goodIn_app (goodIn_of _ (by decide +kernel)) ggX7_refundOf_X7_rankOf
set_option maxRecDepth 20000 in
theorem ggX7_refundAll_X7_refundOf : GoodIn wsX7_refundAll wsX7_refundOf := goodIn_r _ [9, 10, 4, 11, 12, 13, 14, 15, 16, 17, 18, 8, 19, 20, 21, 22, 23, 24, 25, 26, 27, 28, 29, 30, 31, 32, 33, 34, 35, 36, 37, 38, 39, 40, 41, 42, 43, 44, 45, 46, 47, 48, 49, 50] (by decide +kernel) (by decide +kernel)
set_option maxRecDepth 20000 in
theorem gX7_refundAll_X7_refundOf : GoodIn wsX7_refundAll (wsV RX7 153 RX7 yX7_refundOf wsX7_refundOf) := goodIn_app (goodIn_of _ (by decide +kernel)) ggX7_refundAll_X7_refundOf
set_option maxRecDepth 20000 in
theorem ggX7_perform_X7_fits : GoodIn wsX7_perform wsX7_fits := goodIn_r _ [11, 12, 13, 5, 14, 19, 20, 21, 22, 23, 24, 25, 26, 27, 28, 29, 30, 31, 32, 33, 34, 35, 36, 37, 38, 39, 40, 41, 42, 43, 44, 45, 46, 47] (by decide +kernel) (by decide +kernel)
set_option maxRecDepth 20000 in
theorem gX7_perform_X7_fits : GoodIn wsX7_perform (wsV RX7 112 RX7 yX7_fits wsX7_fits) := goodIn_app (goodIn_of _ (by decide +kernel)) ggX7_perform_X7_fits
set_option maxRecDepth 20000 in
theorem ggX7_perform_X7_toLetOut : GoodIn wsX7_perform wsX7_toLetOut := goodIn_r _ [18, 12, 13, 6, 5, 14, 19, 20, 21, 22, 23, 24, 25, 26, 27, 28, 29, 30, 31, 32, 33, 34, 35, 36, 37, 38, 39, 40, 41, 42, 43, 44, 45, 46, 47] (by decide +kernel) (by decide +kernel)
set_option maxRecDepth 20000 in
theorem gX7_perform_X7_toLetOut : GoodIn wsX7_perform (wsV RX7 115 RX7 yX7_toLetOut wsX7_toLetOut) := goodIn_app (goodIn_of _ (by decide +kernel)) ggX7_perform_X7_toLetOut
set_option maxRecDepth 20000 in
theorem ggX7_play_X7_fails : GoodIn wsX7_play wsX7_fails := goodIn_r _ [9, 1, 86, 87, 88, 89, 90, 91, 92, 93, 94, 95, 96, 97, 98, 99, 100, 101, 102, 103, 104, 105, 106, 107, 108, 109, 110, 111, 112, 113, 114] (by decide +kernel) (by decide +kernel)
set_option maxRecDepth 20000 in
theorem gX7_play_X7_fails : GoodIn wsX7_play (wsV RX7 81 RX7 yX7_fails wsX7_fails) := goodIn_app (goodIn_of _ (by decide +kernel)) ggX7_play_X7_fails
set_option maxRecDepth 20000 in
theorem ggX7_play_X7_showOn : GoodIn wsX7_play wsX7_showOn := goodIn_r _ [13, 14, 15, 86, 87, 88, 89, 90, 91, 92, 93, 94, 95, 96, 97, 98, 99, 100, 101, 102, 103, 104, 105, 106, 107, 108, 109, 110, 111, 112, 113, 114] (by decide +kernel) (by decide +kernel)
set_option maxRecDepth 20000 in
theorem gX7_play_X7_showOn : GoodIn wsX7_play (wsV RX7 144 RX7 yX7_showOn wsX7_showOn) := goodIn_app (goodIn_of _ (by decide +kernel)) ggX7_play_X7_showOn
set_option maxRecDepth 20000 in
theorem ggX7_play_X7_lay : GoodIn wsX7_play wsX7_lay := goodIn_r _ [19, 20, 21, 22, 23, 24, 25, 26, 8, 27, 28, 29, 30, 31, 32, 33, 34, 35, 36, 37, 38, 39, 40, 41, 42, 43, 44, 45, 46, 47, 48, 49, 50, 51, 52, 53, 54, 55, 56, 57, 58, 59, 60, 61, 62, 63, 64, 65, 86, 87, 88, 89, 90, 91, 92, 93, 94, 95, 96, 97, 98, 99, 100, 101, 102, 103, 104, 105, 106, 107, 108, 109, 110, 111, 112, 113, 114] (by decide +kernel) (by decide +kernel)
set_option maxRecDepth 20000 in
theorem gX7_play_X7_lay : GoodIn wsX7_play (wsV RX7 138 RX7 yX7_lay wsX7_lay) := goodIn_app (goodIn_of _ (by decide +kernel)) ggX7_play_X7_lay
set_option maxRecDepth 20000 in
theorem ggX7_play_X7_refundAll : GoodIn wsX7_play wsX7_refundAll := goodIn_r _ [69, 70, 71, 72, 73, 74, 75, 76, 8, 77, 78, 79, 20, 23, 22, 80, 36, 37, 38, 39, 28, 29, 86, 87, 88, 89, 90, 91, 92, 93, 94, 95, 96, 97, 98, 99, 100, 101, 102, 103, 104, 105, 106, 107, 108, 109, 110, 111, 112, 113, 114] (by decide +kernel) (by decide +kernel)
set_option maxRecDepth 20000 in
theorem gX7_play_X7_refundAll : GoodIn wsX7_play (wsV RX7 156 RX7 yX7_refundAll wsX7_refundAll) := goodIn_app (goodIn_of _ (by decide +kernel)) ggX7_play_X7_refundAll
set_option maxRecDepth 20000 in
theorem ggX7_play_X7_perform : GoodIn wsX7_play wsX7_perform := goodIn_r _ [84, 3, 23, 85, 22, 51, 57, 45, 46, 47, 8, 48, 49, 50, 52, 53, 54, 55, 56, 86, 87, 88, 89, 90, 91, 92, 93, 94, 95, 96, 97, 98, 99, 100, 101, 102, 103, 104, 105, 106, 107, 108, 109, 110, 111, 112, 113, 114] (by decide +kernel) (by decide +kernel)
set_option maxRecDepth 20000 in
theorem gX7_play_X7_perform : GoodIn wsX7_play (wsV RX7 160 RX7 yX7_perform wsX7_perform) := goodIn_app (goodIn_of _ (by decide +kernel)) ggX7_play_X7_perform
set_option maxRecDepth 20000 in
theorem ggX7_stateOf_X7_in : GoodIn wsX7_stateOf wsX7_in := goodIn_r _ [7] (by decide +kernel) (by decide +kernel)
set_option maxRecDepth 20000 in
theorem gX7_stateOf_X7_in : GoodIn wsX7_stateOf (va_wsS RX7 77 yX7_in wsX7_in) := goodIn_app (goodIn_of _ (by decide +kernel)) ggX7_stateOf_X7_in
set_option maxRecDepth 20000 in
theorem ggX7_stateOf_X7_fails : GoodIn wsX7_stateOf wsX7_fails := goodIn_r _ [11, 1, 12, 13, 14, 15, 16, 17, 18, 19, 20, 21, 22, 23, 24, 25, 26, 27, 28, 29, 30, 31, 32, 33, 34, 35, 36, 37, 38, 39, 40] (by decide +kernel) (by decide +kernel)
set_option maxRecDepth 20000 in
theorem gX7_stateOf_X7_fails : GoodIn wsX7_stateOf (wsV RX7 81 RX7 yX7_fails wsX7_fails) := goodIn_app (goodIn_of _ (by decide +kernel)) ggX7_stateOf_X7_fails
set_option maxRecDepth 20000 in
theorem ggX7_played_X7_in : GoodIn wsX7_played wsX7_in := goodIn_r _ [7] (by decide +kernel) (by decide +kernel)
set_option maxRecDepth 20000 in
theorem gX7_played_X7_in : GoodIn wsX7_played (va_wsS RX7 77 yX7_in wsX7_in) := goodIn_app (goodIn_of _ (by decide +kernel)) ggX7_played_X7_in
set_option maxRecDepth 20000 in
theorem ggX7_played_X7_isPart : GoodIn wsX7_played wsX7_isPart := goodIn_r _ [10, 4, 5, 6, 7] (by decide +kernel) (by decide +kernel)
set_option maxRecDepth 20000 in
theorem gX7_played_X7_isPart : GoodIn wsX7_played (va_wsS RX7 89 yX7_isPart wsX7_isPart) := goodIn_app (goodIn_of _ (by decide +kernel)) ggX7_played_X7_isPart
set_option maxRecDepth 20000 in
theorem ggX7_played_X7_fails : GoodIn wsX7_played wsX7_fails := goodIn_r _ [14, 1, 15, 16, 17, 18, 19, 20, 21, 22, 23, 24, 25, 26, 27, 28, 29, 30, 31, 32, 33, 34, 35, 36, 37, 38, 39, 40, 41, 42, 43] (by decide +kernel) (by decide +kernel)
set_option maxRecDepth 20000 in
theorem gX7_played_X7_fails : GoodIn wsX7_played (wsV RX7 81 RX7 yX7_fails wsX7_fails) := goodIn_app (goodIn_of _ (by decide +kernel)) ggX7_played_X7_fails
set_option maxRecDepth 20000 in
theorem ggX7_refund_X7_in : GoodIn wsX7_refund wsX7_in := goodIn_r _ [7] (by decide +kernel) (by decide +kernel)
set_option maxRecDepth 20000 in
theorem gX7_refund_X7_in : GoodIn wsX7_refund (va_wsS RX7 77 yX7_in wsX7_in) := goodIn_app (goodIn_of _ (by decide +kernel)) ggX7_refund_X7_in
set_option maxRecDepth 20000 in
theorem ggX7_refund_X7_fails : GoodIn wsX7_refund wsX7_fails := goodIn_r _ [11, 1, 12, 13, 14, 15, 16, 17, 18, 19, 20, 21, 22, 23, 24, 25, 26, 27, 28, 29, 30, 31, 32, 33, 34, 35, 36, 37, 38, 39, 40] (by decide +kernel) (by decide +kernel)
set_option maxRecDepth 20000 in
theorem gX7_refund_X7_fails : GoodIn wsX7_refund (wsV RX7 81 RX7 yX7_fails wsX7_fails) := goodIn_app (goodIn_of _ (by decide +kernel)) ggX7_refund_X7_fails
