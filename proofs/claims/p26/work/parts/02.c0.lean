set_option maxRecDepth 20000 in
theorem ggX1_rankOf_X1_rankShift : GoodIn wsX1_rankOf wsX1_rankShift := goodIn_r _ [4] (by decide +kernel) (by decide +kernel)
set_option maxRecDepth 20000 in
theorem gX1_rankOf_X1_rankShift : GoodIn wsX1_rankOf (va_wsS RX1 21 yX1_rankShift wsX1_rankShift) := goodIn_app (goodIn_of _ (by decide +kernel)) ggX1_rankOf_X1_rankShift
set_option maxRecDepth 20000 in
theorem ggX1_offer_X1_rankShift : GoodIn wsX1_offer wsX1_rankShift := goodIn_r _ [11] (by decide +kernel) (by decide +kernel)
set_option maxRecDepth 20000 in
theorem gX1_offer_X1_rankShift : GoodIn wsX1_offer (va_wsS RX1 21 yX1_rankShift wsX1_rankShift) := goodIn_app (goodIn_of _ (by decide +kernel)) ggX1_offer_X1_rankShift
set_option maxRecDepth 20000 in
theorem ggX1_leastKey_J6_bitCount_0f7a4 : GoodIn wsX1_leastKey wsJ6_bitCount_0f7a4 := goodIn_r _ [6, 7, 8, 9] (by decide +kernel) (by decide +kernel)
set_option maxRecDepth 20000 in
theorem gX1_leastKey_J6_bitCount_0f7a4 : GoodIn wsX1_leastKey (va_wsS RX1 35 yJ6_bitCount_0f7a4 wsJ6_bitCount_0f7a4) := goodIn_app (goodIn_of _ (by decide +kernel)) ggX1_leastKey_J6_bitCount_0f7a4
set_option maxRecDepth 20000 in
theorem ggX1_leastKey_X1_castPart : GoodIn wsX1_leastKey wsX1_castPart := goodIn_r _ [14, 15, 16, 1, 17, 18, 19, 20, 21, 22, 23, 24, 25] (by decide +kernel) (by decide +kernel)
set_option maxRecDepth 20000 in
theorem gX1_leastKey_X1_castPart : GoodIn wsX1_leastKey (wsV RX1 40 RX1 yX1_castPart wsX1_castPart) := goodIn_app (goodIn_of _ (by decide +kernel)) ggX1_leastKey_X1_castPart
set_option maxRecDepth 20000 in
theorem ggX1_castPart_X6_has : GoodIn wsX1_castPart wsX6_has := goodIn_r _ [6] (by decide +kernel) (by decide +kernel)
set_option maxRecDepth 20000 in
theorem gX1_castPart_X6_has_n44 : GoodIn wsX1_castPart (wsX6_has) := ggX1_castPart_X6_has
set_option maxRecDepth 20000 in
theorem ggX1_castPart_X6_with : GoodIn wsX1_castPart wsX6_with := goodIn_r _ [8] (by decide +kernel) (by decide +kernel)
set_option maxRecDepth 20000 in
theorem gX1_castPart_X6_with_n48 : GoodIn wsX1_castPart (wsX6_with) := ggX1_castPart_X6_with
set_option maxRecDepth 20000 in
theorem ggX1_leastStrain_X1_leastFrom : GoodIn wsX1_leastStrain wsX1_leastFrom := goodIn_r _ [5, 6, 7, 8, 9, 10, 2, 3, 4] (by decide +kernel) (by decide +kernel)
set_option maxRecDepth 20000 in
theorem gX1_leastStrain_X1_leastFrom : GoodIn wsX1_leastStrain (va_wsS RX1 51 yX1_leastFrom wsX1_leastFrom) := goodIn_app (goodIn_of _ (by decide +kernel)) ggX1_leastStrain_X1_leastFrom
set_option maxRecDepth 20000 in
theorem ggX1_leastFrom_X6_has : GoodIn wsX1_leastFrom wsX6_has := goodIn_r _ [3] (by decide +kernel) (by decide +kernel)
set_option maxRecDepth 20000 in
theorem gX1_leastFrom_X6_has_n44 : GoodIn wsX1_leastFrom (wsX6_has) := ggX1_leastFrom_X6_has
set_option maxRecDepth 20000 in
theorem ggX1_leastFrom_X6_with : GoodIn wsX1_leastFrom wsX6_with := goodIn_r _ [5] (by decide +kernel) (by decide +kernel)
set_option maxRecDepth 20000 in
theorem gX1_leastFrom_X6_with_n48 : GoodIn wsX1_leastFrom (wsX6_with) := ggX1_leastFrom_X6_with
set_option maxRecDepth 20000 in
theorem ggX1_leastFrom_X1_leastFrom : GoodIn wsX1_leastFrom wsX1_leastFrom := goodIn_r _ [0, 1, 2, 3, 4, 5, 6, 7, 8] (by decide +kernel) (by decide +kernel)
set_option maxRecDepth 20000 in
theorem gX1_leastFrom_X1_leastFrom : GoodIn wsX1_leastFrom (va_wsS RX1 51 yX1_leastFrom wsX1_leastFrom) := goodIn_app (goodIn_of _ (by decide +kernel)) ggX1_leastFrom_X1_leastFrom
set_option maxRecDepth 20000 in
theorem ggX4_fallIll_X6_has : GoodIn wsX4_fallIll wsX6_has := goodIn_r _ [4] (by decide +kernel) (by decide +kernel)
set_option maxRecDepth 20000 in
theorem gX4_fallIll_X6_has_n21 : GoodIn wsX4_fallIll (wsX6_has) := ggX4_fallIll_X6_has
set_option maxRecDepth 20000 in
theorem ggX4_fallIll_X6_with : GoodIn wsX4_fallIll wsX6_with := goodIn_r _ [6] (by decide +kernel) (by decide +kernel)
set_option maxRecDepth 20000 in
theorem gX4_fallIll_X6_with_n25 : GoodIn wsX4_fallIll (wsX6_with) := ggX4_fallIll_X6_with
set_option maxRecDepth 20000 in
theorem ggX6_init_X4_init : GoodIn wsX6_init wsX4_init := goodIn_r _ [32, 33, 2, 3, 34, 35, 36, 37, 73, 74, 75] (by decide +kernel) (by decide +kernel)
set_option maxRecDepth 20000 in
theorem gX6_init_X4_init : GoodIn wsX6_init (wsX4_init) := ggX6_init_X4_init
set_option maxRecDepth 20000 in
theorem ggX6_init_X3_init : GoodIn wsX6_init wsX3_init := goodIn_r _ [39, 40, 2, 3, 34, 41, 42, 84, 85] (by decide +kernel) (by decide +kernel)
set_option maxRecDepth 20000 in
theorem gX6_init_X3_init_n18 : GoodIn wsX6_init (wsX3_init) := ggX6_init_X3_init
set_option maxRecDepth 20000 in
theorem ggX6_init_X5_init : GoodIn wsX6_init wsX5_init := goodIn_r _ [44, 45, 2, 3, 34, 46, 47, 48, 49, 86, 87, 88, 89] (by decide +kernel) (by decide +kernel)
set_option maxRecDepth 20000 in
theorem gX6_init_X5_init_n25 : GoodIn wsX6_init (wsX5_init) := ggX6_init_X5_init
set_option maxRecDepth 20000 in
theorem ggX6_init_X1_init : GoodIn wsX6_init wsX1_init := goodIn_r _ [52, 53, 2, 3, 34, 54, 55, 56, 90, 91, 92, 93] (by decide +kernel) (by decide +kernel)
set_option maxRecDepth 20000 in
theorem gX6_init_X1_init : GoodIn wsX6_init (wsX1_init) := ggX6_init_X1_init
set_option maxRecDepth 20000 in
theorem ggX6_init_X2_init : GoodIn wsX6_init wsX2_init := goodIn_r _ [59, 60, 2, 3, 34, 61, 62, 63, 94, 95, 96, 97] (by decide +kernel) (by decide +kernel)
set_option maxRecDepth 20000 in
theorem gX6_init_X2_init : GoodIn wsX6_init (wsX2_init) := ggX6_init_X2_init
set_option maxRecDepth 20000 in
theorem ggX6_init_X0_init : GoodIn wsX6_init wsX0_init := goodIn_r _ [65, 66, 2, 3, 34, 67, 68, 69, 70, 71, 72, 98, 99, 100, 101, 102, 103, 104, 105] (by decide +kernel) (by decide +kernel)
set_option maxRecDepth 20000 in
theorem gX6_init_X0_init_n46 : GoodIn wsX6_init (wsX0_init) := ggX6_init_X0_init
set_option maxRecDepth 20000 in
theorem ggX6_setSize_X6_needActor : GoodIn wsX6_setSize wsX6_needActor := goodIn_ca (goodIn_r _ [6, 7, 8] (by decide +kernel) (by decide +kernel)) (goodIn_sub (fun _ h => List.mem_cons_of_mem _ (List.mem_append_left _ (List.mem_append_right _ h))) (by decide +kernel))
set_option maxRecDepth 20000 in
theorem gX6_setSize_X6_needActor : GoodIn wsX6_setSize (va_wsS RX6 65 yX6_needActor wsX6_needActor) := goodIn_app (goodIn_of _ (by decide +kernel)) ggX6_setSize_X6_needActor
set_option maxRecDepth 20000 in
theorem ggX6_setSize_X6_needSize : GoodIn wsX6_setSize wsX6_needSize := goodIn_ca (goodIn_r _ [11, 12, 13] (by decide +kernel) (by decide +kernel)) (goodIn_sub (fun _ h => List.mem_cons_of_mem _ (List.mem_append_right _ h)) (by decide +kernel))
set_option maxRecDepth 20000 in
theorem gX6_setSize_X6_needSize : GoodIn wsX6_setSize (va_wsS RX6 69 yX6_needSize wsX6_needSize) := goodIn_app (goodIn_of _ (by decide +kernel)) ggX6_setSize_X6_needSize
set_option maxRecDepth 20000 in
theorem ggX6_learn_X6_needActor : GoodIn wsX6_learn wsX6_needActor := goodIn_ca (goodIn_r _ [8, 9, 10] (by decide +kernel) (by decide +kernel)) (goodIn_sub (fun _ h => List.mem_cons_of_mem _ (List.mem_append_right _ h)) (by decide +kernel))
set_option maxRecDepth 20000 in
theorem gX6_learn_X6_needActor : GoodIn wsX6_learn (va_wsS RX6 65 yX6_needActor wsX6_needActor) := goodIn_app (goodIn_of _ (by decide +kernel)) ggX6_learn_X6_needActor
set_option maxRecDepth 20000 in
theorem ggX6_learn_X6_needPart : GoodIn wsX6_learn wsX6_needPart := goodIn_ca (goodIn_r _ [13, 9, 10] (by decide +kernel) (by decide +kernel)) (goodIn_sub (fun _ h => List.mem_cons_of_mem _ (List.mem_append_right _ h)) (by decide +kernel))
set_option maxRecDepth 20000 in
theorem gX6_learn_X6_needPart : GoodIn wsX6_learn (va_wsS RX6 76 yX6_needPart wsX6_needPart) := goodIn_app (goodIn_of _ (by decide +kernel)) ggX6_learn_X6_needPart
set_option maxRecDepth 20000 in
theorem ggX6_learn_X6_with : GoodIn wsX6_learn wsX6_with := goodIn_r _ [16] (by decide +kernel) (by decide +kernel)
set_option maxRecDepth 20000 in
theorem gX6_learn_X6_with : GoodIn wsX6_learn (va_wsS RX6 82 yX6_with wsX6_with) := goodIn_app (goodIn_of _ (by decide +kernel)) ggX6_learn_X6_with
set_option maxRecDepth 20000 in
theorem ggX6_learn_X6_without : GoodIn wsX6_learn wsX6_without := goodIn_r _ [19] (by decide +kernel) (by decide +kernel)
set_option maxRecDepth 20000 in
theorem gX6_learn_X6_without : GoodIn wsX6_learn (va_wsS RX6 86 yX6_without wsX6_without) := goodIn_app (goodIn_of _ (by decide +kernel)) ggX6_learn_X6_without
set_option maxRecDepth 20000 in
theorem ggX6_learn_J6_bitCount_0f7a4 : GoodIn wsX6_learn wsJ6_bitCount_0f7a4 := goodIn_r _ [23, 24, 25, 26] (by decide +kernel) (by decide +kernel)
set_option maxRecDepth 20000 in
theorem gX6_learn_J6_bitCount_0f7a4 : GoodIn wsX6_learn (va_wsS RX6 89 yJ6_bitCount_0f7a4 wsJ6_bitCount_0f7a4) := goodIn_app (goodIn_of _ (by decide +kernel)) ggX6_learn_J6_bitCount_0f7a4
set_option maxRecDepth 20000 in
theorem ggX6_put_X6_needPart : GoodIn wsX6_put wsX6_needPart := goodIn_ca (goodIn_r _ [7, 8, 9] (by decide +kernel) (by decide +kernel)) (goodIn_sub (fun _ h => List.mem_cons_of_mem _ (List.mem_append_right _ h)) (by decide +kernel))
set_option maxRecDepth 20000 in
theorem gX6_put_X6_needPart : GoodIn wsX6_put (va_wsS RX6 76 yX6_needPart wsX6_needPart) := goodIn_app (goodIn_of _ (by decide +kernel)) ggX6_put_X6_needPart
set_option maxRecDepth 20000 in
theorem ggX6_put_X6_needActor : GoodIn wsX6_put wsX6_needActor := goodIn_ca (goodIn_r _ [12, 8, 9] (by decide +kernel) (by decide +kernel)) (goodIn_sub (fun _ h => List.mem_cons_of_mem _ (List.mem_append_right _ h)) (by decide +kernel))
set_option maxRecDepth 20000 in
theorem gX6_put_X6_needActor : GoodIn wsX6_put (va_wsS RX6 65 yX6_needActor wsX6_needActor) := goodIn_app (goodIn_of _ (by decide +kernel)) ggX6_put_X6_needActor
set_option maxRecDepth 20000 in
theorem ggX6_put_X3_rankIn : GoodIn wsX6_put wsX3_rankIn := goodIn_r _ [17, 18, 19, 36, 37] (by decide +kernel) (by decide +kernel)
set_option maxRecDepth 20000 in
theorem gX6_put_X3_rankIn : GoodIn wsX6_put (wsV RX6 100 RX3 yX3_rankIn wsX3_rankIn) := goodIn_app (goodIn_of _ (by decide +kernel)) ggX6_put_X3_rankIn
set_option maxRecDepth 20000 in
theorem ggX6_put_X3_isFull : GoodIn wsX6_put wsX3_isFull := goodIn_r _ [23, 18, 36, 37] (by decide +kernel) (by decide +kernel)
set_option maxRecDepth 20000 in
theorem gX6_put_X3_isFull : GoodIn wsX6_put (wsV RX6 105 RX3 yX3_isFull wsX3_isFull) := goodIn_app (goodIn_of _ (by decide +kernel)) ggX6_put_X3_isFull
set_option maxRecDepth 20000 in
theorem ggX6_put_X3_append : GoodIn wsX6_put wsX3_append := goodIn_r _ [27, 18, 19, 36, 37] (by decide +kernel) (by decide +kernel)
set_option maxRecDepth 20000 in
theorem gX6_put_X3_append : GoodIn wsX6_put (wsV RX6 111 RX3 yX3_append wsX3_append) := goodIn_app (goodIn_of _ (by decide +kernel)) ggX6_put_X3_append
set_option maxRecDepth 20000 in
theorem ggX6_take_X6_needPart : GoodIn wsX6_take wsX6_needPart := goodIn_ca (goodIn_r _ [7, 8, 9] (by decide +kernel) (by decide +kernel)) (goodIn_sub (fun _ h => List.mem_cons_of_mem _ (List.mem_append_right _ h)) (by decide +kernel))
set_option maxRecDepth 20000 in
theorem gX6_take_X6_needPart : GoodIn wsX6_take (va_wsS RX6 76 yX6_needPart wsX6_needPart) := goodIn_app (goodIn_of _ (by decide +kernel)) ggX6_take_X6_needPart
set_option maxRecDepth 20000 in
theorem ggX6_take_X6_needActor : GoodIn wsX6_take wsX6_needActor := goodIn_ca (goodIn_r _ [12, 8, 9] (by decide +kernel) (by decide +kernel)) (goodIn_sub (fun _ h => List.mem_cons_of_mem _ (List.mem_append_right _ h)) (by decide +kernel))
set_option maxRecDepth 20000 in
theorem gX6_take_X6_needActor : GoodIn wsX6_take (va_wsS RX6 65 yX6_needActor wsX6_needActor) := goodIn_app (goodIn_of _ (by decide +kernel)) ggX6_take_X6_needActor
set_option maxRecDepth 20000 in
theorem ggX6_take_X3_rankIn : GoodIn wsX6_take wsX3_rankIn := goodIn_r _ [17, 18, 19, 32, 33] (by decide +kernel) (by decide +kernel)
set_option maxRecDepth 20000 in
theorem gX6_take_X3_rankIn : GoodIn wsX6_take (wsV RX6 100 RX3 yX3_rankIn wsX3_rankIn) := goodIn_app (goodIn_of _ (by decide +kernel)) ggX6_take_X3_rankIn
set_option maxRecDepth 20000 in
theorem ggX6_take_X3_remove : GoodIn wsX6_take wsX3_remove := goodIn_r _ [23, 18, 19, 32, 33] (by decide +kernel) (by decide +kernel)
set_option maxRecDepth 20000 in
theorem gX6_take_X3_remove : GoodIn wsX6_take (wsV RX6 116 RX3 yX3_remove wsX3_remove) := goodIn_app (goodIn_of _ (by decide +kernel)) ggX6_take_X3_remove
set_option maxRecDepth 20000 in
theorem ggX6_costume_X6_needPart : GoodIn wsX6_costume wsX6_needPart := goodIn_ca (goodIn_r _ [8, 9, 10] (by decide +kernel) (by decide +kernel)) (goodIn_sub (fun _ h => List.mem_cons_of_mem _ (List.mem_append_left _ (List.mem_append_right _ h))) (by decide +kernel))
set_option maxRecDepth 20000 in
theorem gX6_costume_X6_needPart : GoodIn wsX6_costume (va_wsS RX6 76 yX6_needPart wsX6_needPart) := goodIn_app (goodIn_of _ (by decide +kernel)) ggX6_costume_X6_needPart
set_option maxRecDepth 20000 in
theorem ggX6_costume_X6_needSize : GoodIn wsX6_costume wsX6_needSize := goodIn_ca (goodIn_r _ [13, 14, 15] (by decide +kernel) (by decide +kernel)) (goodIn_sub (fun _ h => List.mem_cons_of_mem _ (List.mem_append_right _ h)) (by decide +kernel))
set_option maxRecDepth 20000 in
theorem gX6_costume_X6_needSize : GoodIn wsX6_costume (va_wsS RX6 69 yX6_needSize wsX6_needSize) := goodIn_app (goodIn_of _ (by decide +kernel)) ggX6_costume_X6_needSize
set_option maxRecDepth 20000 in
theorem ggX6_costume_X5_add : GoodIn wsX6_costume wsX5_add := goodIn_r _ [20, 21, 22, 23, 32, 33, 34, 35] (by decide +kernel) (by decide +kernel)
set_option maxRecDepth 20000 in
theorem gX6_costume_X5_add : GoodIn wsX6_costume (wsV RX6 125 RX5 yX5_add wsX5_add) := goodIn_app (goodIn_of _ (by decide +kernel)) ggX6_costume_X5_add
set_option maxRecDepth 20000 in
theorem ggX6_sizeOf_X6_needOneOf : GoodIn wsX6_sizeOf wsX6_needOneOf := goodIn_ca (goodIn_r _ [7, 8, 9] (by decide +kernel) (by decide +kernel)) (goodIn_sub (fun _ h => List.mem_cons_of_mem _ (List.mem_append_right _ h)) (by decide +kernel))
set_option maxRecDepth 20000 in
theorem gX6_sizeOf_X6_needOneOf : GoodIn wsX6_sizeOf (va_wsS RX6 128 yX6_needOneOf wsX6_needOneOf) := goodIn_app (goodIn_of _ (by decide +kernel)) ggX6_sizeOf_X6_needOneOf
set_option maxRecDepth 20000 in
theorem ggX6_cold_X6_needActor : GoodIn wsX6_cold wsX6_needActor := goodIn_ca (goodIn_r _ [6, 7, 8] (by decide +kernel) (by decide +kernel)) (goodIn_sub (fun _ h => List.mem_cons_of_mem _ (List.mem_append_left _ (List.mem_append_right _ h))) (by decide +kernel))
set_option maxRecDepth 20000 in
theorem gX6_cold_X6_needActor : GoodIn wsX6_cold (va_wsS RX6 65 yX6_needActor wsX6_needActor) := goodIn_app (goodIn_of _ (by decide +kernel)) ggX6_cold_X6_needActor
set_option maxRecDepth 20000 in
theorem ggX6_cold_X6_needDay : GoodIn wsX6_cold wsX6_needDay := goodIn_ca (goodIn_r _ [11, 12, 13] (by decide +kernel) (by decide +kernel)) (goodIn_sub (fun _ h => List.mem_cons_of_mem _ (List.mem_append_right _ h)) (by decide +kernel))
set_option maxRecDepth 20000 in
theorem gX6_cold_X6_needDay : GoodIn wsX6_cold (va_wsS RX6 132 yX6_needDay wsX6_needDay) := goodIn_app (goodIn_of _ (by decide +kernel)) ggX6_cold_X6_needDay
set_option maxRecDepth 20000 in
theorem ggX6_cold_X4_fallIll : GoodIn wsX6_cold wsX4_fallIll := goodIn_r _ [18, 19, 20, 5, 21, 22, 23, 32, 33, 34] (by decide +kernel) (by decide +kernel)
set_option maxRecDepth 20000 in
theorem gX6_cold_X4_fallIll : GoodIn wsX6_cold (wsV RX6 135 RX4 yX4_fallIll wsX4_fallIll) := goodIn_app (goodIn_of _ (by decide +kernel)) ggX6_cold_X4_fallIll
set_option maxRecDepth 20000 in
theorem ggX6_isIll_X6_needActor : GoodIn wsX6_isIll wsX6_needActor := goodIn_ca (goodIn_r _ [6, 7, 8] (by decide +kernel) (by decide +kernel)) (goodIn_sub (fun _ h => List.mem_cons_of_mem _ (List.mem_append_left _ (List.mem_append_right _ h))) (by decide +kernel))
set_option maxRecDepth 20000 in
theorem gX6_isIll_X6_needActor : GoodIn wsX6_isIll (va_wsS RX6 65 yX6_needActor wsX6_needActor) := goodIn_app (goodIn_of _ (by decide +kernel)) ggX6_isIll_X6_needActor
set_option maxRecDepth 20000 in
theorem ggX6_isIll_X6_needDay : GoodIn wsX6_isIll wsX6_needDay := goodIn_ca (goodIn_r _ [11, 12, 13] (by decide +kernel) (by decide +kernel)) (goodIn_sub (fun _ h => List.mem_cons_of_mem _ (List.mem_append_right _ h)) (by decide +kernel))
set_option maxRecDepth 20000 in
theorem gX6_isIll_X6_needDay : GoodIn wsX6_isIll (va_wsS RX6 132 yX6_needDay wsX6_needDay) := goodIn_app (goodIn_of _ (by decide +kernel)) ggX6_isIll_X6_needDay
set_option maxRecDepth 20000 in
theorem ggX6_isIll_X6_has : GoodIn wsX6_isIll wsX6_has := goodIn_r _ [16] (by decide +kernel) (by decide +kernel)
set_option maxRecDepth 20000 in
theorem gX6_isIll_X6_has : GoodIn wsX6_isIll (va_wsS RX6 142 yX6_has wsX6_has) := goodIn_app (goodIn_of _ (by decide +kernel)) ggX6_isIll_X6_has
set_option maxRecDepth 20000 in
theorem ggX6_canPlay_X6_needActor : GoodIn wsX6_canPlay wsX6_needActor := goodIn_ca (goodIn_r _ [7, 8, 9] (by decide +kernel) (by decide +kernel)) (goodIn_sub (fun _ h => List.mem_cons_of_mem _ (List.mem_append_left _ (List.mem_append_right _ h))) (by decide +kernel))
set_option maxRecDepth 20000 in
theorem gX6_canPlay_X6_needActor : GoodIn wsX6_canPlay (va_wsS RX6 65 yX6_needActor wsX6_needActor) := goodIn_app (goodIn_of _ (by decide +kernel)) ggX6_canPlay_X6_needActor
set_option maxRecDepth 20000 in
theorem ggX6_canPlay_X6_needPart : GoodIn wsX6_canPlay wsX6_needPart := goodIn_ca (goodIn_r _ [12, 8, 9] (by decide +kernel) (by decide +kernel)) (goodIn_sub (fun _ h => List.mem_cons_of_mem _ (List.mem_append_left _ (List.mem_append_right _ h))) (by decide +kernel))
set_option maxRecDepth 20000 in
theorem gX6_canPlay_X6_needPart : GoodIn wsX6_canPlay (va_wsS RX6 76 yX6_needPart wsX6_needPart) := goodIn_app (goodIn_of _ (by decide +kernel)) ggX6_canPlay_X6_needPart
set_option maxRecDepth 20000 in
theorem ggX6_canPlay_X6_needDay : GoodIn wsX6_canPlay wsX6_needDay := goodIn_ca (goodIn_r _ [15, 16, 17] (by decide +kernel) (by decide +kernel)) (goodIn_sub (fun _ h => List.mem_cons_of_mem _ (List.mem_append_right _ h)) (by decide +kernel))
set_option maxRecDepth 20000 in
theorem gX6_canPlay_X6_needDay : GoodIn wsX6_canPlay (va_wsS RX6 132 yX6_needDay wsX6_needDay) := goodIn_app (goodIn_of _ (by decide +kernel)) ggX6_canPlay_X6_needDay
set_option maxRecDepth 20000 in
theorem ggX6_canPlay_X3_rankIn : GoodIn wsX6_canPlay wsX3_rankIn := goodIn_r _ [22, 23, 24, 59, 60] (by decide +kernel) (by decide +kernel)
set_option maxRecDepth 20000 in
theorem gX6_canPlay_X3_rankIn : GoodIn wsX6_canPlay (wsV RX6 100 RX3 yX3_rankIn wsX3_rankIn) := goodIn_app (goodIn_of _ (by decide +kernel)) ggX6_canPlay_X3_rankIn
set_option maxRecDepth 20000 in
theorem ggX6_canPlay_X6_isReady : GoodIn wsX6_canPlay wsX6_isReady := goodIn_r _ [28, 2, 29, 30, 31, 32, 33, 6, 34, 35, 36, 37, 38, 39, 40, 41, 42, 43, 44, 45, 46, 47, 48, 49, 50, 51, 52, 53, 54, 55, 56, 57, 58, 61, 62, 63, 64] (by decide +kernel) (by decide +kernel)
set_option maxRecDepth 20000 in
theorem gX6_canPlay_X6_isReady : GoodIn wsX6_canPlay (wsV RX6 146 RX6 yX6_isReady wsX6_isReady) := goodIn_app (goodIn_of _ (by decide +kernel)) ggX6_canPlay_X6_isReady
set_option maxRecDepth 20000 in
theorem ggX6_strain_X6_needDay : GoodIn wsX6_strain wsX6_needDay := goodIn_ca (goodIn_r _ [6, 7, 8] (by decide +kernel) (by decide +kernel)) (goodIn_sub (fun _ h => List.mem_cons_of_mem _ (List.mem_append_right _ h)) (by decide +kernel))
set_option maxRecDepth 20000 in
theorem gX6_strain_X6_needDay : GoodIn wsX6_strain (va_wsS RX6 132 yX6_needDay wsX6_needDay) := goodIn_app (goodIn_of _ (by decide +kernel)) ggX6_strain_X6_needDay
set_option maxRecDepth 20000 in
theorem ggX6_strain_X6_bestCast : GoodIn wsX6_strain wsX6_bestCast := goodIn_r _ [12, 13, 14, 15, 16, 17, 5, 18, 19, 20, 1, 21, 22, 23, 24, 25, 26, 27, 28, 29, 30, 31, 32, 33, 34, 35, 36, 37, 38, 39, 40, 41, 42, 43, 44, 45, 46, 47, 48, 49, 50, 51, 52, 53, 54, 55, 56, 57, 58, 59, 60, 61, 62, 63, 64, 65, 66, 67, 68, 69, 70, 71, 72, 73, 74, 75, 76, 77, 78, 79, 80, 81, 82, 83, 84, 85, 86, 90, 91, 92, 93, 94, 95, 96, 97, 98, 99, 100, 101, 102, 103, 104, 105, 106, 107, 108, 109, 110] (by decide +kernel) (by decide +kernel)
set_option maxRecDepth 20000 in
theorem gX6_strain_X6_bestCast : GoodIn wsX6_strain (wsV RX6 150 RX6 yX6_bestCast wsX6_bestCast) := goodIn_app (goodIn_of _ (by decide +kernel)) ggX6_strain_X6_bestCast
set_option maxRecDepth 20000 in
theorem ggX6_strain_X1_strainOf : GoodIn wsX6_strain wsX1_strainOf := goodIn_r _ [89] (by decide +kernel) (by decide +kernel)
set_option maxRecDepth 20000 in
theorem gX6_strain_X1_strainOf : GoodIn wsX6_strain (va_wsS RX6 153 yX1_strainOf wsX1_strainOf) := goodIn_app (goodIn_of _ (by decide +kernel)) ggX6_strain_X1_strainOf
set_option maxRecDepth 20000 in
theorem ggX6_strainByAll_X6_needDay : GoodIn wsX6_strainByAll wsX6_needDay := goodIn_ca (goodIn_r _ [8, 9, 10] (by decide +kernel) (by decide +kernel)) (goodIn_sub (fun _ h => List.mem_cons_of_mem _ (List.mem_append_right _ h)) (by decide +kernel))
set_option maxRecDepth 20000 in
theorem gX6_strainByAll_X6_needDay : GoodIn wsX6_strainByAll (va_wsS RX6 132 yX6_needDay wsX6_needDay) := goodIn_app (goodIn_of _ (by decide +kernel)) ggX6_strainByAll_X6_needDay
set_option maxRecDepth 20000 in
theorem ggX6_strainByAll_X6_offerActors : GoodIn wsX6_strainByAll wsX6_offerActors := goodIn_r _ [14, 3, 4, 15, 16, 1, 17, 18, 19, 20, 21, 22, 23, 24, 25, 26, 27, 28, 29, 30, 31, 32, 33, 34, 7, 35, 36, 37, 38, 39, 40, 41, 42, 43, 44, 45, 46, 47, 48, 49, 50, 51, 52, 53, 54, 55, 56, 57, 58, 59, 60, 61, 62, 63, 64, 74, 75, 76, 77, 78, 79, 80, 81, 82, 83, 84, 85, 86, 87, 88, 89, 90, 91, 92, 93, 94] (by decide +kernel) (by decide +kernel)
set_option maxRecDepth 20000 in
theorem gX6_strainByAll_X6_offerActors : GoodIn wsX6_strainByAll (wsV RX6 156 RX6 yX6_offerActors wsX6_offerActors) := goodIn_app (goodIn_of _ (by decide +kernel)) ggX6_strainByAll_X6_offerActors
set_option maxRecDepth 20000 in
theorem ggX6_strainByAll_X1_leastStrain : GoodIn wsX6_strainByAll wsX1_leastStrain := goodIn_r _ [68, 23, 69, 70, 21, 71, 38, 7, 39, 72, 73, 85, 86, 87, 88] (by decide +kernel) (by decide +kernel)
set_option maxRecDepth 20000 in
theorem gX6_strainByAll_X1_leastStrain : GoodIn wsX6_strainByAll (wsV RX6 159 RX1 yX1_leastStrain wsX1_leastStrain) := goodIn_app (goodIn_of _ (by decide +kernel)) ggX6_strainByAll_X1_leastStrain
set_option maxRecDepth 20000 in
theorem ggX6_work_X6_needDay : GoodIn wsX6_work wsX6_needDay := goodIn_ca (goodIn_r _ [6, 7, 8] (by decide +kernel) (by decide +kernel)) (goodIn_sub (fun _ h => List.mem_cons_of_mem _ (List.mem_append_right _ h)) (by decide +kernel))
set_option maxRecDepth 20000 in
theorem gX6_work_X6_needDay : GoodIn wsX6_work (va_wsS RX6 132 yX6_needDay wsX6_needDay) := goodIn_app (goodIn_of _ (by decide +kernel)) ggX6_work_X6_needDay
set_option maxRecDepth 20000 in
theorem ggX6_work_X6_bestCast : GoodIn wsX6_work wsX6_bestCast := goodIn_r _ [12, 13, 14, 15, 16, 17, 5, 18, 19, 20, 1, 21, 22, 23, 24, 25, 26, 27, 28, 29, 30, 31, 32, 33, 34, 35, 36, 37, 38, 39, 40, 41, 42, 43, 44, 45, 46, 47, 48, 49, 50, 51, 52, 53, 54, 55, 56, 57, 58, 59, 60, 61, 62, 63, 64, 65, 66, 67, 68, 69, 70, 71, 72, 73, 74, 75, 76, 77, 78, 79, 80, 81, 82, 83, 84, 85, 86, 90, 91, 92, 93, 94, 95, 96, 97, 98, 99, 100, 101, 102, 103, 104, 105, 106, 107, 108, 109, 110] (by decide +kernel) (by decide +kernel)
set_option maxRecDepth 20000 in
theorem gX6_work_X6_bestCast : GoodIn wsX6_work (wsV RX6 150 RX6 yX6_bestCast wsX6_bestCast) := goodIn_app (goodIn_of _ (by decide +kernel)) ggX6_work_X6_bestCast
set_option maxRecDepth 20000 in
theorem ggX6_work_X1_workOf : GoodIn wsX6_work wsX1_workOf := goodIn_r _ [89] (by decide +kernel) (by decide +kernel)
set_option maxRecDepth 20000 in
theorem gX6_work_X1_workOf : GoodIn wsX6_work (va_wsS RX6 162 yX1_workOf wsX1_workOf) := goodIn_app (goodIn_of _ (by decide +kernel)) ggX6_work_X1_workOf
set_option maxRecDepth 20000 in
theorem ggX6_actorFor_X6_needPart : GoodIn wsX6_actorFor wsX6_needPart := goodIn_ca (goodIn_r _ [7, 8, 9] (by decide +kernel) (by decide +kernel)) (goodIn_sub (fun _ h => List.mem_cons_of_mem _ (List.mem_append_left _ (List.mem_append_right _ h))) (by decide +kernel))
set_option maxRecDepth 20000 in
theorem gX6_actorFor_X6_needPart : GoodIn wsX6_actorFor (va_wsS RX6 76 yX6_needPart wsX6_needPart) := goodIn_app (goodIn_of _ (by decide +kernel)) ggX6_actorFor_X6_needPart
set_option maxRecDepth 20000 in
theorem ggX6_actorFor_X6_needDay : GoodIn wsX6_actorFor wsX6_needDay := goodIn_ca (goodIn_r _ [12, 13, 14] (by decide +kernel) (by decide +kernel)) (goodIn_sub (fun _ h => List.mem_cons_of_mem _ (List.mem_append_right _ h)) (by decide +kernel))
set_option maxRecDepth 20000 in
theorem gX6_actorFor_X6_needDay : GoodIn wsX6_actorFor (va_wsS RX6 132 yX6_needDay wsX6_needDay) := goodIn_app (goodIn_of _ (by decide +kernel)) ggX6_actorFor_X6_needDay
set_option maxRecDepth 20000 in
theorem ggX6_actorFor_X6_bestCast : GoodIn wsX6_actorFor wsX6_bestCast := goodIn_r _ [18, 19, 3, 20, 21, 22, 6, 23, 24, 25, 1, 26, 27, 28, 29, 30, 31, 32, 33, 34, 35, 36, 37, 38, 39, 40, 41, 42, 43, 44, 45, 46, 47, 48, 49, 50, 51, 52, 53, 54, 55, 56, 57, 58, 59, 60, 61, 62, 63, 64, 65, 66, 67, 68, 69, 70, 71, 72, 73, 74, 75, 76, 77, 78, 79, 80, 81, 82, 83, 84, 85, 86, 87, 88, 89, 90, 91, 99, 100, 101, 102, 103, 104, 105, 106, 107, 108, 109, 110, 111, 112, 113, 114, 115, 116, 117, 118, 119] (by decide +kernel) (by decide +kernel)
set_option maxRecDepth 20000 in
theorem gX6_actorFor_X6_bestCast : GoodIn wsX6_actorFor (wsV RX6 150 RX6 yX6_bestCast wsX6_bestCast) := goodIn_app (goodIn_of _ (by decide +kernel)) ggX6_actorFor_X6_bestCast
set_option maxRecDepth 20000 in
theorem ggX6_actorFor_X6_actorIn : GoodIn wsX6_actorFor wsX6_actorIn := goodIn_r _ [95, 24, 96, 97, 30, 98, 71, 72, 73, 34, 35, 36, 37, 38, 39, 40, 99, 100, 101, 102, 103, 104, 105, 106, 114, 115] (by decide +kernel) (by decide +kernel)
set_option maxRecDepth 20000 in
theorem gX6_actorFor_X6_actorIn : GoodIn wsX6_actorFor (wsV RX6 165 RX6 yX6_actorIn wsX6_actorIn) := goodIn_app (goodIn_of _ (by decide +kernel)) ggX6_actorFor_X6_actorIn
set_option maxRecDepth 20000 in
theorem ggX6_chain_X6_needActor : GoodIn wsX6_chain wsX6_needActor := goodIn_ca (goodIn_r _ [6, 7, 8] (by decide +kernel) (by decide +kernel)) (goodIn_sub (fun _ h => List.mem_cons_of_mem _ (List.mem_append_left _ (List.mem_append_right _ h))) (by decide +kernel))
set_option maxRecDepth 20000 in
theorem gX6_chain_X6_needActor : GoodIn wsX6_chain (va_wsS RX6 65 yX6_needActor wsX6_needActor) := goodIn_app (goodIn_of _ (by decide +kernel)) ggX6_chain_X6_needActor
set_option maxRecDepth 20000 in
theorem ggX6_chain_X6_needDay : GoodIn wsX6_chain wsX6_needDay := goodIn_ca (goodIn_r _ [11, 12, 13] (by decide +kernel) (by decide +kernel)) (goodIn_sub (fun _ h => List.mem_cons_of_mem _ (List.mem_append_right _ h)) (by decide +kernel))
set_option maxRecDepth 20000 in
theorem gX6_chain_X6_needDay : GoodIn wsX6_chain (va_wsS RX6 132 yX6_needDay wsX6_needDay) := goodIn_app (goodIn_of _ (by decide +kernel)) ggX6_chain_X6_needDay
set_option maxRecDepth 20000 in
theorem ggX6_chain_X6_bestCast : GoodIn wsX6_chain wsX6_bestCast := goodIn_r _ [17, 18, 19, 20, 21, 22, 5, 23, 24, 25, 1, 26, 27, 28, 29, 30, 31, 32, 33, 34, 35, 36, 37, 38, 39, 40, 41, 42, 43, 44, 45, 46, 47, 48, 49, 50, 51, 52, 53, 54, 55, 56, 57, 58, 59, 60, 61, 62, 63, 64, 65, 66, 67, 68, 69, 70, 71, 72, 73, 74, 75, 76, 77, 78, 79, 80, 81, 82, 83, 84, 85, 86, 87, 88, 89, 90, 91, 104, 105, 106, 107, 108, 109, 110, 111, 112, 113, 114, 115, 116, 117, 118, 119, 120, 121, 122, 123, 124] (by decide +kernel) (by decide +kernel)
set_option maxRecDepth 20000 in
theorem gX6_chain_X6_bestCast : GoodIn wsX6_chain (wsV RX6 150 RX6 yX6_bestCast wsX6_bestCast) := goodIn_app (goodIn_of _ (by decide +kernel)) ggX6_chain_X6_bestCast
set_option maxRecDepth 20000 in
theorem ggX6_chain_X6_with : GoodIn wsX6_chain wsX6_with := goodIn_r _ [91] (by decide +kernel) (by decide +kernel)
set_option maxRecDepth 20000 in
theorem gX6_chain_X6_with : GoodIn wsX6_chain (va_wsS RX6 82 yX6_with wsX6_with) := goodIn_app (goodIn_of _ (by decide +kernel)) ggX6_chain_X6_with
set_option maxRecDepth 20000 in
theorem ggX6_chain_X6_countOthers : GoodIn wsX6_chain wsX6_countOthers := goodIn_r _ [96, 19, 97, 98, 99, 5, 100, 24, 101, 102, 30, 103, 71, 72, 73, 34, 35, 36, 37, 38, 39, 40, 104, 105, 106, 107, 108, 109, 110, 111, 119, 120] (by decide +kernel) (by decide +kernel)
set_option maxRecDepth 20000 in
theorem gX6_chain_X6_countOthers : GoodIn wsX6_chain (wsV RX6 168 RX6 yX6_countOthers wsX6_countOthers) := goodIn_app (goodIn_of _ (by decide +kernel)) ggX6_chain_X6_countOthers
set_option maxRecDepth 20000 in
theorem ggX6_isReady_X6_has : GoodIn wsX6_isReady wsX6_has := goodIn_r _ [8] (by decide +kernel) (by decide +kernel)
set_option maxRecDepth 20000 in
theorem gX6_isReady_X6_has : GoodIn wsX6_isReady (va_wsS RX6 142 yX6_has wsX6_has) := goodIn_app (goodIn_of _ (by decide +kernel)) ggX6_isReady_X6_has
set_option maxRecDepth 20000 in
theorem ggX6_isReady_X5_lowestFitting : GoodIn wsX6_isReady wsX5_lowestFitting := goodIn_r _ [13, 14, 15, 16, 33, 34, 35, 36] (by decide +kernel) (by decide +kernel)
set_option maxRecDepth 20000 in
theorem gX6_isReady_X5_lowestFitting : GoodIn wsX6_isReady (wsV RX6 228 RX5 yX5_lowestFitting wsX5_lowestFitting) := goodIn_app (goodIn_of _ (by decide +kernel)) ggX6_isReady_X5_lowestFitting
set_option maxRecDepth 20000 in
theorem ggX6_isReady_X5_lowestToLetOut : GoodIn wsX6_isReady wsX5_lowestToLetOut := goodIn_r _ [20, 14, 15, 16, 21, 33, 34, 35, 36] (by decide +kernel) (by decide +kernel)
set_option maxRecDepth 20000 in
theorem gX6_isReady_X5_lowestToLetOut : GoodIn wsX6_isReady (wsV RX6 231 RX5 yX5_lowestToLetOut wsX5_lowestToLetOut) := goodIn_app (goodIn_of _ (by decide +kernel)) ggX6_isReady_X5_lowestToLetOut
set_option maxRecDepth 20000 in
theorem ggX6_offerActors_X1_clear : GoodIn wsX6_offerActors wsX1_clear := goodIn_r _ [11, 12, 13, 66, 67, 68, 69] (by decide +kernel) (by decide +kernel)
set_option maxRecDepth 20000 in
theorem gX6_offerActors_X1_clear : GoodIn wsX6_offerActors (wsV RX6 234 RX1 yX1_clear wsX1_clear) := goodIn_app (goodIn_of _ (by decide +kernel)) ggX6_offerActors_X1_clear
set_option maxRecDepth 20000 in
theorem ggX6_offerActors_X3_actorAt : GoodIn wsX6_offerActors wsX3_actorAt := goodIn_r _ [18, 19, 20, 70, 71] (by decide +kernel) (by decide +kernel)
set_option maxRecDepth 20000 in
theorem gX6_offerActors_X3_actorAt : GoodIn wsX6_offerActors (wsV RX6 193 RX3 yX3_actorAt wsX3_actorAt) := goodIn_app (goodIn_of _ (by decide +kernel)) ggX6_offerActors_X3_actorAt
set_option maxRecDepth 20000 in
theorem ggX6_offerActors_X6_isReady : GoodIn wsX6_offerActors wsX6_isReady := goodIn_r _ [25, 5, 6, 26, 4, 27, 28, 24, 29, 30, 31, 32, 33, 34, 35, 36, 37, 38, 39, 40, 41, 42, 55, 56, 57, 58, 59, 60, 61, 62, 63, 64, 65, 72, 73, 74, 75] (by decide +kernel) (by decide +kernel)
set_option maxRecDepth 20000 in
theorem gX6_offerActors_X6_isReady : GoodIn wsX6_offerActors (wsV RX6 146 RX6 yX6_isReady wsX6_isReady) := goodIn_app (goodIn_of _ (by decide +kernel)) ggX6_offerActors_X6_isReady
set_option maxRecDepth 20000 in
theorem ggX6_offerActors_X5_lowestFitting : GoodIn wsX6_offerActors wsX5_lowestFitting := goodIn_r _ [34, 35, 36, 37, 72, 73, 74, 75] (by decide +kernel) (by decide +kernel)
set_option maxRecDepth 20000 in
theorem gX6_offerActors_X5_lowestFitting : GoodIn wsX6_offerActors (wsV RX6 228 RX5 yX5_lowestFitting wsX5_lowestFitting) := goodIn_app (goodIn_of _ (by decide +kernel)) ggX6_offerActors_X5_lowestFitting
set_option maxRecDepth 20000 in
theorem ggX6_offerActors_X1_offer : GoodIn wsX6_offerActors wsX1_offer := goodIn_r _ [46, 12, 47, 13, 48, 49, 50, 51, 52, 53, 10, 54, 66, 67, 68, 69] (by decide +kernel) (by decide +kernel)
set_option maxRecDepth 20000 in
theorem gX6_offerActors_X1_offer : GoodIn wsX6_offerActors (wsV RX6 237 RX1 yX1_offer wsX1_offer) := goodIn_app (goodIn_of _ (by decide +kernel)) ggX6_offerActors_X1_offer
