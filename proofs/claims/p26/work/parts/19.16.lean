set_option maxHeartbeats 4000000 in
set_option maxRecDepth 100000 in
theorem c_L_act (l : Launch) (D : va_G) (cy : qT) (h : Nat → Nat) (o : Nat → Nat) (S : qS) (J : qS) (V : Nat → Int32) (hI : Inv S) (x : Int32) (y : Int32) (h28 : nv (S 28 0) = 0) (hs2 : ∀ i, i < 12 → bd (S 2 i) 10) (hJ : jk J) (sz : Nat) : Met l yL_act wsL_act ({ frames := 13, cells := 0, slots := 0, locals := 336 }) (va_Pc [.ref (h 0), .int x, .int y, .ref (o 0), .ref (o 1), .ref (o 2), .ref (o 3), .ref (o 4)] (wrB D cy (wLA cy h o S J (S 6) (S 7) (kF (S 3)) (mF (S 27 0) (S 29 0)) V) sz)) (va_Qi (fun (r9 : Int32) (u : qS × qS × (Nat → Int32)) => r9 = nI 1 ∧ Inv u.1 ∧ nv (u.1 28 0) = 0 ∧ (∀ i, i < 12 → bd (u.1 2 i) 10) ∧ jk u.2.1) (wrQ D (va_A (wLA cy h o S J (S 6) (S 7) (kF (S 3)) (mF (S 27 0) (S 29 0)) V) sz) (fun u : qS × qS × (Nat → Int32) => (wLA cy h o u.1 u.2.1 (u.1 6) (u.1 7) (kF (u.1 3)) (mF (u.1 27 0) (u.1 29 0)) u.2.2))) (va_A (wLA cy h o S J (S 6) (S 7) (kF (S 3)) (mF (S 27 0) (S 29 0)) V) sz)) 0 0 (va_A (wLA cy h o S J (S 6) (S 7) (kF (S 3)) (mF (S 27 0) (S 29 0)) V) sz) := by
  refine Met.ofW (cc := cL_act) (maxL := 13) (ret := (some .boolean)) (by decide) rfl ?_
  intro pp e9 s m9 args9 bl9 meth9 c9 s9 B hml hv
  obtain ⟨rfl, hsz, hP, hG, hD0⟩ := hv
  have hx := B.exec
  have hb := B.bytes
  have hr := B.returns
  have hts := atoms_spec (ws := wsL_act) B.pre
  have hown : s.vm.findClass RL = some m9.cls := findClass_of_methodNamed B.named
  have hlocks := B.notSynchronized
  have hK := hG.K
  subst hsz
  have hD := hD0.self (sz := s.heap.size)
  generalize hAe : (va_A (wLA cy h o S J (S 6) (S 7) (kF (S 3)) (mF (S 27 0) (S 29 0)) V) s.heap.size) = A at hD ⊢
  have hA : ∀ q : Nat, s.heap.size ≤ q → A q := fun q h9 => by rw [← hAe]; exact Or.inr h9
  have hS : va_S A s.heap s.heap [] := va_S.rf
  have hP : va_P D vwCl (wLA cy h o S J (S 6) (S 7) (kF (S 3)) (mF (S 27 0) (S 29 0)) V) s.heap := hP
  have hl := lv_entry ([.ref (h 0), .int x, .int y, .ref (o 0), .ref (o 1), .ref (o 2), .ref (o 3), .ref (o 4)]) (n := 13) (Nat.le_of_ble_eq_true rfl)
  rw [lg_entry_eq]
  generalize (lg_sl ([.ref (h 0), .int x, .int y, .ref (o 0), .ref (o 1), .ref (o 2), .ref (o 3), .ref (o 4)]) ++ List.replicate (13 - (lg_sl ([.ref (h 0), .int x, .int y, .ref (o 0), .ref (o 1), .ref (o 2), .ref (o 3), .ref (o 4)])).length) Slot.unset).toArray = ls at hl ⊢
  have hl : lv_has ls 13 [(0, .ref (h 0)), (1, .int x), (2, .int y), (3, .ref (o 0)), (4, .ref (o 1)), (5, .ref (o 2)), (6, .ref (o 3)), (7, .ref (o 4))] := hl
  have hn8 : nv (S 27 0) ≤ 8 := by have := (iv_27 hI).1.2; omega
  have hn1 : 1 ≤ nv (S 27 0) := (iv_27 hI).2
  have h29 := (iv_29 hI).2
  refine lv_iload_n hx hb dL_act_0 rfl (lv_at hl 1 rfl) ?_
  refine lv_bipush (v := nI 12) hx hb dL_act_1 (by decide) ?_
  have M_3 := c_L_at l x 12 (by decide) (by decide)
  refine cd_roi (va_runS (As := [.int x, .int (nI 12)]) (rest := []) ⟨hx, hb, hml, hown, hts⟩ M_3 (va_cwS 2 hts gL_act_L_at rfl rfl rfl (by decide +kernel) ⟨Nat.le_of_ble_eq_true rfl, Nat.le_of_ble_eq_true rfl⟩) ⟨nuB.bl, fun U hU hW => ⟨rfl, trivial⟩⟩ rfl rfl hl.1 rfl (lv_room (Nat.le_of_ble_eq_true rfl)) dL_act_3 (by exact ⟨Nat.zero_le _, Nat.zero_le _⟩)) (fun r_3 hr_3 => ?_)
  subst hr_3
  obtain ⟨t, htl, hte⟩ : ∃ t9 : Nat, t9 < 12 ∧ nI (x.toUInt32.toNat / 2 % 12) = nI t9 := ⟨_, Nat.mod_lt _ (by omega), rfl⟩
  refine cd_tp (y := nI t) (hte) ?_
  refine lv_istore (lv' := [(8, .int (nI t)), (0, .ref (h 0)), (1, .int x), (2, .int y), (3, .ref (o 0)), (4, .ref (o 1)), (5, .ref (o 2)), (6, .ref (o 3)), (7, .ref (o 4))]) hx hb dL_act_6 hl (by decide) rfl (fun ls hl => ?_)
  refine lv_iload_n hx hb dL_act_8 rfl (lv_at hl 3 rfl) ?_
  refine lv_bipush (v := nI 12) hx hb dL_act_9 (by decide) ?_
  have M_11 := c_L_at l y 12 (by decide) (by decide)
  refine cd_roi (va_runS (As := [.int y, .int (nI 12)]) (rest := []) ⟨hx, hb, hml, hown, hts⟩ M_11 (va_cwS 2 hts gL_act_L_at rfl rfl rfl (by decide +kernel) ⟨Nat.le_of_ble_eq_true rfl, Nat.le_of_ble_eq_true rfl⟩) ⟨nuB.bl, fun U hU hW => ⟨rfl, trivial⟩⟩ rfl rfl hl.1 rfl (lv_room (Nat.le_of_ble_eq_true rfl)) dL_act_11 (by exact ⟨Nat.zero_le _, Nat.zero_le _⟩)) (fun r_11 hr_11 => ?_)
  subst hr_11
  obtain ⟨a, hal, hae⟩ : ∃ t9 : Nat, t9 < 12 ∧ nI (y.toUInt32.toNat / 2 % 12) = nI t9 := ⟨_, Nat.mod_lt _ (by omega), rfl⟩
  refine cd_tp (y := nI a) (hae) ?_
  refine lv_istore (lv' := [(9, .int (nI a)), (8, .int (nI t)), (0, .ref (h 0)), (1, .int x), (2, .int y), (3, .ref (o 0)), (4, .ref (o 1)), (5, .ref (o 2)), (6, .ref (o 3)), (7, .ref (o 4))]) hx hb dL_act_14 hl (by decide) rfl (fun ls hl => ?_)
  refine lv_iload_n hx hb dL_act_16 rfl (lv_at hl 4 rfl) ?_
  refine lv_iconst (v := nI 5) hx hb dL_act_17 (by decide) ?_
  refine lv_ishr hx hb dL_act_18 ?_
  refine lv_aload hx hb dL_act_19 (lv_at hl 8 rfl) ?_
  refine lv_iconst (v := nI 0) hx hb dL_act_21 (by decide) ?_
  refine cd_iald (f := mF (S 27 0) (S 29 0)) hx hb hK hP 30 rfl (by omega) (by decide) dL_act_22 ?_
  refine cd_tp (y := S 27 0) (rfl) ?_
  refine cd_tp (y := nI (nv (S 27 0))) ((iv_27 hI).1.1) ?_
  have M_23 := c_L_at l (y >>> ((nI 5) &&& 31)) (nv (S 27 0)) (by omega) (by omega)
  refine cd_roi (va_runS (As := [.int (y >>> ((nI 5) &&& 31)), .int (nI (nv (S 27 0)))]) (rest := []) ⟨hx, hb, hml, hown, hts⟩ M_23 (va_cwS 2 hts gL_act_L_at rfl rfl rfl (by decide +kernel) ⟨Nat.le_of_ble_eq_true rfl, Nat.le_of_ble_eq_true rfl⟩) ⟨nuB.bl, fun U hU hW => ⟨rfl, trivial⟩⟩ rfl rfl hl.1 rfl (lv_room (Nat.le_of_ble_eq_true rfl)) dL_act_23 (by exact ⟨Nat.zero_le _, Nat.zero_le _⟩)) (fun r_23 hr_23 => ?_)
  subst hr_23
  obtain ⟨q, hql, hqe⟩ : ∃ t9 : Nat, t9 < nv (S 27 0) ∧ nI ((y >>> ((nI 5) &&& 31)).toUInt32.toNat / 2 % (nv (S 27 0))) = nI t9 := ⟨_, Nat.mod_lt _ (by omega), rfl⟩
  refine cd_tp (y := nI q) (hqe) ?_
  have h7q := (iv_7 hI q (by omega)).2
  refine lv_istore (lv' := [(10, .int (nI q)), (9, .int (nI a)), (8, .int (nI t)), (0, .ref (h 0)), (1, .int x), (2, .int y), (3, .ref (o 0)), (4, .ref (o 1)), (5, .ref (o 2)), (6, .ref (o 3)), (7, .ref (o 4))]) hx hb dL_act_26 hl (by decide) rfl (fun ls hl => ?_)
  refine lv_iload hx hb dL_act_28 (lv_at hl 2 rfl) ?_
  refine lv_iconst (v := nI 3) hx hb dL_act_30 (by decide) ?_
  refine cd_icmp_ge (tgt := 105) hx hb dL_act_31 (by decide) (by omega) (by omega) (fun c_31 => ?_) (fun c_31 => ?_)
  · refine lv_iload hx hb dL_act_105 (lv_at hl 2 rfl) ?_
    refine lv_iconst (v := nI 3) hx hb dL_act_107 (by decide) ?_
    refine cd_icmp_ne (tgt := 198) hx hb dL_act_108 (by decide) (by omega) (by omega) (fun c_108 => ?_) (fun c_108 => ?_)
    · refine lv_iload hx hb dL_act_198 (lv_at hl 2 rfl) ?_
      refine lv_bipush (v := nI 6) hx hb dL_act_200 (by decide) ?_
      refine cd_icmp_ge (tgt := 254) hx hb dL_act_202 (by decide) (by omega) (by omega) (fun c_202 => ?_) (fun c_202 => ?_)
      · refine lv_iload hx hb dL_act_254 (lv_at hl 2 rfl) ?_
        refine lv_bipush (v := nI 8) hx hb dL_act_256 (by decide) ?_
        refine cd_icmp_ge (tgt := 330) hx hb dL_act_258 (by decide) (by omega) (by omega) (fun c_258 => ?_) (fun c_258 => ?_)
        · refine lv_iload hx hb dL_act_330 (lv_at hl 2 rfl) ?_
          refine lv_bipush (v := nI 8) hx hb dL_act_332 (by decide) ?_
          refine cd_icmp_ne (tgt := 364) hx hb dL_act_334 (by decide) (by omega) (by omega) (fun c_334 => ?_) (fun c_334 => ?_)
          · refine lv_iload hx hb dL_act_364 (lv_at hl 2 rfl) ?_
            refine lv_bipush (v := nI 9) hx hb dL_act_366 (by decide) ?_
            refine cd_icmp_ne (tgt := 390) hx hb dL_act_368 (by decide) (by omega) (by omega) (fun c_368 => ?_) (fun c_368 => ?_)
            · refine lv_aload_n hx hb dL_act_390 rfl (lv_at hl 3 rfl) ?_
              refine lv_iload_n hx hb dL_act_391 rfl (lv_at hl 5 rfl) ?_
              refine lv_bipush (v := nI 10) hx hb dL_act_392 (by decide) ?_
              refine lv_ishr hx hb dL_act_394 ?_
              refine lv_iconst (v := nI 3) hx hb dL_act_395 (by decide) ?_
              have M_396 := c_L_at l (y >>> ((nI 10) &&& 31)) 3 (by decide) (by decide)
              refine cd_roi (va_runS (As := [.int (y >>> ((nI 10) &&& 31)), .int (nI 3)]) (rest := [.ref (h 0)]) ⟨hx, hb, hml, hown, hts⟩ M_396 (va_cwS 2 hts gL_act_L_at rfl rfl rfl (by decide +kernel) ⟨Nat.le_of_ble_eq_true rfl, Nat.le_of_ble_eq_true rfl⟩) ⟨nuB.bl, fun U hU hW => ⟨rfl, trivial⟩⟩ rfl rfl hl.1 rfl (lv_room (Nat.le_of_ble_eq_true rfl)) dL_act_396 (by exact ⟨Nat.zero_le _, Nat.zero_le _⟩)) (fun r_396 hr_396 => ?_)
              subst hr_396
              obtain ⟨z, hzl, hze⟩ : ∃ t9 : Nat, t9 < 3 ∧ nI ((y >>> ((nI 10) &&& 31)).toUInt32.toNat / 2 % 3) = nI t9 := ⟨_, Nat.mod_lt _ (by omega), rfl⟩
              refine cd_tp (y := nI z) (hze) ?_
              refine lv_aload_n hx hb dL_act_399 rfl (lv_at hl 6 rfl) ?_
              refine lv_aload hx hb dL_act_400 (lv_at hl 7 rfl) ?_
              refine lv_aload hx hb dL_act_402 (lv_at hl 9 rfl) ?_
              have M_404 := c_L_good l D cy h o S J V hI z (by omega) (by omega) s.heap.size
              refine cd_fri (S := qS) (W1 := fun u_404 => (wLA cy h o S u_404 (S 6) (S 7) (kF (S 3)) (mF (S 27 0) (S 29 0)) V)) (ws' := fun u_404 => (wLA cy h o S u_404 (S 6) (S 7) (kF (S 3)) (mF (S 27 0) (S 29 0)) V)) (wc := (wLA cy h o S J (S 6) (S 7) (kF (S 3)) (mF (S 27 0) (S 29 0)) V)) (wr := []) (va_runS (As := [.ref (h 0), .int (nI z), .ref (o 0), .ref (o 1), .ref (o 3)]) (rest := []) ⟨hx, hb, hml, hown, hts⟩ M_404 (va_cwS 5 hts gL_act_L_good rfl rfl rfl (by decide +kernel) ⟨Nat.le_of_ble_eq_true rfl, Nat.le_of_ble_eq_true rfl⟩) ⟨wrB.bl, fun U hU hW => ⟨rfl, by rw [hU], by rw [hU]; exact hP, hG.warm hW, hD.weaken (fun _ _ _ _ => trivial)⟩⟩ rfl rfl hl.1 rfl (lv_room (Nat.le_of_ble_eq_true rfl)) dL_act_404 (by exact ⟨Nat.zero_le _, Nat.zero_le _⟩)) hP hD hS hA [0, 1, 2, 3, 4, 5, 6, 7, 8, 9, 10, 11, 12, 13, 14, 15, 16, 17, 18, 19, 20, 21, 22, 23, 24, 25, 26, 27, 28, 29, 30, 31] [] [0, 1, 2, 3, 4, 5, 6, 7, 8, 9, 10, 11, 12, 13, 14, 15, 16, 17, 18, 19, 20, 21, 22, 23, 24, 25, 26, 27, 28, 29, 30, 31] rfl rfl (by decide) (by decide) (by decide) (fun _ => rfl) (fun r_404 u_404 H locs hw_404 hP hD hS => ?_)
              obtain ⟨hr_404, hw_404⟩ := hw_404
              subst hr_404
              have hP : va_P D vwCl (wLA cy h o S u_404 (S 6) (S 7) (kF (S 3)) (mF (S 27 0) (S 29 0)) V) H := hP
              have hD : va_D A (wLA cy h o S u_404 (S 6) (S 7) (kF (S 3)) (mF (S 27 0) (S 29 0)) V) := hD
              refine cd_if_eq (tgt := 433) hx hb dL_act_407 (by decide) (by omega) (fun c_407 => ?_) (fun c_407 => ?_)
              · exact absurd c_407 (by decide)
              · refine lv_aload_n hx hb dL_act_410 rfl (lv_at hl 3 rfl) ?_
                refine lv_iload_n hx hb dL_act_411 rfl (lv_at hl 5 rfl) ?_
                refine lv_bipush (v := nI 10) hx hb dL_act_412 (by decide) ?_
                refine lv_ishr hx hb dL_act_414 ?_
                refine lv_iconst (v := nI 3) hx hb dL_act_415 (by decide) ?_
                have M_416 := c_L_at l (y >>> ((nI 10) &&& 31)) 3 (by decide) (by decide)
                refine cd_roi (va_runS (As := [.int (y >>> ((nI 10) &&& 31)), .int (nI 3)]) (rest := [.ref (h 0)]) ⟨hx, hb, hml, hown, hts⟩ M_416 (va_cwS 2 hts gL_act_L_at rfl rfl rfl (by decide +kernel) ⟨Nat.le_of_ble_eq_true rfl, Nat.le_of_ble_eq_true rfl⟩) ⟨nuB.bl, fun U hU hW => ⟨rfl, trivial⟩⟩ rfl rfl hl.1 rfl (lv_room (Nat.le_of_ble_eq_true rfl)) dL_act_416 (by exact ⟨Nat.zero_le _, Nat.zero_le _⟩)) (fun r_416 hr_416 => ?_)
                subst hr_416
                obtain ⟨z2, hz2l, hz2e⟩ : ∃ t9 : Nat, t9 < 3 ∧ nI ((y >>> ((nI 10) &&& 31)).toUInt32.toNat / 2 % 3) = nI t9 := ⟨_, Nat.mod_lt _ (by omega), rfl⟩
                refine cd_tp (y := nI z2) (hz2e) ?_
                refine lv_iload hx hb dL_act_419 (lv_at hl 1 rfl) ?_
                refine lv_aload hx hb dL_act_421 (lv_at hl 9 rfl) ?_
                have M_423 := c_L_chained l D cy h o S u_404 V hI z2 a (by omega) (by omega) hw_404 H.size
                refine cd_fri (S := qS) (W1 := fun u_423 => (wLA cy h o S u_423 (S 6) (S 7) (kF (S 3)) (mF (S 27 0) (S 29 0)) V)) (ws' := fun u_423 => (wLA cy h o S u_423 (S 6) (S 7) (kF (S 3)) (mF (S 27 0) (S 29 0)) V)) (wc := (wLA cy h o S u_404 (S 6) (S 7) (kF (S 3)) (mF (S 27 0) (S 29 0)) V)) (wr := []) (va_runS (As := [.ref (h 0), .int (nI z2), .int (nI a), .ref (o 3)]) (rest := []) ⟨hx, hb, hml, hown, hts⟩ M_423 (va_cwS 4 hts gL_act_L_chained rfl rfl rfl (by decide +kernel) ⟨Nat.le_of_ble_eq_true rfl, Nat.le_of_ble_eq_true rfl⟩) ⟨wrB.bl, fun U hU hW => ⟨rfl, by rw [hU], by rw [hU]; exact hP, hG.warm hW, hD.weaken (fun _ _ _ _ => trivial)⟩⟩ rfl rfl hl.1 rfl (lv_room (Nat.le_of_ble_eq_true rfl)) dL_act_423 (by exact ⟨Nat.zero_le _, Nat.zero_le _⟩)) hP hD hS hA [0, 1, 2, 3, 4, 5, 6, 7, 8, 9, 10, 11, 12, 13, 14, 15, 16, 17, 18, 19, 20, 21, 22, 23, 24, 25, 26, 27, 28, 29, 30, 31] [] [0, 1, 2, 3, 4, 5, 6, 7, 8, 9, 10, 11, 12, 13, 14, 15, 16, 17, 18, 19, 20, 21, 22, 23, 24, 25, 26, 27, 28, 29, 30, 31] rfl rfl (by decide) (by decide) (by decide) (fun _ => rfl) (fun r_423 u_423 H locs hw_423 hP hD hS => ?_)
                obtain ⟨hr_423, hw_423⟩ := hw_423
                subst hr_423
                have hP : va_P D vwCl (wLA cy h o S u_423 (S 6) (S 7) (kF (S 3)) (mF (S 27 0) (S 29 0)) V) H := hP
                have hD : va_D A (wLA cy h o S u_423 (S 6) (S 7) (kF (S 3)) (mF (S 27 0) (S 29 0)) V) := hD
                refine cd_if_eq (tgt := 433) hx hb dL_act_426 (by decide) (by omega) (fun c_426 => ?_) (fun c_426 => ?_)
                · exact absurd c_426 (by decide)
                · refine lv_iconst (v := nI 1) hx hb dL_act_429 (by decide) ?_
                  refine lv_goto (tgt := 434) hx hb dL_act_430 (by decide) ?_
                  exact W.zret (v := nI 1) hx hb hr rfl (fun t ht hW => ⟨⟨_, (S, u_423, V), rfl, (⟨rfl, hI, h28, hs2, hw_423⟩), by rw [ht]; exact hP, hD⟩, hS.F ht⟩) hS.2.2 dL_act_434
            · refine lv_aload_n hx hb dL_act_371 rfl (lv_at hl 3 rfl) ?_
              refine lv_iload_n hx hb dL_act_372 rfl (lv_at hl 5 rfl) ?_
              refine lv_bipush (v := nI 10) hx hb dL_act_373 (by decide) ?_
              refine lv_ishr hx hb dL_act_375 ?_
              refine lv_iconst (v := nI 3) hx hb dL_act_376 (by decide) ?_
              have M_377 := c_L_at l (y >>> ((nI 10) &&& 31)) 3 (by decide) (by decide)
              refine cd_roi (va_runS (As := [.int (y >>> ((nI 10) &&& 31)), .int (nI 3)]) (rest := [.ref (h 0)]) ⟨hx, hb, hml, hown, hts⟩ M_377 (va_cwS 2 hts gL_act_L_at rfl rfl rfl (by decide +kernel) ⟨Nat.le_of_ble_eq_true rfl, Nat.le_of_ble_eq_true rfl⟩) ⟨nuB.bl, fun U hU hW => ⟨rfl, trivial⟩⟩ rfl rfl hl.1 rfl (lv_room (Nat.le_of_ble_eq_true rfl)) dL_act_377 (by exact ⟨Nat.zero_le _, Nat.zero_le _⟩)) (fun r_377 hr_377 => ?_)
              subst hr_377
              obtain ⟨z, hzl, hze⟩ : ∃ t9 : Nat, t9 < 3 ∧ nI ((y >>> ((nI 10) &&& 31)).toUInt32.toNat / 2 % 3) = nI t9 := ⟨_, Nat.mod_lt _ (by omega), rfl⟩
              refine cd_tp (y := nI z) (hze) ?_
              refine lv_iload hx hb dL_act_380 (lv_at hl 1 rfl) ?_
              refine lv_aload hx hb dL_act_382 (lv_at hl 9 rfl) ?_
              refine lv_aload hx hb dL_act_384 (lv_at hl 10 rfl) ?_
              have M_386 := c_L_cold l D cy h o S J V hI z a (by omega) hal h28 (by omega) s.heap.size
              refine cd_fri (S := qS × (Nat → Int32)) (W1 := fun u_386 => (wLA cy h o (va_up S 4 (ilF (S 4) a z (z + (z + 1 - z)))) u_386.1 (S 6) (S 7) (kF (S 3)) (mF (S 27 0) (S 29 0)) u_386.2)) (ws' := fun u_386 => (wLA cy h o (va_up S 4 (ilF ((S 4)) a z (z + (z + 1 - z)))) u_386.1 (S 6) (S 7) (kF (S 3)) (mF (S 27 0) (S 29 0)) u_386.2)) (wc := (wLA cy h o S J (S 6) (S 7) (kF (S 3)) (mF (S 27 0) (S 29 0)) V)) (wr := []) (va_runS (As := [.ref (h 0), .int (nI z), .int (nI a), .ref (o 3), .ref (o 4)]) (rest := []) ⟨hx, hb, hml, hown, hts⟩ M_386 (va_cwS 5 hts gL_act_L_cold rfl rfl rfl (by decide +kernel) ⟨Nat.le_of_ble_eq_true rfl, Nat.le_of_ble_eq_true rfl⟩) ⟨wrB.bl, fun U hU hW => ⟨rfl, by rw [hU], by rw [hU]; exact hP, hG.warm hW, hD.weaken (fun _ _ _ _ => trivial)⟩⟩ rfl rfl hl.1 rfl (lv_room (Nat.le_of_ble_eq_true rfl)) dL_act_386 (by exact ⟨Nat.zero_le _, Nat.zero_le _⟩)) hP hD hS hA [0, 1, 2, 3, 4, 5, 6, 7, 8, 9, 10, 11, 12, 13, 14, 15, 16, 17, 18, 19, 20, 21, 22, 23, 24, 25, 26, 27, 28, 29, 30, 31] [] [0, 1, 2, 3, 4, 5, 6, 7, 8, 9, 10, 11, 12, 13, 14, 15, 16, 17, 18, 19, 20, 21, 22, 23, 24, 25, 26, 27, 28, 29, 30, 31] rfl rfl (by decide) (by decide) (by decide) (fun _ => rfl) (fun r_386 u_386 H locs hw_386 hP hD hS => ?_)
              obtain ⟨hr_386, hw_386⟩ := hw_386
              subst hr_386
              have hP : va_P D vwCl (wLA cy h o (va_up S 4 (ilF ((S 4)) a z (z + (z + 1 - z)))) u_386.1 (S 6) (S 7) (kF (S 3)) (mF (S 27 0) (S 29 0)) u_386.2) H := hP
              have hD : va_D A (wLA cy h o (va_up S 4 (ilF ((S 4)) a z (z + (z + 1 - z)))) u_386.1 (S 6) (S 7) (kF (S 3)) (mF (S 27 0) (S 29 0)) u_386.2) := hD
              exact W.zret (v := nI 1) hx hb hr rfl (fun t ht hW => ⟨⟨_, ((va_up S 4 (ilF ((S 4)) a z (z + (z + 1 - z)))), u_386.1, u_386.2), rfl, (⟨rfl, in_cold hI hal _ _, h28, hs2, hw_386⟩), by rw [ht]; exact hP, hD⟩, hS.F ht⟩) hS.2.2 dL_act_389
          · refine lv_aload_n hx hb dL_act_337 rfl (lv_at hl 3 rfl) ?_
            refine lv_iload hx hb dL_act_338 (lv_at hl 1 rfl) ?_
            refine lv_iconst (v := nI 4) hx hb dL_act_340 (by decide) ?_
            refine lv_iload_n hx hb dL_act_341 rfl (lv_at hl 5 rfl) ?_
            refine lv_bipush (v := nI 10) hx hb dL_act_342 (by decide) ?_
            refine lv_ishr hx hb dL_act_344 ?_
            refine lv_iconst (v := nI 3) hx hb dL_act_345 (by decide) ?_
            have M_346 := c_L_at l (y >>> ((nI 10) &&& 31)) 3 (by decide) (by decide)
            refine cd_roi (va_runS (As := [.int (y >>> ((nI 10) &&& 31)), .int (nI 3)]) (rest := [.int (nI 4), .int (nI a), .ref (h 0)]) ⟨hx, hb, hml, hown, hts⟩ M_346 (va_cwS 2 hts gL_act_L_at rfl rfl rfl (by decide +kernel) ⟨Nat.le_of_ble_eq_true rfl, Nat.le_of_ble_eq_true rfl⟩) ⟨nuB.bl, fun U hU hW => ⟨rfl, trivial⟩⟩ rfl rfl hl.1 rfl (lv_room (Nat.le_of_ble_eq_true rfl)) dL_act_346 (by exact ⟨Nat.zero_le _, Nat.zero_le _⟩)) (fun r_346 hr_346 => ?_)
            subst hr_346
            obtain ⟨z, hzl, hze⟩ : ∃ t9 : Nat, t9 < 3 ∧ nI ((y >>> ((nI 10) &&& 31)).toUInt32.toNat / 2 % 3) = nI t9 := ⟨_, Nat.mod_lt _ (by omega), rfl⟩
            refine cd_tp (y := nI z) (hze) ?_
            refine cd_iadd hx hb dL_act_349 ?_
            have M_350 := c_X6_setSize l D cy h S J hI a (4 + z) (by omega) (by omega) s.heap.size
            have hPc := hP.sub (ws' := (wC cy h S J)) [0, 1, 2, 3, 4, 5, 6, 7, 8, 9, 10, 11, 12, 13, 14, 15, 16, 17, 18, 19, 20, 21, 22, 23, 24, 25, 26] rfl
            have hDc := hD.sub (ws' := (wC cy h S J)) [0, 1, 2, 3, 4, 5, 6, 7, 8, 9, 10, 11, 12, 13, 14, 15, 16, 17, 18, 19, 20, 21, 22, 23, 24, 25, 26] (by decide) rfl
            refine cd_fri (S := Unit) (W1 := fun u => (wC cy h (va_up S 2 (upd (S 2) a (nI (4 + z)))) J)) (ws' := fun u => (wLA cy h o (va_up S 2 (upd ((S 2)) a (nI (4 + z)))) J (S 6) (S 7) (kF (S 3)) (mF (S 27 0) (S 29 0)) V)) (wc := (wC cy h S J)) (wr := [(o 0, aI cy 32 (S 6)), (o 1, aI cy 8 (S 7)), (o 2, aI cy 12 (kF (S 3))), (o 3, aI cy 2 (mF (S 27 0) (S 29 0))), (o 4, aI cy 8 V)]) (va_runV (As := [.int (nI a), .int (nI (4 + z))]) (rest := []) ⟨hx, hb, hml, hown, hts⟩ M_350 (cwV 2 hts gL_act_X6_setSize rfl rfl rfl (by decide +kernel) ⟨Nat.le_of_ble_eq_true rfl, Nat.le_of_ble_eq_true rfl⟩) ⟨wrB.bl, va_recv hK hP (ci := 6) (q0 := 0) rfl rfl, fun U hU hW => ⟨rfl, by rw [hU], by rw [hU]; exact hPc, hG.warm hW, hDc.weaken (fun _ _ _ _ => trivial)⟩⟩ rfl rfl hl.1 rfl (lv_room (Nat.le_of_ble_eq_true rfl)) dL_act_350 (by exact ⟨Nat.zero_le _, Nat.zero_le _⟩)) hP hD hS hA [0, 1, 2, 3, 4, 5, 6, 7, 8, 9, 10, 11, 12, 13, 14, 15, 16, 17, 18, 19, 20, 21, 22, 23, 24, 25, 26] [27, 28, 29, 30, 31] [5, 6, 7, 8, 9, 10, 11, 12, 13, 14, 15, 16, 17, 18, 19, 20, 21, 22, 23, 24, 25, 26, 27, 28, 29, 30, 31, 0, 1, 2, 3, 4] rfl rfl (by decide) (by decide) (by decide) (fun _ => rfl) (fun r_350 _ H locs hw_350 hP hD hS => ?_)
            subst hw_350
            refine cd_tp (y := (S 2) a) rfl ?_
            have hP : va_P D vwCl (wLA cy h o (va_up S 2 (upd ((S 2)) a (nI (4 + z)))) J (S 6) (S 7) (kF (S 3)) (mF (S 27 0) (S 29 0)) V) H := hP
            have hD : va_D A (wLA cy h o (va_up S 2 (upd ((S 2)) a (nI (4 + z)))) J (S 6) (S 7) (kF (S 3)) (mF (S 27 0) (S 29 0)) V) := hD
            have hs2n : ∀ i, i < 12 → bd (upd (S 2) a (nI (4 + z)) i) 10 := fun i hi => by
              by_cases e9 : i = a
              · rw [e9, upd_s]; exact bd_nI (by omega) (by decide)
              · rw [upd_n _ _ e9]; exact hs2 i hi
            have h2a := (hs2 a hal).2
            refine cd_tp (y := nI (nv (S 2 a))) ((hs2 a hal).1) ?_
            refine lv_bipush (v := nI 9) hx hb dL_act_353 (by decide) ?_
            refine cd_icmp_gt (tgt := 362) hx hb dL_act_355 (by decide) (by omega) (by omega) (fun c_355 => ?_) (fun c_355 => ?_)
            · exact (show False by omega).elim
            · refine lv_iconst (v := nI 1) hx hb dL_act_358 (by decide) ?_
              refine lv_goto (tgt := 363) hx hb dL_act_359 (by decide) ?_
              exact W.zret (v := nI 1) hx hb hr rfl (fun t ht hW => ⟨⟨_, ((va_up S 2 (upd ((S 2)) a (nI (4 + z)))), J, V), rfl, (⟨rfl, in_setSize hI _, h28, hs2n, hJ⟩), by rw [ht]; exact hP, hD⟩, hS.F ht⟩) hS.2.2 dL_act_363
        · refine lv_aload hx hb dL_act_261 (lv_at hl 9 rfl) ?_
          refine lv_iconst (v := nI 1) hx hb dL_act_263 (by decide) ?_
          refine cd_iald (f := mF (S 27 0) (S 29 0)) hx hb hK hP 30 rfl (by omega) (by decide) dL_act_264 ?_
          refine cd_tp (y := S 29 0) (rfl) ?_
          refine cd_tp (y := nI (nv (S 29 0))) ((iv_29 hI).1) ?_
          refine lv_bipush (v := nI 40) hx hb dL_act_265 (by decide) ?_
          refine cd_icmp_ne (tgt := 272) hx hb dL_act_267 (by decide) (by omega) (by omega) (fun c_267 => ?_) (fun c_267 => ?_)
          · refine lv_iconst (v := nI 4) hx hb dL_act_272 (by decide) ?_
            refine lv_iload_n hx hb dL_act_273 rfl (lv_at hl 5 rfl) ?_
            refine lv_bipush (v := nI 10) hx hb dL_act_274 (by decide) ?_
            refine lv_ishr hx hb dL_act_276 ?_
            refine lv_iconst (v := nI 3) hx hb dL_act_277 (by decide) ?_
            have M_278 := c_L_at l (y >>> ((nI 10) &&& 31)) 3 (by decide) (by decide)
            refine cd_roi (va_runS (As := [.int (y >>> ((nI 10) &&& 31)), .int (nI 3)]) (rest := [.int (nI 4)]) ⟨hx, hb, hml, hown, hts⟩ M_278 (va_cwS 2 hts gL_act_L_at rfl rfl rfl (by decide +kernel) ⟨Nat.le_of_ble_eq_true rfl, Nat.le_of_ble_eq_true rfl⟩) ⟨nuB.bl, fun U hU hW => ⟨rfl, trivial⟩⟩ rfl rfl hl.1 rfl (lv_room (Nat.le_of_ble_eq_true rfl)) dL_act_278 (by exact ⟨Nat.zero_le _, Nat.zero_le _⟩)) (fun r_278 hr_278 => ?_)
            subst hr_278
            obtain ⟨z, hzl, hze⟩ : ∃ t9 : Nat, t9 < 3 ∧ nI ((y >>> ((nI 10) &&& 31)).toUInt32.toNat / 2 % 3) = nI t9 := ⟨_, Nat.mod_lt _ (by omega), rfl⟩
            refine cd_tp (y := nI z) (hze) ?_
            refine cd_iadd hx hb dL_act_281 ?_
            refine lv_istore (lv' := [(11, .int (nI (4 + z))), (10, .int (nI q)), (9, .int (nI a)), (8, .int (nI t)), (0, .ref (h 0)), (1, .int x), (2, .int y), (3, .ref (o 0)), (4, .ref (o 1)), (5, .ref (o 2)), (6, .ref (o 3)), (7, .ref (o 4))]) hx hb dL_act_282 hl (by decide) rfl (fun ls hl => ?_)
            refine lv_aload hx hb dL_act_284 (lv_at hl 10 rfl) ?_
            refine lv_iconst (v := nI 1) hx hb dL_act_286 (by decide) ?_
            refine lv_dup2_11 hx hb dL_act_287 rfl rfl ?_
            refine cd_iald (f := mF (S 27 0) (S 29 0)) hx hb hK hP 30 rfl (by omega) (by decide) dL_act_288 ?_
            refine cd_tp (y := S 29 0) (rfl) ?_
            refine cd_tp (y := nI (nv (S 29 0))) ((iv_29 hI).1) ?_
            refine lv_iconst (v := nI 1) hx hb dL_act_289 (by decide) ?_
            refine cd_iadd hx hb dL_act_290 ?_
            refine cd_iast (f := mF (S 27 0) (S 29 0)) hx hb hK hP hD hS 30 rfl (by omega) (by decide) dL_act_291 (fun H locs hP hD hS => ?_)
            have hP : va_P D vwCl (wLA cy h o S J (S 6) (S 7) (kF (S 3)) (upd (mF (S 27 0) (S 29 0)) 1 (nI ((nv (S 29 0)) + 1))) V) H := hP
            have hD : va_D A (wLA cy h o S J (S 6) (S 7) (kF (S 3)) (upd (mF (S 27 0) (S 29 0)) 1 (nI ((nv (S 29 0)) + 1))) V) := hD
            have e_291 : (upd (mF (S 27 0) (S 29 0)) 1 (nI ((nv (S 29 0)) + 1))) = (mF (S 27 0) (nI (nv (S 29 0) + 1))) := mF_1 _ _ _
            rw [e_291] at hP hD
            have hP : va_P D vwCl (wLA cy h o S J (S 6) (S 7) (kF (S 3)) (mF (S 27 0) (nI (nv (S 29 0) + 1))) V) H := hP
            have hD : va_D A (wLA cy h o S J (S 6) (S 7) (kF (S 3)) (mF (S 27 0) (nI (nv (S 29 0) + 1))) V) := hD
            refine lv_aload_n hx hb dL_act_292 rfl (lv_at hl 4 rfl) ?_
            refine lv_iload hx hb dL_act_293 (lv_at hl 1 rfl) ?_
            refine lv_iload hx hb dL_act_295 (lv_at hl 0 rfl) ?_
            have M_297 := c_X6_costume l D cy h S J hI q (4 + z) (by omega) (by omega) (by omega) H.size
            have hPc := hP.sub (ws' := (wC cy h S J)) [0, 1, 2, 3, 4, 5, 6, 7, 8, 9, 10, 11, 12, 13, 14, 15, 16, 17, 18, 19, 20, 21, 22, 23, 24, 25, 26] rfl
            have hDc := hD.sub (ws' := (wC cy h S J)) [0, 1, 2, 3, 4, 5, 6, 7, 8, 9, 10, 11, 12, 13, 14, 15, 16, 17, 18, 19, 20, 21, 22, 23, 24, 25, 26] (by decide) rfl
            refine cd_fri (S := Unit) (W1 := fun u => (wC cy h (va_up (va_up (va_up S 10 (upd (S 10) (nv (S 29 0)) (nI q))) 9 (upd (S 9) (nv (S 29 0)) (nI (4 + z)))) 29 (fun _ => nI (nv (S 29 0) + 1))) J)) (ws' := fun u => (wLA cy h o (va_up (va_up (va_up S 10 (upd ((S 10)) (nv (S 29 0)) (nI q))) 9 (upd ((S 9)) (nv (S 29 0)) (nI (4 + z)))) 29 (fun _ => nI (nv (S 29 0) + 1))) J (S 6) (S 7) (kF (S 3)) (mF (S 27 0) (nI (nv (S 29 0) + 1))) V)) (wc := (wC cy h S J)) (wr := [(o 0, aI cy 32 (S 6)), (o 1, aI cy 8 (S 7)), (o 2, aI cy 12 (kF (S 3))), (o 3, aI cy 2 (mF (S 27 0) (nI (nv (S 29 0) + 1)))), (o 4, aI cy 8 V)]) (va_runV (As := [.int (nI q), .int (nI (4 + z))]) (rest := []) ⟨hx, hb, hml, hown, hts⟩ M_297 (cwV 2 hts gL_act_X6_costume rfl rfl rfl (by decide +kernel) ⟨Nat.le_of_ble_eq_true rfl, Nat.le_of_ble_eq_true rfl⟩) ⟨wrB.bl, va_recv hK hP (ci := 6) (q0 := 0) rfl rfl, fun U hU hW => ⟨rfl, by rw [hU], by rw [hU]; exact hPc, hG.warm hW, hDc.weaken (fun _ _ _ _ => trivial)⟩⟩ rfl rfl hl.1 rfl (lv_room (Nat.le_of_ble_eq_true rfl)) dL_act_297 (by exact ⟨Nat.zero_le _, Nat.zero_le _⟩)) hP hD hS hA [0, 1, 2, 3, 4, 5, 6, 7, 8, 9, 10, 11, 12, 13, 14, 15, 16, 17, 18, 19, 20, 21, 22, 23, 24, 25, 26] [27, 28, 29, 30, 31] [5, 6, 7, 8, 9, 10, 11, 12, 13, 14, 15, 16, 17, 18, 19, 20, 21, 22, 23, 24, 25, 26, 27, 28, 29, 30, 31, 0, 1, 2, 3, 4] rfl rfl (by decide) (by decide) (by decide) (fun _ => rfl) (fun r_297 _ H locs hw_297 hP hD hS => ?_)
            subst hw_297
            have hP : va_P D vwCl (wLA cy h o (va_up (va_up (va_up S 10 (upd ((S 10)) (nv (S 29 0)) (nI q))) 9 (upd ((S 9)) (nv (S 29 0)) (nI (4 + z)))) 29 (fun _ => nI (nv (S 29 0) + 1))) J (S 6) (S 7) (kF (S 3)) (mF (S 27 0) (nI (nv (S 29 0) + 1))) V) H := hP
            have hD : va_D A (wLA cy h o (va_up (va_up (va_up S 10 (upd ((S 10)) (nv (S 29 0)) (nI q))) 9 (upd ((S 9)) (nv (S 29 0)) (nI (4 + z)))) 29 (fun _ => nI (nv (S 29 0) + 1))) J (S 6) (S 7) (kF (S 3)) (mF (S 27 0) (nI (nv (S 29 0) + 1))) V) := hD
            refine lv_aload hx hb dL_act_300 (lv_at hl 10 rfl) ?_
            refine lv_iconst (v := nI 1) hx hb dL_act_302 (by decide) ?_
            refine cd_iald (f := mF (S 27 0) (nI (nv (S 29 0) + 1))) hx hb hK hP 30 rfl (by omega) (by decide) dL_act_303 ?_
            refine cd_tp (y := nI (nv (S 29 0) + 1)) (rfl) ?_
            refine lv_iconst (v := nI 1) hx hb dL_act_304 (by decide) ?_
            refine cd_isub hx hb (by omega) dL_act_305 ?_
            refine cd_icmp_ne (tgt := 328) hx hb dL_act_306 (by decide) (by omega) (by omega) (fun c_306 => ?_) (fun c_306 => ?_)
            · exact (show False by omega).elim
            · refine lv_aload_n hx hb dL_act_309 rfl (lv_at hl 4 rfl) ?_
              refine lv_aload hx hb dL_act_310 (lv_at hl 10 rfl) ?_
              refine lv_iconst (v := nI 1) hx hb dL_act_312 (by decide) ?_
              refine cd_iald (f := mF (S 27 0) (nI (nv (S 29 0) + 1))) hx hb hK hP 30 rfl (by omega) (by decide) dL_act_313 ?_
              refine cd_tp (y := nI (nv (S 29 0) + 1)) (rfl) ?_
              refine lv_iconst (v := nI 1) hx hb dL_act_314 (by decide) ?_
              refine cd_isub hx hb (by omega) dL_act_315 ?_
              have M_316 := c_X6_sizeOf l D cy h (va_up (va_up (va_up S 10 (upd ((S 10)) (nv (S 29 0)) (nI q))) 9 (upd ((S 9)) (nv (S 29 0)) (nI (4 + z)))) 29 (fun _ => nI (nv (S 29 0) + 1))) J (in_costume hI _ _ (by omega)) ((nv (S 29 0) + 1) - 1) (by show _ < nv (nI (nv (S 29 0) + 1)); rw [nv_nI (by omega)]; omega)
              have hPc := hP.sub (ws' := (wC cy h (va_up (va_up (va_up S 10 (upd ((S 10)) (nv (S 29 0)) (nI q))) 9 (upd ((S 9)) (nv (S 29 0)) (nI (4 + z)))) 29 (fun _ => nI (nv (S 29 0) + 1))) J)) [0, 1, 2, 3, 4, 5, 6, 7, 8, 9, 10, 11, 12, 13, 14, 15, 16, 17, 18, 19, 20, 21, 22, 23, 24, 25, 26] rfl
              refine cd_roi (va_runV (As := [.int (nI ((nv (S 29 0) + 1) - 1))]) (rest := []) ⟨hx, hb, hml, hown, hts⟩ M_316 (cwV 1 hts gL_act_X6_sizeOf rfl rfl rfl (by decide +kernel) ⟨Nat.le_of_ble_eq_true rfl, Nat.le_of_ble_eq_true rfl⟩) ⟨roB.bl, va_recv hK hP (ci := 6) (q0 := 0) rfl rfl, fun U hU hW => ⟨rfl, by rw [hU]; exact hPc, hG.warm hW⟩⟩ rfl rfl hl.1 rfl (lv_room (Nat.le_of_ble_eq_true rfl)) dL_act_316 (by exact ⟨Nat.zero_le _, Nat.zero_le _⟩)) (fun r_316 hr_316 => ?_)
              subst hr_316
              refine cd_tp (y := (upd ((S 9)) (nv (S 29 0)) (nI (4 + z))) ((nv (S 29 0) + 1) - 1)) rfl ?_
              refine cd_tp (y := nI (4 + z)) (by rw [Nat.add_sub_cancel]; exact upd_s _ _ _) ?_
              refine lv_iload hx hb dL_act_319 (lv_at hl 0 rfl) ?_
              refine cd_icmp_ne (tgt := 328) hx hb dL_act_321 (by decide) (by omega) (by omega) (fun c_321 => ?_) (fun c_321 => ?_)
              · exact absurd rfl c_321
              · refine lv_iconst (v := nI 1) hx hb dL_act_324 (by decide) ?_
                refine lv_goto (tgt := 329) hx hb dL_act_325 (by decide) ?_
                exact W.zret (v := nI 1) hx hb hr rfl (fun t ht hW => ⟨⟨_, ((va_up (va_up (va_up S 10 (upd ((S 10)) (nv (S 29 0)) (nI q))) 9 (upd ((S 9)) (nv (S 29 0)) (nI (4 + z)))) 29 (fun _ => nI (nv (S 29 0) + 1))), J, V), rfl, (⟨rfl, in_costume hI _ _ (by omega), h28, hs2, hJ⟩), by rw [ht]; exact hP, hD⟩, hS.F ht⟩) hS.2.2 dL_act_329
          · refine lv_iconst (v := nI 1) hx hb dL_act_270 (by decide) ?_
            exact W.zret (v := nI 1) hx hb hr rfl (fun t ht hW => ⟨⟨_, (S, J, V), rfl, (⟨rfl, hI, h28, hs2, hJ⟩), by rw [ht]; exact hP, hD⟩, hS.F ht⟩) hS.2.2 dL_act_271
      · refine lv_aload hx hb dL_act_205 (lv_at hl 8 rfl) ?_
        refine lv_iload hx hb dL_act_207 (lv_at hl 1 rfl) ?_
        refine cd_iald (f := kF (S 3)) hx hb hK hP 29 rfl (by omega) (by decide) dL_act_209 ?_
        have hpl := pcn_le (nv (S 3 a)) 12
        refine cd_tp (y := nI (pcn 12 (nv (S 3 a)))) (rfl) ?_
        refine lv_iconst (v := nI 4) hx hb dL_act_210 (by decide) ?_
        refine cd_icmp_lt (tgt := 216) hx hb dL_act_211 (by decide) (by omega) (by omega) (fun c_211 => ?_) (fun c_211 => ?_)
        · have hpa := pcn_add (x := nv (S 3 a)) (p := q)
          have hpk : pcn 12 (nv (S 3 a) ||| 2 ^ q) ≤ 4 := by omega
          have hp1 := pcn_one (x := nv (S 3 a)) (show q < 8 by omega)
          have hor := or_lt (n := 8) (iv_3 hI a hal).1.2 (show q < 8 by omega)
          refine lv_aload hx hb dL_act_216 (lv_at hl 8 rfl) ?_
          refine lv_iload hx hb dL_act_218 (lv_at hl 1 rfl) ?_
          refine lv_aload_n hx hb dL_act_220 rfl (lv_at hl 3 rfl) ?_
          refine lv_iload hx hb dL_act_221 (lv_at hl 1 rfl) ?_
          refine lv_iload hx hb dL_act_223 (lv_at hl 0 rfl) ?_
          refine lv_iconst (v := nI 1) hx hb dL_act_225 (by decide) ?_
          have M_226 := c_X6_learn l D cy h S J hI a q (by omega) (by omega) hpk s.heap.size
          have hPc := hP.sub (ws' := (wC cy h S J)) [0, 1, 2, 3, 4, 5, 6, 7, 8, 9, 10, 11, 12, 13, 14, 15, 16, 17, 18, 19, 20, 21, 22, 23, 24, 25, 26] rfl
          have hDc := hD.sub (ws' := (wC cy h S J)) [0, 1, 2, 3, 4, 5, 6, 7, 8, 9, 10, 11, 12, 13, 14, 15, 16, 17, 18, 19, 20, 21, 22, 23, 24, 25, 26] (by decide) rfl
          refine cd_fri (S := Unit) (W1 := fun u => (wC cy h (va_up S 3 (upd (S 3) a (nI (nv (S 3 a) ||| 2 ^ q)))) J)) (ws' := fun u => (wLA cy h o (va_up S 3 (upd ((S 3)) a (nI (nv ((S 3) a) ||| 2 ^ q)))) J (S 6) (S 7) (kF (S 3)) (mF (S 27 0) (S 29 0)) V)) (wc := (wC cy h S J)) (wr := [(o 0, aI cy 32 (S 6)), (o 1, aI cy 8 (S 7)), (o 2, aI cy 12 (kF (S 3))), (o 3, aI cy 2 (mF (S 27 0) (S 29 0))), (o 4, aI cy 8 V)]) (va_runV (As := [.int (nI a), .int (nI q), .int (nI 1)]) (rest := [.int (nI a), .ref (o 2)]) ⟨hx, hb, hml, hown, hts⟩ M_226 (cwV 3 hts gL_act_X6_learn rfl rfl rfl (by decide +kernel) ⟨Nat.le_of_ble_eq_true rfl, Nat.le_of_ble_eq_true rfl⟩) ⟨wrB.bl, va_recv hK hP (ci := 6) (q0 := 0) rfl rfl, fun U hU hW => ⟨rfl, by rw [hU], by rw [hU]; exact hPc, hG.warm hW, hDc.weaken (fun _ _ _ _ => trivial)⟩⟩ rfl rfl hl.1 rfl (lv_room (Nat.le_of_ble_eq_true rfl)) dL_act_226 (by exact ⟨Nat.zero_le _, Nat.zero_le _⟩)) hP hD hS hA [0, 1, 2, 3, 4, 5, 6, 7, 8, 9, 10, 11, 12, 13, 14, 15, 16, 17, 18, 19, 20, 21, 22, 23, 24, 25, 26] [27, 28, 29, 30, 31] [5, 6, 7, 8, 9, 10, 11, 12, 13, 14, 15, 16, 17, 18, 19, 20, 21, 22, 23, 24, 25, 26, 27, 28, 29, 30, 31, 0, 1, 2, 3, 4] rfl rfl (by decide) (by decide) (by decide) (fun _ => rfl) (fun r_226 _ H locs hw_226 hP hD hS => ?_)
          subst hw_226
          refine cd_tp (y := nI (pcn 12 (nv ((S 3) a) ||| 2 ^ q))) rfl ?_
          have hP : va_P D vwCl (wLA cy h o (va_up S 3 (upd ((S 3)) a (nI (nv ((S 3) a) ||| 2 ^ q)))) J (S 6) (S 7) (kF (S 3)) (mF (S 27 0) (S 29 0)) V) H := hP
          have hD : va_D A (wLA cy h o (va_up S 3 (upd ((S 3)) a (nI (nv ((S 3) a) ||| 2 ^ q)))) J (S 6) (S 7) (kF (S 3)) (mF (S 27 0) (S 29 0)) V) := hD
          refine cd_iast (f := kF (S 3)) hx hb hK hP hD hS 29 rfl (by omega) (by decide) dL_act_229 (fun H locs hP hD hS => ?_)
          have hP : va_P D vwCl (wLA cy h o (va_up S 3 (upd ((S 3)) a (nI (nv ((S 3) a) ||| 2 ^ q)))) J (S 6) (S 7) (upd (kF (S 3)) a (nI (pcn 12 (nv ((S 3) a) ||| 2 ^ q)))) (mF (S 27 0) (S 29 0)) V) H := hP
          have hD : va_D A (wLA cy h o (va_up S 3 (upd ((S 3)) a (nI (nv ((S 3) a) ||| 2 ^ q)))) J (S 6) (S 7) (upd (kF (S 3)) a (nI (pcn 12 (nv ((S 3) a) ||| 2 ^ q)))) (mF (S 27 0) (S 29 0)) V) := hD
          refine lv_aload hx hb dL_act_230 (lv_at hl 8 rfl) ?_
          refine lv_iload hx hb dL_act_232 (lv_at hl 1 rfl) ?_
          refine cd_iald (f := upd (kF (S 3)) a (nI (pcn 12 (nv ((S 3) a) ||| 2 ^ q)))) hx hb hK hP 29 rfl (by omega) (by decide) dL_act_234 ?_
          refine cd_tp (y := nI (pcn 12 (nv (S 3 a) ||| 2 ^ q))) (upd_s _ _ _) ?_
          refine lv_iconst (v := nI 1) hx hb dL_act_235 (by decide) ?_
          refine cd_icmp_lt (tgt := 252) hx hb dL_act_236 (by decide) (by omega) (by omega) (fun c_236 => ?_) (fun c_236 => ?_)
          · exact (show False by omega).elim
          · refine lv_aload hx hb dL_act_239 (lv_at hl 8 rfl) ?_
            refine lv_iload hx hb dL_act_241 (lv_at hl 1 rfl) ?_
            refine cd_iald (f := upd (kF (S 3)) a (nI (pcn 12 (nv ((S 3) a) ||| 2 ^ q)))) hx hb hK hP 29 rfl (by omega) (by decide) dL_act_243 ?_
            refine cd_tp (y := nI (pcn 12 (nv (S 3 a) ||| 2 ^ q))) (upd_s _ _ _) ?_
            refine lv_iconst (v := nI 4) hx hb dL_act_244 (by decide) ?_
            refine cd_icmp_gt (tgt := 252) hx hb dL_act_245 (by decide) (by omega) (by omega) (fun c_245 => ?_) (fun c_245 => ?_)
            · exact (show False by omega).elim
            · rw [kF_s (S 3) a (nv (S 3 a) ||| 2 ^ q) (by omega)] at hP hD
              have hP : va_P D vwCl (wLA cy h o (va_up S 3 (upd ((S 3)) a (nI (nv ((S 3) a) ||| 2 ^ q)))) J (S 6) (S 7) (kF (upd (S 3) a (nI (nv (S 3 a) ||| 2 ^ q)))) (mF (S 27 0) (S 29 0)) V) H := hP
              have hD : va_D A (wLA cy h o (va_up S 3 (upd ((S 3)) a (nI (nv ((S 3) a) ||| 2 ^ q)))) J (S 6) (S 7) (kF (upd (S 3) a (nI (nv (S 3 a) ||| 2 ^ q)))) (mF (S 27 0) (S 29 0)) V) := hD
              refine lv_iconst (v := nI 1) hx hb dL_act_248 (by decide) ?_
              refine lv_goto (tgt := 253) hx hb dL_act_249 (by decide) ?_
              exact W.zret (v := nI 1) hx hb hr rfl (fun t ht hW => ⟨⟨_, ((va_up S 3 (upd ((S 3)) a (nI (nv ((S 3) a) ||| 2 ^ q)))), J, V), rfl, (⟨rfl, in_learn hI hal (by omega) hpk, h28, hs2, hJ⟩), by rw [ht]; exact hP, hD⟩, hS.F ht⟩) hS.2.2 dL_act_253
        · refine lv_iconst (v := nI 1) hx hb dL_act_214 (by decide) ?_
          exact W.zret (v := nI 1) hx hb hr rfl (fun t ht hW => ⟨⟨_, (S, J, V), rfl, (⟨rfl, hI, h28, hs2, hJ⟩), by rw [ht]; exact hP, hD⟩, hS.F ht⟩) hS.2.2 dL_act_215
    · refine lv_iload hx hb dL_act_111 (lv_at hl 0 rfl) ?_
      refine lv_iload hx hb dL_act_113 (lv_at hl 1 rfl) ?_
      refine lv_aload_n hx hb dL_act_115 rfl (lv_at hl 6 rfl) ?_
      refine lv_aload hx hb dL_act_116 (lv_at hl 7 rfl) ?_
      have M_118 := c_L_rank l D cy o S hI q (nI a) (by omega)
      have hPc := hP.sub (ws' := (wRN cy o (S 6) (S 7))) [27, 28] rfl
      refine cd_roi (va_runS (As := [.int (nI q), .int (nI a), .ref (o 0), .ref (o 1)]) (rest := []) ⟨hx, hb, hml, hown, hts⟩ M_118 (va_cwS 4 hts gL_act_L_rank rfl rfl rfl (by decide +kernel) ⟨Nat.le_of_ble_eq_true rfl, Nat.le_of_ble_eq_true rfl⟩) ⟨roB.bl, fun U hU hW => ⟨rfl, by rw [hU]; exact hPc, hG.warm hW⟩⟩ rfl rfl hl.1 rfl (lv_room (Nat.le_of_ble_eq_true rfl)) dL_act_118 (by exact ⟨Nat.zero_le _, Nat.zero_le _⟩)) (fun r_118 hr_118 => ?_)
      subst hr_118
      refine lv_istore (lv' := [(11, .int (rkI S q (nI a))), (10, .int (nI q)), (9, .int (nI a)), (8, .int (nI t)), (0, .ref (h 0)), (1, .int x), (2, .int y), (3, .ref (o 0)), (4, .ref (o 1)), (5, .ref (o 2)), (6, .ref (o 3)), (7, .ref (o 4))]) hx hb dL_act_121 hl (by decide) rfl (fun ls hl => ?_)
      refine lv_iload hx hb dL_act_123 (lv_at hl 0 rfl) ?_
      refine lv_if_ge (tgt := 130) hx hb dL_act_125 (by decide) (fun c_125 => ?_) (fun c_125 => ?_)
      · have hrk0 := rk_ge c_125
        have hrk := rk_rng hrk0
        have hrk2 := hrk.2
        have hl : lv_has ls 13 [(11, .int (nI (nv (rkI S q (nI a))))), (10, .int (nI q)), (9, .int (nI a)), (8, .int (nI t)), (0, .ref (h 0)), (1, .int x), (2, .int y), (3, .ref (o 0)), (4, .ref (o 1)), (5, .ref (o 2)), (6, .ref (o 3)), (7, .ref (o 4))] := Eq.mp (congrArg (fun z9 : Int32 => lv_has ls 13 [(11, .int z9), (10, .int (nI q)), (9, .int (nI a)), (8, .int (nI t)), (0, .ref (h 0)), (1, .int x), (2, .int y), (3, .ref (o 0)), (4, .ref (o 1)), (5, .ref (o 2)), (6, .ref (o 3)), (7, .ref (o 4))]) (show (rkI S q (nI a) : Int32) = nI (nv (rkI S q (nI a))) from hrk.1)) hl
        refine lv_aload hx hb dL_act_130 (lv_at hl 8 rfl) ?_
        refine lv_iload hx hb dL_act_132 (lv_at hl 1 rfl) ?_
        refine lv_dup2_11 hx hb dL_act_134 rfl rfl ?_
        refine cd_iald (f := S 7) hx hb hK hP 28 rfl (by omega) (by decide) dL_act_135 ?_
        refine cd_tp (y := nI (nv (S 7 q))) ((iv_7 hI q (by omega)).1) ?_
        refine lv_iconst (v := nI 1) hx hb dL_act_136 (by decide) ?_
        refine cd_isub hx hb (by omega) dL_act_137 ?_
        refine cd_iast (f := S 7) hx hb hK hP hD hS 28 rfl (by omega) (by decide) dL_act_138 (fun H locs hP hD hS => ?_)
        have hP : va_P D vwCl (wLA cy h o S J (S 6) (upd (S 7) q (nI ((nv (S 7 q)) - 1))) (kF (S 3)) (mF (S 27 0) (S 29 0)) V) H := hP
        have hD : va_D A (wLA cy h o S J (S 6) (upd (S 7) q (nI ((nv (S 7 q)) - 1))) (kF (S 3)) (mF (S 27 0) (S 29 0)) V) := hD
        refine lv_iload hx hb dL_act_139 (lv_at hl 0 rfl) ?_
        refine lv_istore (lv' := [(12, .int (nI (nv (rkI S q (nI a))))), (11, .int (nI (nv (rkI S q (nI a))))), (10, .int (nI q)), (9, .int (nI a)), (8, .int (nI t)), (0, .ref (h 0)), (1, .int x), (2, .int y), (3, .ref (o 0)), (4, .ref (o 1)), (5, .ref (o 2)), (6, .ref (o 3)), (7, .ref (o 4))]) hx hb dL_act_141 hl (by decide) rfl (fun ls hl => ?_)
        have e0 : sfT (S 6) (q * 4 + nv (rkI S q (nI a))) (q * 4 + (nv (rkI S q (nI a)) + 1)) = S 6 := sfT_0 _ _
        refine wh1 (nL := 13) (fun (k : Nat) => nv (rkI S q (nI a)) ≤ k ∧ k + 1 ≤ nv (S 7 q)) (fun (k : Nat) => nv (S 7 q) - k) (fun (k : Nat) => [(0, .ref (h 0)), (1, .int x), (2, .int y), (3, .ref (o 0)), (4, .ref (o 1)), (5, .ref (o 2)), (6, .ref (o 3)), (7, .ref (o 4)), (8, .int (nI t)), (9, .int (nI a)), (10, .int (nI q)), (11, .int (nI (nv (rkI S q (nI a))))), (12, .int (nI k))]) (fun (k : Nat) => (wLA cy h o S J (sfT (S 6) (q * 4 + nv (rkI S q (nI a))) (q * 4 + (k + 1))) (upd (S 7) q (nI ((nv (S 7 q)) - 1))) (kF (S 3)) (mF (S 27 0) (S 29 0)) V)) (fun k hi_143 ih_143 H locs hP hD hS ls hl => ?_) (nv (rkI S q (nI a))) (⟨Nat.le_refl _, by omega⟩) (by rw [e0]; exact hP) (by rw [e0]; exact hD) hS (lv_sub hl [5, 6, 7, 8, 9, 10, 11, 12, 4, 3, 2, 1, 0] rfl)
        have hP : va_P D vwCl (wLA cy h o S J (sfT (S 6) (q * 4 + nv (rkI S q (nI a))) (q * 4 + (k + 1))) (upd (S 7) q (nI ((nv (S 7 q)) - 1))) (kF (S 3)) (mF (S 27 0) (S 29 0)) V) H := hP
        have hD : va_D A (wLA cy h o S J (sfT (S 6) (q * 4 + nv (rkI S q (nI a))) (q * 4 + (k + 1))) (upd (S 7) q (nI ((nv (S 7 q)) - 1))) (kF (S 3)) (mF (S 27 0) (S 29 0)) V) := hD
        obtain ⟨hk1, hk2⟩ := hi_143
        refine lv_iload hx hb dL_act_143 (lv_at hl 12 rfl) ?_
        refine lv_aload hx hb dL_act_145 (lv_at hl 4 rfl) ?_
        refine lv_iload hx hb dL_act_147 (lv_at hl 10 rfl) ?_
        refine cd_iald (f := upd (S 7) q (nI ((nv (S 7 q)) - 1))) hx hb hK hP 28 rfl (by omega) (by decide) dL_act_149 ?_
        refine cd_tp (y := nI (nv (S 7 q) - 1)) (upd_s _ _ _) ?_
        refine cd_icmp_ge (tgt := 179) hx hb dL_act_150 (by decide) (by omega) (by omega) (fun c_150 => ?_) (fun c_150 => ?_)
        · have ek : k + 1 = nv (S 7 q) := by omega
          rw [ek] at hP hD
          have hP : va_P D vwCl (wLA cy h o S J (sfT (S 6) (q * 4 + nv (rkI S q (nI a))) (q * 4 + nv (S 7 q))) (upd (S 7) q (nI ((nv (S 7 q)) - 1))) (kF (S 3)) (mF (S 27 0) (S 29 0)) V) H := hP
          have hD : va_D A (wLA cy h o S J (sfT (S 6) (q * 4 + nv (rkI S q (nI a))) (q * 4 + nv (S 7 q))) (upd (S 7) q (nI ((nv (S 7 q)) - 1))) (kF (S 3)) (mF (S 27 0) (S 29 0)) V) := hD
          refine lv_aload_n hx hb dL_act_179 rfl (lv_at hl 0 rfl) ?_
          refine lv_iload hx hb dL_act_180 (lv_at hl 10 rfl) ?_
          refine lv_iload hx hb dL_act_182 (lv_at hl 9 rfl) ?_
          have M_184 := c_X6_take l D cy h S J hI q a (by omega) (by omega) hrk0 H.size
          have hPc := hP.sub (ws' := (wC cy h S J)) [0, 1, 2, 3, 4, 5, 6, 7, 8, 9, 10, 11, 12, 13, 14, 15, 16, 17, 18, 19, 20, 21, 22, 23, 24, 25, 26] rfl
          have hDc := hD.sub (ws' := (wC cy h S J)) [0, 1, 2, 3, 4, 5, 6, 7, 8, 9, 10, 11, 12, 13, 14, 15, 16, 17, 18, 19, 20, 21, 22, 23, 24, 25, 26] (by decide) rfl
          refine cd_fri (S := Unit) (W1 := fun u => (wC cy h (va_up (va_up S 6 (sfT (S 6) (q * 4 + nv (rkI S q (nI a))) (q * 4 + nv (S 7 q)))) 7 (upd (S 7) q (nI (nv (S 7 q) - 1)))) J)) (ws' := fun u => (wLA cy h o (va_up (va_up S 6 (sfT ((S 6)) (q * 4 + nv (rkI S q (nI a))) (q * 4 + nv ((S 7) q)))) 7 (upd ((S 7)) q (nI (nv ((S 7) q) - 1)))) J (sfT (S 6) (q * 4 + nv (rkI S q (nI a))) (q * 4 + nv (S 7 q))) (upd (S 7) q (nI ((nv (S 7 q)) - 1))) (kF (S 3)) (mF (S 27 0) (S 29 0)) V)) (wc := (wC cy h S J)) (wr := [(o 0, aI cy 32 (sfT (S 6) (q * 4 + nv (rkI S q (nI a))) (q * 4 + nv (S 7 q)))), (o 1, aI cy 8 (upd (S 7) q (nI ((nv (S 7 q)) - 1)))), (o 2, aI cy 12 (kF (S 3))), (o 3, aI cy 2 (mF (S 27 0) (S 29 0))), (o 4, aI cy 8 V)]) (va_runV (As := [.int (nI q), .int (nI a)]) (rest := []) ⟨hx, hb, hml, hown, hts⟩ M_184 (cwV 2 hts gL_act_X6_take rfl rfl rfl (by decide +kernel) ⟨Nat.le_of_ble_eq_true rfl, Nat.le_of_ble_eq_true rfl⟩) ⟨wrB.bl, va_recv hK hP (ci := 6) (q0 := 0) rfl rfl, fun U hU hW => ⟨rfl, by rw [hU], by rw [hU]; exact hPc, hG.warm hW, hDc.weaken (fun _ _ _ _ => trivial)⟩⟩ rfl rfl hl.1 rfl (lv_room (Nat.le_of_ble_eq_true rfl)) dL_act_184 (by exact ⟨Nat.zero_le _, Nat.zero_le _⟩)) hP hD hS hA [0, 1, 2, 3, 4, 5, 6, 7, 8, 9, 10, 11, 12, 13, 14, 15, 16, 17, 18, 19, 20, 21, 22, 23, 24, 25, 26] [27, 28, 29, 30, 31] [5, 6, 7, 8, 9, 10, 11, 12, 13, 14, 15, 16, 17, 18, 19, 20, 21, 22, 23, 24, 25, 26, 27, 28, 29, 30, 31, 0, 1, 2, 3, 4] rfl rfl (by decide) (by decide) (by decide) (fun _ => rfl) (fun r_184 _ H locs hw_184 hP hD hS => ?_)
          subst hw_184
          have hP : va_P D vwCl (wLA cy h o (va_up (va_up S 6 (sfT ((S 6)) (q * 4 + nv (rkI S q (nI a))) (q * 4 + nv ((S 7) q)))) 7 (upd ((S 7)) q (nI (nv ((S 7) q) - 1)))) J (sfT (S 6) (q * 4 + nv (rkI S q (nI a))) (q * 4 + nv (S 7 q))) (upd (S 7) q (nI ((nv (S 7 q)) - 1))) (kF (S 3)) (mF (S 27 0) (S 29 0)) V) H := hP
          have hD : va_D A (wLA cy h o (va_up (va_up S 6 (sfT ((S 6)) (q * 4 + nv (rkI S q (nI a))) (q * 4 + nv ((S 7) q)))) 7 (upd ((S 7)) q (nI (nv ((S 7) q) - 1)))) J (sfT (S 6) (q * 4 + nv (rkI S q (nI a))) (q * 4 + nv (S 7 q))) (upd (S 7) q (nI ((nv (S 7 q)) - 1))) (kF (S 3)) (mF (S 27 0) (S 29 0)) V) := hD
          refine lv_iload hx hb dL_act_187 (lv_at hl 11 rfl) ?_
          refine lv_icmp_ne (tgt := 196) hx hb dL_act_189 (by decide) (fun c_189 => ?_) (fun c_189 => ?_)
          · exact absurd hrk.1 c_189
          · refine lv_iconst (v := nI 1) hx hb dL_act_192 (by decide) ?_
            refine lv_goto (tgt := 197) hx hb dL_act_193 (by decide) ?_
            exact W.zret (v := nI 1) hx hb hr rfl (fun t ht hW => ⟨⟨_, ((va_up (va_up S 6 (sfT ((S 6)) (q * 4 + nv (rkI S q (nI a))) (q * 4 + nv ((S 7) q)))) 7 (upd ((S 7)) q (nI (nv ((S 7) q) - 1)))), J, V), rfl, (⟨rfl, in_take hI (by omega) hrk0, h28, hs2, hJ⟩), by rw [ht]; exact hP, hD⟩, hS.F ht⟩) hS.2.2 dL_act_197
        · refine lv_aload_n hx hb dL_act_153 rfl (lv_at hl 3 rfl) ?_
          refine lv_iconst (v := nI 4) hx hb dL_act_154 (by decide) ?_
          refine lv_iload hx hb dL_act_155 (lv_at hl 10 rfl) ?_
          refine cd_imul hx hb dL_act_157 ?_
          refine lv_iload hx hb dL_act_158 (lv_at hl 12 rfl) ?_
          refine cd_iadd hx hb dL_act_160 ?_
          refine cd_tp (y := nI (q * 4 + k)) (by rw [Nat.mul_comm]) ?_
          refine lv_aload_n hx hb dL_act_161 rfl (lv_at hl 3 rfl) ?_
          refine lv_iconst (v := nI 4) hx hb dL_act_162 (by decide) ?_
          refine lv_iload hx hb dL_act_163 (lv_at hl 10 rfl) ?_
          refine cd_imul hx hb dL_act_165 ?_
          refine lv_iload hx hb dL_act_166 (lv_at hl 12 rfl) ?_
          refine cd_iadd hx hb dL_act_168 ?_
          refine lv_iconst (v := nI 1) hx hb dL_act_169 (by decide) ?_
          refine cd_iadd hx hb dL_act_170 ?_
          refine cd_tp (y := nI (q * 4 + (k + 1))) (by rw [Nat.mul_comm, Nat.add_assoc]) ?_
          refine cd_iald (f := sfT (S 6) (q * 4 + nv (rkI S q (nI a))) (q * 4 + (k + 1))) hx hb hK hP 27 rfl (by omega) (by decide) dL_act_171 ?_
          refine cd_tp (y := S 6 (q * 4 + (k + 1))) (by unfold sfT; rw [if_neg (by omega)]) ?_
          refine cd_iast (f := sfT (S 6) (q * 4 + nv (rkI S q (nI a))) (q * 4 + (k + 1))) hx hb hK hP hD hS 27 rfl (by omega) (by decide) dL_act_172 (fun H locs hP hD hS => ?_)
          have hP : va_P D vwCl (wLA cy h o S J (upd (sfT (S 6) (q * 4 + nv (rkI S q (nI a))) (q * 4 + (k + 1))) (q * 4 + k) (S 6 (q * 4 + (k + 1)))) (upd (S 7) q (nI ((nv (S 7 q)) - 1))) (kF (S 3)) (mF (S 27 0) (S 29 0)) V) H := hP
          have hD : va_D A (wLA cy h o S J (upd (sfT (S 6) (q * 4 + nv (rkI S q (nI a))) (q * 4 + (k + 1))) (q * 4 + k) (S 6 (q * 4 + (k + 1)))) (upd (S 7) q (nI ((nv (S 7 q)) - 1))) (kF (S 3)) (mF (S 27 0) (S 29 0)) V) := hD
          have e_172 : (upd (sfT (S 6) (q * 4 + nv (rkI S q (nI a))) (q * 4 + (k + 1))) (q * 4 + k) (S 6 (q * 4 + (k + 1)))) = (sfT (S 6) (q * 4 + nv (rkI S q (nI a))) (q * 4 + (k + 1 + 1))) := sfT_s (S 6) (q * 4 + nv (rkI S q (nI a))) (q * 4 + (k + 1)) (by omega)
          rw [e_172] at hP hD
          have hP : va_P D vwCl (wLA cy h o S J (sfT (S 6) (q * 4 + nv (rkI S q (nI a))) (q * 4 + (k + 1 + 1))) (upd (S 7) q (nI ((nv (S 7 q)) - 1))) (kF (S 3)) (mF (S 27 0) (S 29 0)) V) H := hP
          have hD : va_D A (wLA cy h o S J (sfT (S 6) (q * 4 + nv (rkI S q (nI a))) (q * 4 + (k + 1 + 1))) (upd (S 7) q (nI ((nv (S 7 q)) - 1))) (kF (S 3)) (mF (S 27 0) (S 29 0)) V) := hD
          refine lv_iinc (v := nI (k + 1)) (lv' := [(12, .int (nI (k + 1))), (0, .ref (h 0)), (1, .int x), (2, .int y), (3, .ref (o 0)), (4, .ref (o 1)), (5, .ref (o 2)), (6, .ref (o 3)), (7, .ref (o 4)), (8, .int (nI t)), (9, .int (nI a)), (10, .int (nI q)), (11, .int (nI (nv (rkI S q (nI a)))))]) hx hb dL_act_173 hl (k := 12) rfl (cd_i1 _) (by decide) rfl (fun ls hl => ?_)
          refine lv_goto (tgt := 143) hx hb dL_act_176 (by decide) ?_
          exact ih_143 (k + 1) (⟨by omega, by omega⟩) (by omega) _ _ hP hD hS _ (lv_sub hl [1, 2, 3, 4, 5, 6, 7, 8, 9, 10, 11, 12, 0] rfl)
      · refine lv_iconst (v := nI 1) hx hb dL_act_128 (by decide) ?_
        exact W.zret (v := nI 1) hx hb hr rfl (fun t ht hW => ⟨⟨_, (S, J, V), rfl, (⟨rfl, hI, h28, hs2, hJ⟩), by rw [ht]; exact hP, hD⟩, hS.F ht⟩) hS.2.2 dL_act_129
  · refine lv_iload hx hb dL_act_34 (lv_at hl 0 rfl) ?_
    refine lv_iload hx hb dL_act_36 (lv_at hl 1 rfl) ?_
    refine lv_aload_n hx hb dL_act_38 rfl (lv_at hl 6 rfl) ?_
    refine lv_aload hx hb dL_act_39 (lv_at hl 7 rfl) ?_
    have M_41 := c_L_rank l D cy o S hI q (nI a) (by omega)
    have hPc := hP.sub (ws' := (wRN cy o (S 6) (S 7))) [27, 28] rfl
    refine cd_roi (va_runS (As := [.int (nI q), .int (nI a), .ref (o 0), .ref (o 1)]) (rest := []) ⟨hx, hb, hml, hown, hts⟩ M_41 (va_cwS 4 hts gL_act_L_rank rfl rfl rfl (by decide +kernel) ⟨Nat.le_of_ble_eq_true rfl, Nat.le_of_ble_eq_true rfl⟩) ⟨roB.bl, fun U hU hW => ⟨rfl, by rw [hU]; exact hPc, hG.warm hW⟩⟩ rfl rfl hl.1 rfl (lv_room (Nat.le_of_ble_eq_true rfl)) dL_act_41 (by exact ⟨Nat.zero_le _, Nat.zero_le _⟩)) (fun r_41 hr_41 => ?_)
    subst hr_41
    refine lv_if_ge (tgt := 56) hx hb dL_act_44 (by decide) (fun c_44 => ?_) (fun c_44 => ?_)
    · refine lv_iconst (v := nI 1) hx hb dL_act_56 (by decide) ?_
      exact W.zret (v := nI 1) hx hb hr rfl (fun t ht hW => ⟨⟨_, (S, J, V), rfl, (⟨rfl, hI, h28, hs2, hJ⟩), by rw [ht]; exact hP, hD⟩, hS.F ht⟩) hS.2.2 dL_act_57
    · have hrk0 := rk_lt c_44
      refine lv_aload hx hb dL_act_47 (lv_at hl 7 rfl) ?_
      refine lv_iload hx hb dL_act_49 (lv_at hl 0 rfl) ?_
      refine cd_iald (f := S 7) hx hb hK hP 28 rfl (by omega) (by decide) dL_act_51 ?_
      refine cd_tp (y := nI (nv (S 7 q))) ((iv_7 hI q (by omega)).1) ?_
      refine lv_iconst (v := nI 4) hx hb dL_act_52 (by decide) ?_
      refine cd_icmp_ne (tgt := 58) hx hb dL_act_53 (by decide) (by omega) (by omega) (fun c_53 => ?_) (fun c_53 => ?_)
      · refine lv_aload_n hx hb dL_act_58 rfl (lv_at hl 6 rfl) ?_
        refine lv_iconst (v := nI 4) hx hb dL_act_59 (by decide) ?_
        refine lv_iload hx hb dL_act_60 (lv_at hl 0 rfl) ?_
        refine cd_imul hx hb dL_act_62 ?_
        refine lv_aload hx hb dL_act_63 (lv_at hl 7 rfl) ?_
        refine lv_iload hx hb dL_act_65 (lv_at hl 0 rfl) ?_
        refine cd_iald (f := S 7) hx hb hK hP 28 rfl (by omega) (by decide) dL_act_67 ?_
        refine cd_tp (y := nI (nv (S 7 q))) ((iv_7 hI q (by omega)).1) ?_
        refine cd_iadd hx hb dL_act_68 ?_
        refine cd_tp (y := nI (q * 4 + nv (S 7 q))) (by rw [Nat.mul_comm]) ?_
        refine lv_iload hx hb dL_act_69 (lv_at hl 1 rfl) ?_
        refine cd_iast (f := S 6) hx hb hK hP hD hS 27 rfl (by omega) (by decide) dL_act_71 (fun H locs hP hD hS => ?_)
        have hP : va_P D vwCl (wLA cy h o S J (upd (S 6) (q * 4 + nv (S 7 q)) (nI a)) (S 7) (kF (S 3)) (mF (S 27 0) (S 29 0)) V) H := hP
        have hD : va_D A (wLA cy h o S J (upd (S 6) (q * 4 + nv (S 7 q)) (nI a)) (S 7) (kF (S 3)) (mF (S 27 0) (S 29 0)) V) := hD
        refine lv_aload hx hb dL_act_72 (lv_at hl 7 rfl) ?_
        refine lv_iload hx hb dL_act_74 (lv_at hl 0 rfl) ?_
        refine lv_dup2_11 hx hb dL_act_76 rfl rfl ?_
        refine cd_iald (f := S 7) hx hb hK hP 28 rfl (by omega) (by decide) dL_act_77 ?_
        refine cd_tp (y := nI (nv (S 7 q))) ((iv_7 hI q (by omega)).1) ?_
        refine lv_iconst (v := nI 1) hx hb dL_act_78 (by decide) ?_
        refine cd_iadd hx hb dL_act_79 ?_
        refine cd_iast (f := S 7) hx hb hK hP hD hS 28 rfl (by omega) (by decide) dL_act_80 (fun H locs hP hD hS => ?_)
        have hP : va_P D vwCl (wLA cy h o S J (upd (S 6) (q * 4 + nv (S 7 q)) (nI a)) (upd (S 7) q (nI ((nv (S 7 q)) + 1))) (kF (S 3)) (mF (S 27 0) (S 29 0)) V) H := hP
        have hD : va_D A (wLA cy h o S J (upd (S 6) (q * 4 + nv (S 7 q)) (nI a)) (upd (S 7) q (nI ((nv (S 7 q)) + 1))) (kF (S 3)) (mF (S 27 0) (S 29 0)) V) := hD
        refine lv_aload_n hx hb dL_act_81 rfl (lv_at hl 3 rfl) ?_
        refine lv_iload hx hb dL_act_82 (lv_at hl 0 rfl) ?_
        refine lv_iload hx hb dL_act_84 (lv_at hl 1 rfl) ?_
        have M_86 := c_X6_put l D cy h S J hI q a (by omega) (by omega) hrk0 (by omega) H.size
        have hPc := hP.sub (ws' := (wC cy h S J)) [0, 1, 2, 3, 4, 5, 6, 7, 8, 9, 10, 11, 12, 13, 14, 15, 16, 17, 18, 19, 20, 21, 22, 23, 24, 25, 26] rfl
        have hDc := hD.sub (ws' := (wC cy h S J)) [0, 1, 2, 3, 4, 5, 6, 7, 8, 9, 10, 11, 12, 13, 14, 15, 16, 17, 18, 19, 20, 21, 22, 23, 24, 25, 26] (by decide) rfl
        refine cd_fri (S := Unit) (W1 := fun u => (wC cy h (va_up (va_up S 6 (upd (S 6) (q * 4 + nv (S 7 q)) (nI a))) 7 (upd (S 7) q (nI (nv (S 7 q) + 1)))) J)) (ws' := fun u => (wLA cy h o (va_up (va_up S 6 (upd ((S 6)) (q * 4 + nv ((S 7) q)) (nI a))) 7 (upd ((S 7)) q (nI (nv ((S 7) q) + 1)))) J (upd (S 6) (q * 4 + nv (S 7 q)) (nI a)) (upd (S 7) q (nI ((nv (S 7 q)) + 1))) (kF (S 3)) (mF (S 27 0) (S 29 0)) V)) (wc := (wC cy h S J)) (wr := [(o 0, aI cy 32 (upd (S 6) (q * 4 + nv (S 7 q)) (nI a))), (o 1, aI cy 8 (upd (S 7) q (nI ((nv (S 7 q)) + 1)))), (o 2, aI cy 12 (kF (S 3))), (o 3, aI cy 2 (mF (S 27 0) (S 29 0))), (o 4, aI cy 8 V)]) (va_runV (As := [.int (nI q), .int (nI a)]) (rest := []) ⟨hx, hb, hml, hown, hts⟩ M_86 (cwV 2 hts gL_act_X6_put rfl rfl rfl (by decide +kernel) ⟨Nat.le_of_ble_eq_true rfl, Nat.le_of_ble_eq_true rfl⟩) ⟨wrB.bl, va_recv hK hP (ci := 6) (q0 := 0) rfl rfl, fun U hU hW => ⟨rfl, by rw [hU], by rw [hU]; exact hPc, hG.warm hW, hDc.weaken (fun _ _ _ _ => trivial)⟩⟩ rfl rfl hl.1 rfl (lv_room (Nat.le_of_ble_eq_true rfl)) dL_act_86 (by exact ⟨Nat.zero_le _, Nat.zero_le _⟩)) hP hD hS hA [0, 1, 2, 3, 4, 5, 6, 7, 8, 9, 10, 11, 12, 13, 14, 15, 16, 17, 18, 19, 20, 21, 22, 23, 24, 25, 26] [27, 28, 29, 30, 31] [5, 6, 7, 8, 9, 10, 11, 12, 13, 14, 15, 16, 17, 18, 19, 20, 21, 22, 23, 24, 25, 26, 27, 28, 29, 30, 31, 0, 1, 2, 3, 4] rfl rfl (by decide) (by decide) (by decide) (fun _ => rfl) (fun r_86 _ H locs hw_86 hP hD hS => ?_)
        subst hw_86
        refine cd_tp (y := nI (nv ((S 7) q))) rfl ?_
        have hP : va_P D vwCl (wLA cy h o (va_up (va_up S 6 (upd ((S 6)) (q * 4 + nv ((S 7) q)) (nI a))) 7 (upd ((S 7)) q (nI (nv ((S 7) q) + 1)))) J (upd (S 6) (q * 4 + nv (S 7 q)) (nI a)) (upd (S 7) q (nI ((nv (S 7 q)) + 1))) (kF (S 3)) (mF (S 27 0) (S 29 0)) V) H := hP
        have hD : va_D A (wLA cy h o (va_up (va_up S 6 (upd ((S 6)) (q * 4 + nv ((S 7) q)) (nI a))) 7 (upd ((S 7)) q (nI (nv ((S 7) q) + 1)))) J (upd (S 6) (q * 4 + nv (S 7 q)) (nI a)) (upd (S 7) q (nI ((nv (S 7 q)) + 1))) (kF (S 3)) (mF (S 27 0) (S 29 0)) V) := hD
        refine lv_aload hx hb dL_act_89 (lv_at hl 7 rfl) ?_
        refine lv_iload hx hb dL_act_91 (lv_at hl 0 rfl) ?_
        refine cd_iald (f := upd (S 7) q (nI ((nv (S 7 q)) + 1))) hx hb hK hP 28 rfl (by omega) (by decide) dL_act_93 ?_
        refine cd_tp (y := nI (nv (S 7 q) + 1)) (upd_s _ _ _) ?_
        refine lv_iconst (v := nI 1) hx hb dL_act_94 (by decide) ?_
        refine cd_isub hx hb (by omega) dL_act_95 ?_
        refine cd_icmp_ne (tgt := 103) hx hb dL_act_96 (by decide) (by omega) (by omega) (fun c_96 => ?_) (fun c_96 => ?_)
        · exact (show False by omega).elim
        · refine lv_iconst (v := nI 1) hx hb dL_act_99 (by decide) ?_
          refine lv_goto (tgt := 104) hx hb dL_act_100 (by decide) ?_
          exact W.zret (v := nI 1) hx hb hr rfl (fun t ht hW => ⟨⟨_, ((va_up (va_up S 6 (upd ((S 6)) (q * 4 + nv ((S 7) q)) (nI a))) 7 (upd ((S 7)) q (nI (nv ((S 7) q) + 1)))), J, V), rfl, (⟨rfl, in_put hI (by omega) hal hrk0 (by omega), h28, hs2, hJ⟩), by rw [ht]; exact hP, hD⟩, hS.F ht⟩) hS.2.2 dL_act_104
      · refine lv_iconst (v := nI 1) hx hb dL_act_56 (by decide) ?_
        exact W.zret (v := nI 1) hx hb hr rfl (fun t ht hW => ⟨⟨_, (S, J, V), rfl, (⟨rfl, hI, h28, hs2, hJ⟩), by rw [ht]; exact hP, hD⟩, hS.F ht⟩) hS.2.2 dL_act_57
