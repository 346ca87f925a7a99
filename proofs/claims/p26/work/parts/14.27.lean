set_option maxHeartbeats 4000000 in
set_option maxRecDepth 100000 in
theorem c_X6_cold (l : Launch) (D : va_G) (cy : qT) (hfl : l.stackTraces = false) (h : Nat → Nat) (S : qS) (J : qS) (hI : Inv S) (a : Int32) (d0 : Int32) (d1 : Int32) (hJ : jk J) (sz : Nat) : vx_Met l yX6_cold wsX6_cold ({ frames := 7, cells := 4, slots := 24, locals := 113 }) (va_Pc [.ref (h 0), .int a, .int d0, .int d1] (thB D cy (wC cy h S J) sz)) (va_Qi (fun (r9 : Int32) (u : qS) => r9 = nI (ilC (S 4) (nv a) (nv d0) (nv d1 + 1 - nv d0)) ∧ th2 (inI a (nI 0) (nI 11)) (inI d0 (nI (nv (S 28 0))) (nI 1000) && inI d1 d0 (nI 1000)) = nI 0 ∧ jk u) (wrQ D (va_A (wC cy h S J) sz) (fun u : qS => (wC cy h (va_up S 4 (ilF (S 4) (nv a) (nv d0) (nv d0 + (nv d1 + 1 - nv d0)))) u))) (va_A (wC cy h S J) sz)) (nX (fun E => (E = xIO ∧ th2 (inI a (nI 0) (nI 11)) (inI d0 (nI (nv (S 28 0))) (nI 1000) && inI d1 d0 (nI 1000)) = nI 1) ∨ (E = xIA ∧ th2 (inI a (nI 0) (nI 11)) (inI d0 (nI (nv (S 28 0))) (nI 1000) && inI d1 d0 (nI 1000)) = nI 2))) 4 24 (va_A (wC cy h S J) sz) := by
  refine vx_ofW (cc := cX6_cold) (maxL := 4) (ret := (some .int)) (by decide) rfl ?_
  intro pp e9 s m9 args9 bl9 meth9 c9 s9 B hml htab hv
  obtain ⟨rfl, ⟨hsz, hP, hG, hD0⟩, hTz⟩ := hv
  have hx := B.exec
  have hb := B.bytes
  have hr := B.returns
  have hts := atoms_spec (ws := wsX6_cold) B.pre
  have hown : s.vm.findClass RX6 = some m9.cls := findClass_of_methodNamed B.named
  have hlocks := B.notSynchronized
  have hK := hG.K
  subst hsz
  have hD := hD0.self (sz := s.heap.size)
  generalize hAe : (va_A (wC cy h S J) s.heap.size) = A at hD hTz ⊢
  have hA : ∀ q : Nat, s.heap.size ≤ q → A q := fun q h9 => by rw [← hAe]; exact Or.inr h9
  have hS : va_S A s.heap s.heap [] := va_S.rf
  have hP : va_P D vwCl (wC cy h S J) s.heap := hP
  have f_55 := hts (.fieldLink RX6 55 "CastDesk" "today" "I") (by decide +kernel)
  have f_10 := hts (.fieldLink RX6 10 "CastDesk" "troupe" "LCastDesk$Troupe;") (by decide +kernel)
  have iX6 : ∀ w ∈ wsX60, w ∈ wsX6_cold := by decide +kernel
  have hl := lv_entry ([.ref (h 0), .int a, .int d0, .int d1]) (n := 4) (Nat.le_of_ble_eq_true rfl)
  rw [lg_entry_eq]
  generalize (lg_sl ([.ref (h 0), .int a, .int d0, .int d1]) ++ List.replicate (4 - (lg_sl ([.ref (h 0), .int a, .int d0, .int d1])).length) Slot.unset).toArray = ls at hl ⊢
  have hl : lv_has ls 4 [(0, .ref (h 0)), (1, .int a), (2, .int d0), (3, .int d1)] := hl
  have h28 := (iv_28 hI).2
  refine lv_iload_n hx hb dX6_cold_0 rfl (lv_at hl 1 rfl) ?_
  have M_1 := c_X6_needActor l D cy hfl a s.heap.size
  have hPc : va_P D vwCl [] s.heap := fun k q h9 => by simp at h9
  have hDc : va_D A [] := ⟨fun i j x9 y9 h9 => by simp at h9, fun k q h9 => by simp at h9⟩
  refine cd_xrv (vx_runS (As := [.int a]) (rest := []) ⟨hx, hb, hml, hown, hts⟩ M_1 (va_cwS 1 hts gX6_cold_X6_needActor rfl rfl rfl (by decide +kernel) ⟨Nat.le_of_ble_eq_true rfl, Nat.le_of_ble_eq_true rfl⟩) ⟨thB.bl, fun U hU hW => ⟨rfl, ⟨by rw [hU], by rw [hU]; exact hPc, hG.warm hW, hDc.weaken (fun _ _ _ _ => trivial)⟩, hTz.down hS (vaA_nil (fun q h9 => hA q (Nat.le_trans hS.1 h9))) hU hW⟩⟩ rfl rfl hl.1 rfl (lv_room (Nat.le_of_ble_eq_true rfl)) dX6_cold_1 (by exact ⟨Nat.le_of_ble_eq_true rfl, Nat.le_of_ble_eq_true rfl⟩)) hS (vaA_nil (fun q h9 => hA q (Nat.le_trans hS.1 h9))) (fun E9 ce9 q9 H1 locs1 hw_1 hS1 hz1 hk1 hce hcv hcl => ?_) (fun hw_1 locs hS => ?_)
  · exact vx_out (fun x h9 => (htab x h9).elim) hlocks hce hcv hcl (fun t ht hv9 => ⟨Or.inl (⟨hw_1.1, by rw [hw_1.2]; rfl⟩), by rw [ht]; exact hz1, fun q h9 => by rw [ht]; exact hk1 q h9⟩) hS1.2.2 (by decide) (by decide)
  · obtain ⟨ja, hja, rfl⟩ := inI_nat (by decide) hw_1
    try rw [nv_nI (show ja < 2147483648 by omega)]
    refine lv_iload_n hx hb dX6_cold_4 rfl (lv_at hl 2 rfl) ?_
    refine lv_aload_n hx hb dX6_cold_5 rfl (lv_at hl 0 rfl) ?_
    refine va_get (D := D) (ci := 6) (v := .int (S 28 0)) (C := RX6) (T := TX6) (N := 8) hx hb hts iX6 hown hK hP 0 rfl rfl 7 (by decide) f_55 (fun _ h9 => h9) rfl dX6_cold_6 ?_
    have b_6 := iv_28 hI
    refine cd_tp (y := nI (nv (S 28 0))) b_6.1 ?_
    have b_6 := b_6.2
    have M_9 := c_X6_needDay l D cy hfl d0 (nI (nv (S 28 0))) s.heap.size
    have hPc : va_P D vwCl [] s.heap := fun k q h9 => by simp at h9
    have hDc : va_D A [] := ⟨fun i j x9 y9 h9 => by simp at h9, fun k q h9 => by simp at h9⟩
    refine cd_xrv (vx_runS (As := [.int d0, .int (nI (nv (S 28 0)))]) (rest := []) ⟨hx, hb, hml, hown, hts⟩ M_9 (va_cwS 2 hts gX6_cold_X6_needDay rfl rfl rfl (by decide +kernel) ⟨Nat.le_of_ble_eq_true rfl, Nat.le_of_ble_eq_true rfl⟩) ⟨thB.bl, fun U hU hW => ⟨rfl, ⟨by rw [hU], by rw [hU]; exact hPc, hG.warm hW, hDc.weaken (fun _ _ _ _ => trivial)⟩, hTz.down hS (vaA_nil (fun q h9 => hA q (Nat.le_trans hS.1 h9))) hU hW⟩⟩ rfl rfl hl.1 rfl (lv_room (Nat.le_of_ble_eq_true rfl)) dX6_cold_9 (by exact ⟨Nat.le_of_ble_eq_true rfl, Nat.le_of_ble_eq_true rfl⟩)) hS (vaA_nil (fun q h9 => hA q (Nat.le_trans hS.1 h9))) (fun E9 ce9 q9 H1 locs1 hw_9 hS1 hz1 hk1 hce hcv hcl => ?_) (fun hw_9 locs hS => ?_)
    · exact vx_out (fun x h9 => (htab x h9).elim) hlocks hce hcv hcl (fun t ht hv9 => ⟨Or.inr (⟨hw_9.1, by rw [hw_1, hw_9.2]; rfl⟩), by rw [ht]; exact hz1, fun q h9 => by rw [ht]; exact hk1 q h9⟩) hS1.2.2 (by decide) (by decide)
    · obtain ⟨j0, hj0l, hj0, rfl⟩ := inI_two (by omega) (by decide) hw_9
      try rw [nv_nI (show j0 < 2147483648 by omega)]
      refine lv_iload_n hx hb dX6_cold_12 rfl (lv_at hl 3 rfl) ?_
      refine lv_iload_n hx hb dX6_cold_13 rfl (lv_at hl 2 rfl) ?_
      have M_14 := c_X6_needDay l D cy hfl d1 (nI j0) s.heap.size
      have hPc : va_P D vwCl [] s.heap := fun k q h9 => by simp at h9
      have hDc : va_D A [] := ⟨fun i j x9 y9 h9 => by simp at h9, fun k q h9 => by simp at h9⟩
      refine cd_xrv (vx_runS (As := [.int d1, .int (nI j0)]) (rest := []) ⟨hx, hb, hml, hown, hts⟩ M_14 (va_cwS 2 hts gX6_cold_X6_needDay rfl rfl rfl (by decide +kernel) ⟨Nat.le_of_ble_eq_true rfl, Nat.le_of_ble_eq_true rfl⟩) ⟨thB.bl, fun U hU hW => ⟨rfl, ⟨by rw [hU], by rw [hU]; exact hPc, hG.warm hW, hDc.weaken (fun _ _ _ _ => trivial)⟩, hTz.down hS (vaA_nil (fun q h9 => hA q (Nat.le_trans hS.1 h9))) hU hW⟩⟩ rfl rfl hl.1 rfl (lv_room (Nat.le_of_ble_eq_true rfl)) dX6_cold_14 (by exact ⟨Nat.le_of_ble_eq_true rfl, Nat.le_of_ble_eq_true rfl⟩)) hS (vaA_nil (fun q h9 => hA q (Nat.le_trans hS.1 h9))) (fun E9 ce9 q9 H1 locs1 hw_14 hS1 hz1 hk1 hce hcv hcl => ?_) (fun hw_14 locs hS => ?_)
      · exact vx_out (fun x h9 => (htab x h9).elim) hlocks hce hcv hcl (fun t ht hv9 => ⟨Or.inr (⟨hw_14.1, by rw [hw_1, hw_9, hw_14.2]; rfl⟩), by rw [ht]; exact hz1, fun q h9 => by rw [ht]; exact hk1 q h9⟩) hS1.2.2 (by decide) (by decide)
      · obtain ⟨j1, hj1l, hj1, rfl⟩ := inI_two (by omega) (by decide) hw_14
        try rw [nv_nI (show j1 < 2147483648 by omega)]
        refine lv_aload_n hx hb dX6_cold_17 rfl (lv_at hl 0 rfl) ?_
        refine va_get (D := D) (ci := 6) (v := .ref (h 1)) (C := RX6) (T := TX6) (N := 8) hx hb hts iX6 hown hK hP 0 rfl rfl 0 (by decide) f_10 (fun _ h9 => h9) rfl dX6_cold_18 ?_
        refine lv_iload_n hx hb dX6_cold_21 rfl (lv_at hl 1 rfl) ?_
        refine lv_iload_n hx hb dX6_cold_22 rfl (lv_at hl 2 rfl) ?_
        refine lv_iload_n hx hb dX6_cold_23 rfl (lv_at hl 3 rfl) ?_
        have M_24 := c_X4_fallIll l D cy h S hI ja j0 j1 (by omega) (by omega) (by omega) s.heap.size
        have hPc := hP.sub (ws' := (wX4 cy h S)) [1, 2, 3, 4] rfl
        have hDc := hD.sub (ws' := (wX4 cy h S)) [1, 2, 3, 4] (by decide) rfl
        refine cd_fri (S := Unit) (W1 := fun u => (wX4 cy h (va_up S 4 (ilF (S 4) ja j0 (j0 + (j1 + 1 - j0)))))) (ws' := fun u => (wC cy h (va_up S 4 (ilF ((S 4)) ja j0 (j0 + (j1 + 1 - j0)))) J)) (wc := (wX4 cy h S)) (wr := [(h 0, .inr (6, [.ref (h 1), .ref (h 5), .ref (h 8), .ref (h 12), .ref (h 16), .ref (h 20), .int (S 27 0), .int (S 28 0)])), (h 5, .inr (3, [.ref (h 6), .ref (h 7)])), (h 6, aI cy 32 (S 6)), (h 7, aI cy 8 (S 7)), (h 8, .inr (5, [.ref (h 9), .ref (h 10), .ref (h 11), .int (S 29 0)])), (h 9, aI cy 40 (S 9)), (h 10, aI cy 40 (S 10)), (h 11, aZ cy 40 (S 11)), (h 12, .inr (1, [.ref (h 13), .ref (h 14), .ref (h 15), .int (J 12 0)])), (h 13, aI cy 32 (J 13)), (h 14, aI cy 32 (J 14)), (h 15, aI cy 4096 (J 15)), (h 16, .inr (2, [.ref (h 17), .ref (h 18), .ref (h 19), .int (S 30 0)])), (h 17, aI cy 40 (S 17)), (h 18, aI cy 320 (S 18)), (h 19, aI cy 40 (S 19)), (h 20, .inr (0, [.ref (h 21), .ref (h 22), .ref (h 23), .ref (h 24), .ref (h 25), .ref (h 26), .int (S 31 0), .int (S 32 0)])), (h 21, aI cy 100 (S 21)), (h 22, aI cy 100 (S 22)), (h 23, aI cy 100 (S 23)), (h 24, aI cy 100 (S 24)), (h 25, aI cy 100 (S 25)), (h 26, aI cy 100 (S 26))]) (va_runV (As := [.int (nI ja), .int (nI j0), .int (nI j1)]) (rest := []) ⟨hx, hb, hml, hown, hts⟩ M_24 (cwV 3 hts gX6_cold_X4_fallIll rfl rfl rfl (by decide +kernel) ⟨Nat.le_of_ble_eq_true rfl, Nat.le_of_ble_eq_true rfl⟩) ⟨wrB.bl, va_recv hK hP (ci := 4) (q0 := 1) rfl rfl, fun U hU hW => ⟨rfl, by rw [hU], by rw [hU]; exact hPc, hG.warm hW, hDc.weaken (fun _ _ _ _ => trivial)⟩⟩ rfl rfl hl.1 rfl (lv_room (Nat.le_of_ble_eq_true rfl)) dX6_cold_24 (by exact ⟨Nat.le_of_ble_eq_true rfl, Nat.le_of_ble_eq_true rfl⟩)) hP hD hS hA [1, 2, 3, 4] [0, 5, 6, 7, 8, 9, 10, 11, 12, 13, 14, 15, 16, 17, 18, 19, 20, 21, 22, 23, 24, 25, 26] [0, 23, 24, 25, 26, 1, 2, 3, 4, 5, 6, 7, 8, 9, 10, 11, 12, 13, 14, 15, 16, 17, 18, 19, 20, 21, 22] rfl rfl (by decide) (by decide) (by decide) (fun _ => rfl) (fun r_24 _ H locs hw_24 hP hD hS => ?_)
        subst hw_24
        refine cd_tp (y := nI (ilC ((S 4)) ja j0 (j1 + 1 - j0))) rfl ?_
        have hP : va_P D vwCl (wC cy h (va_up S 4 (ilF ((S 4)) ja j0 (j0 + (j1 + 1 - j0)))) J) H := hP
        have hD : va_D A (wC cy h (va_up S 4 (ilF ((S 4)) ja j0 (j0 + (j1 + 1 - j0)))) J) := hD
        refine vx_ret ?_
        refine W.widen (k := 4) (n := 24) (by decide) (by decide) ?_
        exact W.iret (v := nI (ilC ((S 4)) ja j0 (j1 + 1 - j0))) hx hb hr (fun t ht hW => ⟨⟨_, J, rfl, (⟨rfl, by rw [hw_1, hw_9, hw_14]; rfl, hJ⟩), by rw [ht]; exact hP, hD⟩, hS.F ht⟩) hS.2.2 dX6_cold_27
