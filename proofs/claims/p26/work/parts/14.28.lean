set_option maxHeartbeats 4000000 in
set_option maxRecDepth 100000 in
theorem c_X6_isIll (l : Launch) (D : va_G) (cy : qT) (hfl : l.stackTraces = false) (h : Nat → Nat) (S : qS) (J : qS) (hI : Inv S) (a : Int32) (d : Int32) (hJ : jk J) (sz : Nat) : vx_Met l yX6_isIll wsX6_isIll ({ frames := 7, cells := 4, slots := 24, locals := 113 }) (va_Pc [.ref (h 0), .int a, .int d] (thB D cy (wC cy h S J) sz)) (va_Qi (fun (r9 : Int32) (u : qS) => r9 = bI ((nv (S 4 (nv d))).testBit (nv a)) ∧ th2 (inI a (nI 0) (nI 11)) (inI d (nI 0) (nI 1000)) = nI 0 ∧ jk u) (wrQ D (va_A (wC cy h S J) sz) (fun u : qS => (wC cy h S u))) (va_A (wC cy h S J) sz)) (nX (fun E => (E = xIO ∧ th2 (inI a (nI 0) (nI 11)) (inI d (nI 0) (nI 1000)) = nI 1) ∨ (E = xIA ∧ th2 (inI a (nI 0) (nI 11)) (inI d (nI 0) (nI 1000)) = nI 2))) 4 24 (va_A (wC cy h S J) sz) := by
  refine vx_ofW (cc := cX6_isIll) (maxL := 3) (ret := (some .boolean)) (by decide) rfl ?_
  intro pp e9 s m9 args9 bl9 meth9 c9 s9 B hml htab hv
  obtain ⟨rfl, ⟨hsz, hP, hG, hD0⟩, hTz⟩ := hv
  have hx := B.exec
  have hb := B.bytes
  have hr := B.returns
  have hts := atoms_spec (ws := wsX6_isIll) B.pre
  have hown : s.vm.findClass RX6 = some m9.cls := findClass_of_methodNamed B.named
  have hlocks := B.notSynchronized
  have hK := hG.K
  subst hsz
  have hD := hD0.self (sz := s.heap.size)
  generalize hAe : (va_A (wC cy h S J) s.heap.size) = A at hD hTz ⊢
  have hA : ∀ q : Nat, s.heap.size ≤ q → A q := fun q h9 => by rw [← hAe]; exact Or.inr h9
  have hS : va_S A s.heap s.heap [] := va_S.rf
  have hP : va_P D vwCl (wC cy h S J) s.heap := hP
  have f_10 := hts (.fieldLink RX6 10 "CastDesk" "troupe" "LCastDesk$Troupe;") (by decide +kernel)
  have f_139 := hts (.fieldLink RX6 139 "CastDesk$Troupe" "ill" "[I") (by decide +kernel)
  have iX4 : ∀ w ∈ wsX40, w ∈ wsX6_isIll := by decide +kernel
  have iX6 : ∀ w ∈ wsX60, w ∈ wsX6_isIll := by decide +kernel
  have hl := lv_entry ([.ref (h 0), .int a, .int d]) (n := 3) (Nat.le_of_ble_eq_true rfl)
  rw [lg_entry_eq]
  generalize (lg_sl ([.ref (h 0), .int a, .int d]) ++ List.replicate (3 - (lg_sl ([.ref (h 0), .int a, .int d])).length) Slot.unset).toArray = ls at hl ⊢
  have hl : lv_has ls 3 [(0, .ref (h 0)), (1, .int a), (2, .int d)] := hl
  refine lv_iload_n hx hb dX6_isIll_0 rfl (lv_at hl 1 rfl) ?_
  have M_1 := c_X6_needActor l D cy hfl a s.heap.size
  have hPc : va_P D vwCl [] s.heap := fun k q h9 => by simp at h9
  have hDc : va_D A [] := ⟨fun i j x9 y9 h9 => by simp at h9, fun k q h9 => by simp at h9⟩
  refine cd_xrv (vx_runS (As := [.int a]) (rest := []) ⟨hx, hb, hml, hown, hts⟩ M_1 (va_cwS 1 hts gX6_isIll_X6_needActor rfl rfl rfl (by decide +kernel) ⟨Nat.le_of_ble_eq_true rfl, Nat.le_of_ble_eq_true rfl⟩) ⟨thB.bl, fun U hU hW => ⟨rfl, ⟨by rw [hU], by rw [hU]; exact hPc, hG.warm hW, hDc.weaken (fun _ _ _ _ => trivial)⟩, hTz.down hS (vaA_nil (fun q h9 => hA q (Nat.le_trans hS.1 h9))) hU hW⟩⟩ rfl rfl hl.1 rfl (lv_room (Nat.le_of_ble_eq_true rfl)) dX6_isIll_1 (by exact ⟨Nat.le_of_ble_eq_true rfl, Nat.le_of_ble_eq_true rfl⟩)) hS (vaA_nil (fun q h9 => hA q (Nat.le_trans hS.1 h9))) (fun E9 ce9 q9 H1 locs1 hw_1 hS1 hz1 hk1 hce hcv hcl => ?_) (fun hw_1 locs hS => ?_)
  · exact vx_out (fun x h9 => (htab x h9).elim) hlocks hce hcv hcl (fun t ht hv9 => ⟨Or.inl (⟨hw_1.1, by rw [hw_1.2]; rfl⟩), by rw [ht]; exact hz1, fun q h9 => by rw [ht]; exact hk1 q h9⟩) hS1.2.2 (by decide) (by decide)
  · obtain ⟨ja, hja, rfl⟩ := inI_nat (by decide) hw_1
    try rw [nv_nI (show ja < 2147483648 by omega)]
    refine lv_iload_n hx hb dX6_isIll_4 rfl (lv_at hl 2 rfl) ?_
    refine lv_iconst (v := nI 0) hx hb dX6_isIll_5 (by decide) ?_
    have M_6 := c_X6_needDay l D cy hfl d (nI 0) s.heap.size
    have hPc : va_P D vwCl [] s.heap := fun k q h9 => by simp at h9
    have hDc : va_D A [] := ⟨fun i j x9 y9 h9 => by simp at h9, fun k q h9 => by simp at h9⟩
    refine cd_xrv (vx_runS (As := [.int d, .int (nI 0)]) (rest := []) ⟨hx, hb, hml, hown, hts⟩ M_6 (va_cwS 2 hts gX6_isIll_X6_needDay rfl rfl rfl (by decide +kernel) ⟨Nat.le_of_ble_eq_true rfl, Nat.le_of_ble_eq_true rfl⟩) ⟨thB.bl, fun U hU hW => ⟨rfl, ⟨by rw [hU], by rw [hU]; exact hPc, hG.warm hW, hDc.weaken (fun _ _ _ _ => trivial)⟩, hTz.down hS (vaA_nil (fun q h9 => hA q (Nat.le_trans hS.1 h9))) hU hW⟩⟩ rfl rfl hl.1 rfl (lv_room (Nat.le_of_ble_eq_true rfl)) dX6_isIll_6 (by exact ⟨Nat.le_of_ble_eq_true rfl, Nat.le_of_ble_eq_true rfl⟩)) hS (vaA_nil (fun q h9 => hA q (Nat.le_trans hS.1 h9))) (fun E9 ce9 q9 H1 locs1 hw_6 hS1 hz1 hk1 hce hcv hcl => ?_) (fun hw_6 locs hS => ?_)
    · exact vx_out (fun x h9 => (htab x h9).elim) hlocks hce hcv hcl (fun t ht hv9 => ⟨Or.inr (⟨hw_6.1, by rw [hw_1, hw_6.2]; rfl⟩), by rw [ht]; exact hz1, fun q h9 => by rw [ht]; exact hk1 q h9⟩) hS1.2.2 (by decide) (by decide)
    · obtain ⟨jd, hjd, rfl⟩ := inI_nat (by decide) hw_6
      try rw [nv_nI (show jd < 2147483648 by omega)]
      refine lv_aload_n hx hb dX6_isIll_9 rfl (lv_at hl 0 rfl) ?_
      refine va_get (D := D) (ci := 6) (v := .ref (h 1)) (C := RX6) (T := TX6) (N := 8) hx hb hts iX6 hown hK hP 0 rfl rfl 0 (by decide) f_10 (fun _ h9 => h9) rfl dX6_isIll_10 ?_
      refine va_get (D := D) (ci := 4) (v := .ref (h 4)) (C := RX4) (T := TX4) (N := 3) hx hb hts iX4 hown hK hP 1 rfl rfl 2 (by decide) f_139 (fun _ h9 => h9) rfl dX6_isIll_13 ?_
      refine lv_iload_n hx hb dX6_isIll_16 rfl (lv_at hl 2 rfl) ?_
      refine cd_iald (f := S 4) hx hb hK hP 4 rfl (by omega) (by decide) dX6_isIll_17 ?_
      have b_17 := iv_4 hI jd (by omega)
      refine cd_tp (y := nI (nv (S 4 jd))) b_17.1 ?_
      have b_17 := b_17.2
      refine lv_iload_n hx hb dX6_isIll_18 rfl (lv_at hl 1 rfl) ?_
      have M_19 := c_X6_has l (nv (S 4 jd)) ja (by omega) (by omega)
      refine cd_roi (va_runS (As := [.int (nI (nv (S 4 jd))), .int (nI ja)]) (rest := []) ⟨hx, hb, hml, hown, hts⟩ M_19 (va_cwS 2 hts gX6_isIll_X6_has rfl rfl rfl (by decide +kernel) ⟨Nat.le_of_ble_eq_true rfl, Nat.le_of_ble_eq_true rfl⟩) ⟨nuB.bl, fun U hU hW => ⟨rfl, trivial⟩⟩ rfl rfl hl.1 rfl (lv_room (Nat.le_of_ble_eq_true rfl)) dX6_isIll_19 (by exact ⟨Nat.le_of_ble_eq_true rfl, Nat.le_of_ble_eq_true rfl⟩)) (fun r_19 hr_19 => ?_)
      subst hr_19
      refine vx_ret ?_
      refine W.widen (k := 4) (n := 24) (by decide) (by decide) ?_
      exact W.zret (v := bI ((nv (S 4 jd)).testBit ja)) hx hb hr (nar_bI _) (fun t ht hW => ⟨⟨_, J, rfl, (⟨rfl, by rw [hw_1, hw_6]; rfl, hJ⟩), by rw [ht]; exact hP, hD⟩, hS.F ht⟩) hS.2.2 dX6_isIll_22
