set_option maxHeartbeats 4000000 in
set_option maxRecDepth 100000 in
theorem c_X6_sizeOf (l : Launch) (D : va_G) (cy : qT) (hfl : l.stackTraces = false) (h : Nat → Nat) (S : qS) (J : qS) (hI : Inv S) (c : Int32) (hJ : jk J) (sz : Nat) : vx_Met l yX6_sizeOf wsX6_sizeOf ({ frames := 7, cells := 4, slots := 24, locals := 113 }) (va_Pc [.ref (h 0), .int c] (thB D cy (wC cy h S J) sz)) (va_Qi (fun (r9 : Int32) (u : qS) => r9 = S 9 (nv c) ∧ th1 (inI c (nI 0) (nI (nv (S 29 0)) - nI 1)) = nI 0 ∧ jk u) (wrQ D (va_A (wC cy h S J) sz) (fun u : qS => (wC cy h S u))) (va_A (wC cy h S J) sz)) (nX (fun E => E = xIO ∧ th1 (inI c (nI 0) (nI (nv (S 29 0)) - nI 1)) = nI 1)) 4 24 (va_A (wC cy h S J) sz) := by
  refine vx_ofW (cc := cX6_sizeOf) (maxL := 2) (ret := (some .int)) (by decide) rfl ?_
  intro pp e9 s m9 args9 bl9 meth9 c9 s9 B hml htab hv
  obtain ⟨rfl, ⟨hsz, hP, hG, hD0⟩, hTz⟩ := hv
  have hx := B.exec
  have hb := B.bytes
  have hr := B.returns
  have hts := atoms_spec (ws := wsX6_sizeOf) B.pre
  have hown : s.vm.findClass RX6 = some m9.cls := findClass_of_methodNamed B.named
  have hlocks := B.notSynchronized
  have hK := hG.K
  subst hsz
  have hD := hD0.self (sz := s.heap.size)
  generalize hAe : (va_A (wC cy h S J) s.heap.size) = A at hD hTz ⊢
  have hA : ∀ q : Nat, s.heap.size ≤ q → A q := fun q h9 => by rw [← hAe]; exact Or.inr h9
  have hS : va_S A s.heap s.heap [] := va_S.rf
  have hP : va_P D vwCl (wC cy h S J) s.heap := hP
  have f_26 := hts (.fieldLink RX6 26 "CastDesk" "wardrobe" "LCastDesk$Wardrobe;") (by decide +kernel)
  have f_120 := hts (.fieldLink RX6 120 "CastDesk$Wardrobe" "count" "I") (by decide +kernel)
  have f_131 := hts (.fieldLink RX6 131 "CastDesk$Wardrobe" "sizes" "[I") (by decide +kernel)
  have iX5 : ∀ w ∈ wsX50, w ∈ wsX6_sizeOf := by decide +kernel
  have iX6 : ∀ w ∈ wsX60, w ∈ wsX6_sizeOf := by decide +kernel
  have hl := lv_entry ([.ref (h 0), .int c]) (n := 2) (Nat.le_of_ble_eq_true rfl)
  rw [lg_entry_eq]
  generalize (lg_sl ([.ref (h 0), .int c]) ++ List.replicate (2 - (lg_sl ([.ref (h 0), .int c])).length) Slot.unset).toArray = ls at hl ⊢
  have hl : lv_has ls 2 [(0, .ref (h 0)), (1, .int c)] := hl
  have h29 := (iv_29 hI).2
  refine lv_iload_n hx hb dX6_sizeOf_0 rfl (lv_at hl 1 rfl) ?_
  refine lv_aload_n hx hb dX6_sizeOf_1 rfl (lv_at hl 0 rfl) ?_
  refine va_get (D := D) (ci := 6) (v := .ref (h 8)) (C := RX6) (T := TX6) (N := 8) hx hb hts iX6 hown hK hP 0 rfl rfl 2 (by decide) f_26 (fun _ h9 => h9) rfl dX6_sizeOf_2 ?_
  refine va_get (D := D) (ci := 5) (v := .int (S 29 0)) (C := RX5) (T := TX5) (N := 4) hx hb hts iX5 hown hK hP 8 rfl rfl 3 (by decide) f_120 (fun _ h9 => h9) rfl dX6_sizeOf_5 ?_
  have b_5 := iv_29 hI
  refine cd_tp (y := nI (nv (S 29 0))) b_5.1 ?_
  have b_5 := b_5.2
  have M_8 := c_X6_needOneOf l D cy hfl c (nv (S 29 0)) (by omega) s.heap.size
  have hPc : va_P D vwCl [] s.heap := fun k q h9 => by simp at h9
  have hDc : va_D A [] := ⟨fun i j x9 y9 h9 => by simp at h9, fun k q h9 => by simp at h9⟩
  refine cd_xrv (vx_runS (As := [.int c, .int (nI (nv (S 29 0)))]) (rest := []) ⟨hx, hb, hml, hown, hts⟩ M_8 (va_cwS 2 hts gX6_sizeOf_X6_needOneOf rfl rfl rfl (by decide +kernel) ⟨Nat.le_of_ble_eq_true rfl, Nat.le_of_ble_eq_true rfl⟩) ⟨thB.bl, fun U hU hW => ⟨rfl, ⟨by rw [hU], by rw [hU]; exact hPc, hG.warm hW, hDc.weaken (fun _ _ _ _ => trivial)⟩, hTz.down hS (vaA_nil (fun q h9 => hA q (Nat.le_trans hS.1 h9))) hU hW⟩⟩ rfl rfl hl.1 rfl (lv_room (Nat.le_of_ble_eq_true rfl)) dX6_sizeOf_8 (by exact ⟨Nat.le_of_ble_eq_true rfl, Nat.le_of_ble_eq_true rfl⟩)) hS (vaA_nil (fun q h9 => hA q (Nat.le_trans hS.1 h9))) (fun E9 ce9 q9 H1 locs1 hw_8 hS1 hz1 hk1 hce hcv hcl => ?_) (fun hw_8 locs hS => ?_)
  · exact vx_out (fun x h9 => (htab x h9).elim) hlocks hce hcv hcl (fun t ht hv9 => ⟨⟨hw_8.1, by rw [hw_8.2]; rfl⟩, by rw [ht]; exact hz1, fun q h9 => by rw [ht]; exact hk1 q h9⟩) hS1.2.2 (by decide) (by decide)
  · obtain ⟨jc, hjc, rfl⟩ := inI_cnt (by omega) hw_8
    try rw [nv_nI (show jc < 2147483648 by omega)]
    refine lv_aload_n hx hb dX6_sizeOf_11 rfl (lv_at hl 0 rfl) ?_
    refine va_get (D := D) (ci := 6) (v := .ref (h 8)) (C := RX6) (T := TX6) (N := 8) hx hb hts iX6 hown hK hP 0 rfl rfl 2 (by decide) f_26 (fun _ h9 => h9) rfl dX6_sizeOf_12 ?_
    refine va_get (D := D) (ci := 5) (v := .ref (h 9)) (C := RX5) (T := TX5) (N := 4) hx hb hts iX5 hown hK hP 8 rfl rfl 0 (by decide) f_131 (fun _ h9 => h9) rfl dX6_sizeOf_15 ?_
    refine lv_iload_n hx hb dX6_sizeOf_18 rfl (lv_at hl 1 rfl) ?_
    refine cd_iald (f := S 9) hx hb hK hP 9 rfl (by omega) (by decide) dX6_sizeOf_19 ?_
    refine vx_ret ?_
    refine W.widen (k := 4) (n := 24) (by decide) (by decide) ?_
    exact W.iret (v := (S 9) jc) hx hb hr (fun t ht hW => ⟨⟨_, J, rfl, (⟨rfl, by rw [hw_8]; rfl, hJ⟩), by rw [ht]; exact hP, hD⟩, hS.F ht⟩) hS.2.2 dX6_sizeOf_20
