set_option maxHeartbeats 4000000 in
set_option maxRecDepth 100000 in
theorem c_X6_setSize (l : Launch) (D : va_G) (cy : qT) (hfl : l.stackTraces = false) (h : Nat → Nat) (S : qS) (J : qS) (hI : Inv S) (a : Int32) (z : Int32) (hJ : jk J) (sz : Nat) : vx_Met l yX6_setSize wsX6_setSize ({ frames := 7, cells := 4, slots := 24, locals := 112 }) (va_Pc [.ref (h 0), .int a, .int z] (thB D cy (wC cy h S J) sz)) (va_Qi (fun (r9 : Int32) (u : qS) => r9 = S 2 (nv a) ∧ th2 (inI a (nI 0) (nI 11)) (inI z (nI 0) (nI 9)) = nI 0 ∧ jk u) (wrQ D (va_A (wC cy h S J) sz) (fun u : qS => (wC cy h (va_up S 2 (upd (S 2) (nv a) z)) u))) (va_A (wC cy h S J) sz)) (nX (fun E => (E = xIO ∧ th2 (inI a (nI 0) (nI 11)) (inI z (nI 0) (nI 9)) = nI 1) ∨ (E = xIA ∧ th2 (inI a (nI 0) (nI 11)) (inI z (nI 0) (nI 9)) = nI 2))) 4 24 (va_A (wC cy h S J) sz) := by
  refine vx_ofW (cc := cX6_setSize) (maxL := 4) (ret := (some .int)) (by decide) rfl ?_
  intro pp e9 s m9 args9 bl9 meth9 c9 s9 B hml htab hv
  obtain ⟨rfl, ⟨hsz, hP, hG, hD0⟩, hTz⟩ := hv
  have hx := B.exec
  have hb := B.bytes
  have hr := B.returns
  have hts := atoms_spec (ws := wsX6_setSize) B.pre
  have hown : s.vm.findClass RX6 = some m9.cls := findClass_of_methodNamed B.named
  have hlocks := B.notSynchronized
  have hK := hG.K
  subst hsz
  have hD := hD0.self (sz := s.heap.size)
  generalize hAe : (va_A (wC cy h S J) s.heap.size) = A at hD hTz ⊢
  have hA : ∀ q : Nat, s.heap.size ≤ q → A q := fun q h9 => by rw [← hAe]; exact Or.inr h9
  have hS : va_S A s.heap s.heap [] := va_S.rf
  have hP : va_P D vwCl (wC cy h S J) s.heap := hP
  have f_10 := hts (.fieldLink RX6 10 "CastDesk" "troupe" "LCastDesk$Troupe;") (by decide +kernel)
  have f_72 := hts (.fieldLink RX6 72 "CastDesk$Troupe" "sizes" "[I") (by decide +kernel)
  have iX4 : ∀ w ∈ wsX40, w ∈ wsX6_setSize := by decide +kernel
  have iX6 : ∀ w ∈ wsX60, w ∈ wsX6_setSize := by decide +kernel
  have hl := lv_entry ([.ref (h 0), .int a, .int z]) (n := 4) (Nat.le_of_ble_eq_true rfl)
  rw [lg_entry_eq]
  generalize (lg_sl ([.ref (h 0), .int a, .int z]) ++ List.replicate (4 - (lg_sl ([.ref (h 0), .int a, .int z])).length) Slot.unset).toArray = ls at hl ⊢
  have hl : lv_has ls 4 [(0, .ref (h 0)), (1, .int a), (2, .int z)] := hl
  refine lv_iload_n hx hb dX6_setSize_0 rfl (lv_at hl 1 rfl) ?_
  have M_1 := c_X6_needActor l D cy hfl a s.heap.size
  have hPc : va_P D vwCl [] s.heap := fun k q h9 => by simp at h9
  have hDc : va_D A [] := ⟨fun i j x9 y9 h9 => by simp at h9, fun k q h9 => by simp at h9⟩
  refine cd_xrv (vx_runS (As := [.int a]) (rest := []) ⟨hx, hb, hml, hown, hts⟩ M_1 (va_cwS 1 hts gX6_setSize_X6_needActor rfl rfl rfl (by decide +kernel) ⟨Nat.le_of_ble_eq_true rfl, Nat.le_of_ble_eq_true rfl⟩) ⟨thB.bl, fun U hU hW => ⟨rfl, ⟨by rw [hU], by rw [hU]; exact hPc, hG.warm hW, hDc.weaken (fun _ _ _ _ => trivial)⟩, hTz.down hS (vaA_nil (fun q h9 => hA q (Nat.le_trans hS.1 h9))) hU hW⟩⟩ rfl rfl hl.1 rfl (lv_room (Nat.le_of_ble_eq_true rfl)) dX6_setSize_1 (by exact ⟨Nat.le_of_ble_eq_true rfl, Nat.le_of_ble_eq_true rfl⟩)) hS (vaA_nil (fun q h9 => hA q (Nat.le_trans hS.1 h9))) (fun E9 ce9 q9 H1 locs1 hw_1 hS1 hz1 hk1 hce hcv hcl => ?_) (fun hw_1 locs hS => ?_)
  · exact vx_out (fun x h9 => (htab x h9).elim) hlocks hce hcv hcl (fun t ht hv9 => ⟨Or.inl (⟨hw_1.1, by rw [hw_1.2]; rfl⟩), by rw [ht]; exact hz1, fun q h9 => by rw [ht]; exact hk1 q h9⟩) hS1.2.2 (by decide) (by decide)
  · obtain ⟨ja, hja, rfl⟩ := inI_nat (by decide) hw_1
    try rw [nv_nI (show ja < 2147483648 by omega)]
    refine lv_iload_n hx hb dX6_setSize_4 rfl (lv_at hl 2 rfl) ?_
    have M_5 := c_X6_needSize l D cy hfl z s.heap.size
    have hPc : va_P D vwCl [] s.heap := fun k q h9 => by simp at h9
    have hDc : va_D A [] := ⟨fun i j x9 y9 h9 => by simp at h9, fun k q h9 => by simp at h9⟩
    refine cd_xrv (vx_runS (As := [.int z]) (rest := []) ⟨hx, hb, hml, hown, hts⟩ M_5 (va_cwS 1 hts gX6_setSize_X6_needSize rfl rfl rfl (by decide +kernel) ⟨Nat.le_of_ble_eq_true rfl, Nat.le_of_ble_eq_true rfl⟩) ⟨thB.bl, fun U hU hW => ⟨rfl, ⟨by rw [hU], by rw [hU]; exact hPc, hG.warm hW, hDc.weaken (fun _ _ _ _ => trivial)⟩, hTz.down hS (vaA_nil (fun q h9 => hA q (Nat.le_trans hS.1 h9))) hU hW⟩⟩ rfl rfl hl.1 rfl (lv_room (Nat.le_of_ble_eq_true rfl)) dX6_setSize_5 (by exact ⟨Nat.le_of_ble_eq_true rfl, Nat.le_of_ble_eq_true rfl⟩)) hS (vaA_nil (fun q h9 => hA q (Nat.le_trans hS.1 h9))) (fun E9 ce9 q9 H1 locs1 hw_5 hS1 hz1 hk1 hce hcv hcl => ?_) (fun hw_5 locs hS => ?_)
    · exact vx_out (fun x h9 => (htab x h9).elim) hlocks hce hcv hcl (fun t ht hv9 => ⟨Or.inr (⟨hw_5.1, by rw [hw_1, hw_5.2]; rfl⟩), by rw [ht]; exact hz1, fun q h9 => by rw [ht]; exact hk1 q h9⟩) hS1.2.2 (by decide) (by decide)
    · refine lv_aload_n hx hb dX6_setSize_8 rfl (lv_at hl 0 rfl) ?_
      refine va_get (D := D) (ci := 6) (v := .ref (h 1)) (C := RX6) (T := TX6) (N := 8) hx hb hts iX6 hown hK hP 0 rfl rfl 0 (by decide) f_10 (fun _ h9 => h9) rfl dX6_setSize_9 ?_
      refine va_get (D := D) (ci := 4) (v := .ref (h 2)) (C := RX4) (T := TX4) (N := 3) hx hb hts iX4 hown hK hP 1 rfl rfl 0 (by decide) f_72 (fun _ h9 => h9) rfl dX6_setSize_12 ?_
      refine lv_iload_n hx hb dX6_setSize_15 rfl (lv_at hl 1 rfl) ?_
      refine cd_iald (f := S 2) hx hb hK hP 2 rfl (by omega) (by decide) dX6_setSize_16 ?_
      refine lv_istore_n (lv' := [(3, .int ((S 2) ja)), (0, .ref (h 0)), (1, .int (nI ja)), (2, .int z)]) hx hb dX6_setSize_17 rfl hl (by decide) rfl (fun ls hl => ?_)
      refine lv_aload_n hx hb dX6_setSize_18 rfl (lv_at hl 1 rfl) ?_
      refine va_get (D := D) (ci := 6) (v := .ref (h 1)) (C := RX6) (T := TX6) (N := 8) hx hb hts iX6 hown hK hP 0 rfl rfl 0 (by decide) f_10 (fun _ h9 => h9) rfl dX6_setSize_19 ?_
      refine va_get (D := D) (ci := 4) (v := .ref (h 2)) (C := RX4) (T := TX4) (N := 3) hx hb hts iX4 hown hK hP 1 rfl rfl 0 (by decide) f_72 (fun _ h9 => h9) rfl dX6_setSize_22 ?_
      refine lv_iload_n hx hb dX6_setSize_25 rfl (lv_at hl 2 rfl) ?_
      refine lv_iload_n hx hb dX6_setSize_26 rfl (lv_at hl 3 rfl) ?_
      refine cd_iast (f := S 2) hx hb hK hP hD hS 2 rfl (by omega) (by decide) dX6_setSize_27 (fun H locs hP hD hS => ?_)
      have hP : va_P D vwCl (wC cy h (va_up S 2 (upd (S 2) ja z)) J) H := hP
      have hD : va_D A (wC cy h (va_up S 2 (upd (S 2) ja z)) J) := hD
      refine lv_iload_n hx hb dX6_setSize_28 rfl (lv_at hl 0 rfl) ?_
      refine vx_ret ?_
      refine W.widen (k := 4) (n := 24) (by decide) (by decide) ?_
      exact W.iret (v := (S 2) ja) hx hb hr (fun t ht hW => ⟨⟨_, J, rfl, (⟨rfl, by rw [hw_1, hw_5]; rfl, hJ⟩), by rw [ht]; exact hP, hD⟩, hS.F ht⟩) hS.2.2 dX6_setSize_29
