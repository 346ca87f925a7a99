set_option maxHeartbeats 4000000 in
set_option maxRecDepth 100000 in
theorem c_X7_sizeOf (l : Launch) (D : va_G) (cy : qT) (g : Nat → Nat) (S : qS) (K : qS) (hI : Inv S) (c : Int32) (sz : Nat) : Met l yX7_sizeOf wsX7_sizeOf ({ frames := 1, cells := 0, slots := 0, locals := 22 }) (va_Pc [.ref (g 0), .int c] (wrB D cy (wM cy g S K) sz)) (va_Qi (fun (r9 : Int32) (u : qS × qS) => mO (th1 (inI c (nI 0) (nI (nv (S 29 0)) - nI 1))) (S 9 (nv c)) S S r9 u) (wrQ D (va_A (wM cy g S K) sz) (fun u : qS × qS => wM cy g u.1 u.2)) (va_A (wM cy g S K) sz)) 0 0 (va_A (wM cy g S K) sz) := by
  refine Met.ofW (cc := cX7_sizeOf) (maxL := 2) (ret := (some .int)) (by decide) rfl ?_
  intro pp e9 s m9 args9 bl9 meth9 c9 s9 B hml hv
  obtain ⟨rfl, hsz, hP, hG, hD0⟩ := hv
  have hx := B.exec
  have hb := B.bytes
  have hr := B.returns
  have hts := atoms_spec (ws := wsX7_sizeOf) B.pre
  have hown : s.vm.findClass RX7 = some m9.cls := findClass_of_methodNamed B.named
  have hlocks := B.notSynchronized
  have hK := hG.K
  subst hsz
  have hD := hD0.self (sz := s.heap.size)
  generalize hAe : (va_A (wM cy g S K) s.heap.size) = A at hD ⊢
  have hA : ∀ q : Nat, s.heap.size ≤ q → A q := fun q h9 => by rw [← hAe]; exact Or.inr h9
  have hS : va_S A s.heap s.heap [] := va_S.rf
  have hP : va_P D vwCl (wM cy g S K) s.heap := hP
  have f_74 := hts (.fieldLink RX7 74 "CastDeskModel" "thrown" "I") (by decide +kernel)
  have f_103 := hts (.fieldLink RX7 103 "CastDeskModel" "costumes" "I") (by decide +kernel)
  have f_29 := hts (.fieldLink RX7 29 "CastDeskModel" "costumeSize" "[I") (by decide +kernel)
  have iX7 : ∀ w ∈ wsX70, w ∈ wsX7_sizeOf := by decide +kernel
  have hl := lv_entry ([.ref (g 0), .int c]) (n := 2) (Nat.le_of_ble_eq_true rfl)
  rw [lg_entry_eq]
  generalize (lg_sl ([.ref (g 0), .int c]) ++ List.replicate (2 - (lg_sl ([.ref (g 0), .int c])).length) Slot.unset).toArray = ls at hl ⊢
  have hl : lv_has ls 2 [(0, .ref (g 0)), (1, .int c)] := hl
  have h29 := (iv_29 hI).2
  refine lv_aload_n hx hb dX7_sizeOf_0 rfl (lv_at hl 0 rfl) ?_
  refine lv_iconst (v := nI 0) hx hb dX7_sizeOf_1 (by decide) ?_
  refine va_put (D := D) (ci := 7) (v := .int (nI 0)) (ty := .int) (C := RX7) (T := TX7) (N := 29) hx hb hts iX7 tyX7 tyX7_ok nmX7 hown hK hP hD hS 0 rfl rfl 28 (by decide) f_74 (fun _ h9 => h9) rfl (by decide +kernel) rfl rfl (Nat.le_of_ble_eq_true rfl) dX7_sizeOf_2 (fun H locs hP hD hS => ?_)
  have hP : va_P D vwCl (wM cy g S (va_up K 28 (fun _ => nI 0))) H := hP
  have hD : va_D A (wM cy g S (va_up K 28 (fun _ => nI 0))) := hD
  refine lv_iload_n hx hb dX7_sizeOf_5 rfl (lv_at hl 1 rfl) ?_
  refine lv_iconst (v := nI 0) hx hb dX7_sizeOf_6 (by decide) ?_
  refine lv_aload_n hx hb dX7_sizeOf_7 rfl (lv_at hl 0 rfl) ?_
  refine va_get (D := D) (ci := 7) (v := .int (S 29 0)) (C := RX7) (T := TX7) (N := 29) hx hb hts iX7 hown hK hP 0 rfl rfl 8 (by decide) f_103 (fun _ h9 => h9) rfl dX7_sizeOf_8 ?_
  have b_8 := iv_29 hI
  refine cd_tp (y := nI (nv (S 29 0))) b_8.1 ?_
  have b_8 := b_8.2
  refine lv_iconst (v := nI 1) hx hb dX7_sizeOf_11 (by decide) ?_
  refine lv_isub hx hb dX7_sizeOf_12 ?_
  have M_13 := c_X7_in l c (nI 0) ((nI (nv (S 29 0))) - (nI 1))
  refine cd_roi (va_runS (As := [.int c, .int (nI 0), .int ((nI (nv (S 29 0))) - (nI 1))]) (rest := []) ⟨hx, hb, hml, hown, hts⟩ M_13 (va_cwS 3 hts gX7_sizeOf_X7_in rfl rfl rfl (by decide +kernel) ⟨Nat.le_of_ble_eq_true rfl, Nat.le_of_ble_eq_true rfl⟩) ⟨nuB.bl, fun U hU hW => ⟨rfl, trivial⟩⟩ rfl rfl hl.1 rfl (lv_room (Nat.le_of_ble_eq_true rfl)) dX7_sizeOf_13 (by exact ⟨Nat.zero_le _, Nat.zero_le _⟩)) (fun r_13 hr_13 => ?_)
  subst hr_13
  refine cd_ifB_eq (tgt := 28) hx hb dX7_sizeOf_16 (by decide) (fun c_16 => ?_) (fun c_16 => ?_)
  · refine lv_aload_n hx hb dX7_sizeOf_28 rfl (lv_at hl 0 rfl) ?_
    refine lv_iconst (v := nI 1) hx hb dX7_sizeOf_29 (by decide) ?_
    have M_30 := c_X7_fails l D cy g S (va_up K 28 (fun _ => nI 0)) (nI 1) H.size
    refine cd_fri (S := Unit) (W1 := fun u => (wM cy g S (va_up (va_up K 28 (fun _ => nI 0)) 28 (fun _ => (nI 1))))) (ws' := fun u => (wM cy g S (va_up K 28 (fun _ => (nI 1))))) (wc := (wM cy g S (va_up K 28 (fun _ => nI 0)))) (wr := []) (va_runV (As := [.int (nI 1)]) (rest := []) ⟨hx, hb, hml, hown, hts⟩ M_30 (cwV 1 hts gX7_sizeOf_X7_fails rfl rfl rfl (by decide +kernel) ⟨Nat.le_of_ble_eq_true rfl, Nat.le_of_ble_eq_true rfl⟩) ⟨wrB.bl, va_recv hK hP (ci := 7) (q0 := 0) rfl rfl, fun U hU hW => ⟨rfl, by rw [hU], by rw [hU]; exact hP, hG.warm hW, hD.weaken (fun _ _ _ _ => trivial)⟩⟩ rfl rfl hl.1 rfl (lv_room (Nat.le_of_ble_eq_true rfl)) dX7_sizeOf_30 (by exact ⟨Nat.zero_le _, Nat.zero_le _⟩)) hP hD hS hA [0, 1, 2, 3, 4, 5, 6, 7, 8, 9, 10, 11, 12, 13, 14, 15, 16, 17, 18, 19, 20] [] [0, 1, 2, 3, 4, 5, 6, 7, 8, 9, 10, 11, 12, 13, 14, 15, 16, 17, 18, 19, 20] rfl rfl (by decide) (by decide) (by decide) (fun _ => rfl) (fun r_30 _ H locs hw_30 hP hD hS => ?_)
    subst hw_30
    have hP : va_P D vwCl (wM cy g S (va_up K 28 (fun _ => (nI 1)))) H := hP
    have hD : va_D A (wM cy g S (va_up K 28 (fun _ => (nI 1)))) := hD
    exact W.iret (v := nI 0) hx hb hr (fun t ht hW => ⟨⟨nI 0, (S, (va_up K 28 (fun _ => (nI 1)))), rfl, mO_no (k := 1) (by decide) (by decide) (by rw [c_16]; rfl) rfl, by rw [ht]; exact hP, hD⟩, hS.F ht⟩) hS.2.2 dX7_sizeOf_33
  · obtain ⟨jc, hjc, rfl⟩ := inI_cnt (by omega) c_16
    try rw [nv_nI (show jc < 2147483648 by omega)]
    refine lv_aload_n hx hb dX7_sizeOf_19 rfl (lv_at hl 0 rfl) ?_
    refine va_get (D := D) (ci := 7) (v := .ref (g 6)) (C := RX7) (T := TX7) (N := 29) hx hb hts iX7 hown hK hP 0 rfl rfl 6 (by decide) f_29 (fun _ h9 => h9) rfl dX7_sizeOf_20 ?_
    refine lv_iload_n hx hb dX7_sizeOf_23 rfl (lv_at hl 1 rfl) ?_
    refine cd_iald (f := S 9) hx hb hK hP 6 rfl (by omega) (by decide) dX7_sizeOf_24 ?_
    refine lv_goto (tgt := 33) hx hb dX7_sizeOf_25 (by decide) ?_
    exact W.iret (v := (S 9) jc) hx hb hr (fun t ht hW => ⟨⟨(S 9) jc, (_, (va_up K 28 (fun _ => nI 0))), rfl, mO_ok (by rw [c_16]; rfl) (rfl) rfl, by rw [ht]; exact hP, hD⟩, hS.F ht⟩) hS.2.2 dX7_sizeOf_33
