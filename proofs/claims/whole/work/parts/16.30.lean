set_option maxHeartbeats 4000000 in
set_option maxRecDepth 100000 in
theorem c_X7_played (l : Launch) (D : va_G) (cy : qT) (g : Nat → Nat) (S : qS) (K : qS) (hI : Inv S) (w : Int32) (p : Int32) (sz : Nat) : Met l yX7_played wsX7_played ({ frames := 2, cells := 0, slots := 0, locals := 42 }) (va_Pc [.ref (g 0), .int w, .int p] (wrB D cy (wM cy g S K) sz)) (va_Qi (fun (r9 : Int32) (u : qS × qS) => mO (th1 (inI w (nI 0) (nI (nv (S 30 0)) - nI 1) && inI p (nI 0) (nI 7))) (S 18 (nv w * 8 + nv p)) S S r9 u) (wrQ D (va_A (wM cy g S K) sz) (fun u : qS × qS => wM cy g u.1 u.2)) (va_A (wM cy g S K) sz)) 0 0 (va_A (wM cy g S K) sz) := by
  refine Met.ofW (cc := cX7_played) (maxL := 3) (ret := (some .int)) (by decide) rfl ?_
  intro pp e9 s m9 args9 bl9 meth9 c9 s9 B hml hv
  obtain ⟨rfl, hsz, hP, hG, hD0⟩ := hv
  have hx := B.exec
  have hb := B.bytes
  have hr := B.returns
  have hts := atoms_spec (ws := wsX7_played) B.pre
  have hown : s.vm.findClass RX7 = some m9.cls := findClass_of_methodNamed B.named
  have hlocks := B.notSynchronized
  have hK := hG.K
  subst hsz
  have hD := hD0.self (sz := s.heap.size)
  generalize hAe : (va_A (wM cy g S K) s.heap.size) = A at hD ⊢
  have hA : ∀ q : Nat, s.heap.size ≤ q → A q := fun q h9 => by rw [← hAe]; exact Or.inr h9
  have hS : va_S A s.heap s.heap [] := va_S.rf
  have hP : va_P D vwCl (wM cy g S K) s.heap := hP
  have f_74 := hts (.fieldLink RX7 74 "CastDeskModel" "thrown" "I") (by decide +kernel)
  have f_141 := hts (.fieldLink RX7 141 "CastDeskModel" "shows" "I") (by decide +kernel)
  have f_44 := hts (.fieldLink RX7 44 "CastDeskModel" "showCast" "[I") (by decide +kernel)
  have iX7 : ∀ w ∈ wsX70, w ∈ wsX7_played := by decide +kernel
  have hl := lv_entry ([.ref (g 0), .int w, .int p]) (n := 3) (Nat.le_of_ble_eq_true rfl)
  rw [lg_entry_eq]
  generalize (lg_sl ([.ref (g 0), .int w, .int p]) ++ List.replicate (3 - (lg_sl ([.ref (g 0), .int w, .int p])).length) Slot.unset).toArray = ls at hl ⊢
  have hl : lv_has ls 3 [(0, .ref (g 0)), (1, .int w), (2, .int p)] := hl
  have h30 := (iv_30 hI).2
  refine lv_aload_n hx hb dX7_played_0 rfl (lv_at hl 0 rfl) ?_
  refine lv_iconst (v := nI 0) hx hb dX7_played_1 (by decide) ?_
  refine va_put (D := D) (ci := 7) (v := .int (nI 0)) (ty := .int) (C := RX7) (T := TX7) (N := 29) hx hb hts iX7 tyX7 tyX7_ok nmX7 hown hK hP hD hS 0 rfl rfl 28 (by decide) f_74 (fun _ h9 => h9) rfl (by decide +kernel) rfl rfl (Nat.le_of_ble_eq_true rfl) dX7_played_2 (fun H locs hP hD hS => ?_)
  have hP : va_P D vwCl (wM cy g S (va_up K 28 (fun _ => nI 0))) H := hP
  have hD : va_D A (wM cy g S (va_up K 28 (fun _ => nI 0))) := hD
  refine lv_iload_n hx hb dX7_played_5 rfl (lv_at hl 1 rfl) ?_
  refine lv_iconst (v := nI 0) hx hb dX7_played_6 (by decide) ?_
  refine lv_aload_n hx hb dX7_played_7 rfl (lv_at hl 0 rfl) ?_
  refine va_get (D := D) (ci := 7) (v := .int (S 30 0)) (C := RX7) (T := TX7) (N := 29) hx hb hts iX7 hown hK hP 0 rfl rfl 13 (by decide) f_141 (fun _ h9 => h9) rfl dX7_played_8 ?_
  have b_8 := iv_30 hI
  refine cd_tp (y := nI (nv (S 30 0))) b_8.1 ?_
  have b_8 := b_8.2
  refine lv_iconst (v := nI 1) hx hb dX7_played_11 (by decide) ?_
  refine lv_isub hx hb dX7_played_12 ?_
  have M_13 := c_X7_in l w (nI 0) ((nI (nv (S 30 0))) - (nI 1))
  refine cd_roi (va_runS (As := [.int w, .int (nI 0), .int ((nI (nv (S 30 0))) - (nI 1))]) (rest := []) ⟨hx, hb, hml, hown, hts⟩ M_13 (va_cwS 3 hts gX7_played_X7_in rfl rfl rfl (by decide +kernel) ⟨Nat.le_of_ble_eq_true rfl, Nat.le_of_ble_eq_true rfl⟩) ⟨nuB.bl, fun U hU hW => ⟨rfl, trivial⟩⟩ rfl rfl hl.1 rfl (lv_room (Nat.le_of_ble_eq_true rfl)) dX7_played_13 (by exact ⟨Nat.zero_le _, Nat.zero_le _⟩)) (fun r_13 hr_13 => ?_)
  subst hr_13
  refine cd_ifB_eq (tgt := 40) hx hb dX7_played_16 (by decide) (fun c_16 => ?_) (fun c_16 => ?_)
  · refine lv_aload_n hx hb dX7_played_40 rfl (lv_at hl 0 rfl) ?_
    refine lv_iconst (v := nI 1) hx hb dX7_played_41 (by decide) ?_
    have M_42 := c_X7_fails l D cy g S (va_up K 28 (fun _ => nI 0)) (nI 1) H.size
    refine cd_fri (S := Unit) (W1 := fun u => (wM cy g S (va_up (va_up K 28 (fun _ => nI 0)) 28 (fun _ => (nI 1))))) (ws' := fun u => (wM cy g S (va_up K 28 (fun _ => (nI 1))))) (wc := (wM cy g S (va_up K 28 (fun _ => nI 0)))) (wr := []) (va_runV (As := [.int (nI 1)]) (rest := []) ⟨hx, hb, hml, hown, hts⟩ M_42 (cwV 1 hts gX7_played_X7_fails rfl rfl rfl (by decide +kernel) ⟨Nat.le_of_ble_eq_true rfl, Nat.le_of_ble_eq_true rfl⟩) ⟨wrB.bl, va_recv hK hP (ci := 7) (q0 := 0) rfl rfl, fun U hU hW => ⟨rfl, by rw [hU], by rw [hU]; exact hP, hG.warm hW, hD.weaken (fun _ _ _ _ => trivial)⟩⟩ rfl rfl hl.1 rfl (lv_room (Nat.le_of_ble_eq_true rfl)) dX7_played_42 (by exact ⟨Nat.zero_le _, Nat.zero_le _⟩)) hP hD hS hA [0, 1, 2, 3, 4, 5, 6, 7, 8, 9, 10, 11, 12, 13, 14, 15, 16, 17, 18, 19, 20] [] [0, 1, 2, 3, 4, 5, 6, 7, 8, 9, 10, 11, 12, 13, 14, 15, 16, 17, 18, 19, 20] rfl rfl (by decide) (by decide) (by decide) (fun _ => rfl) (fun r_42 _ H locs hw_42 hP hD hS => ?_)
    subst hw_42
    have hP : va_P D vwCl (wM cy g S (va_up K 28 (fun _ => (nI 1)))) H := hP
    have hD : va_D A (wM cy g S (va_up K 28 (fun _ => (nI 1)))) := hD
    exact W.iret (v := nI 0) hx hb hr (fun t ht hW => ⟨⟨nI 0, (S, (va_up K 28 (fun _ => (nI 1)))), rfl, mO_no (k := 1) (by decide) (by decide) (by rw [c_16]; rfl) rfl, by rw [ht]; exact hP, hD⟩, hS.F ht⟩) hS.2.2 dX7_played_45
  · obtain ⟨jw, hjw, rfl⟩ := inI_cnt (by omega) c_16
    try rw [nv_nI (show jw < 2147483648 by omega)]
    refine lv_iload_n hx hb dX7_played_19 rfl (lv_at hl 2 rfl) ?_
    have M_20 := c_X7_isPart l p
    refine cd_roi (va_runS (As := [.int p]) (rest := []) ⟨hx, hb, hml, hown, hts⟩ M_20 (va_cwS 1 hts gX7_played_X7_isPart rfl rfl rfl (by decide +kernel) ⟨Nat.le_of_ble_eq_true rfl, Nat.le_of_ble_eq_true rfl⟩) ⟨nuB.bl, fun U hU hW => ⟨rfl, trivial⟩⟩ rfl rfl hl.1 rfl (lv_room (Nat.le_of_ble_eq_true rfl)) dX7_played_20 (by exact ⟨Nat.zero_le _, Nat.zero_le _⟩)) (fun r_20 hr_20 => ?_)
    subst hr_20
    refine cd_ifB_eq (tgt := 40) hx hb dX7_played_23 (by decide) (fun c_23 => ?_) (fun c_23 => ?_)
    · refine lv_aload_n hx hb dX7_played_40 rfl (lv_at hl 0 rfl) ?_
      refine lv_iconst (v := nI 1) hx hb dX7_played_41 (by decide) ?_
      have M_42 := c_X7_fails l D cy g S (va_up K 28 (fun _ => nI 0)) (nI 1) H.size
      refine cd_fri (S := Unit) (W1 := fun u => (wM cy g S (va_up (va_up K 28 (fun _ => nI 0)) 28 (fun _ => (nI 1))))) (ws' := fun u => (wM cy g S (va_up K 28 (fun _ => (nI 1))))) (wc := (wM cy g S (va_up K 28 (fun _ => nI 0)))) (wr := []) (va_runV (As := [.int (nI 1)]) (rest := []) ⟨hx, hb, hml, hown, hts⟩ M_42 (cwV 1 hts gX7_played_X7_fails rfl rfl rfl (by decide +kernel) ⟨Nat.le_of_ble_eq_true rfl, Nat.le_of_ble_eq_true rfl⟩) ⟨wrB.bl, va_recv hK hP (ci := 7) (q0 := 0) rfl rfl, fun U hU hW => ⟨rfl, by rw [hU], by rw [hU]; exact hP, hG.warm hW, hD.weaken (fun _ _ _ _ => trivial)⟩⟩ rfl rfl hl.1 rfl (lv_room (Nat.le_of_ble_eq_true rfl)) dX7_played_42 (by exact ⟨Nat.zero_le _, Nat.zero_le _⟩)) hP hD hS hA [0, 1, 2, 3, 4, 5, 6, 7, 8, 9, 10, 11, 12, 13, 14, 15, 16, 17, 18, 19, 20] [] [0, 1, 2, 3, 4, 5, 6, 7, 8, 9, 10, 11, 12, 13, 14, 15, 16, 17, 18, 19, 20] rfl rfl (by decide) (by decide) (by decide) (fun _ => rfl) (fun r_42 _ H locs hw_42 hP hD hS => ?_)
      subst hw_42
      have hP : va_P D vwCl (wM cy g S (va_up K 28 (fun _ => (nI 1)))) H := hP
      have hD : va_D A (wM cy g S (va_up K 28 (fun _ => (nI 1)))) := hD
      exact W.iret (v := nI 0) hx hb hr (fun t ht hW => ⟨⟨nI 0, (S, (va_up K 28 (fun _ => (nI 1)))), rfl, mO_no (k := 1) (by decide) (by decide) (by rw [c_16, c_23]; rfl) rfl, by rw [ht]; exact hP, hD⟩, hS.F ht⟩) hS.2.2 dX7_played_45
    · obtain ⟨jp, hjp, rfl⟩ := inI_nat (by decide) c_23
      try rw [nv_nI (show jp < 2147483648 by omega)]
      refine lv_aload_n hx hb dX7_played_26 rfl (lv_at hl 0 rfl) ?_
      refine va_get (D := D) (ci := 7) (v := .ref (g 12)) (C := RX7) (T := TX7) (N := 29) hx hb hts iX7 hown hK hP 0 rfl rfl 12 (by decide) f_44 (fun _ h9 => h9) rfl dX7_played_27 ?_
      refine lv_bipush (v := nI 8) hx hb dX7_played_30 (by decide) ?_
      refine lv_iload_n hx hb dX7_played_32 rfl (lv_at hl 1 rfl) ?_
      refine cd_imul hx hb dX7_played_33 ?_
      refine lv_iload_n hx hb dX7_played_34 rfl (lv_at hl 2 rfl) ?_
      refine cd_iadd hx hb dX7_played_35 ?_
      refine cd_iald (f := scM (S 18) (S 30 0)) hx hb hK hP 11 rfl (by omega) (by decide) dX7_played_36 ?_
      refine cd_tp (y := S 18 (jw * 8 + jp)) (sc_r (by omega) (by omega)) ?_
      refine lv_goto (tgt := 45) hx hb dX7_played_37 (by decide) ?_
      exact W.iret (v := S 18 (jw * 8 + jp)) hx hb hr (fun t ht hW => ⟨⟨S 18 (jw * 8 + jp), (_, (va_up K 28 (fun _ => nI 0))), rfl, mO_ok (by rw [c_16, c_23]; rfl) (rfl) rfl, by rw [ht]; exact hP, hD⟩, hS.F ht⟩) hS.2.2 dX7_played_45
