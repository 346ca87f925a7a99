set_option maxHeartbeats 4000000 in
set_option maxRecDepth 100000 in
theorem c_X7_costume (l : Launch) (D : va_G) (cy : qT) (g : Nat → Nat) (S : qS) (K : qS) (hI : Inv S) (p : Int32) (z : Int32) (sz : Nat) : Met l yX7_costume wsX7_costume ({ frames := 2, cells := 0, slots := 0, locals := 42 }) (va_Pc [.ref (g 0), .int p, .int z] (wrB D cy (wM cy g S K) sz)) (va_Qi (fun (r9 : Int32) (u : qS × qS) => mO (th3 (inI p (nI 0) (nI 7)) (inI z (nI 0) (nI 9)) (decide (nv (S 29 0) < 40))) (nI (nv (S 29 0))) (va_up (va_up (va_up S 10 (upd (S 10) (nv (S 29 0)) p)) 9 (upd (S 9) (nv (S 29 0)) z)) 29 (fun _ => nI (nv (S 29 0) + 1))) S r9 u) (wrQ D (va_A (wM cy g S K) sz) (fun u : qS × qS => wM cy g u.1 u.2)) (va_A (wM cy g S K) sz)) 0 0 (va_A (wM cy g S K) sz) := by
  refine Met.ofW (cc := cX7_costume) (maxL := 3) (ret := (some .int)) (by decide) rfl ?_
  intro pp e9 s m9 args9 bl9 meth9 c9 s9 B hml hv
  obtain ⟨rfl, hsz, hP, hG, hD0⟩ := hv
  have hx := B.exec
  have hb := B.bytes
  have hr := B.returns
  have hts := atoms_spec (ws := wsX7_costume) B.pre
  have hown : s.vm.findClass RX7 = some m9.cls := findClass_of_methodNamed B.named
  have hlocks := B.notSynchronized
  have hK := hG.K
  subst hsz
  have hD := hD0.self (sz := s.heap.size)
  generalize hAe : (va_A (wM cy g S K) s.heap.size) = A at hD ⊢
  have hA : ∀ q : Nat, s.heap.size ≤ q → A q := fun q h9 => by rw [← hAe]; exact Or.inr h9
  have hS : va_S A s.heap s.heap [] := va_S.rf
  have hP : va_P D vwCl (wM cy g S K) s.heap := hP
  have f_74 := hts (.fieldLink RX7 74 "CastDeskModel" "thrown" "I") (by decide +kernel)
  have f_103 := hts (.fieldLink RX7 103 "CastDeskModel" "costumes" "I") (by decide +kernel)
  have f_26 := hts (.fieldLink RX7 26 "CastDeskModel" "costumePart" "[I") (by decide +kernel)
  have f_29 := hts (.fieldLink RX7 29 "CastDeskModel" "costumeSize" "[I") (by decide +kernel)
  have iX7 : ∀ w ∈ wsX70, w ∈ wsX7_costume := by decide +kernel
  have hl := lv_entry ([.ref (g 0), .int p, .int z]) (n := 3) (Nat.le_of_ble_eq_true rfl)
  rw [lg_entry_eq]
  generalize (lg_sl ([.ref (g 0), .int p, .int z]) ++ List.replicate (3 - (lg_sl ([.ref (g 0), .int p, .int z])).length) Slot.unset).toArray = ls at hl ⊢
  have hl : lv_has ls 3 [(0, .ref (g 0)), (1, .int p), (2, .int z)] := hl
  have h29 := (iv_29 hI).2
  refine lv_aload_n hx hb dX7_costume_0 rfl (lv_at hl 0 rfl) ?_
  refine lv_iconst (v := nI 0) hx hb dX7_costume_1 (by decide) ?_
  refine va_put (D := D) (ci := 7) (v := .int (nI 0)) (ty := .int) (C := RX7) (T := TX7) (N := 29) hx hb hts iX7 tyX7 tyX7_ok nmX7 hown hK hP hD hS 0 rfl rfl 28 (by decide) f_74 (fun _ h9 => h9) rfl (by decide +kernel) rfl rfl (Nat.le_of_ble_eq_true rfl) dX7_costume_2 (fun H locs hP hD hS => ?_)
  have hP : va_P D vwCl (wM cy g S (va_up K 28 (fun _ => nI 0))) H := hP
  have hD : va_D A (wM cy g S (va_up K 28 (fun _ => nI 0))) := hD
  refine lv_iload_n hx hb dX7_costume_5 rfl (lv_at hl 1 rfl) ?_
  have M_6 := c_X7_isPart l p
  refine cd_roi (va_runS (As := [.int p]) (rest := []) ⟨hx, hb, hml, hown, hts⟩ M_6 (va_cwS 1 hts gX7_costume_X7_isPart rfl rfl rfl (by decide +kernel) ⟨Nat.le_of_ble_eq_true rfl, Nat.le_of_ble_eq_true rfl⟩) ⟨nuB.bl, fun U hU hW => ⟨rfl, trivial⟩⟩ rfl rfl hl.1 rfl (lv_room (Nat.le_of_ble_eq_true rfl)) dX7_costume_6 (by exact ⟨Nat.zero_le _, Nat.zero_le _⟩)) (fun r_6 hr_6 => ?_)
  subst hr_6
  refine cd_ifB_ne (tgt := 18) hx hb dX7_costume_9 (by decide) (fun c_9 => ?_) (fun c_9 => ?_)
  · obtain ⟨jp, hjp, rfl⟩ := inI_nat (by decide) c_9
    try rw [nv_nI (show jp < 2147483648 by omega)]
    refine lv_iload_n hx hb dX7_costume_18 rfl (lv_at hl 2 rfl) ?_
    refine lv_iconst (v := nI 0) hx hb dX7_costume_19 (by decide) ?_
    refine lv_bipush (v := nI 9) hx hb dX7_costume_20 (by decide) ?_
    have M_22 := c_X7_in l z (nI 0) (nI 9)
    refine cd_roi (va_runS (As := [.int z, .int (nI 0), .int (nI 9)]) (rest := []) ⟨hx, hb, hml, hown, hts⟩ M_22 (va_cwS 3 hts gX7_costume_X7_in rfl rfl rfl (by decide +kernel) ⟨Nat.le_of_ble_eq_true rfl, Nat.le_of_ble_eq_true rfl⟩) ⟨nuB.bl, fun U hU hW => ⟨rfl, trivial⟩⟩ rfl rfl hl.1 rfl (lv_room (Nat.le_of_ble_eq_true rfl)) dX7_costume_22 (by exact ⟨Nat.zero_le _, Nat.zero_le _⟩)) (fun r_22 hr_22 => ?_)
    subst hr_22
    refine cd_ifB_ne (tgt := 34) hx hb dX7_costume_25 (by decide) (fun c_25 => ?_) (fun c_25 => ?_)
    · refine lv_aload_n hx hb dX7_costume_34 rfl (lv_at hl 0 rfl) ?_
      refine va_get (D := D) (ci := 7) (v := .int (S 29 0)) (C := RX7) (T := TX7) (N := 29) hx hb hts iX7 hown hK hP 0 rfl rfl 8 (by decide) f_103 (fun _ h9 => h9) rfl dX7_costume_35 ?_
      have b_35 := iv_29 hI
      refine cd_tp (y := nI (nv (S 29 0))) b_35.1 ?_
      have b_35 := b_35.2
      refine lv_bipush (v := nI 40) hx hb dX7_costume_38 (by decide) ?_
      refine cd_icmp_ne (tgt := 49) hx hb dX7_costume_40 (by decide) (by omega) (by omega) (fun c_40 => ?_) (fun c_40 => ?_)
      · refine lv_aload_n hx hb dX7_costume_49 rfl (lv_at hl 0 rfl) ?_
        refine va_get (D := D) (ci := 7) (v := .ref (g 5)) (C := RX7) (T := TX7) (N := 29) hx hb hts iX7 hown hK hP 0 rfl rfl 5 (by decide) f_26 (fun _ h9 => h9) rfl dX7_costume_50 ?_
        refine lv_aload_n hx hb dX7_costume_53 rfl (lv_at hl 0 rfl) ?_
        refine va_get (D := D) (ci := 7) (v := .int (S 29 0)) (C := RX7) (T := TX7) (N := 29) hx hb hts iX7 hown hK hP 0 rfl rfl 8 (by decide) f_103 (fun _ h9 => h9) rfl dX7_costume_54 ?_
        have b_54 := iv_29 hI
        refine cd_tp (y := nI (nv (S 29 0))) b_54.1 ?_
        have b_54 := b_54.2
        refine lv_iload_n hx hb dX7_costume_57 rfl (lv_at hl 1 rfl) ?_
        refine cd_iast (f := S 10) hx hb hK hP hD hS 5 rfl (by omega) (by decide) dX7_costume_58 (fun H locs hP hD hS => ?_)
        have hP : va_P D vwCl (wM cy g (va_up S 10 (upd (S 10) (nv (S 29 0)) (nI jp))) (va_up K 28 (fun _ => nI 0))) H := hP
        have hD : va_D A (wM cy g (va_up S 10 (upd (S 10) (nv (S 29 0)) (nI jp))) (va_up K 28 (fun _ => nI 0))) := hD
        refine lv_aload_n hx hb dX7_costume_59 rfl (lv_at hl 0 rfl) ?_
        refine va_get (D := D) (ci := 7) (v := .ref (g 6)) (C := RX7) (T := TX7) (N := 29) hx hb hts iX7 hown hK hP 0 rfl rfl 6 (by decide) f_29 (fun _ h9 => h9) rfl dX7_costume_60 ?_
        refine lv_aload_n hx hb dX7_costume_63 rfl (lv_at hl 0 rfl) ?_
        refine va_get (D := D) (ci := 7) (v := .int (S 29 0)) (C := RX7) (T := TX7) (N := 29) hx hb hts iX7 hown hK hP 0 rfl rfl 8 (by decide) f_103 (fun _ h9 => h9) rfl dX7_costume_64 ?_
        have b_64 := iv_29 hI
        refine cd_tp (y := nI (nv (S 29 0))) b_64.1 ?_
        have b_64 := b_64.2
        refine lv_iload_n hx hb dX7_costume_67 rfl (lv_at hl 2 rfl) ?_
        refine cd_iast (f := S 9) hx hb hK hP hD hS 6 rfl (by omega) (by decide) dX7_costume_68 (fun H locs hP hD hS => ?_)
        have hP : va_P D vwCl (wM cy g (va_up (va_up S 10 (upd (S 10) (nv (S 29 0)) (nI jp))) 9 (upd (S 9) (nv (S 29 0)) z)) (va_up K 28 (fun _ => nI 0))) H := hP
        have hD : va_D A (wM cy g (va_up (va_up S 10 (upd (S 10) (nv (S 29 0)) (nI jp))) 9 (upd (S 9) (nv (S 29 0)) z)) (va_up K 28 (fun _ => nI 0))) := hD
        refine lv_aload_n hx hb dX7_costume_69 rfl (lv_at hl 0 rfl) ?_
        refine lv_dup hx hb dX7_costume_70 rfl ?_
        refine va_get (D := D) (ci := 7) (v := .int (S 29 0)) (C := RX7) (T := TX7) (N := 29) hx hb hts iX7 hown hK hP 0 rfl rfl 8 (by decide) f_103 (fun _ h9 => h9) rfl dX7_costume_71 ?_
        have b_71 := iv_29 hI
        refine cd_tp (y := nI (nv (S 29 0))) b_71.1 ?_
        have b_71 := b_71.2
        refine lv_iconst (v := nI 1) hx hb dX7_costume_74 (by decide) ?_
        refine cd_iadd hx hb dX7_costume_75 ?_
        refine va_put (D := D) (ci := 7) (v := .int (nI ((nv (S 29 0)) + 1))) (ty := .int) (C := RX7) (T := TX7) (N := 29) hx hb hts iX7 tyX7 tyX7_ok nmX7 hown hK hP hD hS 0 rfl rfl 8 (by decide) f_103 (fun _ h9 => h9) rfl (by decide +kernel) rfl rfl (Nat.le_of_ble_eq_true rfl) dX7_costume_76 (fun H locs hP hD hS => ?_)
        have hP : va_P D vwCl (wM cy g (va_up (va_up (va_up S 10 (upd (S 10) (nv (S 29 0)) (nI jp))) 9 (upd (S 9) (nv (S 29 0)) z)) 29 (fun _ => nI ((nv (S 29 0)) + 1))) (va_up K 28 (fun _ => nI 0))) H := hP
        have hD : va_D A (wM cy g (va_up (va_up (va_up S 10 (upd (S 10) (nv (S 29 0)) (nI jp))) 9 (upd (S 9) (nv (S 29 0)) z)) 29 (fun _ => nI ((nv (S 29 0)) + 1))) (va_up K 28 (fun _ => nI 0))) := hD
        refine lv_aload_n hx hb dX7_costume_79 rfl (lv_at hl 0 rfl) ?_
        refine va_get (D := D) (ci := 7) (v := .int (nI ((nv (S 29 0)) + 1))) (C := RX7) (T := TX7) (N := 29) hx hb hts iX7 hown hK hP 0 rfl rfl 8 (by decide) f_103 (fun _ h9 => h9) rfl dX7_costume_80 ?_
        refine lv_iconst (v := nI 1) hx hb dX7_costume_83 (by decide) ?_
        refine cd_isub hx hb (by omega) dX7_costume_84 ?_
        exact W.iret (v := nI (((nv (S 29 0)) + 1) - 1)) hx hb hr (fun t ht hW => ⟨⟨nI (((nv (S 29 0)) + 1) - 1), (_, (va_up K 28 (fun _ => nI 0))), rfl, mO_ok (by rw [c_9, c_25, decide_eq_true (by omega)]; rfl) (by rw [Nat.add_sub_cancel]) rfl, by rw [ht]; exact hP, hD⟩, hS.F ht⟩) hS.2.2 dX7_costume_85
      · refine lv_aload_n hx hb dX7_costume_43 rfl (lv_at hl 0 rfl) ?_
        refine lv_iconst (v := nI 3) hx hb dX7_costume_44 (by decide) ?_
        have M_45 := c_X7_fails l D cy g S (va_up K 28 (fun _ => nI 0)) (nI 3) H.size
        refine cd_fri (S := Unit) (W1 := fun u => (wM cy g S (va_up (va_up K 28 (fun _ => nI 0)) 28 (fun _ => (nI 3))))) (ws' := fun u => (wM cy g S (va_up K 28 (fun _ => (nI 3))))) (wc := (wM cy g S (va_up K 28 (fun _ => nI 0)))) (wr := []) (va_runV (As := [.int (nI 3)]) (rest := []) ⟨hx, hb, hml, hown, hts⟩ M_45 (cwV 1 hts gX7_costume_X7_fails rfl rfl rfl (by decide +kernel) ⟨Nat.le_of_ble_eq_true rfl, Nat.le_of_ble_eq_true rfl⟩) ⟨wrB.bl, va_recv hK hP (ci := 7) (q0 := 0) rfl rfl, fun U hU hW => ⟨rfl, by rw [hU], by rw [hU]; exact hP, hG.warm hW, hD.weaken (fun _ _ _ _ => trivial)⟩⟩ rfl rfl hl.1 rfl (lv_room (Nat.le_of_ble_eq_true rfl)) dX7_costume_45 (by exact ⟨Nat.zero_le _, Nat.zero_le _⟩)) hP hD hS hA [0, 1, 2, 3, 4, 5, 6, 7, 8, 9, 10, 11, 12, 13, 14, 15, 16, 17, 18, 19, 20] [] [0, 1, 2, 3, 4, 5, 6, 7, 8, 9, 10, 11, 12, 13, 14, 15, 16, 17, 18, 19, 20] rfl rfl (by decide) (by decide) (by decide) (fun _ => rfl) (fun r_45 _ H locs hw_45 hP hD hS => ?_)
        subst hw_45
        have hP : va_P D vwCl (wM cy g S (va_up K 28 (fun _ => (nI 3)))) H := hP
        have hD : va_D A (wM cy g S (va_up K 28 (fun _ => (nI 3)))) := hD
        exact W.iret (v := nI 0) hx hb hr (fun t ht hW => ⟨⟨nI 0, (S, (va_up K 28 (fun _ => (nI 3)))), rfl, mO_no (k := 3) (by decide) (by decide) (by rw [c_9, c_25, decide_eq_false (by omega)]; rfl) rfl, by rw [ht]; exact hP, hD⟩, hS.F ht⟩) hS.2.2 dX7_costume_48
    · refine lv_aload_n hx hb dX7_costume_28 rfl (lv_at hl 0 rfl) ?_
      refine lv_iconst (v := nI 2) hx hb dX7_costume_29 (by decide) ?_
      have M_30 := c_X7_fails l D cy g S (va_up K 28 (fun _ => nI 0)) (nI 2) H.size
      refine cd_fri (S := Unit) (W1 := fun u => (wM cy g S (va_up (va_up K 28 (fun _ => nI 0)) 28 (fun _ => (nI 2))))) (ws' := fun u => (wM cy g S (va_up K 28 (fun _ => (nI 2))))) (wc := (wM cy g S (va_up K 28 (fun _ => nI 0)))) (wr := []) (va_runV (As := [.int (nI 2)]) (rest := []) ⟨hx, hb, hml, hown, hts⟩ M_30 (cwV 1 hts gX7_costume_X7_fails rfl rfl rfl (by decide +kernel) ⟨Nat.le_of_ble_eq_true rfl, Nat.le_of_ble_eq_true rfl⟩) ⟨wrB.bl, va_recv hK hP (ci := 7) (q0 := 0) rfl rfl, fun U hU hW => ⟨rfl, by rw [hU], by rw [hU]; exact hP, hG.warm hW, hD.weaken (fun _ _ _ _ => trivial)⟩⟩ rfl rfl hl.1 rfl (lv_room (Nat.le_of_ble_eq_true rfl)) dX7_costume_30 (by exact ⟨Nat.zero_le _, Nat.zero_le _⟩)) hP hD hS hA [0, 1, 2, 3, 4, 5, 6, 7, 8, 9, 10, 11, 12, 13, 14, 15, 16, 17, 18, 19, 20] [] [0, 1, 2, 3, 4, 5, 6, 7, 8, 9, 10, 11, 12, 13, 14, 15, 16, 17, 18, 19, 20] rfl rfl (by decide) (by decide) (by decide) (fun _ => rfl) (fun r_30 _ H locs hw_30 hP hD hS => ?_)
      subst hw_30
      have hP : va_P D vwCl (wM cy g S (va_up K 28 (fun _ => (nI 2)))) H := hP
      have hD : va_D A (wM cy g S (va_up K 28 (fun _ => (nI 2)))) := hD
      exact W.iret (v := nI 0) hx hb hr (fun t ht hW => ⟨⟨nI 0, (S, (va_up K 28 (fun _ => (nI 2)))), rfl, mO_no (k := 2) (by decide) (by decide) (by rw [c_9, c_25]; rfl) rfl, by rw [ht]; exact hP, hD⟩, hS.F ht⟩) hS.2.2 dX7_costume_33
  · refine lv_aload_n hx hb dX7_costume_12 rfl (lv_at hl 0 rfl) ?_
    refine lv_iconst (v := nI 1) hx hb dX7_costume_13 (by decide) ?_
    have M_14 := c_X7_fails l D cy g S (va_up K 28 (fun _ => nI 0)) (nI 1) H.size
    refine cd_fri (S := Unit) (W1 := fun u => (wM cy g S (va_up (va_up K 28 (fun _ => nI 0)) 28 (fun _ => (nI 1))))) (ws' := fun u => (wM cy g S (va_up K 28 (fun _ => (nI 1))))) (wc := (wM cy g S (va_up K 28 (fun _ => nI 0)))) (wr := []) (va_runV (As := [.int (nI 1)]) (rest := []) ⟨hx, hb, hml, hown, hts⟩ M_14 (cwV 1 hts gX7_costume_X7_fails rfl rfl rfl (by decide +kernel) ⟨Nat.le_of_ble_eq_true rfl, Nat.le_of_ble_eq_true rfl⟩) ⟨wrB.bl, va_recv hK hP (ci := 7) (q0 := 0) rfl rfl, fun U hU hW => ⟨rfl, by rw [hU], by rw [hU]; exact hP, hG.warm hW, hD.weaken (fun _ _ _ _ => trivial)⟩⟩ rfl rfl hl.1 rfl (lv_room (Nat.le_of_ble_eq_true rfl)) dX7_costume_14 (by exact ⟨Nat.zero_le _, Nat.zero_le _⟩)) hP hD hS hA [0, 1, 2, 3, 4, 5, 6, 7, 8, 9, 10, 11, 12, 13, 14, 15, 16, 17, 18, 19, 20] [] [0, 1, 2, 3, 4, 5, 6, 7, 8, 9, 10, 11, 12, 13, 14, 15, 16, 17, 18, 19, 20] rfl rfl (by decide) (by decide) (by decide) (fun _ => rfl) (fun r_14 _ H locs hw_14 hP hD hS => ?_)
    subst hw_14
    have hP : va_P D vwCl (wM cy g S (va_up K 28 (fun _ => (nI 1)))) H := hP
    have hD : va_D A (wM cy g S (va_up K 28 (fun _ => (nI 1)))) := hD
    exact W.iret (v := nI 0) hx hb hr (fun t ht hW => ⟨⟨nI 0, (S, (va_up K 28 (fun _ => (nI 1)))), rfl, mO_no (k := 1) (by decide) (by decide) (by rw [c_9]; rfl) rfl, by rw [ht]; exact hP, hD⟩, hS.F ht⟩) hS.2.2 dX7_costume_17
