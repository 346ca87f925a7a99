set_option maxHeartbeats 4000000 in
set_option maxRecDepth 100000 in
theorem c_X7_show (l : Launch) (D : va_G) (cy : qT) (g : Nat → Nat) (S : qS) (K : qS) (hI : Inv S) (d : Int32) (sz : Nat) : Met l yX7_show wsX7_show ({ frames := 1, cells := 0, slots := 0, locals := 23 }) (va_Pc [.ref (g 0), .int d] (wrB D cy (wM cy g S K) sz)) (va_Qi (fun (r9 : Int32) (u : qS × qS) => mO (th2 (inI d (nI (nv (S 28 0))) (nI 1000)) (!shB S d && decide (nv (S 30 0) < 40))) (nI (nv (S 30 0))) (va_up (va_up S 19 (upd (S 19) (nv (S 30 0)) d)) 30 (fun _ => nI (nv (S 30 0) + 1))) S r9 u) (wrQ D (va_A (wM cy g S K) sz) (fun u : qS × qS => wM cy g u.1 u.2)) (va_A (wM cy g S K) sz)) 0 0 (va_A (wM cy g S K) sz) := by
  refine Met.ofW (cc := cX7_show) (maxL := 3) (ret := (some .int)) (by decide) rfl ?_
  intro pp e9 s m9 args9 bl9 meth9 c9 s9 B hml hv
  obtain ⟨rfl, hsz, hP, hG, hD0⟩ := hv
  have hx := B.exec
  have hb := B.bytes
  have hr := B.returns
  have hts := atoms_spec (ws := wsX7_show) B.pre
  have hown : s.vm.findClass RX7 = some m9.cls := findClass_of_methodNamed B.named
  have hlocks := B.notSynchronized
  have hK := hG.K
  subst hsz
  have hD := hD0.self (sz := s.heap.size)
  generalize hAe : (va_A (wM cy g S K) s.heap.size) = A at hD ⊢
  have hA : ∀ q : Nat, s.heap.size ≤ q → A q := fun q h9 => by rw [← hAe]; exact Or.inr h9
  have hS : va_S A s.heap s.heap [] := va_S.rf
  have hP : va_P D vwCl (wM cy g S K) s.heap := hP
  have f_74 := hts (.fieldLink RX7 74 "CastDeskModel" "thrown" "I") (by decide +kernel)
  have f_106 := hts (.fieldLink RX7 106 "CastDeskModel" "today" "I") (by decide +kernel)
  have f_141 := hts (.fieldLink RX7 141 "CastDeskModel" "shows" "I") (by decide +kernel)
  have f_38 := hts (.fieldLink RX7 38 "CastDeskModel" "showDay" "[I") (by decide +kernel)
  have f_44 := hts (.fieldLink RX7 44 "CastDeskModel" "showCast" "[I") (by decide +kernel)
  have iX7 : ∀ w ∈ wsX70, w ∈ wsX7_show := by decide +kernel
  have hl := lv_entry ([.ref (g 0), .int d]) (n := 3) (Nat.le_of_ble_eq_true rfl)
  rw [lg_entry_eq]
  generalize (lg_sl ([.ref (g 0), .int d]) ++ List.replicate (3 - (lg_sl ([.ref (g 0), .int d])).length) Slot.unset).toArray = ls at hl ⊢
  have hl : lv_has ls 3 [(0, .ref (g 0)), (1, .int d)] := hl
  have h28 := (iv_28 hI).2
  have h30 := (iv_30 hI).2
  refine lv_aload_n hx hb dX7_show_0 rfl (lv_at hl 0 rfl) ?_
  refine lv_iconst (v := nI 0) hx hb dX7_show_1 (by decide) ?_
  refine va_put (D := D) (ci := 7) (v := .int (nI 0)) (ty := .int) (C := RX7) (T := TX7) (N := 29) hx hb hts iX7 tyX7 tyX7_ok nmX7 hown hK hP hD hS 0 rfl rfl 28 (by decide) f_74 (fun _ h9 => h9) rfl (by decide +kernel) rfl rfl (Nat.le_of_ble_eq_true rfl) dX7_show_2 (fun H locs hP hD hS => ?_)
  have hP : va_P D vwCl (wM cy g S (va_up K 28 (fun _ => nI 0))) H := hP
  have hD : va_D A (wM cy g S (va_up K 28 (fun _ => nI 0))) := hD
  refine lv_iload_n hx hb dX7_show_5 rfl (lv_at hl 1 rfl) ?_
  refine lv_aload_n hx hb dX7_show_6 rfl (lv_at hl 0 rfl) ?_
  refine va_get (D := D) (ci := 7) (v := .int (S 28 0)) (C := RX7) (T := TX7) (N := 29) hx hb hts iX7 hown hK hP 0 rfl rfl 21 (by decide) f_106 (fun _ h9 => h9) rfl dX7_show_7 ?_
  have b_7 := iv_28 hI
  refine cd_tp (y := nI (nv (S 28 0))) b_7.1 ?_
  have b_7 := b_7.2
  refine lv_sipush (v := nI 1000) hx hb dX7_show_10 (by decide) ?_
  have M_13 := c_X7_in l d (nI (nv (S 28 0))) (nI 1000)
  refine cd_roi (va_runS (As := [.int d, .int (nI (nv (S 28 0))), .int (nI 1000)]) (rest := []) ⟨hx, hb, hml, hown, hts⟩ M_13 (va_cwS 3 hts gX7_show_X7_in rfl rfl rfl (by decide +kernel) ⟨Nat.le_of_ble_eq_true rfl, Nat.le_of_ble_eq_true rfl⟩) ⟨nuB.bl, fun U hU hW => ⟨rfl, trivial⟩⟩ rfl rfl hl.1 rfl (lv_room (Nat.le_of_ble_eq_true rfl)) dX7_show_13 (by exact ⟨Nat.zero_le _, Nat.zero_le _⟩)) (fun r_13 hr_13 => ?_)
  subst hr_13
  refine cd_ifB_ne (tgt := 25) hx hb dX7_show_16 (by decide) (fun c_16 => ?_) (fun c_16 => ?_)
  · refine lv_aload_n hx hb dX7_show_25 rfl (lv_at hl 0 rfl) ?_
    refine va_get (D := D) (ci := 7) (v := .int (S 30 0)) (C := RX7) (T := TX7) (N := 29) hx hb hts iX7 hown hK hP 0 rfl rfl 13 (by decide) f_141 (fun _ h9 => h9) rfl dX7_show_26 ?_
    have b_26 := iv_30 hI
    refine cd_tp (y := nI (nv (S 30 0))) b_26.1 ?_
    have b_26 := b_26.2
    refine lv_bipush (v := nI 40) hx hb dX7_show_29 (by decide) ?_
    refine cd_icmp_eq (tgt := 43) hx hb dX7_show_31 (by decide) (by omega) (by omega) (fun c_31 => ?_) (fun c_31 => ?_)
    · refine lv_aload_n hx hb dX7_show_43 rfl (lv_at hl 0 rfl) ?_
      refine lv_iconst (v := nI 2) hx hb dX7_show_44 (by decide) ?_
      have M_45 := c_X7_fails l D cy g S (va_up K 28 (fun _ => nI 0)) (nI 2) H.size
      refine cd_fri (S := Unit) (W1 := fun u => (wM cy g S (va_up (va_up K 28 (fun _ => nI 0)) 28 (fun _ => (nI 2))))) (ws' := fun u => (wM cy g S (va_up K 28 (fun _ => (nI 2))))) (wc := (wM cy g S (va_up K 28 (fun _ => nI 0)))) (wr := []) (va_runV (As := [.int (nI 2)]) (rest := []) ⟨hx, hb, hml, hown, hts⟩ M_45 (cwV 1 hts gX7_show_X7_fails rfl rfl rfl (by decide +kernel) ⟨Nat.le_of_ble_eq_true rfl, Nat.le_of_ble_eq_true rfl⟩) ⟨wrB.bl, va_recv hK hP (ci := 7) (q0 := 0) rfl rfl, fun U hU hW => ⟨rfl, by rw [hU], by rw [hU]; exact hP, hG.warm hW, hD.weaken (fun _ _ _ _ => trivial)⟩⟩ rfl rfl hl.1 rfl (lv_room (Nat.le_of_ble_eq_true rfl)) dX7_show_45 (by exact ⟨Nat.zero_le _, Nat.zero_le _⟩)) hP hD hS hA [0, 1, 2, 3, 4, 5, 6, 7, 8, 9, 10, 11, 12, 13, 14, 15, 16, 17, 18, 19, 20] [] [0, 1, 2, 3, 4, 5, 6, 7, 8, 9, 10, 11, 12, 13, 14, 15, 16, 17, 18, 19, 20] rfl rfl (by decide) (by decide) (by decide) (fun _ => rfl) (fun r_45 _ H locs hw_45 hP hD hS => ?_)
      subst hw_45
      have hP : va_P D vwCl (wM cy g S (va_up K 28 (fun _ => (nI 2)))) H := hP
      have hD : va_D A (wM cy g S (va_up K 28 (fun _ => (nI 2)))) := hD
      exact W.iret (v := nI 0) hx hb hr (fun t ht hW => ⟨⟨nI 0, (S, (va_up K 28 (fun _ => (nI 2)))), rfl, mO_no (k := 2) (by decide) (by decide) (by rw [c_16, decide_eq_false (show ¬ nv (S 30 0) < 40 by omega), Bool.and_false]; rfl) rfl, by rw [ht]; exact hP, hD⟩, hS.F ht⟩) hS.2.2 dX7_show_48
    · refine lv_aload_n hx hb dX7_show_34 rfl (lv_at hl 0 rfl) ?_
      refine lv_iload_n hx hb dX7_show_35 rfl (lv_at hl 1 rfl) ?_
      have M_36 := c_X7_showOn l D cy g S (va_up K 28 (fun _ => nI 0)) hI d
      refine cd_roi (va_runV (As := [.int d]) (rest := []) ⟨hx, hb, hml, hown, hts⟩ M_36 (cwV 1 hts gX7_show_X7_showOn rfl rfl rfl (by decide +kernel) ⟨Nat.le_of_ble_eq_true rfl, Nat.le_of_ble_eq_true rfl⟩) ⟨roB.bl, va_recv hK hP (ci := 7) (q0 := 0) rfl rfl, fun U hU hW => ⟨rfl, by rw [hU]; exact hP, hG.warm hW⟩⟩ rfl rfl hl.1 rfl (lv_room (Nat.le_of_ble_eq_true rfl)) dX7_show_36 (by exact ⟨Nat.zero_le _, Nat.zero_le _⟩)) (fun r_36 hr_36 => ?_)
      subst hr_36
      refine lv_iconst (v := (-1)) hx hb dX7_show_39 (by decide) ?_
      refine lv_icmp_eq (tgt := 49) hx hb dX7_show_40 (by decide) (fun c_40 => ?_) (fun c_40 => ?_)
      · refine lv_aload_n hx hb dX7_show_49 rfl (lv_at hl 0 rfl) ?_
        refine va_get (D := D) (ci := 7) (v := .ref (g 10)) (C := RX7) (T := TX7) (N := 29) hx hb hts iX7 hown hK hP 0 rfl rfl 10 (by decide) f_38 (fun _ h9 => h9) rfl dX7_show_50 ?_
        refine lv_aload_n hx hb dX7_show_53 rfl (lv_at hl 0 rfl) ?_
        refine va_get (D := D) (ci := 7) (v := .int (S 30 0)) (C := RX7) (T := TX7) (N := 29) hx hb hts iX7 hown hK hP 0 rfl rfl 13 (by decide) f_141 (fun _ h9 => h9) rfl dX7_show_54 ?_
        have b_54 := iv_30 hI
        refine cd_tp (y := nI (nv (S 30 0))) b_54.1 ?_
        have b_54 := b_54.2
        refine lv_iload_n hx hb dX7_show_57 rfl (lv_at hl 1 rfl) ?_
        refine cd_iast (f := S 19) hx hb hK hP hD hS 9 rfl (by omega) (by decide) dX7_show_58 (fun H locs hP hD hS => ?_)
        have hP : va_P D vwCl (wM cy g (va_up S 19 (upd (S 19) (nv (S 30 0)) d)) (va_up K 28 (fun _ => nI 0))) H := hP
        have hD : va_D A (wM cy g (va_up S 19 (upd (S 19) (nv (S 30 0)) d)) (va_up K 28 (fun _ => nI 0))) := hD
        refine lv_iconst (v := nI 0) hx hb dX7_show_59 (by decide) ?_
        refine lv_istore_n (lv' := [(2, .int (nI 0)), (0, .ref (g 0)), (1, .int d)]) hx hb dX7_show_60 rfl hl (by decide) rfl (fun ls hl => ?_)
        have e0 : scN (S 18) (nv (S 30 0)) 0 = scM (S 18) (S 30 0) := by rw [scN_0, ← (iv_30 hI).1]
        refine wh1 (nL := 3) (fun (i : Nat) => i ≤ 8) (fun (i : Nat) => 8 - i) (fun (i : Nat) => [(0, .ref (g 0)), (1, .int d), (2, .int (nI i))]) (fun (i : Nat) => (wMg cy g (va_up S 19 (upd (S 19) (nv (S 30 0)) d)) (va_up K 28 (fun _ => nI 0)) (illM (S 4)) (scN (S 18) (nv (S 30 0)) i))) (fun i hi_61 ih_61 H locs hP hD hS ls hl => ?_) 0 (Nat.zero_le _) (by rw [e0]; exact hP) (by rw [e0]; exact hD) hS (lv_sub hl [1, 2, 0] rfl)
        have hP : va_P D vwCl (wMg cy g (va_up S 19 (upd (S 19) (nv (S 30 0)) d)) (va_up K 28 (fun _ => nI 0)) (illM (S 4)) (scN (S 18) (nv (S 30 0)) i)) H := hP
        have hD : va_D A (wMg cy g (va_up S 19 (upd (S 19) (nv (S 30 0)) d)) (va_up K 28 (fun _ => nI 0)) (illM (S 4)) (scN (S 18) (nv (S 30 0)) i)) := hD
        refine lv_iload_n hx hb dX7_show_61 rfl (lv_at hl 2 rfl) ?_
        refine lv_bipush (v := nI 8) hx hb dX7_show_62 (by decide) ?_
        refine cd_icmp_ge (tgt := 88) hx hb dX7_show_64 (by decide) (by omega) (by omega) (fun c_64 => ?_) (fun c_64 => ?_)
        · have ei : i = 8 := by omega
          subst ei
          have hP : va_P D vwCl (wMg cy g (va_up S 19 (upd (S 19) (nv (S 30 0)) d)) (va_up K 28 (fun _ => nI 0)) (illM (S 4)) (scN (S 18) (nv (S 30 0)) 8)) H := hP
          have hD : va_D A (wMg cy g (va_up S 19 (upd (S 19) (nv (S 30 0)) d)) (va_up K 28 (fun _ => nI 0)) (illM (S 4)) (scN (S 18) (nv (S 30 0)) 8)) := hD
          rw [show (scN (S 18) (nv (S 30 0)) 8) = (scM (S 18) (nI (nv (S 30 0) + 1))) from scN_8 (by omega) (iv_18 hI)] at hP hD
          have hP : va_P D vwCl (wMg cy g (va_up S 19 (upd (S 19) (nv (S 30 0)) d)) (va_up K 28 (fun _ => nI 0)) (illM (S 4)) (scM (S 18) (nI (nv (S 30 0) + 1)))) H := hP
          have hD : va_D A (wMg cy g (va_up S 19 (upd (S 19) (nv (S 30 0)) d)) (va_up K 28 (fun _ => nI 0)) (illM (S 4)) (scM (S 18) (nI (nv (S 30 0) + 1)))) := hD
          refine lv_aload_n hx hb dX7_show_88 rfl (lv_at hl 0 rfl) ?_
          refine lv_dup hx hb dX7_show_89 rfl ?_
          refine va_get (D := D) (ci := 7) (v := .int (S 30 0)) (C := RX7) (T := TX7) (N := 29) hx hb hts iX7 hown hK hP 0 rfl rfl 13 (by decide) f_141 (fun _ h9 => h9) rfl dX7_show_90 ?_
          have b_90 := iv_30 hI
          refine cd_tp (y := nI (nv (S 30 0))) b_90.1 ?_
          have b_90 := b_90.2
          refine lv_iconst (v := nI 1) hx hb dX7_show_93 (by decide) ?_
          refine cd_iadd hx hb dX7_show_94 ?_
          refine va_put (D := D) (ci := 7) (v := .int (nI ((nv (S 30 0)) + 1))) (ty := .int) (C := RX7) (T := TX7) (N := 29) hx hb hts iX7 tyX7 tyX7_ok nmX7 hown hK hP hD hS 0 rfl rfl 13 (by decide) f_141 (fun _ h9 => h9) rfl (by decide +kernel) rfl rfl (Nat.le_of_ble_eq_true rfl) dX7_show_95 (fun H locs hP hD hS => ?_)
          have hP : va_P D vwCl (wMg cy g (va_up (va_up S 19 (upd (S 19) (nv (S 30 0)) d)) 30 (fun _ => nI ((nv (S 30 0)) + 1))) (va_up K 28 (fun _ => nI 0)) (illM (S 4)) (scM (S 18) (nI (nv (S 30 0) + 1)))) H := hP
          have hD : va_D A (wMg cy g (va_up (va_up S 19 (upd (S 19) (nv (S 30 0)) d)) 30 (fun _ => nI ((nv (S 30 0)) + 1))) (va_up K 28 (fun _ => nI 0)) (illM (S 4)) (scM (S 18) (nI (nv (S 30 0) + 1)))) := hD
          have hP : va_P D vwCl (wM cy g (va_up (va_up S 19 (upd (S 19) (nv (S 30 0)) d)) 30 (fun _ => nI ((nv (S 30 0)) + 1))) (va_up K 28 (fun _ => nI 0))) H := hP
          have hD : va_D A (wM cy g (va_up (va_up S 19 (upd (S 19) (nv (S 30 0)) d)) 30 (fun _ => nI ((nv (S 30 0)) + 1))) (va_up K 28 (fun _ => nI 0))) := hD
          refine lv_aload_n hx hb dX7_show_98 rfl (lv_at hl 0 rfl) ?_
          refine va_get (D := D) (ci := 7) (v := .int (nI ((nv (S 30 0)) + 1))) (C := RX7) (T := TX7) (N := 29) hx hb hts iX7 hown hK hP 0 rfl rfl 13 (by decide) f_141 (fun _ h9 => h9) rfl dX7_show_99 ?_
          refine lv_iconst (v := nI 1) hx hb dX7_show_102 (by decide) ?_
          refine cd_isub hx hb (by omega) dX7_show_103 ?_
          exact W.iret (v := nI (((nv (S 30 0)) + 1) - 1)) hx hb hr (fun t ht hW => ⟨⟨nI (((nv (S 30 0)) + 1) - 1), (_, (va_up K 28 (fun _ => nI 0))), rfl, mO_ok (by rw [c_16, sh_no c_40, decide_eq_true (by omega)]; rfl) (by rw [Nat.add_sub_cancel]) rfl, by rw [ht]; exact hP, hD⟩, hS.F ht⟩) hS.2.2 dX7_show_104
        · refine lv_aload_n hx hb dX7_show_67 rfl (lv_at hl 0 rfl) ?_
          refine va_get (D := D) (ci := 7) (v := .ref (g 12)) (C := RX7) (T := TX7) (N := 29) hx hb hts iX7 hown hK hP 0 rfl rfl 12 (by decide) f_44 (fun _ h9 => h9) rfl dX7_show_68 ?_
          refine lv_bipush (v := nI 8) hx hb dX7_show_71 (by decide) ?_
          refine lv_aload_n hx hb dX7_show_73 rfl (lv_at hl 0 rfl) ?_
          refine va_get (D := D) (ci := 7) (v := .int (S 30 0)) (C := RX7) (T := TX7) (N := 29) hx hb hts iX7 hown hK hP 0 rfl rfl 13 (by decide) f_141 (fun _ h9 => h9) rfl dX7_show_74 ?_
          have b_74 := iv_30 hI
          refine cd_tp (y := nI (nv (S 30 0))) b_74.1 ?_
          have b_74 := b_74.2
          refine cd_imul hx hb dX7_show_77 ?_
          refine lv_iload_n hx hb dX7_show_78 rfl (lv_at hl 2 rfl) ?_
          refine cd_iadd hx hb dX7_show_79 ?_
          refine lv_iconst (v := (-1)) hx hb dX7_show_80 (by decide) ?_
          refine cd_iast (f := scN (S 18) (nv (S 30 0)) i) hx hb hK hP hD hS 11 rfl (by omega) (by decide) dX7_show_81 (fun H locs hP hD hS => ?_)
          have hP : va_P D vwCl (wMg cy g (va_up S 19 (upd (S 19) (nv (S 30 0)) d)) (va_up K 28 (fun _ => nI 0)) (illM (S 4)) (upd (scN (S 18) (nv (S 30 0)) i) ((8 * (nv (S 30 0))) + i) (-1))) H := hP
          have hD : va_D A (wMg cy g (va_up S 19 (upd (S 19) (nv (S 30 0)) d)) (va_up K 28 (fun _ => nI 0)) (illM (S 4)) (upd (scN (S 18) (nv (S 30 0)) i) ((8 * (nv (S 30 0))) + i) (-1))) := hD
          have e_81 : (upd (scN (S 18) (nv (S 30 0)) i) ((8 * (nv (S 30 0))) + i) (-1)) = (scN (S 18) (nv (S 30 0)) (i + 1)) := scN_s _ _ _
          rw [e_81] at hP hD
          have hP : va_P D vwCl (wMg cy g (va_up S 19 (upd (S 19) (nv (S 30 0)) d)) (va_up K 28 (fun _ => nI 0)) (illM (S 4)) (scN (S 18) (nv (S 30 0)) (i + 1))) H := hP
          have hD : va_D A (wMg cy g (va_up S 19 (upd (S 19) (nv (S 30 0)) d)) (va_up K 28 (fun _ => nI 0)) (illM (S 4)) (scN (S 18) (nv (S 30 0)) (i + 1))) := hD
          refine lv_iinc (v := nI (i + 1)) (lv' := [(2, .int (nI (i + 1))), (0, .ref (g 0)), (1, .int d)]) hx hb dX7_show_82 hl (k := 2) rfl (cd_i1 _) (by decide) rfl (fun ls hl => ?_)
          refine lv_goto (tgt := 61) hx hb dX7_show_85 (by decide) ?_
          exact ih_61 (i + 1) (by omega) (by omega) _ _ hP hD hS _ (lv_sub hl [1, 2, 0] rfl)
      · refine lv_aload_n hx hb dX7_show_43 rfl (lv_at hl 0 rfl) ?_
        refine lv_iconst (v := nI 2) hx hb dX7_show_44 (by decide) ?_
        have M_45 := c_X7_fails l D cy g S (va_up K 28 (fun _ => nI 0)) (nI 2) H.size
        refine cd_fri (S := Unit) (W1 := fun u => (wM cy g S (va_up (va_up K 28 (fun _ => nI 0)) 28 (fun _ => (nI 2))))) (ws' := fun u => (wM cy g S (va_up K 28 (fun _ => (nI 2))))) (wc := (wM cy g S (va_up K 28 (fun _ => nI 0)))) (wr := []) (va_runV (As := [.int (nI 2)]) (rest := []) ⟨hx, hb, hml, hown, hts⟩ M_45 (cwV 1 hts gX7_show_X7_fails rfl rfl rfl (by decide +kernel) ⟨Nat.le_of_ble_eq_true rfl, Nat.le_of_ble_eq_true rfl⟩) ⟨wrB.bl, va_recv hK hP (ci := 7) (q0 := 0) rfl rfl, fun U hU hW => ⟨rfl, by rw [hU], by rw [hU]; exact hP, hG.warm hW, hD.weaken (fun _ _ _ _ => trivial)⟩⟩ rfl rfl hl.1 rfl (lv_room (Nat.le_of_ble_eq_true rfl)) dX7_show_45 (by exact ⟨Nat.zero_le _, Nat.zero_le _⟩)) hP hD hS hA [0, 1, 2, 3, 4, 5, 6, 7, 8, 9, 10, 11, 12, 13, 14, 15, 16, 17, 18, 19, 20] [] [0, 1, 2, 3, 4, 5, 6, 7, 8, 9, 10, 11, 12, 13, 14, 15, 16, 17, 18, 19, 20] rfl rfl (by decide) (by decide) (by decide) (fun _ => rfl) (fun r_45 _ H locs hw_45 hP hD hS => ?_)
        subst hw_45
        have hP : va_P D vwCl (wM cy g S (va_up K 28 (fun _ => (nI 2)))) H := hP
        have hD : va_D A (wM cy g S (va_up K 28 (fun _ => (nI 2)))) := hD
        exact W.iret (v := nI 0) hx hb hr (fun t ht hW => ⟨⟨nI 0, (S, (va_up K 28 (fun _ => (nI 2)))), rfl, mO_no (k := 2) (by decide) (by decide) (by rw [c_16, (sh_rng c_40).1]; rfl) rfl, by rw [ht]; exact hP, hD⟩, hS.F ht⟩) hS.2.2 dX7_show_48
  · refine lv_aload_n hx hb dX7_show_19 rfl (lv_at hl 0 rfl) ?_
    refine lv_iconst (v := nI 1) hx hb dX7_show_20 (by decide) ?_
    have M_21 := c_X7_fails l D cy g S (va_up K 28 (fun _ => nI 0)) (nI 1) H.size
    refine cd_fri (S := Unit) (W1 := fun u => (wM cy g S (va_up (va_up K 28 (fun _ => nI 0)) 28 (fun _ => (nI 1))))) (ws' := fun u => (wM cy g S (va_up K 28 (fun _ => (nI 1))))) (wc := (wM cy g S (va_up K 28 (fun _ => nI 0)))) (wr := []) (va_runV (As := [.int (nI 1)]) (rest := []) ⟨hx, hb, hml, hown, hts⟩ M_21 (cwV 1 hts gX7_show_X7_fails rfl rfl rfl (by decide +kernel) ⟨Nat.le_of_ble_eq_true rfl, Nat.le_of_ble_eq_true rfl⟩) ⟨wrB.bl, va_recv hK hP (ci := 7) (q0 := 0) rfl rfl, fun U hU hW => ⟨rfl, by rw [hU], by rw [hU]; exact hP, hG.warm hW, hD.weaken (fun _ _ _ _ => trivial)⟩⟩ rfl rfl hl.1 rfl (lv_room (Nat.le_of_ble_eq_true rfl)) dX7_show_21 (by exact ⟨Nat.zero_le _, Nat.zero_le _⟩)) hP hD hS hA [0, 1, 2, 3, 4, 5, 6, 7, 8, 9, 10, 11, 12, 13, 14, 15, 16, 17, 18, 19, 20] [] [0, 1, 2, 3, 4, 5, 6, 7, 8, 9, 10, 11, 12, 13, 14, 15, 16, 17, 18, 19, 20] rfl rfl (by decide) (by decide) (by decide) (fun _ => rfl) (fun r_21 _ H locs hw_21 hP hD hS => ?_)
    subst hw_21
    have hP : va_P D vwCl (wM cy g S (va_up K 28 (fun _ => (nI 1)))) H := hP
    have hD : va_D A (wM cy g S (va_up K 28 (fun _ => (nI 1)))) := hD
    exact W.iret (v := nI 0) hx hb hr (fun t ht hW => ⟨⟨nI 0, (S, (va_up K 28 (fun _ => (nI 1)))), rfl, mO_no (k := 1) (by decide) (by decide) (by rw [c_16]; rfl) rfl, by rw [ht]; exact hP, hD⟩, hS.F ht⟩) hS.2.2 dX7_show_24
