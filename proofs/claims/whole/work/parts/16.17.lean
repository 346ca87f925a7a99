set_option maxHeartbeats 4000000 in
set_option maxRecDepth 100000 in
theorem c_X7_cold (l : Launch) (D : va_G) (cy : qT) (g : Nat → Nat) (S : qS) (K : qS) (hI : Inv S) (a : Int32) (d0 : Int32) (d1 : Int32) (sz : Nat) : Met l yX7_cold wsX7_cold ({ frames := 2, cells := 0, slots := 0, locals := 42 }) (va_Pc [.ref (g 0), .int a, .int d0, .int d1] (wrB D cy (wM cy g S K) sz)) (va_Qi (fun (r9 : Int32) (u : qS × qS) => mO (th2 (inI a (nI 0) (nI 11)) (inI d0 (nI (nv (S 28 0))) (nI 1000) && inI d1 d0 (nI 1000))) (nI (ilC (S 4) (nv a) (nv d0) (nv d1 + 1 - nv d0))) (va_up S 4 (ilF (S 4) (nv a) (nv d0) (nv d0 + (nv d1 + 1 - nv d0)))) S r9 u) (wrQ D (va_A (wM cy g S K) sz) (fun u : qS × qS => wM cy g u.1 u.2)) (va_A (wM cy g S K) sz)) 0 0 (va_A (wM cy g S K) sz) := by
  refine Met.ofW (cc := cX7_cold) (maxL := 6) (ret := (some .int)) (by decide) rfl ?_
  intro pp e9 s m9 args9 bl9 meth9 c9 s9 B hml hv
  obtain ⟨rfl, hsz, hP, hG, hD0⟩ := hv
  have hx := B.exec
  have hb := B.bytes
  have hr := B.returns
  have hts := atoms_spec (ws := wsX7_cold) B.pre
  have hown : s.vm.findClass RX7 = some m9.cls := findClass_of_methodNamed B.named
  have hlocks := B.notSynchronized
  have hK := hG.K
  subst hsz
  have hD := hD0.self (sz := s.heap.size)
  generalize hAe : (va_A (wM cy g S K) s.heap.size) = A at hD ⊢
  have hA : ∀ q : Nat, s.heap.size ≤ q → A q := fun q h9 => by rw [← hAe]; exact Or.inr h9
  have hS : va_S A s.heap s.heap [] := va_S.rf
  have hP : va_P D vwCl (wM cy g S K) s.heap := hP
  have f_74 := hts (.fieldLink RX7 74 "CastDeskModel" "thrown" "I") (by decide +kernel)
  have f_106 := hts (.fieldLink RX7 106 "CastDeskModel" "today" "I") (by decide +kernel)
  have f_35 := hts (.fieldLink RX7 35 "CastDeskModel" "ill" "[I") (by decide +kernel)
  have iX7 : ∀ w ∈ wsX70, w ∈ wsX7_cold := by decide +kernel
  have hl := lv_entry ([.ref (g 0), .int a, .int d0, .int d1]) (n := 6) (Nat.le_of_ble_eq_true rfl)
  rw [lg_entry_eq]
  generalize (lg_sl ([.ref (g 0), .int a, .int d0, .int d1]) ++ List.replicate (6 - (lg_sl ([.ref (g 0), .int a, .int d0, .int d1])).length) Slot.unset).toArray = ls at hl ⊢
  have hl : lv_has ls 6 [(0, .ref (g 0)), (1, .int a), (2, .int d0), (3, .int d1)] := hl
  have h28 := (iv_28 hI).2
  refine lv_aload_n hx hb dX7_cold_0 rfl (lv_at hl 0 rfl) ?_
  refine lv_iconst (v := nI 0) hx hb dX7_cold_1 (by decide) ?_
  refine va_put (D := D) (ci := 7) (v := .int (nI 0)) (ty := .int) (C := RX7) (T := TX7) (N := 29) hx hb hts iX7 tyX7 tyX7_ok nmX7 hown hK hP hD hS 0 rfl rfl 28 (by decide) f_74 (fun _ h9 => h9) rfl (by decide +kernel) rfl rfl (Nat.le_of_ble_eq_true rfl) dX7_cold_2 (fun H locs hP hD hS => ?_)
  have hP : va_P D vwCl (wM cy g S (va_up K 28 (fun _ => nI 0))) H := hP
  have hD : va_D A (wM cy g S (va_up K 28 (fun _ => nI 0))) := hD
  refine lv_iload_n hx hb dX7_cold_5 rfl (lv_at hl 1 rfl) ?_
  have M_6 := c_X7_isActor l a
  refine cd_roi (va_runS (As := [.int a]) (rest := []) ⟨hx, hb, hml, hown, hts⟩ M_6 (va_cwS 1 hts gX7_cold_X7_isActor rfl rfl rfl (by decide +kernel) ⟨Nat.le_of_ble_eq_true rfl, Nat.le_of_ble_eq_true rfl⟩) ⟨nuB.bl, fun U hU hW => ⟨rfl, trivial⟩⟩ rfl rfl hl.1 rfl (lv_room (Nat.le_of_ble_eq_true rfl)) dX7_cold_6 (by exact ⟨Nat.zero_le _, Nat.zero_le _⟩)) (fun r_6 hr_6 => ?_)
  subst hr_6
  refine cd_ifB_ne (tgt := 18) hx hb dX7_cold_9 (by decide) (fun c_9 => ?_) (fun c_9 => ?_)
  · obtain ⟨ja, hja, rfl⟩ := inI_nat (by decide) c_9
    try rw [nv_nI (show ja < 2147483648 by omega)]
    refine lv_iload_n hx hb dX7_cold_18 rfl (lv_at hl 2 rfl) ?_
    refine lv_aload_n hx hb dX7_cold_19 rfl (lv_at hl 0 rfl) ?_
    refine va_get (D := D) (ci := 7) (v := .int (S 28 0)) (C := RX7) (T := TX7) (N := 29) hx hb hts iX7 hown hK hP 0 rfl rfl 21 (by decide) f_106 (fun _ h9 => h9) rfl dX7_cold_20 ?_
    have b_20 := iv_28 hI
    refine cd_tp (y := nI (nv (S 28 0))) b_20.1 ?_
    have b_20 := b_20.2
    refine lv_sipush (v := nI 1000) hx hb dX7_cold_23 (by decide) ?_
    have M_26 := c_X7_in l d0 (nI (nv (S 28 0))) (nI 1000)
    refine cd_roi (va_runS (As := [.int d0, .int (nI (nv (S 28 0))), .int (nI 1000)]) (rest := []) ⟨hx, hb, hml, hown, hts⟩ M_26 (va_cwS 3 hts gX7_cold_X7_in rfl rfl rfl (by decide +kernel) ⟨Nat.le_of_ble_eq_true rfl, Nat.le_of_ble_eq_true rfl⟩) ⟨nuB.bl, fun U hU hW => ⟨rfl, trivial⟩⟩ rfl rfl hl.1 rfl (lv_room (Nat.le_of_ble_eq_true rfl)) dX7_cold_26 (by exact ⟨Nat.zero_le _, Nat.zero_le _⟩)) (fun r_26 hr_26 => ?_)
    subst hr_26
    refine cd_ifB_eq (tgt := 43) hx hb dX7_cold_29 (by decide) (fun c_29 => ?_) (fun c_29 => ?_)
    · refine lv_aload_n hx hb dX7_cold_43 rfl (lv_at hl 0 rfl) ?_
      refine lv_iconst (v := nI 2) hx hb dX7_cold_44 (by decide) ?_
      have M_45 := c_X7_fails l D cy g S (va_up K 28 (fun _ => nI 0)) (nI 2) H.size
      refine cd_fri (S := Unit) (W1 := fun u => (wM cy g S (va_up (va_up K 28 (fun _ => nI 0)) 28 (fun _ => (nI 2))))) (ws' := fun u => (wM cy g S (va_up K 28 (fun _ => (nI 2))))) (wc := (wM cy g S (va_up K 28 (fun _ => nI 0)))) (wr := []) (va_runV (As := [.int (nI 2)]) (rest := []) ⟨hx, hb, hml, hown, hts⟩ M_45 (cwV 1 hts gX7_cold_X7_fails rfl rfl rfl (by decide +kernel) ⟨Nat.le_of_ble_eq_true rfl, Nat.le_of_ble_eq_true rfl⟩) ⟨wrB.bl, va_recv hK hP (ci := 7) (q0 := 0) rfl rfl, fun U hU hW => ⟨rfl, by rw [hU], by rw [hU]; exact hP, hG.warm hW, hD.weaken (fun _ _ _ _ => trivial)⟩⟩ rfl rfl hl.1 rfl (lv_room (Nat.le_of_ble_eq_true rfl)) dX7_cold_45 (by exact ⟨Nat.zero_le _, Nat.zero_le _⟩)) hP hD hS hA [0, 1, 2, 3, 4, 5, 6, 7, 8, 9, 10, 11, 12, 13, 14, 15, 16, 17, 18, 19, 20] [] [0, 1, 2, 3, 4, 5, 6, 7, 8, 9, 10, 11, 12, 13, 14, 15, 16, 17, 18, 19, 20] rfl rfl (by decide) (by decide) (by decide) (fun _ => rfl) (fun r_45 _ H locs hw_45 hP hD hS => ?_)
      subst hw_45
      have hP : va_P D vwCl (wM cy g S (va_up K 28 (fun _ => (nI 2)))) H := hP
      have hD : va_D A (wM cy g S (va_up K 28 (fun _ => (nI 2)))) := hD
      exact W.iret (v := nI 0) hx hb hr (fun t ht hW => ⟨⟨nI 0, (S, (va_up K 28 (fun _ => (nI 2)))), rfl, mO_no (k := 2) (by decide) (by decide) (by rw [c_9, c_29]; rfl) rfl, by rw [ht]; exact hP, hD⟩, hS.F ht⟩) hS.2.2 dX7_cold_48
    · obtain ⟨j0, hj0l, hj0, rfl⟩ := inI_two (by omega) (by decide) c_29
      try rw [nv_nI (show j0 < 2147483648 by omega)]
      refine lv_iload_n hx hb dX7_cold_32 rfl (lv_at hl 3 rfl) ?_
      refine lv_iload_n hx hb dX7_cold_33 rfl (lv_at hl 2 rfl) ?_
      refine lv_sipush (v := nI 1000) hx hb dX7_cold_34 (by decide) ?_
      have M_37 := c_X7_in l d1 (nI j0) (nI 1000)
      refine cd_roi (va_runS (As := [.int d1, .int (nI j0), .int (nI 1000)]) (rest := []) ⟨hx, hb, hml, hown, hts⟩ M_37 (va_cwS 3 hts gX7_cold_X7_in rfl rfl rfl (by decide +kernel) ⟨Nat.le_of_ble_eq_true rfl, Nat.le_of_ble_eq_true rfl⟩) ⟨nuB.bl, fun U hU hW => ⟨rfl, trivial⟩⟩ rfl rfl hl.1 rfl (lv_room (Nat.le_of_ble_eq_true rfl)) dX7_cold_37 (by exact ⟨Nat.zero_le _, Nat.zero_le _⟩)) (fun r_37 hr_37 => ?_)
      subst hr_37
      refine cd_ifB_ne (tgt := 49) hx hb dX7_cold_40 (by decide) (fun c_40 => ?_) (fun c_40 => ?_)
      · obtain ⟨j1, hj1l, hj1, rfl⟩ := inI_two (by omega) (by decide) c_40
        try rw [nv_nI (show j1 < 2147483648 by omega)]
        refine lv_iconst (v := nI 0) hx hb dX7_cold_49 (by decide) ?_
        refine lv_istore (lv' := [(4, .int (nI 0)), (0, .ref (g 0)), (1, .int (nI ja)), (2, .int (nI j0)), (3, .int (nI j1))]) hx hb dX7_cold_50 hl (by decide) rfl (fun ls hl => ?_)
        refine lv_iload_n hx hb dX7_cold_52 rfl (lv_at hl 3 rfl) ?_
        refine lv_istore (lv' := [(5, .int (nI j0)), (4, .int (nI 0)), (0, .ref (g 0)), (1, .int (nI ja)), (2, .int (nI j0)), (3, .int (nI j1))]) hx hb dX7_cold_53 hl (by decide) rfl (fun ls hl => ?_)
        have e0 : ilF (S 4) ja j0 (j0 + 0) = S 4 := ilF_0 _ _ _
        refine wh1 (nL := 6) (fun (n : Nat) => n ≤ j1 + 1 - j0) (fun (n : Nat) => j1 + 1 - j0 - n) (fun (n : Nat) => [(0, .ref (g 0)), (1, .int (nI ja)), (2, .int (nI j0)), (3, .int (nI j1)), (4, .int (nI (ilC (S 4) ja j0 n))), (5, .int (nI (j0 + n)))]) (fun (n : Nat) => (wM cy g (va_up S 4 (ilF (S 4) ja j0 (j0 + n))) (va_up K 28 (fun _ => nI 0)))) (fun n hi_55 ih_55 H locs hP hD hS ls hl => ?_) 0 (Nat.zero_le _) (by rw [e0]; exact hP) (by rw [e0]; exact hD) hS (lv_sub hl [2, 3, 4, 5, 1, 0] rfl)
        have hP : va_P D vwCl (wM cy g (va_up S 4 (ilF (S 4) ja j0 (j0 + n))) (va_up K 28 (fun _ => nI 0))) H := hP
        have hD : va_D A (wM cy g (va_up S 4 (ilF (S 4) ja j0 (j0 + n))) (va_up K 28 (fun _ => nI 0))) := hD
        refine lv_iload hx hb dX7_cold_55 (lv_at hl 5 rfl) ?_
        refine lv_iload_n hx hb dX7_cold_57 rfl (lv_at hl 3 rfl) ?_
        refine cd_icmp_gt (tgt := 101) hx hb dX7_cold_58 (by decide) (by omega) (by omega) (fun c_58 => ?_) (fun c_58 => ?_)
        · have en : n = j1 + 1 - j0 := by omega
          subst en
          have hP : va_P D vwCl (wM cy g (va_up S 4 (ilF (S 4) ja j0 (j0 + (j1 + 1 - j0)))) (va_up K 28 (fun _ => nI 0))) H := hP
          have hD : va_D A (wM cy g (va_up S 4 (ilF (S 4) ja j0 (j0 + (j1 + 1 - j0)))) (va_up K 28 (fun _ => nI 0))) := hD
          refine lv_iload hx hb dX7_cold_101 (lv_at hl 4 rfl) ?_
          exact W.iret (v := nI (ilC (S 4) ja j0 (j1 + 1 - j0))) hx hb hr (fun t ht hW => ⟨⟨nI (ilC (S 4) ja j0 (j1 + 1 - j0)), (_, (va_up K 28 (fun _ => nI 0))), rfl, mO_ok (by rw [c_9, c_29, c_40]; rfl) (rfl) rfl, by rw [ht]; exact hP, hD⟩, hS.F ht⟩) hS.2.2 dX7_cold_103
        · refine lv_iload hx hb dX7_cold_61 (lv_at hl 4 rfl) ?_
          refine lv_iconst (v := nI 1) hx hb dX7_cold_63 (by decide) ?_
          refine lv_aload_n hx hb dX7_cold_64 rfl (lv_at hl 0 rfl) ?_
          refine va_get (D := D) (ci := 7) (v := .ref (g 9)) (C := RX7) (T := TX7) (N := 29) hx hb hts iX7 hown hK hP 0 rfl rfl 9 (by decide) f_35 (fun _ h9 => h9) rfl dX7_cold_65 ?_
          refine lv_sipush (v := nI 1001) hx hb dX7_cold_68 (by decide) ?_
          refine lv_iload_n hx hb dX7_cold_71 rfl (lv_at hl 1 rfl) ?_
          refine cd_imul hx hb dX7_cold_72 ?_
          refine lv_iload hx hb dX7_cold_73 (lv_at hl 5 rfl) ?_
          refine cd_iadd hx hb dX7_cold_75 ?_
          refine cd_iald (f := illM (ilF (S 4) ja j0 (j0 + n))) hx hb hK hP 8 rfl (by omega) (by decide) dX7_cold_76 ?_
          refine cd_tp (y := bI ((nv (S 4 (j0 + n))).testBit ja)) (by rw [illM_at (by omega), ilF_at]) ?_
          refine lv_isub hx hb dX7_cold_77 ?_
          refine lv_iadd hx hb dX7_cold_78 ?_
          refine lv_istore (lv' := [(4, .int ((nI (ilC (S 4) ja j0 n)) + ((nI 1) - (bI ((nv (S 4 (j0 + n))).testBit ja))))), (0, .ref (g 0)), (1, .int (nI ja)), (2, .int (nI j0)), (3, .int (nI j1)), (5, .int (nI (j0 + n)))]) hx hb dX7_cold_79 hl (by decide) rfl (fun ls hl => ?_)
          refine lv_aload_n hx hb dX7_cold_81 rfl (lv_at hl 1 rfl) ?_
          refine va_get (D := D) (ci := 7) (v := .ref (g 9)) (C := RX7) (T := TX7) (N := 29) hx hb hts iX7 hown hK hP 0 rfl rfl 9 (by decide) f_35 (fun _ h9 => h9) rfl dX7_cold_82 ?_
          refine lv_sipush (v := nI 1001) hx hb dX7_cold_85 (by decide) ?_
          refine lv_iload_n hx hb dX7_cold_88 rfl (lv_at hl 2 rfl) ?_
          refine cd_imul hx hb dX7_cold_89 ?_
          refine lv_iload hx hb dX7_cold_90 (lv_at hl 5 rfl) ?_
          refine cd_iadd hx hb dX7_cold_92 ?_
          refine lv_iconst (v := nI 1) hx hb dX7_cold_93 (by decide) ?_
          refine cd_iast (f := illM (ilF (S 4) ja j0 (j0 + n))) hx hb hK hP hD hS 8 rfl (by omega) (by decide) dX7_cold_94 (fun H locs hP hD hS => ?_)
          have hP : va_P D vwCl (wMg cy g (va_up S 4 (ilF (S 4) ja j0 (j0 + n))) (va_up K 28 (fun _ => nI 0)) (upd (illM (ilF (S 4) ja j0 (j0 + n))) ((1001 * ja) + (j0 + n)) (nI 1)) (scM (S 18) (S 30 0))) H := hP
          have hD : va_D A (wMg cy g (va_up S 4 (ilF (S 4) ja j0 (j0 + n))) (va_up K 28 (fun _ => nI 0)) (upd (illM (ilF (S 4) ja j0 (j0 + n))) ((1001 * ja) + (j0 + n)) (nI 1)) (scM (S 18) (S 30 0))) := hD
          have e_94 : (upd (illM (ilF (S 4) ja j0 (j0 + n))) ((1001 * ja) + (j0 + n)) (nI 1)) = (illM (ilF (S 4) ja j0 (j0 + (n + 1)))) := ill_w (by omega) (by omega) (iv_4 hI _ (by omega))
          rw [e_94] at hP hD
          have hP : va_P D vwCl (wM cy g (va_up S 4 (ilF (S 4) ja j0 (j0 + (n + 1)))) (va_up K 28 (fun _ => nI 0))) H := hP
          have hD : va_D A (wM cy g (va_up S 4 (ilF (S 4) ja j0 (j0 + (n + 1)))) (va_up K 28 (fun _ => nI 0))) := hD
          refine lv_iinc (v := nI (j0 + n + 1)) (lv' := [(5, .int (nI (j0 + n + 1))), (4, .int ((nI (ilC (S 4) ja j0 n)) + ((nI 1) - (bI ((nv (S 4 (j0 + n))).testBit ja))))), (0, .ref (g 0)), (1, .int (nI ja)), (2, .int (nI j0)), (3, .int (nI j1))]) hx hb dX7_cold_95 hl (k := 5) rfl (cd_i1 _) (by decide) rfl (fun ls hl => ?_)
          refine lv_goto (tgt := 55) hx hb dX7_cold_98 (by decide) ?_
          have hl : lv_has ls 6 [(5, .int (nI (j0 + n + 1))), (4, .int (nI (ilC (S 4) ja j0 (n + 1)))), (0, .ref (g 0)), (1, .int (nI ja)), (2, .int (nI j0)), (3, .int (nI j1))] := Eq.mp (congrArg (fun z9 : Int32 => lv_has ls 6 [(5, .int (nI (j0 + n + 1))), (4, .int z9), (0, .ref (g 0)), (1, .int (nI ja)), (2, .int (nI j0)), (3, .int (nI j1))]) (show ((nI (ilC (S 4) ja j0 n)) + ((nI 1) - (bI ((nv (S 4 (j0 + n))).testBit ja))) : Int32) = nI (ilC (S 4) ja j0 (n + 1)) from il_n)) hl
          exact ih_55 (n + 1) (by omega) (by omega) _ _ hP hD hS _ (lv_sub hl [2, 3, 4, 5, 1, 0] rfl)
      · refine lv_aload_n hx hb dX7_cold_43 rfl (lv_at hl 0 rfl) ?_
        refine lv_iconst (v := nI 2) hx hb dX7_cold_44 (by decide) ?_
        have M_45 := c_X7_fails l D cy g S (va_up K 28 (fun _ => nI 0)) (nI 2) H.size
        refine cd_fri (S := Unit) (W1 := fun u => (wM cy g S (va_up (va_up K 28 (fun _ => nI 0)) 28 (fun _ => (nI 2))))) (ws' := fun u => (wM cy g S (va_up K 28 (fun _ => (nI 2))))) (wc := (wM cy g S (va_up K 28 (fun _ => nI 0)))) (wr := []) (va_runV (As := [.int (nI 2)]) (rest := []) ⟨hx, hb, hml, hown, hts⟩ M_45 (cwV 1 hts gX7_cold_X7_fails rfl rfl rfl (by decide +kernel) ⟨Nat.le_of_ble_eq_true rfl, Nat.le_of_ble_eq_true rfl⟩) ⟨wrB.bl, va_recv hK hP (ci := 7) (q0 := 0) rfl rfl, fun U hU hW => ⟨rfl, by rw [hU], by rw [hU]; exact hP, hG.warm hW, hD.weaken (fun _ _ _ _ => trivial)⟩⟩ rfl rfl hl.1 rfl (lv_room (Nat.le_of_ble_eq_true rfl)) dX7_cold_45 (by exact ⟨Nat.zero_le _, Nat.zero_le _⟩)) hP hD hS hA [0, 1, 2, 3, 4, 5, 6, 7, 8, 9, 10, 11, 12, 13, 14, 15, 16, 17, 18, 19, 20] [] [0, 1, 2, 3, 4, 5, 6, 7, 8, 9, 10, 11, 12, 13, 14, 15, 16, 17, 18, 19, 20] rfl rfl (by decide) (by decide) (by decide) (fun _ => rfl) (fun r_45 _ H locs hw_45 hP hD hS => ?_)
        subst hw_45
        have hP : va_P D vwCl (wM cy g S (va_up K 28 (fun _ => (nI 2)))) H := hP
        have hD : va_D A (wM cy g S (va_up K 28 (fun _ => (nI 2)))) := hD
        exact W.iret (v := nI 0) hx hb hr (fun t ht hW => ⟨⟨nI 0, (S, (va_up K 28 (fun _ => (nI 2)))), rfl, mO_no (k := 2) (by decide) (by decide) (by rw [c_9, c_29, c_40]; rfl) rfl, by rw [ht]; exact hP, hD⟩, hS.F ht⟩) hS.2.2 dX7_cold_48
  · refine lv_aload_n hx hb dX7_cold_12 rfl (lv_at hl 0 rfl) ?_
    refine lv_iconst (v := nI 1) hx hb dX7_cold_13 (by decide) ?_
    have M_14 := c_X7_fails l D cy g S (va_up K 28 (fun _ => nI 0)) (nI 1) H.size
    refine cd_fri (S := Unit) (W1 := fun u => (wM cy g S (va_up (va_up K 28 (fun _ => nI 0)) 28 (fun _ => (nI 1))))) (ws' := fun u => (wM cy g S (va_up K 28 (fun _ => (nI 1))))) (wc := (wM cy g S (va_up K 28 (fun _ => nI 0)))) (wr := []) (va_runV (As := [.int (nI 1)]) (rest := []) ⟨hx, hb, hml, hown, hts⟩ M_14 (cwV 1 hts gX7_cold_X7_fails rfl rfl rfl (by decide +kernel) ⟨Nat.le_of_ble_eq_true rfl, Nat.le_of_ble_eq_true rfl⟩) ⟨wrB.bl, va_recv hK hP (ci := 7) (q0 := 0) rfl rfl, fun U hU hW => ⟨rfl, by rw [hU], by rw [hU]; exact hP, hG.warm hW, hD.weaken (fun _ _ _ _ => trivial)⟩⟩ rfl rfl hl.1 rfl (lv_room (Nat.le_of_ble_eq_true rfl)) dX7_cold_14 (by exact ⟨Nat.zero_le _, Nat.zero_le _⟩)) hP hD hS hA [0, 1, 2, 3, 4, 5, 6, 7, 8, 9, 10, 11, 12, 13, 14, 15, 16, 17, 18, 19, 20] [] [0, 1, 2, 3, 4, 5, 6, 7, 8, 9, 10, 11, 12, 13, 14, 15, 16, 17, 18, 19, 20] rfl rfl (by decide) (by decide) (by decide) (fun _ => rfl) (fun r_14 _ H locs hw_14 hP hD hS => ?_)
    subst hw_14
    have hP : va_P D vwCl (wM cy g S (va_up K 28 (fun _ => (nI 1)))) H := hP
    have hD : va_D A (wM cy g S (va_up K 28 (fun _ => (nI 1)))) := hD
    exact W.iret (v := nI 0) hx hb hr (fun t ht hW => ⟨⟨nI 0, (S, (va_up K 28 (fun _ => (nI 1)))), rfl, mO_no (k := 1) (by decide) (by decide) (by rw [c_9]; rfl) rfl, by rw [ht]; exact hP, hD⟩, hS.F ht⟩) hS.2.2 dX7_cold_17
