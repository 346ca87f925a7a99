set_option maxHeartbeats 4000000 in
set_option maxRecDepth 100000 in
theorem c_X7_isIll (l : Launch) (D : va_G) (cy : qT) (g : Nat → Nat) (S : qS) (K : qS) (hI : Inv S) (a : Int32) (d : Int32) (sz : Nat) : Met l yX7_isIll wsX7_isIll ({ frames := 2, cells := 0, slots := 0, locals := 42 }) (va_Pc [.ref (g 0), .int a, .int d] (wrB D cy (wM cy g S K) sz)) (va_Qi (fun (r9 : Int32) (u : qS × qS) => mO (th2 (inI a (nI 0) (nI 11)) (inI d (nI 0) (nI 1000))) (bI ((nv (S 4 (nv d))).testBit (nv a))) S S r9 u) (wrQ D (va_A (wM cy g S K) sz) (fun u : qS × qS => wM cy g u.1 u.2)) (va_A (wM cy g S K) sz)) 0 0 (va_A (wM cy g S K) sz) := by
  refine Met.ofW (cc := cX7_isIll) (maxL := 3) (ret := (some .boolean)) (by decide) rfl ?_
  intro pp e9 s m9 args9 bl9 meth9 c9 s9 B hml hv
  obtain ⟨rfl, hsz, hP, hG, hD0⟩ := hv
  have hx := B.exec
  have hb := B.bytes
  have hr := B.returns
  have hts := atoms_spec (ws := wsX7_isIll) B.pre
  have hown : s.vm.findClass RX7 = some m9.cls := findClass_of_methodNamed B.named
  have hlocks := B.notSynchronized
  have hK := hG.K
  subst hsz
  have hD := hD0.self (sz := s.heap.size)
  generalize hAe : (va_A (wM cy g S K) s.heap.size) = A at hD ⊢
  have hA : ∀ q : Nat, s.heap.size ≤ q → A q := fun q h9 => by rw [← hAe]; exact Or.inr h9
  have hS : va_S A s.heap s.heap [] := va_S.rf
  have hP : va_P D vwCl (wM cy g S K) s.heap := hP
  have f_74 := hts (.fieldLink RX7 74 "CastDeskModel" "thrown" "I") (by decide +kernel)
  have f_35 := hts (.fieldLink RX7 35 "CastDeskModel" "ill" "[I") (by decide +kernel)
  have iX7 : ∀ w ∈ wsX70, w ∈ wsX7_isIll := by decide +kernel
  have hl := lv_entry ([.ref (g 0), .int a, .int d]) (n := 3) (Nat.le_of_ble_eq_true rfl)
  rw [lg_entry_eq]
  generalize (lg_sl ([.ref (g 0), .int a, .int d]) ++ List.replicate (3 - (lg_sl ([.ref (g 0), .int a, .int d])).length) Slot.unset).toArray = ls at hl ⊢
  have hl : lv_has ls 3 [(0, .ref (g 0)), (1, .int a), (2, .int d)] := hl
  refine lv_aload_n hx hb dX7_isIll_0 rfl (lv_at hl 0 rfl) ?_
  refine lv_iconst (v := nI 0) hx hb dX7_isIll_1 (by decide) ?_
  refine va_put (D := D) (ci := 7) (v := .int (nI 0)) (ty := .int) (C := RX7) (T := TX7) (N := 29) hx hb hts iX7 tyX7 tyX7_ok nmX7 hown hK hP hD hS 0 rfl rfl 28 (by decide) f_74 (fun _ h9 => h9) rfl (by decide +kernel) rfl rfl (Nat.le_of_ble_eq_true rfl) dX7_isIll_2 (fun H locs hP hD hS => ?_)
  have hP : va_P D vwCl (wM cy g S (va_up K 28 (fun _ => nI 0))) H := hP
  have hD : va_D A (wM cy g S (va_up K 28 (fun _ => nI 0))) := hD
  refine lv_iload_n hx hb dX7_isIll_5 rfl (lv_at hl 1 rfl) ?_
  have M_6 := c_X7_isActor l a
  refine cd_roi (va_runS (As := [.int a]) (rest := []) ⟨hx, hb, hml, hown, hts⟩ M_6 (va_cwS 1 hts gX7_isIll_X7_isActor rfl rfl rfl (by decide +kernel) ⟨Nat.le_of_ble_eq_true rfl, Nat.le_of_ble_eq_true rfl⟩) ⟨nuB.bl, fun U hU hW => ⟨rfl, trivial⟩⟩ rfl rfl hl.1 rfl (lv_room (Nat.le_of_ble_eq_true rfl)) dX7_isIll_6 (by exact ⟨Nat.zero_le _, Nat.zero_le _⟩)) (fun r_6 hr_6 => ?_)
  subst hr_6
  refine cd_ifB_ne (tgt := 27) hx hb dX7_isIll_9 (by decide) (fun c_9 => ?_) (fun c_9 => ?_)
  · obtain ⟨ja, hja, rfl⟩ := inI_nat (by decide) c_9
    try rw [nv_nI (show ja < 2147483648 by omega)]
    refine lv_iload_n hx hb dX7_isIll_27 rfl (lv_at hl 2 rfl) ?_
    have M_28 := c_X7_isDay l d
    refine cd_roi (va_runS (As := [.int d]) (rest := []) ⟨hx, hb, hml, hown, hts⟩ M_28 (va_cwS 1 hts gX7_isIll_X7_isDay rfl rfl rfl (by decide +kernel) ⟨Nat.le_of_ble_eq_true rfl, Nat.le_of_ble_eq_true rfl⟩) ⟨nuB.bl, fun U hU hW => ⟨rfl, trivial⟩⟩ rfl rfl hl.1 rfl (lv_room (Nat.le_of_ble_eq_true rfl)) dX7_isIll_28 (by exact ⟨Nat.zero_le _, Nat.zero_le _⟩)) (fun r_28 hr_28 => ?_)
    subst hr_28
    refine cd_ifB_ne (tgt := 49) hx hb dX7_isIll_31 (by decide) (fun c_31 => ?_) (fun c_31 => ?_)
    · obtain ⟨jd, hjd, rfl⟩ := inI_nat (by decide) c_31
      try rw [nv_nI (show jd < 2147483648 by omega)]
      refine lv_aload_n hx hb dX7_isIll_49 rfl (lv_at hl 0 rfl) ?_
      refine va_get (D := D) (ci := 7) (v := .ref (g 9)) (C := RX7) (T := TX7) (N := 29) hx hb hts iX7 hown hK hP 0 rfl rfl 9 (by decide) f_35 (fun _ h9 => h9) rfl dX7_isIll_50 ?_
      refine lv_sipush (v := nI 1001) hx hb dX7_isIll_53 (by decide) ?_
      refine lv_iload_n hx hb dX7_isIll_56 rfl (lv_at hl 1 rfl) ?_
      refine cd_imul hx hb dX7_isIll_57 ?_
      refine lv_iload_n hx hb dX7_isIll_58 rfl (lv_at hl 2 rfl) ?_
      refine cd_iadd hx hb dX7_isIll_59 ?_
      refine cd_iald (f := illM (S 4)) hx hb hK hP 8 rfl (by omega) (by decide) dX7_isIll_60 ?_
      refine cd_tp (y := bI ((nv (S 4 jd)).testBit ja)) (illM_at (by omega)) ?_
      refine lv_iconst (v := nI 1) hx hb dX7_isIll_61 (by decide) ?_
      refine lv_icmp_ne (tgt := 69) hx hb dX7_isIll_62 (by decide) (fun c_62 => ?_) (fun c_62 => ?_)
      · refine lv_iconst (v := nI 0) hx hb dX7_isIll_69 (by decide) ?_
        exact W.zret (v := nI 0) hx hb hr rfl (fun t ht hW => ⟨⟨nI 0, (_, (va_up K 28 (fun _ => nI 0))), rfl, mO_ok (by rw [c_9, c_31]; rfl) (by rw [bI_n1 c_62]; rfl) rfl, by rw [ht]; exact hP, hD⟩, hS.F ht⟩) hS.2.2 dX7_isIll_70
      · refine lv_iconst (v := nI 1) hx hb dX7_isIll_65 (by decide) ?_
        refine lv_goto (tgt := 70) hx hb dX7_isIll_66 (by decide) ?_
        exact W.zret (v := nI 1) hx hb hr rfl (fun t ht hW => ⟨⟨nI 1, (_, (va_up K 28 (fun _ => nI 0))), rfl, mO_ok (by rw [c_9, c_31]; rfl) (by rw [bI_e1 c_62]; rfl) rfl, by rw [ht]; exact hP, hD⟩, hS.F ht⟩) hS.2.2 dX7_isIll_70
    · refine lv_aload_n hx hb dX7_isIll_34 rfl (lv_at hl 0 rfl) ?_
      refine lv_iconst (v := nI 2) hx hb dX7_isIll_35 (by decide) ?_
      have M_36 := c_X7_fails l D cy g S (va_up K 28 (fun _ => nI 0)) (nI 2) H.size
      refine cd_fri (S := Unit) (W1 := fun u => (wM cy g S (va_up (va_up K 28 (fun _ => nI 0)) 28 (fun _ => (nI 2))))) (ws' := fun u => (wM cy g S (va_up K 28 (fun _ => (nI 2))))) (wc := (wM cy g S (va_up K 28 (fun _ => nI 0)))) (wr := []) (va_runV (As := [.int (nI 2)]) (rest := []) ⟨hx, hb, hml, hown, hts⟩ M_36 (cwV 1 hts gX7_isIll_X7_fails rfl rfl rfl (by decide +kernel) ⟨Nat.le_of_ble_eq_true rfl, Nat.le_of_ble_eq_true rfl⟩) ⟨wrB.bl, va_recv hK hP (ci := 7) (q0 := 0) rfl rfl, fun U hU hW => ⟨rfl, by rw [hU], by rw [hU]; exact hP, hG.warm hW, hD.weaken (fun _ _ _ _ => trivial)⟩⟩ rfl rfl hl.1 rfl (lv_room (Nat.le_of_ble_eq_true rfl)) dX7_isIll_36 (by exact ⟨Nat.zero_le _, Nat.zero_le _⟩)) hP hD hS hA [0, 1, 2, 3, 4, 5, 6, 7, 8, 9, 10, 11, 12, 13, 14, 15, 16, 17, 18, 19, 20] [] [0, 1, 2, 3, 4, 5, 6, 7, 8, 9, 10, 11, 12, 13, 14, 15, 16, 17, 18, 19, 20] rfl rfl (by decide) (by decide) (by decide) (fun _ => rfl) (fun r_36 _ H locs hw_36 hP hD hS => ?_)
      subst hw_36
      have hP : va_P D vwCl (wM cy g S (va_up K 28 (fun _ => (nI 2)))) H := hP
      have hD : va_D A (wM cy g S (va_up K 28 (fun _ => (nI 2)))) := hD
      refine lv_iconst (v := nI 1) hx hb dX7_isIll_39 (by decide) ?_
      refine cd_icmp_ne (tgt := 47) hx hb dX7_isIll_40 (by decide) (by omega) (by omega) (fun c_40 => ?_) (fun c_40 => ?_)
      · refine lv_iconst (v := nI 0) hx hb dX7_isIll_47 (by decide) ?_
        exact W.zret (v := nI 0) hx hb hr rfl (fun t ht hW => ⟨⟨nI 0, (S, (va_up K 28 (fun _ => (nI 2)))), rfl, mO_no (k := 2) (by decide) (by decide) (by rw [c_9, c_31]; rfl) rfl, by rw [ht]; exact hP, hD⟩, hS.F ht⟩) hS.2.2 dX7_isIll_48
      · exact absurd c_40 (by decide)
  · refine lv_aload_n hx hb dX7_isIll_12 rfl (lv_at hl 0 rfl) ?_
    refine lv_iconst (v := nI 1) hx hb dX7_isIll_13 (by decide) ?_
    have M_14 := c_X7_fails l D cy g S (va_up K 28 (fun _ => nI 0)) (nI 1) H.size
    refine cd_fri (S := Unit) (W1 := fun u => (wM cy g S (va_up (va_up K 28 (fun _ => nI 0)) 28 (fun _ => (nI 1))))) (ws' := fun u => (wM cy g S (va_up K 28 (fun _ => (nI 1))))) (wc := (wM cy g S (va_up K 28 (fun _ => nI 0)))) (wr := []) (va_runV (As := [.int (nI 1)]) (rest := []) ⟨hx, hb, hml, hown, hts⟩ M_14 (cwV 1 hts gX7_isIll_X7_fails rfl rfl rfl (by decide +kernel) ⟨Nat.le_of_ble_eq_true rfl, Nat.le_of_ble_eq_true rfl⟩) ⟨wrB.bl, va_recv hK hP (ci := 7) (q0 := 0) rfl rfl, fun U hU hW => ⟨rfl, by rw [hU], by rw [hU]; exact hP, hG.warm hW, hD.weaken (fun _ _ _ _ => trivial)⟩⟩ rfl rfl hl.1 rfl (lv_room (Nat.le_of_ble_eq_true rfl)) dX7_isIll_14 (by exact ⟨Nat.zero_le _, Nat.zero_le _⟩)) hP hD hS hA [0, 1, 2, 3, 4, 5, 6, 7, 8, 9, 10, 11, 12, 13, 14, 15, 16, 17, 18, 19, 20] [] [0, 1, 2, 3, 4, 5, 6, 7, 8, 9, 10, 11, 12, 13, 14, 15, 16, 17, 18, 19, 20] rfl rfl (by decide) (by decide) (by decide) (fun _ => rfl) (fun r_14 _ H locs hw_14 hP hD hS => ?_)
    subst hw_14
    have hP : va_P D vwCl (wM cy g S (va_up K 28 (fun _ => (nI 1)))) H := hP
    have hD : va_D A (wM cy g S (va_up K 28 (fun _ => (nI 1)))) := hD
    refine lv_iconst (v := nI 1) hx hb dX7_isIll_17 (by decide) ?_
    refine cd_icmp_ne (tgt := 25) hx hb dX7_isIll_18 (by decide) (by omega) (by omega) (fun c_18 => ?_) (fun c_18 => ?_)
    · refine lv_iconst (v := nI 0) hx hb dX7_isIll_25 (by decide) ?_
      exact W.zret (v := nI 0) hx hb hr rfl (fun t ht hW => ⟨⟨nI 0, (S, (va_up K 28 (fun _ => (nI 1)))), rfl, mO_no (k := 1) (by decide) (by decide) (by rw [c_9]; rfl) rfl, by rw [ht]; exact hP, hD⟩, hS.F ht⟩) hS.2.2 dX7_isIll_26
    · exact absurd c_18 (by decide)
