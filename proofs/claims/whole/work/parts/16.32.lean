set_option maxHeartbeats 4000000 in
set_option maxRecDepth 100000 in
theorem c_X7_play (l : Launch) (D : va_G) (cy : qT) (g : Nat → Nat) (S : qS) (K : qS) (hI : Inv S) (sz : Nat) : Met l yX7_play wsX7_play ({ frames := 4, cells := 0, slots := 0, locals := 98 }) (va_Pc [.ref (g 0)] (wrB D cy (wM cy g S K) sz)) (va_Qi (fun (r9 : Int32) (u : qS × qS) => mO (th1 (decide (nv (S 28 0) < 1000))) (plR S) (va_up (va_up (va_up (va_up (va_up (va_up (va_up S 17 (pl17 S)) 18 (pl18 S)) 9 (pl9 S)) 11 (pl11 S)) 25 (pl25 S)) 32 (fun _ => pl32 S)) 28 (fun _ => nI (nv (S 28 0) + 1))) S r9 u) (wrQ D (va_A (wM cy g S K) sz) (fun u : qS × qS => wM cy g u.1 u.2)) (va_A (wM cy g S K) sz)) 0 0 (va_A (wM cy g S K) sz) := by
  refine Met.ofW (cc := cX7_play) (maxL := 4) (ret := (some .int)) (by decide) rfl ?_
  intro pp e9 s m9 args9 bl9 meth9 c9 s9 B hml hv
  obtain ⟨rfl, hsz, hP, hG, hD0⟩ := hv
  have hx := B.exec
  have hb := B.bytes
  have hr := B.returns
  have hts := atoms_spec (ws := wsX7_play) B.pre
  have hown : s.vm.findClass RX7 = some m9.cls := findClass_of_methodNamed B.named
  have hlocks := B.notSynchronized
  have hK := hG.K
  subst hsz
  have hD := hD0.self (sz := s.heap.size)
  generalize hAe : (va_A (wM cy g S K) s.heap.size) = A at hD ⊢
  have hA : ∀ q : Nat, s.heap.size ≤ q → A q := fun q h9 => by rw [← hAe]; exact Or.inr h9
  have hS : va_S A s.heap s.heap [] := va_S.rf
  have hP : va_P D vwCl (wM cy g S K) s.heap := hP
  have f_74 := hts (.fieldLink RX7 74 "CastDeskModel" "thrown" "I") (by decide +kernel)
  have f_106 := hts (.fieldLink RX7 106 "CastDeskModel" "today" "I") (by decide +kernel)
  have f_150 := hts (.fieldLink RX7 150 "CastDeskModel" "taken" "I") (by decide +kernel)
  have f_41 := hts (.fieldLink RX7 41 "CastDeskModel" "showState" "[I") (by decide +kernel)
  have iX7 : ∀ w ∈ wsX70, w ∈ wsX7_play := by decide +kernel
  have hl := lv_entry ([.ref (g 0)]) (n := 4) (Nat.le_of_ble_eq_true rfl)
  rw [lg_entry_eq]
  generalize (lg_sl ([.ref (g 0)]) ++ List.replicate (4 - (lg_sl ([.ref (g 0)])).length) Slot.unset).toArray = ls at hl ⊢
  have hl : lv_has ls 4 [(0, .ref (g 0))] := hl
  have h28 := iv_28 hI
  have h282 := h28.2
  have h30 := (iv_30 hI).2
  refine lv_aload_n hx hb dX7_play_0 rfl (lv_at hl 0 rfl) ?_
  refine lv_iconst (v := nI 0) hx hb dX7_play_1 (by decide) ?_
  refine va_put (D := D) (ci := 7) (v := .int (nI 0)) (ty := .int) (C := RX7) (T := TX7) (N := 29) hx hb hts iX7 tyX7 tyX7_ok nmX7 hown hK hP hD hS 0 rfl rfl 28 (by decide) f_74 (fun _ h9 => h9) rfl (by decide +kernel) rfl rfl (Nat.le_of_ble_eq_true rfl) dX7_play_2 (fun H locs hP hD hS => ?_)
  have hP : va_P D vwCl (wM cy g S (va_up K 28 (fun _ => nI 0))) H := hP
  have hD : va_D A (wM cy g S (va_up K 28 (fun _ => nI 0))) := hD
  refine lv_aload_n hx hb dX7_play_5 rfl (lv_at hl 0 rfl) ?_
  refine va_get (D := D) (ci := 7) (v := .int (S 28 0)) (C := RX7) (T := TX7) (N := 29) hx hb hts iX7 hown hK hP 0 rfl rfl 21 (by decide) f_106 (fun _ h9 => h9) rfl dX7_play_6 ?_
  have b_6 := iv_28 hI
  refine cd_tp (y := nI (nv (S 28 0))) b_6.1 ?_
  have b_6 := b_6.2
  refine lv_sipush (v := nI 1000) hx hb dX7_play_9 (by decide) ?_
  refine cd_icmp_ne (tgt := 21) hx hb dX7_play_12 (by decide) (by omega) (by omega) (fun c_12 => ?_) (fun c_12 => ?_)
  · refine lv_aload_n hx hb dX7_play_21 rfl (lv_at hl 0 rfl) ?_
    refine lv_aload_n hx hb dX7_play_22 rfl (lv_at hl 0 rfl) ?_
    refine va_get (D := D) (ci := 7) (v := .int (S 28 0)) (C := RX7) (T := TX7) (N := 29) hx hb hts iX7 hown hK hP 0 rfl rfl 21 (by decide) f_106 (fun _ h9 => h9) rfl dX7_play_23 ?_
    have b_23 := iv_28 hI
    refine cd_tp (y := nI (nv (S 28 0))) b_23.1 ?_
    have b_23 := b_23.2
    have M_26 := c_X7_showOn l D cy g S (va_up K 28 (fun _ => nI 0)) hI (nI (nv (S 28 0)))
    refine cd_roi (va_runV (As := [.int (nI (nv (S 28 0)))]) (rest := []) ⟨hx, hb, hml, hown, hts⟩ M_26 (cwV 1 hts gX7_play_X7_showOn rfl rfl rfl (by decide +kernel) ⟨Nat.le_of_ble_eq_true rfl, Nat.le_of_ble_eq_true rfl⟩) ⟨roB.bl, va_recv hK hP (ci := 7) (q0 := 0) rfl rfl, fun U hU hW => ⟨rfl, by rw [hU]; exact hP, hG.warm hW⟩⟩ rfl rfl hl.1 rfl (lv_room (Nat.le_of_ble_eq_true rfl)) dX7_play_26 (by exact ⟨Nat.zero_le _, Nat.zero_le _⟩)) (fun r_26 hr_26 => ?_)
    subst hr_26
    refine cd_tp (y := shI S (S 28 0)) (by rw [← h28.1]) ?_
    refine lv_istore_n (lv' := [(1, .int (shI S (S 28 0))), (0, .ref (g 0))]) hx hb dX7_play_29 rfl hl (by decide) rfl (fun ls hl => ?_)
    refine lv_iconst (v := nI 0) hx hb dX7_play_30 (by decide) ?_
    refine lv_istore_n (lv' := [(2, .int (nI 0)), (1, .int (shI S (S 28 0))), (0, .ref (g 0))]) hx hb dX7_play_31 rfl hl (by decide) rfl (fun ls hl => ?_)
    refine lv_iload_n hx hb dX7_play_32 rfl (lv_at hl 1 rfl) ?_
    refine lv_iconst (v := (-1)) hx hb dX7_play_33 (by decide) ?_
    refine lv_icmp_eq (tgt := 73) hx hb dX7_play_34 (by decide) (fun c_34 => ?_) (fun c_34 => ?_)
    · have hsb := sh_no c_34
      have eS17_55 : S 17 = pl17 S := by rw [pl17, if_neg (by rw [hsb]; decide)]
      have hP : va_P D vwCl (wM cy g (va_up S 17 (pl17 S)) (va_up K 28 (fun _ => nI 0))) H := by rw [← eS17_55]; exact hP
      have hD : va_D A (wM cy g (va_up S 17 (pl17 S)) (va_up K 28 (fun _ => nI 0))) := by rw [← eS17_55]; exact hD
      have eS18_58 : S 18 = pl18 S := by rw [pl18, if_neg (by rw [hsb]; decide)]
      have hP : va_P D vwCl (wM cy g (va_up (va_up S 17 (pl17 S)) 18 (pl18 S)) (va_up K 28 (fun _ => nI 0))) H := by rw [← eS18_58]; exact hP
      have hD : va_D A (wM cy g (va_up (va_up S 17 (pl17 S)) 18 (pl18 S)) (va_up K 28 (fun _ => nI 0))) := by rw [← eS18_58]; exact hD
      have eS9_61 : S 9 = pl9 S := by rw [pl9, if_neg (by rw [hsb]; decide)]
      have hP : va_P D vwCl (wM cy g (va_up (va_up (va_up S 17 (pl17 S)) 18 (pl18 S)) 9 (pl9 S)) (va_up K 28 (fun _ => nI 0))) H := by rw [← eS9_61]; exact hP
      have hD : va_D A (wM cy g (va_up (va_up (va_up S 17 (pl17 S)) 18 (pl18 S)) 9 (pl9 S)) (va_up K 28 (fun _ => nI 0))) := by rw [← eS9_61]; exact hD
      have eS11_64 : S 11 = pl11 S := by rw [pl11, if_neg (by rw [hsb]; decide)]
      have hP : va_P D vwCl (wM cy g (va_up (va_up (va_up (va_up S 17 (pl17 S)) 18 (pl18 S)) 9 (pl9 S)) 11 (pl11 S)) (va_up K 28 (fun _ => nI 0))) H := by rw [← eS11_64]; exact hP
      have hD : va_D A (wM cy g (va_up (va_up (va_up (va_up S 17 (pl17 S)) 18 (pl18 S)) 9 (pl9 S)) 11 (pl11 S)) (va_up K 28 (fun _ => nI 0))) := by rw [← eS11_64]; exact hD
      have eS25_67 : S 25 = pl25 S := by rw [pl25, if_neg (by rw [hsb]; decide)]
      have hP : va_P D vwCl (wM cy g (va_up (va_up (va_up (va_up (va_up S 17 (pl17 S)) 18 (pl18 S)) 9 (pl9 S)) 11 (pl11 S)) 25 (pl25 S)) (va_up K 28 (fun _ => nI 0))) H := by rw [← eS25_67]; exact hP
      have hD : va_D A (wM cy g (va_up (va_up (va_up (va_up (va_up S 17 (pl17 S)) 18 (pl18 S)) 9 (pl9 S)) 11 (pl11 S)) 25 (pl25 S)) (va_up K 28 (fun _ => nI 0))) := by rw [← eS25_67]; exact hD
      have hl : lv_has ls 4 [(2, .int (plR S)), (1, .int (shI S (S 28 0))), (0, .ref (g 0))] := Eq.mp (congrArg (fun z9 : Int32 => lv_has ls 4 [(2, .int z9), (1, .int (shI S (S 28 0))), (0, .ref (g 0))]) (show (nI 0 : Int32) = plR S from by rw [plR, if_neg (by rw [hsb]; decide)])) hl
      refine lv_aload_n hx hb dX7_play_73 rfl (lv_at hl 2 rfl) ?_
      refine lv_dup hx hb dX7_play_74 rfl ?_
      refine va_get (D := D) (ci := 7) (v := .int (S 32 0)) (C := RX7) (T := TX7) (N := 29) hx hb hts iX7 hown hK hP 0 rfl rfl 22 (by decide) f_150 (fun _ h9 => h9) rfl dX7_play_75 ?_
      refine lv_iload_n hx hb dX7_play_78 rfl (lv_at hl 0 rfl) ?_
      refine lv_isub hx hb dX7_play_79 ?_
      refine cd_tp (y := pl32 S) (pl32_R) ?_
      refine va_put (D := D) (ci := 7) (v := .int (pl32 S)) (ty := .int) (C := RX7) (T := TX7) (N := 29) hx hb hts iX7 tyX7 tyX7_ok nmX7 hown hK hP hD hS 0 rfl rfl 22 (by decide) f_150 (fun _ h9 => h9) rfl (by decide +kernel) rfl rfl (Nat.le_of_ble_eq_true rfl) dX7_play_80 (fun H locs hP hD hS => ?_)
      have hP : va_P D vwCl (wM cy g (va_up (va_up (va_up (va_up (va_up (va_up S 17 (pl17 S)) 18 (pl18 S)) 9 (pl9 S)) 11 (pl11 S)) 25 (pl25 S)) 32 (fun _ => pl32 S)) (va_up K 28 (fun _ => nI 0))) H := hP
      have hD : va_D A (wM cy g (va_up (va_up (va_up (va_up (va_up (va_up S 17 (pl17 S)) 18 (pl18 S)) 9 (pl9 S)) 11 (pl11 S)) 25 (pl25 S)) 32 (fun _ => pl32 S)) (va_up K 28 (fun _ => nI 0))) := hD
      refine lv_aload_n hx hb dX7_play_83 rfl (lv_at hl 2 rfl) ?_
      refine lv_dup hx hb dX7_play_84 rfl ?_
      refine va_get (D := D) (ci := 7) (v := .int (S 28 0)) (C := RX7) (T := TX7) (N := 29) hx hb hts iX7 hown hK hP 0 rfl rfl 21 (by decide) f_106 (fun _ h9 => h9) rfl dX7_play_85 ?_
      have b_85 := iv_28 hI
      refine cd_tp (y := nI (nv (S 28 0))) b_85.1 ?_
      have b_85 := b_85.2
      refine lv_iconst (v := nI 1) hx hb dX7_play_88 (by decide) ?_
      refine cd_iadd hx hb dX7_play_89 ?_
      refine va_put (D := D) (ci := 7) (v := .int (nI ((nv (S 28 0)) + 1))) (ty := .int) (C := RX7) (T := TX7) (N := 29) hx hb hts iX7 tyX7 tyX7_ok nmX7 hown hK hP hD hS 0 rfl rfl 21 (by decide) f_106 (fun _ h9 => h9) rfl (by decide +kernel) rfl rfl (Nat.le_of_ble_eq_true rfl) dX7_play_90 (fun H locs hP hD hS => ?_)
      have hP : va_P D vwCl (wM cy g (va_up (va_up (va_up (va_up (va_up (va_up (va_up S 17 (pl17 S)) 18 (pl18 S)) 9 (pl9 S)) 11 (pl11 S)) 25 (pl25 S)) 32 (fun _ => pl32 S)) 28 (fun _ => nI ((nv (S 28 0)) + 1))) (va_up K 28 (fun _ => nI 0))) H := hP
      have hD : va_D A (wM cy g (va_up (va_up (va_up (va_up (va_up (va_up (va_up S 17 (pl17 S)) 18 (pl18 S)) 9 (pl9 S)) 11 (pl11 S)) 25 (pl25 S)) 32 (fun _ => pl32 S)) 28 (fun _ => nI ((nv (S 28 0)) + 1))) (va_up K 28 (fun _ => nI 0))) := hD
      refine lv_iload_n hx hb dX7_play_93 rfl (lv_at hl 0 rfl) ?_
      exact W.iret (v := plR S) hx hb hr (fun t ht hW => ⟨⟨plR S, (_, (va_up K 28 (fun _ => nI 0))), rfl, mO_ok (by rw [decide_eq_true (by omega)]; rfl) (rfl) rfl, by rw [ht]; exact hP, hD⟩, hS.F ht⟩) hS.2.2 dX7_play_94
    · have hsb := sh_rng c_34
      have hl : lv_has ls 4 [(2, .int (nI 0)), (1, .int (nI (shW S (S 28 0)))), (0, .ref (g 0))] := Eq.mp (congrArg (fun z9 : Int32 => lv_has ls 4 [(2, .int (nI 0)), (1, .int z9), (0, .ref (g 0))]) (show (shI S (S 28 0) : Int32) = nI (shW S (S 28 0)) from hsb.2.2)) hl
      refine lv_aload_n hx hb dX7_play_37 rfl (lv_at hl 2 rfl) ?_
      refine lv_aload_n hx hb dX7_play_38 rfl (lv_at hl 2 rfl) ?_
      refine va_get (D := D) (ci := 7) (v := .int (S 28 0)) (C := RX7) (T := TX7) (N := 29) hx hb hts iX7 hown hK hP 0 rfl rfl 21 (by decide) f_106 (fun _ h9 => h9) rfl dX7_play_39 ?_
      have b_39 := iv_28 hI
      refine cd_tp (y := nI (nv (S 28 0))) b_39.1 ?_
      have b_39 := b_39.2
      refine lv_iconst (v := (-1)) hx hb dX7_play_42 (by decide) ?_
      have M_43 := c_X7_lay l D cy g S (va_up K 28 (fun _ => nI 0)) hI (nv (S 28 0)) (-1) (plM S) (by omega) (hm_0 _) H.size
      refine cd_fri (S := Unit) (W1 := fun u => (wM cy g S (va_up (va_up (va_up (va_up (va_up K 28 (fun _ => nI 0)) 23 (abF S (plM S) ((va_up K 28 (fun _ => nI 0)) 23) (nv (S 27 0) * 4))) 26 (fun _ => bcS S (plM S))) 27 (fun _ => bcW S (plM S))) 24 (caF S (plM S) ((va_up K 28 (fun _ => nI 0)) 24))))) (ws' := fun u => (wM cy g S (va_up (va_up (va_up (va_up (va_up K 28 (fun _ => nI 0)) 23 (abF S (plM S) ((K 23)) (nv (S 27 0) * 4))) 26 (fun _ => bcS S (plM S))) 27 (fun _ => bcW S (plM S))) 24 (caF S (plM S) ((K 24)))))) (wc := (wM cy g S (va_up K 28 (fun _ => nI 0)))) (wr := []) (va_runV (As := [.int (nI (nv (S 28 0))), .int (-1)]) (rest := []) ⟨hx, hb, hml, hown, hts⟩ M_43 (cwV 2 hts gX7_play_X7_lay rfl rfl rfl (by decide +kernel) ⟨Nat.le_of_ble_eq_true rfl, Nat.le_of_ble_eq_true rfl⟩) ⟨wrB.bl, va_recv hK hP (ci := 7) (q0 := 0) rfl rfl, fun U hU hW => ⟨rfl, by rw [hU], by rw [hU]; exact hP, hG.warm hW, hD.weaken (fun _ _ _ _ => trivial)⟩⟩ rfl rfl hl.1 rfl (lv_room (Nat.le_of_ble_eq_true rfl)) dX7_play_43 (by exact ⟨Nat.zero_le _, Nat.zero_le _⟩)) hP hD hS hA [0, 1, 2, 3, 4, 5, 6, 7, 8, 9, 10, 11, 12, 13, 14, 15, 16, 17, 18, 19, 20] [] [0, 1, 2, 3, 4, 5, 6, 7, 8, 9, 10, 11, 12, 13, 14, 15, 16, 17, 18, 19, 20] rfl rfl (by decide) (by decide) (by decide) (fun _ => rfl) (fun r_43 _ H locs hw_43 hP hD hS => ?_)
      subst hw_43
      have hP : va_P D vwCl (wM cy g S (va_up (va_up (va_up (va_up (va_up K 28 (fun _ => nI 0)) 23 (abF S (plM S) ((K 23)) (nv (S 27 0) * 4))) 26 (fun _ => bcS S (plM S))) 27 (fun _ => bcW S (plM S))) 24 (caF S (plM S) ((K 24))))) H := hP
      have hD : va_D A (wM cy g S (va_up (va_up (va_up (va_up (va_up K 28 (fun _ => nI 0)) 23 (abF S (plM S) ((K 23)) (nv (S 27 0) * 4))) 26 (fun _ => bcS S (plM S))) 27 (fun _ => bcW S (plM S))) 24 (caF S (plM S) ((K 24))))) := hD
      refine lv_istore_n (lv' := [(3, .int (bI ((bc S (plM S)).isSome))), (2, .int (nI 0)), (1, .int (nI (shW S (S 28 0)))), (0, .ref (g 0))]) hx hb dX7_play_46 rfl hl (by decide) rfl (fun ls hl => ?_)
      refine lv_aload_n hx hb dX7_play_47 rfl (lv_at hl 3 rfl) ?_
      refine lv_iload_n hx hb dX7_play_48 rfl (lv_at hl 2 rfl) ?_
      refine lv_iload_n hx hb dX7_play_49 rfl (lv_at hl 0 rfl) ?_
      have M_50 := c_X7_refundAll l D cy g S (va_up (va_up (va_up (va_up (va_up K 28 (fun _ => nI 0)) 23 (abF S (plM S) ((K 23)) (nv (S 27 0) * 4))) 26 (fun _ => bcS S (plM S))) 27 (fun _ => bcW S (plM S))) 24 (caF S (plM S) ((K 24)))) hI (shW S (S 28 0)) (plM S) rfl (fun p h9 => caF_at h9) H.size
      refine cd_fri (S := Unit) (W1 := fun u => (wM cy g (va_up S 25 (rfF S (shW S (S 28 0)) (bcI S (plM S)) (nv (S 31 0)))) (va_up (va_up (va_up (va_up (va_up K 28 (fun _ => nI 0)) 23 (abF S (plM S) ((K 23)) (nv (S 27 0) * 4))) 26 (fun _ => bcS S (plM S))) 27 (fun _ => bcW S (plM S))) 24 (caF S (plM S) ((K 24)))))) (ws' := fun u => (wM cy g (va_up S 25 (rfF S (shW S (S 28 0)) (bcI S (plM S)) (nv (S 31 0)))) (va_up (va_up (va_up (va_up (va_up K 28 (fun _ => nI 0)) 23 (abF S (plM S) ((K 23)) (nv (S 27 0) * 4))) 26 (fun _ => bcS S (plM S))) 27 (fun _ => bcW S (plM S))) 24 (caF S (plM S) ((K 24)))))) (wc := (wM cy g S (va_up (va_up (va_up (va_up (va_up K 28 (fun _ => nI 0)) 23 (abF S (plM S) ((K 23)) (nv (S 27 0) * 4))) 26 (fun _ => bcS S (plM S))) 27 (fun _ => bcW S (plM S))) 24 (caF S (plM S) ((K 24)))))) (wr := []) (va_runV (As := [.int (nI (shW S (S 28 0))), .int (bI ((bc S (plM S)).isSome))]) (rest := []) ⟨hx, hb, hml, hown, hts⟩ M_50 (cwV 2 hts gX7_play_X7_refundAll rfl rfl rfl (by decide +kernel) ⟨Nat.le_of_ble_eq_true rfl, Nat.le_of_ble_eq_true rfl⟩) ⟨wrB.bl, va_recv hK hP (ci := 7) (q0 := 0) rfl rfl, fun U hU hW => ⟨rfl, by rw [hU], by rw [hU]; exact hP, hG.warm hW, hD.weaken (fun _ _ _ _ => trivial)⟩⟩ rfl rfl hl.1 rfl (lv_room (Nat.le_of_ble_eq_true rfl)) dX7_play_50 (by exact ⟨Nat.zero_le _, Nat.zero_le _⟩)) hP hD hS hA [0, 1, 2, 3, 4, 5, 6, 7, 8, 9, 10, 11, 12, 13, 14, 15, 16, 17, 18, 19, 20] [] [0, 1, 2, 3, 4, 5, 6, 7, 8, 9, 10, 11, 12, 13, 14, 15, 16, 17, 18, 19, 20] rfl rfl (by decide) (by decide) (by decide) (fun _ => rfl) (fun r_50 _ H locs hw_50 hP hD hS => ?_)
      subst hw_50
      have hP : va_P D vwCl (wM cy g (va_up S 25 (rfF S (shW S (S 28 0)) (bcI S (plM S)) (nv (S 31 0)))) (va_up (va_up (va_up (va_up (va_up K 28 (fun _ => nI 0)) 23 (abF S (plM S) ((K 23)) (nv (S 27 0) * 4))) 26 (fun _ => bcS S (plM S))) 27 (fun _ => bcW S (plM S))) 24 (caF S (plM S) ((K 24))))) H := hP
      have hD : va_D A (wM cy g (va_up S 25 (rfF S (shW S (S 28 0)) (bcI S (plM S)) (nv (S 31 0)))) (va_up (va_up (va_up (va_up (va_up K 28 (fun _ => nI 0)) 23 (abF S (plM S) ((K 23)) (nv (S 27 0) * 4))) 26 (fun _ => bcS S (plM S))) 27 (fun _ => bcW S (plM S))) 24 (caF S (plM S) ((K 24))))) := hD
      refine lv_istore_n (lv' := [(2, .int (rfS S (shW S (S 28 0)) (bcI S (plM S)) (nv (S 31 0)))), (3, .int (bI ((bc S (plM S)).isSome))), (1, .int (nI (shW S (S 28 0)))), (0, .ref (g 0))]) hx hb dX7_play_53 rfl hl (by decide) rfl (fun ls hl => ?_)
      refine lv_iload_n hx hb dX7_play_54 rfl (lv_at hl 1 rfl) ?_
      refine cd_ifB_eq (tgt := 66) hx hb dX7_play_55 (by decide) (fun c_55 => ?_) (fun c_55 => ?_)
      · refine lv_aload_n hx hb dX7_play_66 rfl (lv_at hl 3 rfl) ?_
        refine va_get (D := D) (ci := 7) (v := .ref (g 11)) (C := RX7) (T := TX7) (N := 29) hx hb hts iX7 hown hK hP 0 rfl rfl 11 (by decide) f_41 (fun _ h9 => h9) rfl dX7_play_67 ?_
        refine lv_iload_n hx hb dX7_play_70 rfl (lv_at hl 2 rfl) ?_
        refine lv_iconst (v := nI 2) hx hb dX7_play_71 (by decide) ?_
        refine cd_iast (f := S 17) hx hb hK hP hD hS 10 rfl (by omega) (by decide) dX7_play_72 (fun H locs hP hD hS => ?_)
        have hP : va_P D vwCl (wM cy g (va_up (va_up S 25 (rfF S (shW S (S 28 0)) (bcI S (plM S)) (nv (S 31 0)))) 17 (upd (S 17) (shW S (S 28 0)) (nI 2))) (va_up (va_up (va_up (va_up (va_up K 28 (fun _ => nI 0)) 23 (abF S (plM S) ((K 23)) (nv (S 27 0) * 4))) 26 (fun _ => bcS S (plM S))) 27 (fun _ => bcW S (plM S))) 24 (caF S (plM S) ((K 24))))) H := hP
        have hD : va_D A (wM cy g (va_up (va_up S 25 (rfF S (shW S (S 28 0)) (bcI S (plM S)) (nv (S 31 0)))) 17 (upd (S 17) (shW S (S 28 0)) (nI 2))) (va_up (va_up (va_up (va_up (va_up K 28 (fun _ => nI 0)) 23 (abF S (plM S) ((K 23)) (nv (S 27 0) * 4))) 26 (fun _ => bcS S (plM S))) 27 (fun _ => bcW S (plM S))) 24 (caF S (plM S) ((K 24))))) := hD
        have hbn := bcI_nn (bc_isn c_55)
        rw [show (upd (S 17) (shW S (S 28 0)) (nI 2)) = (pl17 S) from by rw [pl17, if_pos hsb.1, pf17, if_pos hbn]] at hP hD
        have hP : va_P D vwCl (wM cy g (va_up (va_up S 25 (rfF S (shW S (S 28 0)) (bcI S (plM S)) (nv (S 31 0)))) 17 (pl17 S)) (va_up (va_up (va_up (va_up (va_up K 28 (fun _ => nI 0)) 23 (abF S (plM S) ((K 23)) (nv (S 27 0) * 4))) 26 (fun _ => bcS S (plM S))) 27 (fun _ => bcW S (plM S))) 24 (caF S (plM S) ((K 24))))) H := hP
        have hD : va_D A (wM cy g (va_up (va_up S 25 (rfF S (shW S (S 28 0)) (bcI S (plM S)) (nv (S 31 0)))) 17 (pl17 S)) (va_up (va_up (va_up (va_up (va_up K 28 (fun _ => nI 0)) 23 (abF S (plM S) ((K 23)) (nv (S 27 0) * 4))) 26 (fun _ => bcS S (plM S))) 27 (fun _ => bcW S (plM S))) 24 (caF S (plM S) ((K 24))))) := hD
        have eS18_130 : S 18 = pl18 S := by rw [pl18, if_pos hsb.1, pf18, if_pos hbn]
        have hP : va_P D vwCl (wM cy g (va_up (va_up (va_up S 25 (rfF S (shW S (S 28 0)) (bcI S (plM S)) (nv (S 31 0)))) 17 (pl17 S)) 18 (pl18 S)) (va_up (va_up (va_up (va_up (va_up K 28 (fun _ => nI 0)) 23 (abF S (plM S) ((K 23)) (nv (S 27 0) * 4))) 26 (fun _ => bcS S (plM S))) 27 (fun _ => bcW S (plM S))) 24 (caF S (plM S) ((K 24))))) H := by rw [← eS18_130]; exact hP
        have hD : va_D A (wM cy g (va_up (va_up (va_up S 25 (rfF S (shW S (S 28 0)) (bcI S (plM S)) (nv (S 31 0)))) 17 (pl17 S)) 18 (pl18 S)) (va_up (va_up (va_up (va_up (va_up K 28 (fun _ => nI 0)) 23 (abF S (plM S) ((K 23)) (nv (S 27 0) * 4))) 26 (fun _ => bcS S (plM S))) 27 (fun _ => bcW S (plM S))) 24 (caF S (plM S) ((K 24))))) := by rw [← eS18_130]; exact hD
        have eS9_133 : S 9 = pl9 S := by rw [pl9, if_pos hsb.1, pf9, if_pos hbn]
        have hP : va_P D vwCl (wM cy g (va_up (va_up (va_up (va_up S 25 (rfF S (shW S (S 28 0)) (bcI S (plM S)) (nv (S 31 0)))) 17 (pl17 S)) 18 (pl18 S)) 9 (pl9 S)) (va_up (va_up (va_up (va_up (va_up K 28 (fun _ => nI 0)) 23 (abF S (plM S) ((K 23)) (nv (S 27 0) * 4))) 26 (fun _ => bcS S (plM S))) 27 (fun _ => bcW S (plM S))) 24 (caF S (plM S) ((K 24))))) H := by rw [← eS9_133]; exact hP
        have hD : va_D A (wM cy g (va_up (va_up (va_up (va_up S 25 (rfF S (shW S (S 28 0)) (bcI S (plM S)) (nv (S 31 0)))) 17 (pl17 S)) 18 (pl18 S)) 9 (pl9 S)) (va_up (va_up (va_up (va_up (va_up K 28 (fun _ => nI 0)) 23 (abF S (plM S) ((K 23)) (nv (S 27 0) * 4))) 26 (fun _ => bcS S (plM S))) 27 (fun _ => bcW S (plM S))) 24 (caF S (plM S) ((K 24))))) := by rw [← eS9_133]; exact hD
        have eS11_136 : S 11 = pl11 S := by rw [pl11, if_pos hsb.1, pf11, if_pos hbn]
        have hP : va_P D vwCl (wM cy g (va_up (va_up (va_up (va_up (va_up S 25 (rfF S (shW S (S 28 0)) (bcI S (plM S)) (nv (S 31 0)))) 17 (pl17 S)) 18 (pl18 S)) 9 (pl9 S)) 11 (pl11 S)) (va_up (va_up (va_up (va_up (va_up K 28 (fun _ => nI 0)) 23 (abF S (plM S) ((K 23)) (nv (S 27 0) * 4))) 26 (fun _ => bcS S (plM S))) 27 (fun _ => bcW S (plM S))) 24 (caF S (plM S) ((K 24))))) H := by rw [← eS11_136]; exact hP
        have hD : va_D A (wM cy g (va_up (va_up (va_up (va_up (va_up S 25 (rfF S (shW S (S 28 0)) (bcI S (plM S)) (nv (S 31 0)))) 17 (pl17 S)) 18 (pl18 S)) 9 (pl9 S)) 11 (pl11 S)) (va_up (va_up (va_up (va_up (va_up K 28 (fun _ => nI 0)) 23 (abF S (plM S) ((K 23)) (nv (S 27 0) * 4))) 26 (fun _ => bcS S (plM S))) 27 (fun _ => bcW S (plM S))) 24 (caF S (plM S) ((K 24))))) := by rw [← eS11_136]; exact hD
        rw [show (rfF S (shW S (S 28 0)) (bcI S (plM S)) (nv (S 31 0))) = (pl25 S) from by rw [pl25, if_pos hsb.1]] at hP hD
        have hP : va_P D vwCl (wM cy g (va_up (va_up (va_up (va_up (va_up S 25 (pl25 S)) 17 (pl17 S)) 18 (pl18 S)) 9 (pl9 S)) 11 (pl11 S)) (va_up (va_up (va_up (va_up (va_up K 28 (fun _ => nI 0)) 23 (abF S (plM S) ((K 23)) (nv (S 27 0) * 4))) 26 (fun _ => bcS S (plM S))) 27 (fun _ => bcW S (plM S))) 24 (caF S (plM S) ((K 24))))) H := hP
        have hD : va_D A (wM cy g (va_up (va_up (va_up (va_up (va_up S 25 (pl25 S)) 17 (pl17 S)) 18 (pl18 S)) 9 (pl9 S)) 11 (pl11 S)) (va_up (va_up (va_up (va_up (va_up K 28 (fun _ => nI 0)) 23 (abF S (plM S) ((K 23)) (nv (S 27 0) * 4))) 26 (fun _ => bcS S (plM S))) 27 (fun _ => bcW S (plM S))) 24 (caF S (plM S) ((K 24))))) := hD
        have hl : lv_has ls 4 [(2, .int (plR S)), (3, .int (bI ((bc S (plM S)).isSome))), (1, .int (nI (shW S (S 28 0)))), (0, .ref (g 0))] := Eq.mp (congrArg (fun z9 : Int32 => lv_has ls 4 [(2, .int z9), (3, .int (bI ((bc S (plM S)).isSome))), (1, .int (nI (shW S (S 28 0)))), (0, .ref (g 0))]) (show (rfS S (shW S (S 28 0)) (bcI S (plM S)) (nv (S 31 0)) : Int32) = plR S from by rw [plR, if_pos hsb.1])) hl
        refine lv_aload_n hx hb dX7_play_73 rfl (lv_at hl 3 rfl) ?_
        refine lv_dup hx hb dX7_play_74 rfl ?_
        refine va_get (D := D) (ci := 7) (v := .int (S 32 0)) (C := RX7) (T := TX7) (N := 29) hx hb hts iX7 hown hK hP 0 rfl rfl 22 (by decide) f_150 (fun _ h9 => h9) rfl dX7_play_75 ?_
        refine lv_iload_n hx hb dX7_play_78 rfl (lv_at hl 0 rfl) ?_
        refine lv_isub hx hb dX7_play_79 ?_
        refine cd_tp (y := pl32 S) (pl32_R) ?_
        refine va_put (D := D) (ci := 7) (v := .int (pl32 S)) (ty := .int) (C := RX7) (T := TX7) (N := 29) hx hb hts iX7 tyX7 tyX7_ok nmX7 hown hK hP hD hS 0 rfl rfl 22 (by decide) f_150 (fun _ h9 => h9) rfl (by decide +kernel) rfl rfl (Nat.le_of_ble_eq_true rfl) dX7_play_80 (fun H locs hP hD hS => ?_)
        have hP : va_P D vwCl (wM cy g (va_up (va_up (va_up (va_up (va_up (va_up S 25 (pl25 S)) 17 (pl17 S)) 18 (pl18 S)) 9 (pl9 S)) 11 (pl11 S)) 32 (fun _ => pl32 S)) (va_up (va_up (va_up (va_up (va_up K 28 (fun _ => nI 0)) 23 (abF S (plM S) ((K 23)) (nv (S 27 0) * 4))) 26 (fun _ => bcS S (plM S))) 27 (fun _ => bcW S (plM S))) 24 (caF S (plM S) ((K 24))))) H := hP
        have hD : va_D A (wM cy g (va_up (va_up (va_up (va_up (va_up (va_up S 25 (pl25 S)) 17 (pl17 S)) 18 (pl18 S)) 9 (pl9 S)) 11 (pl11 S)) 32 (fun _ => pl32 S)) (va_up (va_up (va_up (va_up (va_up K 28 (fun _ => nI 0)) 23 (abF S (plM S) ((K 23)) (nv (S 27 0) * 4))) 26 (fun _ => bcS S (plM S))) 27 (fun _ => bcW S (plM S))) 24 (caF S (plM S) ((K 24))))) := hD
        refine lv_aload_n hx hb dX7_play_83 rfl (lv_at hl 3 rfl) ?_
        refine lv_dup hx hb dX7_play_84 rfl ?_
        refine va_get (D := D) (ci := 7) (v := .int (S 28 0)) (C := RX7) (T := TX7) (N := 29) hx hb hts iX7 hown hK hP 0 rfl rfl 21 (by decide) f_106 (fun _ h9 => h9) rfl dX7_play_85 ?_
        have b_85 := iv_28 hI
        refine cd_tp (y := nI (nv (S 28 0))) b_85.1 ?_
        have b_85 := b_85.2
        refine lv_iconst (v := nI 1) hx hb dX7_play_88 (by decide) ?_
        refine cd_iadd hx hb dX7_play_89 ?_
        refine va_put (D := D) (ci := 7) (v := .int (nI ((nv (S 28 0)) + 1))) (ty := .int) (C := RX7) (T := TX7) (N := 29) hx hb hts iX7 tyX7 tyX7_ok nmX7 hown hK hP hD hS 0 rfl rfl 21 (by decide) f_106 (fun _ h9 => h9) rfl (by decide +kernel) rfl rfl (Nat.le_of_ble_eq_true rfl) dX7_play_90 (fun H locs hP hD hS => ?_)
        have hP : va_P D vwCl (wM cy g (va_up (va_up (va_up (va_up (va_up (va_up (va_up S 25 (pl25 S)) 17 (pl17 S)) 18 (pl18 S)) 9 (pl9 S)) 11 (pl11 S)) 32 (fun _ => pl32 S)) 28 (fun _ => nI ((nv (S 28 0)) + 1))) (va_up (va_up (va_up (va_up (va_up K 28 (fun _ => nI 0)) 23 (abF S (plM S) ((K 23)) (nv (S 27 0) * 4))) 26 (fun _ => bcS S (plM S))) 27 (fun _ => bcW S (plM S))) 24 (caF S (plM S) ((K 24))))) H := hP
        have hD : va_D A (wM cy g (va_up (va_up (va_up (va_up (va_up (va_up (va_up S 25 (pl25 S)) 17 (pl17 S)) 18 (pl18 S)) 9 (pl9 S)) 11 (pl11 S)) 32 (fun _ => pl32 S)) 28 (fun _ => nI ((nv (S 28 0)) + 1))) (va_up (va_up (va_up (va_up (va_up K 28 (fun _ => nI 0)) 23 (abF S (plM S) ((K 23)) (nv (S 27 0) * 4))) 26 (fun _ => bcS S (plM S))) 27 (fun _ => bcW S (plM S))) 24 (caF S (plM S) ((K 24))))) := hD
        refine lv_iload_n hx hb dX7_play_93 rfl (lv_at hl 0 rfl) ?_
        exact W.iret (v := plR S) hx hb hr (fun t ht hW => ⟨⟨plR S, (_, (va_up (va_up (va_up (va_up (va_up K 28 (fun _ => nI 0)) 23 (abF S (plM S) ((K 23)) (nv (S 27 0) * 4))) 26 (fun _ => bcS S (plM S))) 27 (fun _ => bcW S (plM S))) 24 (caF S (plM S) ((K 24))))), rfl, mO_ok (by rw [decide_eq_true (by omega)]; rfl) (rfl) rfl, by rw [ht]; exact hP, hD⟩, hS.F ht⟩) hS.2.2 dX7_play_94
      · obtain ⟨b, hb0⟩ := bc_is c_55
        refine lv_aload_n hx hb dX7_play_58 rfl (lv_at hl 3 rfl) ?_
        refine lv_iload_n hx hb dX7_play_59 rfl (lv_at hl 2 rfl) ?_
        have M_60 := c_X7_perform l D cy g (va_up S 25 (rfF S (shW S (S 28 0)) (bcI S (plM S)) (nv (S 31 0)))) (va_up (va_up (va_up (va_up (va_up K 28 (fun _ => nI 0)) 23 (abF S (plM S) ((K 23)) (nv (S 27 0) * 4))) 26 (fun _ => bcS S (plM S))) 27 (fun _ => bcW S (plM S))) 24 (caF S (plM S) ((K 24)))) hI (shW S (S 28 0)) (plM S) b hsb.2.1 (by rw [bc_25]; exact hb0) (fun p h9 => by rw [bcA_25]; exact caF_at h9) H.size
        refine cd_frv (S := Unit) (W1 := fun u => (wM cy g (va_up (va_up (va_up (va_up (va_up S 25 (rfF S (shW S (S 28 0)) (bcI S (plM S)) (nv (S 31 0)))) 17 (upd ((va_up S 25 (rfF S (shW S (S 28 0)) (bcI S (plM S)) (nv (S 31 0)))) 17) (shW S (S 28 0)) (nI 1))) 18 (csF ((va_up S 25 (rfF S (shW S (S 28 0)) (bcI S (plM S)) (nv (S 31 0)))) 18) (bcA (va_up S 25 (rfF S (shW S (S 28 0)) (bcI S (plM S)) (nv (S 31 0)))) (plM S)) (shW S (S 28 0)) (nv ((va_up S 25 (rfF S (shW S (S 28 0)) (bcI S (plM S)) (nv (S 31 0)))) 27 0)))) 9 ((dzF (va_up S 25 (rfF S (shW S (S 28 0)) (bcI S (plM S)) (nv (S 31 0)))) (bcA (va_up S 25 (rfF S (shW S (S 28 0)) (bcI S (plM S)) (nv (S 31 0)))) (plM S)) (nv ((va_up S 25 (rfF S (shW S (S 28 0)) (bcI S (plM S)) (nv (S 31 0)))) 27 0))).1)) 11 ((dzF (va_up S 25 (rfF S (shW S (S 28 0)) (bcI S (plM S)) (nv (S 31 0)))) (bcA (va_up S 25 (rfF S (shW S (S 28 0)) (bcI S (plM S)) (nv (S 31 0)))) (plM S)) (nv ((va_up S 25 (rfF S (shW S (S 28 0)) (bcI S (plM S)) (nv (S 31 0)))) 27 0))).2)) (va_up (va_up (va_up (va_up (va_up K 28 (fun _ => nI 0)) 23 (abF S (plM S) ((K 23)) (nv (S 27 0) * 4))) 26 (fun _ => bcS S (plM S))) 27 (fun _ => bcW S (plM S))) 24 (caF S (plM S) ((K 24)))))) (ws' := fun u => (wM cy g (va_up (va_up (va_up (va_up (va_up S 25 (rfF S (shW S (S 28 0)) (bcI S (plM S)) (nv (S 31 0)))) 17 (upd ((S 17)) (shW S (S 28 0)) (nI 1))) 18 (csF ((S 18)) (bcA (va_up S 25 (rfF S (shW S (S 28 0)) (bcI S (plM S)) (nv (S 31 0)))) (plM S)) (shW S (S 28 0)) (nv (S 27 0)))) 9 ((dzF (va_up S 25 (rfF S (shW S (S 28 0)) (bcI S (plM S)) (nv (S 31 0)))) (bcA (va_up S 25 (rfF S (shW S (S 28 0)) (bcI S (plM S)) (nv (S 31 0)))) (plM S)) (nv (S 27 0))).1)) 11 ((dzF (va_up S 25 (rfF S (shW S (S 28 0)) (bcI S (plM S)) (nv (S 31 0)))) (bcA (va_up S 25 (rfF S (shW S (S 28 0)) (bcI S (plM S)) (nv (S 31 0)))) (plM S)) (nv (S 27 0))).2)) (va_up (va_up (va_up (va_up (va_up K 28 (fun _ => nI 0)) 23 (abF S (plM S) ((K 23)) (nv (S 27 0) * 4))) 26 (fun _ => bcS S (plM S))) 27 (fun _ => bcW S (plM S))) 24 (caF S (plM S) ((K 24)))))) (wc := (wM cy g (va_up S 25 (rfF S (shW S (S 28 0)) (bcI S (plM S)) (nv (S 31 0)))) (va_up (va_up (va_up (va_up (va_up K 28 (fun _ => nI 0)) 23 (abF S (plM S) ((K 23)) (nv (S 27 0) * 4))) 26 (fun _ => bcS S (plM S))) 27 (fun _ => bcW S (plM S))) 24 (caF S (plM S) ((K 24)))))) (wr := []) (va_runV (As := [.int (nI (shW S (S 28 0)))]) (rest := []) ⟨hx, hb, hml, hown, hts⟩ M_60 (cwV 1 hts gX7_play_X7_perform rfl rfl rfl (by decide +kernel) ⟨Nat.le_of_ble_eq_true rfl, Nat.le_of_ble_eq_true rfl⟩) ⟨wrB.bl, va_recv hK hP (ci := 7) (q0 := 0) rfl rfl, fun U hU hW => ⟨rfl, by rw [hU], by rw [hU]; exact hP, hG.warm hW, hD.weaken (fun _ _ _ _ => trivial)⟩⟩ rfl rfl hl.1 rfl (lv_room (Nat.le_of_ble_eq_true rfl)) dX7_play_60 (by exact ⟨Nat.zero_le _, Nat.zero_le _⟩)) hP hD hS hA [0, 1, 2, 3, 4, 5, 6, 7, 8, 9, 10, 11, 12, 13, 14, 15, 16, 17, 18, 19, 20] [] [0, 1, 2, 3, 4, 5, 6, 7, 8, 9, 10, 11, 12, 13, 14, 15, 16, 17, 18, 19, 20] rfl rfl (by decide) (by decide) (by decide) (fun _ => rfl) (fun _ H locs hw_60 hP hD hS => ?_)
        have hP : va_P D vwCl (wM cy g (va_up (va_up (va_up (va_up (va_up S 25 (rfF S (shW S (S 28 0)) (bcI S (plM S)) (nv (S 31 0)))) 17 (upd ((S 17)) (shW S (S 28 0)) (nI 1))) 18 (csF ((S 18)) (bcA (va_up S 25 (rfF S (shW S (S 28 0)) (bcI S (plM S)) (nv (S 31 0)))) (plM S)) (shW S (S 28 0)) (nv (S 27 0)))) 9 ((dzF (va_up S 25 (rfF S (shW S (S 28 0)) (bcI S (plM S)) (nv (S 31 0)))) (bcA (va_up S 25 (rfF S (shW S (S 28 0)) (bcI S (plM S)) (nv (S 31 0)))) (plM S)) (nv (S 27 0))).1)) 11 ((dzF (va_up S 25 (rfF S (shW S (S 28 0)) (bcI S (plM S)) (nv (S 31 0)))) (bcA (va_up S 25 (rfF S (shW S (S 28 0)) (bcI S (plM S)) (nv (S 31 0)))) (plM S)) (nv (S 27 0))).2)) (va_up (va_up (va_up (va_up (va_up K 28 (fun _ => nI 0)) 23 (abF S (plM S) ((K 23)) (nv (S 27 0) * 4))) 26 (fun _ => bcS S (plM S))) 27 (fun _ => bcW S (plM S))) 24 (caF S (plM S) ((K 24))))) H := hP
        have hD : va_D A (wM cy g (va_up (va_up (va_up (va_up (va_up S 25 (rfF S (shW S (S 28 0)) (bcI S (plM S)) (nv (S 31 0)))) 17 (upd ((S 17)) (shW S (S 28 0)) (nI 1))) 18 (csF ((S 18)) (bcA (va_up S 25 (rfF S (shW S (S 28 0)) (bcI S (plM S)) (nv (S 31 0)))) (plM S)) (shW S (S 28 0)) (nv (S 27 0)))) 9 ((dzF (va_up S 25 (rfF S (shW S (S 28 0)) (bcI S (plM S)) (nv (S 31 0)))) (bcA (va_up S 25 (rfF S (shW S (S 28 0)) (bcI S (plM S)) (nv (S 31 0)))) (plM S)) (nv (S 27 0))).1)) 11 ((dzF (va_up S 25 (rfF S (shW S (S 28 0)) (bcI S (plM S)) (nv (S 31 0)))) (bcA (va_up S 25 (rfF S (shW S (S 28 0)) (bcI S (plM S)) (nv (S 31 0)))) (plM S)) (nv (S 27 0))).2)) (va_up (va_up (va_up (va_up (va_up K 28 (fun _ => nI 0)) 23 (abF S (plM S) ((K 23)) (nv (S 27 0) * 4))) 26 (fun _ => bcS S (plM S))) 27 (fun _ => bcW S (plM S))) 24 (caF S (plM S) ((K 24))))) := hD
        refine lv_goto (tgt := 73) hx hb dX7_play_63 (by decide) ?_
        have hbn := bcI_ne hI hb0
        rw [show (upd ((S 17)) (shW S (S 28 0)) (nI 1)) = (pl17 S) from by rw [pl17, if_pos hsb.1, pf17, if_neg hbn]] at hP hD
        have hP : va_P D vwCl (wM cy g (va_up (va_up (va_up (va_up (va_up S 25 (rfF S (shW S (S 28 0)) (bcI S (plM S)) (nv (S 31 0)))) 17 (pl17 S)) 18 (csF ((S 18)) (bcA (va_up S 25 (rfF S (shW S (S 28 0)) (bcI S (plM S)) (nv (S 31 0)))) (plM S)) (shW S (S 28 0)) (nv (S 27 0)))) 9 ((dzF (va_up S 25 (rfF S (shW S (S 28 0)) (bcI S (plM S)) (nv (S 31 0)))) (bcA (va_up S 25 (rfF S (shW S (S 28 0)) (bcI S (plM S)) (nv (S 31 0)))) (plM S)) (nv (S 27 0))).1)) 11 ((dzF (va_up S 25 (rfF S (shW S (S 28 0)) (bcI S (plM S)) (nv (S 31 0)))) (bcA (va_up S 25 (rfF S (shW S (S 28 0)) (bcI S (plM S)) (nv (S 31 0)))) (plM S)) (nv (S 27 0))).2)) (va_up (va_up (va_up (va_up (va_up K 28 (fun _ => nI 0)) 23 (abF S (plM S) ((K 23)) (nv (S 27 0) * 4))) 26 (fun _ => bcS S (plM S))) 27 (fun _ => bcW S (plM S))) 24 (caF S (plM S) ((K 24))))) H := hP
        have hD : va_D A (wM cy g (va_up (va_up (va_up (va_up (va_up S 25 (rfF S (shW S (S 28 0)) (bcI S (plM S)) (nv (S 31 0)))) 17 (pl17 S)) 18 (csF ((S 18)) (bcA (va_up S 25 (rfF S (shW S (S 28 0)) (bcI S (plM S)) (nv (S 31 0)))) (plM S)) (shW S (S 28 0)) (nv (S 27 0)))) 9 ((dzF (va_up S 25 (rfF S (shW S (S 28 0)) (bcI S (plM S)) (nv (S 31 0)))) (bcA (va_up S 25 (rfF S (shW S (S 28 0)) (bcI S (plM S)) (nv (S 31 0)))) (plM S)) (nv (S 27 0))).1)) 11 ((dzF (va_up S 25 (rfF S (shW S (S 28 0)) (bcI S (plM S)) (nv (S 31 0)))) (bcA (va_up S 25 (rfF S (shW S (S 28 0)) (bcI S (plM S)) (nv (S 31 0)))) (plM S)) (nv (S 27 0))).2)) (va_up (va_up (va_up (va_up (va_up K 28 (fun _ => nI 0)) 23 (abF S (plM S) ((K 23)) (nv (S 27 0) * 4))) 26 (fun _ => bcS S (plM S))) 27 (fun _ => bcW S (plM S))) 24 (caF S (plM S) ((K 24))))) := hD
        rw [show (csF ((S 18)) (bcA (va_up S 25 (rfF S (shW S (S 28 0)) (bcI S (plM S)) (nv (S 31 0)))) (plM S)) (shW S (S 28 0)) (nv (S 27 0))) = (pl18 S) from by rw [pl18, if_pos hsb.1, pf18, if_neg hbn, bcA_25]] at hP hD
        have hP : va_P D vwCl (wM cy g (va_up (va_up (va_up (va_up (va_up S 25 (rfF S (shW S (S 28 0)) (bcI S (plM S)) (nv (S 31 0)))) 17 (pl17 S)) 18 (pl18 S)) 9 ((dzF (va_up S 25 (rfF S (shW S (S 28 0)) (bcI S (plM S)) (nv (S 31 0)))) (bcA (va_up S 25 (rfF S (shW S (S 28 0)) (bcI S (plM S)) (nv (S 31 0)))) (plM S)) (nv (S 27 0))).1)) 11 ((dzF (va_up S 25 (rfF S (shW S (S 28 0)) (bcI S (plM S)) (nv (S 31 0)))) (bcA (va_up S 25 (rfF S (shW S (S 28 0)) (bcI S (plM S)) (nv (S 31 0)))) (plM S)) (nv (S 27 0))).2)) (va_up (va_up (va_up (va_up (va_up K 28 (fun _ => nI 0)) 23 (abF S (plM S) ((K 23)) (nv (S 27 0) * 4))) 26 (fun _ => bcS S (plM S))) 27 (fun _ => bcW S (plM S))) 24 (caF S (plM S) ((K 24))))) H := hP
        have hD : va_D A (wM cy g (va_up (va_up (va_up (va_up (va_up S 25 (rfF S (shW S (S 28 0)) (bcI S (plM S)) (nv (S 31 0)))) 17 (pl17 S)) 18 (pl18 S)) 9 ((dzF (va_up S 25 (rfF S (shW S (S 28 0)) (bcI S (plM S)) (nv (S 31 0)))) (bcA (va_up S 25 (rfF S (shW S (S 28 0)) (bcI S (plM S)) (nv (S 31 0)))) (plM S)) (nv (S 27 0))).1)) 11 ((dzF (va_up S 25 (rfF S (shW S (S 28 0)) (bcI S (plM S)) (nv (S 31 0)))) (bcA (va_up S 25 (rfF S (shW S (S 28 0)) (bcI S (plM S)) (nv (S 31 0)))) (plM S)) (nv (S 27 0))).2)) (va_up (va_up (va_up (va_up (va_up K 28 (fun _ => nI 0)) 23 (abF S (plM S) ((K 23)) (nv (S 27 0) * 4))) 26 (fun _ => bcS S (plM S))) 27 (fun _ => bcW S (plM S))) 24 (caF S (plM S) ((K 24))))) := hD
        rw [show ((dzF (va_up S 25 (rfF S (shW S (S 28 0)) (bcI S (plM S)) (nv (S 31 0)))) (bcA (va_up S 25 (rfF S (shW S (S 28 0)) (bcI S (plM S)) (nv (S 31 0)))) (plM S)) (nv (S 27 0))).1) = (pl9 S) from by rw [pl9, if_pos hsb.1, pf9, if_neg hbn, bcA_25, dzF_25]] at hP hD
        have hP : va_P D vwCl (wM cy g (va_up (va_up (va_up (va_up (va_up S 25 (rfF S (shW S (S 28 0)) (bcI S (plM S)) (nv (S 31 0)))) 17 (pl17 S)) 18 (pl18 S)) 9 (pl9 S)) 11 ((dzF (va_up S 25 (rfF S (shW S (S 28 0)) (bcI S (plM S)) (nv (S 31 0)))) (bcA (va_up S 25 (rfF S (shW S (S 28 0)) (bcI S (plM S)) (nv (S 31 0)))) (plM S)) (nv (S 27 0))).2)) (va_up (va_up (va_up (va_up (va_up K 28 (fun _ => nI 0)) 23 (abF S (plM S) ((K 23)) (nv (S 27 0) * 4))) 26 (fun _ => bcS S (plM S))) 27 (fun _ => bcW S (plM S))) 24 (caF S (plM S) ((K 24))))) H := hP
        have hD : va_D A (wM cy g (va_up (va_up (va_up (va_up (va_up S 25 (rfF S (shW S (S 28 0)) (bcI S (plM S)) (nv (S 31 0)))) 17 (pl17 S)) 18 (pl18 S)) 9 (pl9 S)) 11 ((dzF (va_up S 25 (rfF S (shW S (S 28 0)) (bcI S (plM S)) (nv (S 31 0)))) (bcA (va_up S 25 (rfF S (shW S (S 28 0)) (bcI S (plM S)) (nv (S 31 0)))) (plM S)) (nv (S 27 0))).2)) (va_up (va_up (va_up (va_up (va_up K 28 (fun _ => nI 0)) 23 (abF S (plM S) ((K 23)) (nv (S 27 0) * 4))) 26 (fun _ => bcS S (plM S))) 27 (fun _ => bcW S (plM S))) 24 (caF S (plM S) ((K 24))))) := hD
        rw [show ((dzF (va_up S 25 (rfF S (shW S (S 28 0)) (bcI S (plM S)) (nv (S 31 0)))) (bcA (va_up S 25 (rfF S (shW S (S 28 0)) (bcI S (plM S)) (nv (S 31 0)))) (plM S)) (nv (S 27 0))).2) = (pl11 S) from by rw [pl11, if_pos hsb.1, pf11, if_neg hbn, bcA_25, dzF_25]] at hP hD
        have hP : va_P D vwCl (wM cy g (va_up (va_up (va_up (va_up (va_up S 25 (rfF S (shW S (S 28 0)) (bcI S (plM S)) (nv (S 31 0)))) 17 (pl17 S)) 18 (pl18 S)) 9 (pl9 S)) 11 (pl11 S)) (va_up (va_up (va_up (va_up (va_up K 28 (fun _ => nI 0)) 23 (abF S (plM S) ((K 23)) (nv (S 27 0) * 4))) 26 (fun _ => bcS S (plM S))) 27 (fun _ => bcW S (plM S))) 24 (caF S (plM S) ((K 24))))) H := hP
        have hD : va_D A (wM cy g (va_up (va_up (va_up (va_up (va_up S 25 (rfF S (shW S (S 28 0)) (bcI S (plM S)) (nv (S 31 0)))) 17 (pl17 S)) 18 (pl18 S)) 9 (pl9 S)) 11 (pl11 S)) (va_up (va_up (va_up (va_up (va_up K 28 (fun _ => nI 0)) 23 (abF S (plM S) ((K 23)) (nv (S 27 0) * 4))) 26 (fun _ => bcS S (plM S))) 27 (fun _ => bcW S (plM S))) 24 (caF S (plM S) ((K 24))))) := hD
        rw [show (rfF S (shW S (S 28 0)) (bcI S (plM S)) (nv (S 31 0))) = (pl25 S) from by rw [pl25, if_pos hsb.1]] at hP hD
        have hP : va_P D vwCl (wM cy g (va_up (va_up (va_up (va_up (va_up S 25 (pl25 S)) 17 (pl17 S)) 18 (pl18 S)) 9 (pl9 S)) 11 (pl11 S)) (va_up (va_up (va_up (va_up (va_up K 28 (fun _ => nI 0)) 23 (abF S (plM S) ((K 23)) (nv (S 27 0) * 4))) 26 (fun _ => bcS S (plM S))) 27 (fun _ => bcW S (plM S))) 24 (caF S (plM S) ((K 24))))) H := hP
        have hD : va_D A (wM cy g (va_up (va_up (va_up (va_up (va_up S 25 (pl25 S)) 17 (pl17 S)) 18 (pl18 S)) 9 (pl9 S)) 11 (pl11 S)) (va_up (va_up (va_up (va_up (va_up K 28 (fun _ => nI 0)) 23 (abF S (plM S) ((K 23)) (nv (S 27 0) * 4))) 26 (fun _ => bcS S (plM S))) 27 (fun _ => bcW S (plM S))) 24 (caF S (plM S) ((K 24))))) := hD
        have hl : lv_has ls 4 [(2, .int (plR S)), (3, .int (bI ((bc S (plM S)).isSome))), (1, .int (nI (shW S (S 28 0)))), (0, .ref (g 0))] := Eq.mp (congrArg (fun z9 : Int32 => lv_has ls 4 [(2, .int z9), (3, .int (bI ((bc S (plM S)).isSome))), (1, .int (nI (shW S (S 28 0)))), (0, .ref (g 0))]) (show (rfS S (shW S (S 28 0)) (bcI S (plM S)) (nv (S 31 0)) : Int32) = plR S from by rw [plR, if_pos hsb.1])) hl
        refine lv_aload_n hx hb dX7_play_73 rfl (lv_at hl 3 rfl) ?_
        refine lv_dup hx hb dX7_play_74 rfl ?_
        refine va_get (D := D) (ci := 7) (v := .int (S 32 0)) (C := RX7) (T := TX7) (N := 29) hx hb hts iX7 hown hK hP 0 rfl rfl 22 (by decide) f_150 (fun _ h9 => h9) rfl dX7_play_75 ?_
        refine lv_iload_n hx hb dX7_play_78 rfl (lv_at hl 0 rfl) ?_
        refine lv_isub hx hb dX7_play_79 ?_
        refine cd_tp (y := pl32 S) (pl32_R) ?_
        refine va_put (D := D) (ci := 7) (v := .int (pl32 S)) (ty := .int) (C := RX7) (T := TX7) (N := 29) hx hb hts iX7 tyX7 tyX7_ok nmX7 hown hK hP hD hS 0 rfl rfl 22 (by decide) f_150 (fun _ h9 => h9) rfl (by decide +kernel) rfl rfl (Nat.le_of_ble_eq_true rfl) dX7_play_80 (fun H locs hP hD hS => ?_)
        have hP : va_P D vwCl (wM cy g (va_up (va_up (va_up (va_up (va_up (va_up S 25 (pl25 S)) 17 (pl17 S)) 18 (pl18 S)) 9 (pl9 S)) 11 (pl11 S)) 32 (fun _ => pl32 S)) (va_up (va_up (va_up (va_up (va_up K 28 (fun _ => nI 0)) 23 (abF S (plM S) ((K 23)) (nv (S 27 0) * 4))) 26 (fun _ => bcS S (plM S))) 27 (fun _ => bcW S (plM S))) 24 (caF S (plM S) ((K 24))))) H := hP
        have hD : va_D A (wM cy g (va_up (va_up (va_up (va_up (va_up (va_up S 25 (pl25 S)) 17 (pl17 S)) 18 (pl18 S)) 9 (pl9 S)) 11 (pl11 S)) 32 (fun _ => pl32 S)) (va_up (va_up (va_up (va_up (va_up K 28 (fun _ => nI 0)) 23 (abF S (plM S) ((K 23)) (nv (S 27 0) * 4))) 26 (fun _ => bcS S (plM S))) 27 (fun _ => bcW S (plM S))) 24 (caF S (plM S) ((K 24))))) := hD
        refine lv_aload_n hx hb dX7_play_83 rfl (lv_at hl 3 rfl) ?_
        refine lv_dup hx hb dX7_play_84 rfl ?_
        refine va_get (D := D) (ci := 7) (v := .int (S 28 0)) (C := RX7) (T := TX7) (N := 29) hx hb hts iX7 hown hK hP 0 rfl rfl 21 (by decide) f_106 (fun _ h9 => h9) rfl dX7_play_85 ?_
        have b_85 := iv_28 hI
        refine cd_tp (y := nI (nv (S 28 0))) b_85.1 ?_
        have b_85 := b_85.2
        refine lv_iconst (v := nI 1) hx hb dX7_play_88 (by decide) ?_
        refine cd_iadd hx hb dX7_play_89 ?_
        refine va_put (D := D) (ci := 7) (v := .int (nI ((nv (S 28 0)) + 1))) (ty := .int) (C := RX7) (T := TX7) (N := 29) hx hb hts iX7 tyX7 tyX7_ok nmX7 hown hK hP hD hS 0 rfl rfl 21 (by decide) f_106 (fun _ h9 => h9) rfl (by decide +kernel) rfl rfl (Nat.le_of_ble_eq_true rfl) dX7_play_90 (fun H locs hP hD hS => ?_)
        have hP : va_P D vwCl (wM cy g (va_up (va_up (va_up (va_up (va_up (va_up (va_up S 25 (pl25 S)) 17 (pl17 S)) 18 (pl18 S)) 9 (pl9 S)) 11 (pl11 S)) 32 (fun _ => pl32 S)) 28 (fun _ => nI ((nv (S 28 0)) + 1))) (va_up (va_up (va_up (va_up (va_up K 28 (fun _ => nI 0)) 23 (abF S (plM S) ((K 23)) (nv (S 27 0) * 4))) 26 (fun _ => bcS S (plM S))) 27 (fun _ => bcW S (plM S))) 24 (caF S (plM S) ((K 24))))) H := hP
        have hD : va_D A (wM cy g (va_up (va_up (va_up (va_up (va_up (va_up (va_up S 25 (pl25 S)) 17 (pl17 S)) 18 (pl18 S)) 9 (pl9 S)) 11 (pl11 S)) 32 (fun _ => pl32 S)) 28 (fun _ => nI ((nv (S 28 0)) + 1))) (va_up (va_up (va_up (va_up (va_up K 28 (fun _ => nI 0)) 23 (abF S (plM S) ((K 23)) (nv (S 27 0) * 4))) 26 (fun _ => bcS S (plM S))) 27 (fun _ => bcW S (plM S))) 24 (caF S (plM S) ((K 24))))) := hD
        refine lv_iload_n hx hb dX7_play_93 rfl (lv_at hl 0 rfl) ?_
        exact W.iret (v := plR S) hx hb hr (fun t ht hW => ⟨⟨plR S, (_, (va_up (va_up (va_up (va_up (va_up K 28 (fun _ => nI 0)) 23 (abF S (plM S) ((K 23)) (nv (S 27 0) * 4))) 26 (fun _ => bcS S (plM S))) 27 (fun _ => bcW S (plM S))) 24 (caF S (plM S) ((K 24))))), rfl, mO_ok (by rw [decide_eq_true (by omega)]; rfl) (rfl) rfl, by rw [ht]; exact hP, hD⟩, hS.F ht⟩) hS.2.2 dX7_play_94
  · refine lv_aload_n hx hb dX7_play_15 rfl (lv_at hl 0 rfl) ?_
    refine lv_iconst (v := nI 1) hx hb dX7_play_16 (by decide) ?_
    have M_17 := c_X7_fails l D cy g S (va_up K 28 (fun _ => nI 0)) (nI 1) H.size
    refine cd_fri (S := Unit) (W1 := fun u => (wM cy g S (va_up (va_up K 28 (fun _ => nI 0)) 28 (fun _ => (nI 1))))) (ws' := fun u => (wM cy g S (va_up K 28 (fun _ => (nI 1))))) (wc := (wM cy g S (va_up K 28 (fun _ => nI 0)))) (wr := []) (va_runV (As := [.int (nI 1)]) (rest := []) ⟨hx, hb, hml, hown, hts⟩ M_17 (cwV 1 hts gX7_play_X7_fails rfl rfl rfl (by decide +kernel) ⟨Nat.le_of_ble_eq_true rfl, Nat.le_of_ble_eq_true rfl⟩) ⟨wrB.bl, va_recv hK hP (ci := 7) (q0 := 0) rfl rfl, fun U hU hW => ⟨rfl, by rw [hU], by rw [hU]; exact hP, hG.warm hW, hD.weaken (fun _ _ _ _ => trivial)⟩⟩ rfl rfl hl.1 rfl (lv_room (Nat.le_of_ble_eq_true rfl)) dX7_play_17 (by exact ⟨Nat.zero_le _, Nat.zero_le _⟩)) hP hD hS hA [0, 1, 2, 3, 4, 5, 6, 7, 8, 9, 10, 11, 12, 13, 14, 15, 16, 17, 18, 19, 20] [] [0, 1, 2, 3, 4, 5, 6, 7, 8, 9, 10, 11, 12, 13, 14, 15, 16, 17, 18, 19, 20] rfl rfl (by decide) (by decide) (by decide) (fun _ => rfl) (fun r_17 _ H locs hw_17 hP hD hS => ?_)
    subst hw_17
    have hP : va_P D vwCl (wM cy g S (va_up K 28 (fun _ => (nI 1)))) H := hP
    have hD : va_D A (wM cy g S (va_up K 28 (fun _ => (nI 1)))) := hD
    exact W.iret (v := nI 0) hx hb hr (fun t ht hW => ⟨⟨nI 0, (S, (va_up K 28 (fun _ => (nI 1)))), rfl, mO_no (k := 1) (by decide) (by decide) (by rw [decide_eq_false (by omega)]; rfl) rfl, by rw [ht]; exact hP, hD⟩, hS.F ht⟩) hS.2.2 dX7_play_20
