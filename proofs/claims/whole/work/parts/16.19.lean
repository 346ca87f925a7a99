set_option maxHeartbeats 4000000 in
set_option maxRecDepth 100000 in
theorem c_X7_canPlay (l : Launch) (D : va_G) (cy : qT) (g : Nat → Nat) (S : qS) (K : qS) (hI : Inv S) (a : Int32) (p : Int32) (d : Int32) (sz : Nat) : Met l yX7_canPlay wsX7_canPlay ({ frames := 2, cells := 0, slots := 0, locals := 48 }) (va_Pc [.ref (g 0), .int a, .int p, .int d] (wrB D cy (wM cy g S K) sz)) (va_Qi (fun (r9 : Int32) (u : qS × qS) => mO (th2 (inI a (nI 0) (nI 11) && inI p (nI 0) (nI 7)) (inI d (nI 0) (nI 1000))) (bI (rkB S (nv p) a && rdy S (nv a) (nv p) (nv (S 4 (nv d))))) S S r9 u) (wrQ D (va_A (wM cy g S K) sz) (fun u : qS × qS => wM cy g u.1 u.2)) (va_A (wM cy g S K) sz)) 0 0 (va_A (wM cy g S K) sz) := by
  refine Met.ofW (cc := cX7_canPlay) (maxL := 4) (ret := (some .boolean)) (by decide) rfl ?_
  intro pp e9 s m9 args9 bl9 meth9 c9 s9 B hml hv
  obtain ⟨rfl, hsz, hP, hG, hD0⟩ := hv
  have hx := B.exec
  have hb := B.bytes
  have hr := B.returns
  have hts := atoms_spec (ws := wsX7_canPlay) B.pre
  have hown : s.vm.findClass RX7 = some m9.cls := findClass_of_methodNamed B.named
  have hlocks := B.notSynchronized
  have hK := hG.K
  subst hsz
  have hD := hD0.self (sz := s.heap.size)
  generalize hAe : (va_A (wM cy g S K) s.heap.size) = A at hD ⊢
  have hA : ∀ q : Nat, s.heap.size ≤ q → A q := fun q h9 => by rw [← hAe]; exact Or.inr h9
  have hS : va_S A s.heap s.heap [] := va_S.rf
  have hP : va_P D vwCl (wM cy g S K) s.heap := hP
  have f_74 := hts (.fieldLink RX7 74 "CastDeskModel" "thrown" "I") (by decide +kernel)
  have iX7 : ∀ w ∈ wsX70, w ∈ wsX7_canPlay := by decide +kernel
  have hl := lv_entry ([.ref (g 0), .int a, .int p, .int d]) (n := 4) (Nat.le_of_ble_eq_true rfl)
  rw [lg_entry_eq]
  generalize (lg_sl ([.ref (g 0), .int a, .int p, .int d]) ++ List.replicate (4 - (lg_sl ([.ref (g 0), .int a, .int p, .int d])).length) Slot.unset).toArray = ls at hl ⊢
  have hl : lv_has ls 4 [(0, .ref (g 0)), (1, .int a), (2, .int p), (3, .int d)] := hl
  refine lv_aload_n hx hb dX7_canPlay_0 rfl (lv_at hl 0 rfl) ?_
  refine lv_iconst (v := nI 0) hx hb dX7_canPlay_1 (by decide) ?_
  refine va_put (D := D) (ci := 7) (v := .int (nI 0)) (ty := .int) (C := RX7) (T := TX7) (N := 29) hx hb hts iX7 tyX7 tyX7_ok nmX7 hown hK hP hD hS 0 rfl rfl 28 (by decide) f_74 (fun _ h9 => h9) rfl (by decide +kernel) rfl rfl (Nat.le_of_ble_eq_true rfl) dX7_canPlay_2 (fun H locs hP hD hS => ?_)
  have hP : va_P D vwCl (wM cy g S (va_up K 28 (fun _ => nI 0))) H := hP
  have hD : va_D A (wM cy g S (va_up K 28 (fun _ => nI 0))) := hD
  refine lv_iload_n hx hb dX7_canPlay_5 rfl (lv_at hl 1 rfl) ?_
  have M_6 := c_X7_isActor l a
  refine cd_roi (va_runS (As := [.int a]) (rest := []) ⟨hx, hb, hml, hown, hts⟩ M_6 (va_cwS 1 hts gX7_canPlay_X7_isActor rfl rfl rfl (by decide +kernel) ⟨Nat.le_of_ble_eq_true rfl, Nat.le_of_ble_eq_true rfl⟩) ⟨nuB.bl, fun U hU hW => ⟨rfl, trivial⟩⟩ rfl rfl hl.1 rfl (lv_room (Nat.le_of_ble_eq_true rfl)) dX7_canPlay_6 (by exact ⟨Nat.zero_le _, Nat.zero_le _⟩)) (fun r_6 hr_6 => ?_)
  subst hr_6
  refine cd_ifB_eq (tgt := 19) hx hb dX7_canPlay_9 (by decide) (fun c_9 => ?_) (fun c_9 => ?_)
  · refine lv_aload_n hx hb dX7_canPlay_19 rfl (lv_at hl 0 rfl) ?_
    refine lv_iconst (v := nI 1) hx hb dX7_canPlay_20 (by decide) ?_
    have M_21 := c_X7_fails l D cy g S (va_up K 28 (fun _ => nI 0)) (nI 1) H.size
    refine cd_fri (S := Unit) (W1 := fun u => (wM cy g S (va_up (va_up K 28 (fun _ => nI 0)) 28 (fun _ => (nI 1))))) (ws' := fun u => (wM cy g S (va_up K 28 (fun _ => (nI 1))))) (wc := (wM cy g S (va_up K 28 (fun _ => nI 0)))) (wr := []) (va_runV (As := [.int (nI 1)]) (rest := []) ⟨hx, hb, hml, hown, hts⟩ M_21 (cwV 1 hts gX7_canPlay_X7_fails rfl rfl rfl (by decide +kernel) ⟨Nat.le_of_ble_eq_true rfl, Nat.le_of_ble_eq_true rfl⟩) ⟨wrB.bl, va_recv hK hP (ci := 7) (q0 := 0) rfl rfl, fun U hU hW => ⟨rfl, by rw [hU], by rw [hU]; exact hP, hG.warm hW, hD.weaken (fun _ _ _ _ => trivial)⟩⟩ rfl rfl hl.1 rfl (lv_room (Nat.le_of_ble_eq_true rfl)) dX7_canPlay_21 (by exact ⟨Nat.zero_le _, Nat.zero_le _⟩)) hP hD hS hA [0, 1, 2, 3, 4, 5, 6, 7, 8, 9, 10, 11, 12, 13, 14, 15, 16, 17, 18, 19, 20] [] [0, 1, 2, 3, 4, 5, 6, 7, 8, 9, 10, 11, 12, 13, 14, 15, 16, 17, 18, 19, 20] rfl rfl (by decide) (by decide) (by decide) (fun _ => rfl) (fun r_21 _ H locs hw_21 hP hD hS => ?_)
    subst hw_21
    have hP : va_P D vwCl (wM cy g S (va_up K 28 (fun _ => (nI 1)))) H := hP
    have hD : va_D A (wM cy g S (va_up K 28 (fun _ => (nI 1)))) := hD
    refine lv_iconst (v := nI 1) hx hb dX7_canPlay_24 (by decide) ?_
    refine cd_icmp_ne (tgt := 32) hx hb dX7_canPlay_25 (by decide) (by omega) (by omega) (fun c_25 => ?_) (fun c_25 => ?_)
    · refine lv_iconst (v := nI 0) hx hb dX7_canPlay_32 (by decide) ?_
      exact W.zret (v := nI 0) hx hb hr rfl (fun t ht hW => ⟨⟨nI 0, (S, (va_up K 28 (fun _ => (nI 1)))), rfl, mO_no (k := 1) (by decide) (by decide) (by rw [c_9]; rfl) rfl, by rw [ht]; exact hP, hD⟩, hS.F ht⟩) hS.2.2 dX7_canPlay_33
    · exact absurd c_25 (by decide)
  · obtain ⟨ja, hja, rfl⟩ := inI_nat (by decide) c_9
    try rw [nv_nI (show ja < 2147483648 by omega)]
    refine lv_iload_n hx hb dX7_canPlay_12 rfl (lv_at hl 2 rfl) ?_
    have M_13 := c_X7_isPart l p
    refine cd_roi (va_runS (As := [.int p]) (rest := []) ⟨hx, hb, hml, hown, hts⟩ M_13 (va_cwS 1 hts gX7_canPlay_X7_isPart rfl rfl rfl (by decide +kernel) ⟨Nat.le_of_ble_eq_true rfl, Nat.le_of_ble_eq_true rfl⟩) ⟨nuB.bl, fun U hU hW => ⟨rfl, trivial⟩⟩ rfl rfl hl.1 rfl (lv_room (Nat.le_of_ble_eq_true rfl)) dX7_canPlay_13 (by exact ⟨Nat.zero_le _, Nat.zero_le _⟩)) (fun r_13 hr_13 => ?_)
    subst hr_13
    refine cd_ifB_ne (tgt := 34) hx hb dX7_canPlay_16 (by decide) (fun c_16 => ?_) (fun c_16 => ?_)
    · obtain ⟨jp, hjp, rfl⟩ := inI_nat (by decide) c_16
      try rw [nv_nI (show jp < 2147483648 by omega)]
      refine lv_iload_n hx hb dX7_canPlay_34 rfl (lv_at hl 3 rfl) ?_
      have M_35 := c_X7_isDay l d
      refine cd_roi (va_runS (As := [.int d]) (rest := []) ⟨hx, hb, hml, hown, hts⟩ M_35 (va_cwS 1 hts gX7_canPlay_X7_isDay rfl rfl rfl (by decide +kernel) ⟨Nat.le_of_ble_eq_true rfl, Nat.le_of_ble_eq_true rfl⟩) ⟨nuB.bl, fun U hU hW => ⟨rfl, trivial⟩⟩ rfl rfl hl.1 rfl (lv_room (Nat.le_of_ble_eq_true rfl)) dX7_canPlay_35 (by exact ⟨Nat.zero_le _, Nat.zero_le _⟩)) (fun r_35 hr_35 => ?_)
      subst hr_35
      refine cd_ifB_ne (tgt := 56) hx hb dX7_canPlay_38 (by decide) (fun c_38 => ?_) (fun c_38 => ?_)
      · obtain ⟨jd, hjd, rfl⟩ := inI_nat (by decide) c_38
        try rw [nv_nI (show jd < 2147483648 by omega)]
        refine lv_aload_n hx hb dX7_canPlay_56 rfl (lv_at hl 0 rfl) ?_
        refine lv_iload_n hx hb dX7_canPlay_57 rfl (lv_at hl 1 rfl) ?_
        refine lv_iload_n hx hb dX7_canPlay_58 rfl (lv_at hl 2 rfl) ?_
        refine lv_iload_n hx hb dX7_canPlay_59 rfl (lv_at hl 3 rfl) ?_
        have M_60 := c_X7_can l D cy g S (va_up K 28 (fun _ => nI 0)) hI ja jp jd (by omega) (by omega) (by omega)
        refine cd_roi (va_runV (As := [.int (nI ja), .int (nI jp), .int (nI jd)]) (rest := []) ⟨hx, hb, hml, hown, hts⟩ M_60 (cwV 3 hts gX7_canPlay_X7_can rfl rfl rfl (by decide +kernel) ⟨Nat.le_of_ble_eq_true rfl, Nat.le_of_ble_eq_true rfl⟩) ⟨roB.bl, va_recv hK hP (ci := 7) (q0 := 0) rfl rfl, fun U hU hW => ⟨rfl, by rw [hU]; exact hP, hG.warm hW⟩⟩ rfl rfl hl.1 rfl (lv_room (Nat.le_of_ble_eq_true rfl)) dX7_canPlay_60 (by exact ⟨Nat.zero_le _, Nat.zero_le _⟩)) (fun r_60 hr_60 => ?_)
        subst hr_60
        refine cd_tp (y := bI (rkB S jp (nI ja) && rdy S ja jp (nv ((S 4) jd)))) rfl ?_
        exact W.zret (v := bI (rkB S jp (nI ja) && rdy S ja jp (nv ((S 4) jd)))) hx hb hr (nar_bI _) (fun t ht hW => ⟨⟨bI (rkB S jp (nI ja) && rdy S ja jp (nv ((S 4) jd))), (_, (va_up K 28 (fun _ => nI 0))), rfl, mO_ok (by rw [c_9, c_16, c_38]; rfl) (rfl) rfl, by rw [ht]; exact hP, hD⟩, hS.F ht⟩) hS.2.2 dX7_canPlay_63
      · refine lv_aload_n hx hb dX7_canPlay_41 rfl (lv_at hl 0 rfl) ?_
        refine lv_iconst (v := nI 2) hx hb dX7_canPlay_42 (by decide) ?_
        have M_43 := c_X7_fails l D cy g S (va_up K 28 (fun _ => nI 0)) (nI 2) H.size
        refine cd_fri (S := Unit) (W1 := fun u => (wM cy g S (va_up (va_up K 28 (fun _ => nI 0)) 28 (fun _ => (nI 2))))) (ws' := fun u => (wM cy g S (va_up K 28 (fun _ => (nI 2))))) (wc := (wM cy g S (va_up K 28 (fun _ => nI 0)))) (wr := []) (va_runV (As := [.int (nI 2)]) (rest := []) ⟨hx, hb, hml, hown, hts⟩ M_43 (cwV 1 hts gX7_canPlay_X7_fails rfl rfl rfl (by decide +kernel) ⟨Nat.le_of_ble_eq_true rfl, Nat.le_of_ble_eq_true rfl⟩) ⟨wrB.bl, va_recv hK hP (ci := 7) (q0 := 0) rfl rfl, fun U hU hW => ⟨rfl, by rw [hU], by rw [hU]; exact hP, hG.warm hW, hD.weaken (fun _ _ _ _ => trivial)⟩⟩ rfl rfl hl.1 rfl (lv_room (Nat.le_of_ble_eq_true rfl)) dX7_canPlay_43 (by exact ⟨Nat.zero_le _, Nat.zero_le _⟩)) hP hD hS hA [0, 1, 2, 3, 4, 5, 6, 7, 8, 9, 10, 11, 12, 13, 14, 15, 16, 17, 18, 19, 20] [] [0, 1, 2, 3, 4, 5, 6, 7, 8, 9, 10, 11, 12, 13, 14, 15, 16, 17, 18, 19, 20] rfl rfl (by decide) (by decide) (by decide) (fun _ => rfl) (fun r_43 _ H locs hw_43 hP hD hS => ?_)
        subst hw_43
        have hP : va_P D vwCl (wM cy g S (va_up K 28 (fun _ => (nI 2)))) H := hP
        have hD : va_D A (wM cy g S (va_up K 28 (fun _ => (nI 2)))) := hD
        refine lv_iconst (v := nI 1) hx hb dX7_canPlay_46 (by decide) ?_
        refine cd_icmp_ne (tgt := 54) hx hb dX7_canPlay_47 (by decide) (by omega) (by omega) (fun c_47 => ?_) (fun c_47 => ?_)
        · refine lv_iconst (v := nI 0) hx hb dX7_canPlay_54 (by decide) ?_
          exact W.zret (v := nI 0) hx hb hr rfl (fun t ht hW => ⟨⟨nI 0, (S, (va_up K 28 (fun _ => (nI 2)))), rfl, mO_no (k := 2) (by decide) (by decide) (by rw [c_9, c_16, c_38]; rfl) rfl, by rw [ht]; exact hP, hD⟩, hS.F ht⟩) hS.2.2 dX7_canPlay_55
        · exact absurd c_47 (by decide)
    · refine lv_aload_n hx hb dX7_canPlay_19 rfl (lv_at hl 0 rfl) ?_
      refine lv_iconst (v := nI 1) hx hb dX7_canPlay_20 (by decide) ?_
      have M_21 := c_X7_fails l D cy g S (va_up K 28 (fun _ => nI 0)) (nI 1) H.size
      refine cd_fri (S := Unit) (W1 := fun u => (wM cy g S (va_up (va_up K 28 (fun _ => nI 0)) 28 (fun _ => (nI 1))))) (ws' := fun u => (wM cy g S (va_up K 28 (fun _ => (nI 1))))) (wc := (wM cy g S (va_up K 28 (fun _ => nI 0)))) (wr := []) (va_runV (As := [.int (nI 1)]) (rest := []) ⟨hx, hb, hml, hown, hts⟩ M_21 (cwV 1 hts gX7_canPlay_X7_fails rfl rfl rfl (by decide +kernel) ⟨Nat.le_of_ble_eq_true rfl, Nat.le_of_ble_eq_true rfl⟩) ⟨wrB.bl, va_recv hK hP (ci := 7) (q0 := 0) rfl rfl, fun U hU hW => ⟨rfl, by rw [hU], by rw [hU]; exact hP, hG.warm hW, hD.weaken (fun _ _ _ _ => trivial)⟩⟩ rfl rfl hl.1 rfl (lv_room (Nat.le_of_ble_eq_true rfl)) dX7_canPlay_21 (by exact ⟨Nat.zero_le _, Nat.zero_le _⟩)) hP hD hS hA [0, 1, 2, 3, 4, 5, 6, 7, 8, 9, 10, 11, 12, 13, 14, 15, 16, 17, 18, 19, 20] [] [0, 1, 2, 3, 4, 5, 6, 7, 8, 9, 10, 11, 12, 13, 14, 15, 16, 17, 18, 19, 20] rfl rfl (by decide) (by decide) (by decide) (fun _ => rfl) (fun r_21 _ H locs hw_21 hP hD hS => ?_)
      subst hw_21
      have hP : va_P D vwCl (wM cy g S (va_up K 28 (fun _ => (nI 1)))) H := hP
      have hD : va_D A (wM cy g S (va_up K 28 (fun _ => (nI 1)))) := hD
      refine lv_iconst (v := nI 1) hx hb dX7_canPlay_24 (by decide) ?_
      refine cd_icmp_ne (tgt := 32) hx hb dX7_canPlay_25 (by decide) (by omega) (by omega) (fun c_25 => ?_) (fun c_25 => ?_)
      · refine lv_iconst (v := nI 0) hx hb dX7_canPlay_32 (by decide) ?_
        exact W.zret (v := nI 0) hx hb hr rfl (fun t ht hW => ⟨⟨nI 0, (S, (va_up K 28 (fun _ => (nI 1)))), rfl, mO_no (k := 1) (by decide) (by decide) (by rw [c_9, c_16]; rfl) rfl, by rw [ht]; exact hP, hD⟩, hS.F ht⟩) hS.2.2 dX7_canPlay_33
      · exact absurd c_25 (by decide)
