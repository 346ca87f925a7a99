set_option maxHeartbeats 4000000 in
set_option maxRecDepth 100000 in
theorem c_X7_sell (l : Launch) (D : va_G) (cy : qT) (g : Nat → Nat) (S : qS) (K : qS) (hI : Inv S) (w : Int32) (pr : Int32) (q : Int32) (p : Int32) (sz : Nat) : Met l yX7_sell wsX7_sell ({ frames := 2, cells := 0, slots := 0, locals := 42 }) (va_Pc [.ref (g 0), .int w, .int pr, .int q, .int p] (wrB D cy (wM cy g S K) sz)) (va_Qi (fun (r9 : Int32) (u : qS × qS) => mO (th3 (inI w (nI 0) (nI (nv (S 30 0)) - nI 1) && inI p (nI 0) (nI 7)) (inI pr (nI 1) (nI 1000) && inI q (nI 0) (nI 3)) (decide (S 17 (nv w) = 0) && (decide (nv (S 31 0) < 100) && !(decide (q = nI 1) && decide (acI S (nv p) 0 = -1))))) (nI (nv (S 31 0))) (va_up (va_up (va_up (va_up (va_up (va_up (va_up S 21 (upd (S 21) (nv (S 31 0)) w)) 26 (upd (S 26) (nv (S 31 0)) pr)) 22 (upd (S 22) (nv (S 31 0)) q)) 23 (upd (S 23) (nv (S 31 0)) p)) 24 (upd (S 24) (nv (S 31 0)) (acI S (nv p) 0))) 32 (fun _ => S 32 0 + pr)) 31 (fun _ => nI (nv (S 31 0) + 1))) S r9 u) (wrQ D (va_A (wM cy g S K) sz) (fun u : qS × qS => wM cy g u.1 u.2)) (va_A (wM cy g S K) sz)) 0 0 (va_A (wM cy g S K) sz) := by
  refine Met.ofW (cc := cX7_sell) (maxL := 5) (ret := (some .int)) (by decide) rfl ?_
  intro pp e9 s m9 args9 bl9 meth9 c9 s9 B hml hv
  obtain ⟨rfl, hsz, hP, hG, hD0⟩ := hv
  have hx := B.exec
  have hb := B.bytes
  have hr := B.returns
  have hts := atoms_spec (ws := wsX7_sell) B.pre
  have hown : s.vm.findClass RX7 = some m9.cls := findClass_of_methodNamed B.named
  have hlocks := B.notSynchronized
  have hK := hG.K
  subst hsz
  have hD := hD0.self (sz := s.heap.size)
  generalize hAe : (va_A (wM cy g S K) s.heap.size) = A at hD ⊢
  have hA : ∀ q : Nat, s.heap.size ≤ q → A q := fun q h9 => by rw [← hAe]; exact Or.inr h9
  have hS : va_S A s.heap s.heap [] := va_S.rf
  have hP : va_P D vwCl (wM cy g S K) s.heap := hP
  have f_74 := hts (.fieldLink RX7 74 "CastDeskModel" "thrown" "I") (by decide +kernel)
  have f_141 := hts (.fieldLink RX7 141 "CastDeskModel" "shows" "I") (by decide +kernel)
  have f_41 := hts (.fieldLink RX7 41 "CastDeskModel" "showState" "[I") (by decide +kernel)
  have f_147 := hts (.fieldLink RX7 147 "CastDeskModel" "seats" "I") (by decide +kernel)
  have f_47 := hts (.fieldLink RX7 47 "CastDeskModel" "seatShow" "[I") (by decide +kernel)
  have f_50 := hts (.fieldLink RX7 50 "CastDeskModel" "seatPrice" "[I") (by decide +kernel)
  have f_53 := hts (.fieldLink RX7 53 "CastDeskModel" "seatPromise" "[I") (by decide +kernel)
  have f_56 := hts (.fieldLink RX7 56 "CastDeskModel" "seatPart" "[I") (by decide +kernel)
  have f_59 := hts (.fieldLink RX7 59 "CastDeskModel" "seatStar" "[I") (by decide +kernel)
  have f_23 := hts (.fieldLink RX7 23 "CastDeskModel" "lengths" "[I") (by decide +kernel)
  have f_20 := hts (.fieldLink RX7 20 "CastDeskModel" "rows" "[I") (by decide +kernel)
  have f_150 := hts (.fieldLink RX7 150 "CastDeskModel" "taken" "I") (by decide +kernel)
  have iX7 : ∀ w ∈ wsX70, w ∈ wsX7_sell := by decide +kernel
  have hl := lv_entry ([.ref (g 0), .int w, .int pr, .int q, .int p]) (n := 5) (Nat.le_of_ble_eq_true rfl)
  rw [lg_entry_eq]
  generalize (lg_sl ([.ref (g 0), .int w, .int pr, .int q, .int p]) ++ List.replicate (5 - (lg_sl ([.ref (g 0), .int w, .int pr, .int q, .int p])).length) Slot.unset).toArray = ls at hl ⊢
  have hl : lv_has ls 5 [(0, .ref (g 0)), (1, .int w), (2, .int pr), (3, .int q), (4, .int p)] := hl
  have h30 := (iv_30 hI).2
  have h31 := (iv_31 hI).2
  refine lv_aload_n hx hb dX7_sell_0 rfl (lv_at hl 0 rfl) ?_
  refine lv_iconst (v := nI 0) hx hb dX7_sell_1 (by decide) ?_
  refine va_put (D := D) (ci := 7) (v := .int (nI 0)) (ty := .int) (C := RX7) (T := TX7) (N := 29) hx hb hts iX7 tyX7 tyX7_ok nmX7 hown hK hP hD hS 0 rfl rfl 28 (by decide) f_74 (fun _ h9 => h9) rfl (by decide +kernel) rfl rfl (Nat.le_of_ble_eq_true rfl) dX7_sell_2 (fun H locs hP hD hS => ?_)
  have hP : va_P D vwCl (wM cy g S (va_up K 28 (fun _ => nI 0))) H := hP
  have hD : va_D A (wM cy g S (va_up K 28 (fun _ => nI 0))) := hD
  refine lv_iload_n hx hb dX7_sell_5 rfl (lv_at hl 1 rfl) ?_
  refine lv_iconst (v := nI 0) hx hb dX7_sell_6 (by decide) ?_
  refine lv_aload_n hx hb dX7_sell_7 rfl (lv_at hl 0 rfl) ?_
  refine va_get (D := D) (ci := 7) (v := .int (S 30 0)) (C := RX7) (T := TX7) (N := 29) hx hb hts iX7 hown hK hP 0 rfl rfl 13 (by decide) f_141 (fun _ h9 => h9) rfl dX7_sell_8 ?_
  have b_8 := iv_30 hI
  refine cd_tp (y := nI (nv (S 30 0))) b_8.1 ?_
  have b_8 := b_8.2
  refine lv_iconst (v := nI 1) hx hb dX7_sell_11 (by decide) ?_
  refine lv_isub hx hb dX7_sell_12 ?_
  have M_13 := c_X7_in l w (nI 0) ((nI (nv (S 30 0))) - (nI 1))
  refine cd_roi (va_runS (As := [.int w, .int (nI 0), .int ((nI (nv (S 30 0))) - (nI 1))]) (rest := []) ⟨hx, hb, hml, hown, hts⟩ M_13 (va_cwS 3 hts gX7_sell_X7_in rfl rfl rfl (by decide +kernel) ⟨Nat.le_of_ble_eq_true rfl, Nat.le_of_ble_eq_true rfl⟩) ⟨nuB.bl, fun U hU hW => ⟨rfl, trivial⟩⟩ rfl rfl hl.1 rfl (lv_room (Nat.le_of_ble_eq_true rfl)) dX7_sell_13 (by exact ⟨Nat.zero_le _, Nat.zero_le _⟩)) (fun r_13 hr_13 => ?_)
  subst hr_13
  refine cd_ifB_eq (tgt := 27) hx hb dX7_sell_16 (by decide) (fun c_16 => ?_) (fun c_16 => ?_)
  · refine lv_aload_n hx hb dX7_sell_27 rfl (lv_at hl 0 rfl) ?_
    refine lv_iconst (v := nI 1) hx hb dX7_sell_28 (by decide) ?_
    have M_29 := c_X7_fails l D cy g S (va_up K 28 (fun _ => nI 0)) (nI 1) H.size
    refine cd_fri (S := Unit) (W1 := fun u => (wM cy g S (va_up (va_up K 28 (fun _ => nI 0)) 28 (fun _ => (nI 1))))) (ws' := fun u => (wM cy g S (va_up K 28 (fun _ => (nI 1))))) (wc := (wM cy g S (va_up K 28 (fun _ => nI 0)))) (wr := []) (va_runV (As := [.int (nI 1)]) (rest := []) ⟨hx, hb, hml, hown, hts⟩ M_29 (cwV 1 hts gX7_sell_X7_fails rfl rfl rfl (by decide +kernel) ⟨Nat.le_of_ble_eq_true rfl, Nat.le_of_ble_eq_true rfl⟩) ⟨wrB.bl, va_recv hK hP (ci := 7) (q0 := 0) rfl rfl, fun U hU hW => ⟨rfl, by rw [hU], by rw [hU]; exact hP, hG.warm hW, hD.weaken (fun _ _ _ _ => trivial)⟩⟩ rfl rfl hl.1 rfl (lv_room (Nat.le_of_ble_eq_true rfl)) dX7_sell_29 (by exact ⟨Nat.zero_le _, Nat.zero_le _⟩)) hP hD hS hA [0, 1, 2, 3, 4, 5, 6, 7, 8, 9, 10, 11, 12, 13, 14, 15, 16, 17, 18, 19, 20] [] [0, 1, 2, 3, 4, 5, 6, 7, 8, 9, 10, 11, 12, 13, 14, 15, 16, 17, 18, 19, 20] rfl rfl (by decide) (by decide) (by decide) (fun _ => rfl) (fun r_29 _ H locs hw_29 hP hD hS => ?_)
    subst hw_29
    have hP : va_P D vwCl (wM cy g S (va_up K 28 (fun _ => (nI 1)))) H := hP
    have hD : va_D A (wM cy g S (va_up K 28 (fun _ => (nI 1)))) := hD
    exact W.iret (v := nI 0) hx hb hr (fun t ht hW => ⟨⟨nI 0, (S, (va_up K 28 (fun _ => (nI 1)))), rfl, mO_no (k := 1) (by decide) (by decide) (by rw [c_16]; rfl) rfl, by rw [ht]; exact hP, hD⟩, hS.F ht⟩) hS.2.2 dX7_sell_32
  · obtain ⟨jw, hjw, rfl⟩ := inI_cnt (by omega) c_16
    try rw [nv_nI (show jw < 2147483648 by omega)]
    refine lv_iload hx hb dX7_sell_19 (lv_at hl 4 rfl) ?_
    have M_21 := c_X7_isPart l p
    refine cd_roi (va_runS (As := [.int p]) (rest := []) ⟨hx, hb, hml, hown, hts⟩ M_21 (va_cwS 1 hts gX7_sell_X7_isPart rfl rfl rfl (by decide +kernel) ⟨Nat.le_of_ble_eq_true rfl, Nat.le_of_ble_eq_true rfl⟩) ⟨nuB.bl, fun U hU hW => ⟨rfl, trivial⟩⟩ rfl rfl hl.1 rfl (lv_room (Nat.le_of_ble_eq_true rfl)) dX7_sell_21 (by exact ⟨Nat.zero_le _, Nat.zero_le _⟩)) (fun r_21 hr_21 => ?_)
    subst hr_21
    refine cd_ifB_ne (tgt := 33) hx hb dX7_sell_24 (by decide) (fun c_24 => ?_) (fun c_24 => ?_)
    · obtain ⟨jp, hjp, rfl⟩ := inI_nat (by decide) c_24
      try rw [nv_nI (show jp < 2147483648 by omega)]
      refine lv_iload_n hx hb dX7_sell_33 rfl (lv_at hl 2 rfl) ?_
      refine lv_iconst (v := nI 1) hx hb dX7_sell_34 (by decide) ?_
      refine lv_sipush (v := nI 1000) hx hb dX7_sell_35 (by decide) ?_
      have M_38 := c_X7_in l pr (nI 1) (nI 1000)
      refine cd_roi (va_runS (As := [.int pr, .int (nI 1), .int (nI 1000)]) (rest := []) ⟨hx, hb, hml, hown, hts⟩ M_38 (va_cwS 3 hts gX7_sell_X7_in rfl rfl rfl (by decide +kernel) ⟨Nat.le_of_ble_eq_true rfl, Nat.le_of_ble_eq_true rfl⟩) ⟨nuB.bl, fun U hU hW => ⟨rfl, trivial⟩⟩ rfl rfl hl.1 rfl (lv_room (Nat.le_of_ble_eq_true rfl)) dX7_sell_38 (by exact ⟨Nat.zero_le _, Nat.zero_le _⟩)) (fun r_38 hr_38 => ?_)
      subst hr_38
      refine cd_ifB_eq (tgt := 53) hx hb dX7_sell_41 (by decide) (fun c_41 => ?_) (fun c_41 => ?_)
      · refine lv_aload_n hx hb dX7_sell_53 rfl (lv_at hl 0 rfl) ?_
        refine lv_iconst (v := nI 2) hx hb dX7_sell_54 (by decide) ?_
        have M_55 := c_X7_fails l D cy g S (va_up K 28 (fun _ => nI 0)) (nI 2) H.size
        refine cd_fri (S := Unit) (W1 := fun u => (wM cy g S (va_up (va_up K 28 (fun _ => nI 0)) 28 (fun _ => (nI 2))))) (ws' := fun u => (wM cy g S (va_up K 28 (fun _ => (nI 2))))) (wc := (wM cy g S (va_up K 28 (fun _ => nI 0)))) (wr := []) (va_runV (As := [.int (nI 2)]) (rest := []) ⟨hx, hb, hml, hown, hts⟩ M_55 (cwV 1 hts gX7_sell_X7_fails rfl rfl rfl (by decide +kernel) ⟨Nat.le_of_ble_eq_true rfl, Nat.le_of_ble_eq_true rfl⟩) ⟨wrB.bl, va_recv hK hP (ci := 7) (q0 := 0) rfl rfl, fun U hU hW => ⟨rfl, by rw [hU], by rw [hU]; exact hP, hG.warm hW, hD.weaken (fun _ _ _ _ => trivial)⟩⟩ rfl rfl hl.1 rfl (lv_room (Nat.le_of_ble_eq_true rfl)) dX7_sell_55 (by exact ⟨Nat.zero_le _, Nat.zero_le _⟩)) hP hD hS hA [0, 1, 2, 3, 4, 5, 6, 7, 8, 9, 10, 11, 12, 13, 14, 15, 16, 17, 18, 19, 20] [] [0, 1, 2, 3, 4, 5, 6, 7, 8, 9, 10, 11, 12, 13, 14, 15, 16, 17, 18, 19, 20] rfl rfl (by decide) (by decide) (by decide) (fun _ => rfl) (fun r_55 _ H locs hw_55 hP hD hS => ?_)
        subst hw_55
        have hP : va_P D vwCl (wM cy g S (va_up K 28 (fun _ => (nI 2)))) H := hP
        have hD : va_D A (wM cy g S (va_up K 28 (fun _ => (nI 2)))) := hD
        exact W.iret (v := nI 0) hx hb hr (fun t ht hW => ⟨⟨nI 0, (S, (va_up K 28 (fun _ => (nI 2)))), rfl, mO_no (k := 2) (by decide) (by decide) (by rw [c_16, c_24, c_41]; rfl) rfl, by rw [ht]; exact hP, hD⟩, hS.F ht⟩) hS.2.2 dX7_sell_58
      · refine lv_iload_n hx hb dX7_sell_44 rfl (lv_at hl 3 rfl) ?_
        refine lv_iconst (v := nI 0) hx hb dX7_sell_45 (by decide) ?_
        refine lv_iconst (v := nI 3) hx hb dX7_sell_46 (by decide) ?_
        have M_47 := c_X7_in l q (nI 0) (nI 3)
        refine cd_roi (va_runS (As := [.int q, .int (nI 0), .int (nI 3)]) (rest := []) ⟨hx, hb, hml, hown, hts⟩ M_47 (va_cwS 3 hts gX7_sell_X7_in rfl rfl rfl (by decide +kernel) ⟨Nat.le_of_ble_eq_true rfl, Nat.le_of_ble_eq_true rfl⟩) ⟨nuB.bl, fun U hU hW => ⟨rfl, trivial⟩⟩ rfl rfl hl.1 rfl (lv_room (Nat.le_of_ble_eq_true rfl)) dX7_sell_47 (by exact ⟨Nat.zero_le _, Nat.zero_le _⟩)) (fun r_47 hr_47 => ?_)
        subst hr_47
        refine cd_ifB_ne (tgt := 59) hx hb dX7_sell_50 (by decide) (fun c_50 => ?_) (fun c_50 => ?_)
        · refine lv_aload_n hx hb dX7_sell_59 rfl (lv_at hl 0 rfl) ?_
          refine va_get (D := D) (ci := 7) (v := .ref (g 11)) (C := RX7) (T := TX7) (N := 29) hx hb hts iX7 hown hK hP 0 rfl rfl 11 (by decide) f_41 (fun _ h9 => h9) rfl dX7_sell_60 ?_
          refine lv_iload_n hx hb dX7_sell_63 rfl (lv_at hl 1 rfl) ?_
          refine cd_iald (f := S 17) hx hb hK hP 10 rfl (by omega) (by decide) dX7_sell_64 ?_
          refine lv_if_ne (tgt := 92) hx hb dX7_sell_65 (by decide) (fun c_65 => ?_) (fun c_65 => ?_)
          · refine lv_aload_n hx hb dX7_sell_92 rfl (lv_at hl 0 rfl) ?_
            refine lv_iconst (v := nI 3) hx hb dX7_sell_93 (by decide) ?_
            have M_94 := c_X7_fails l D cy g S (va_up K 28 (fun _ => nI 0)) (nI 3) H.size
            refine cd_fri (S := Unit) (W1 := fun u => (wM cy g S (va_up (va_up K 28 (fun _ => nI 0)) 28 (fun _ => (nI 3))))) (ws' := fun u => (wM cy g S (va_up K 28 (fun _ => (nI 3))))) (wc := (wM cy g S (va_up K 28 (fun _ => nI 0)))) (wr := []) (va_runV (As := [.int (nI 3)]) (rest := []) ⟨hx, hb, hml, hown, hts⟩ M_94 (cwV 1 hts gX7_sell_X7_fails rfl rfl rfl (by decide +kernel) ⟨Nat.le_of_ble_eq_true rfl, Nat.le_of_ble_eq_true rfl⟩) ⟨wrB.bl, va_recv hK hP (ci := 7) (q0 := 0) rfl rfl, fun U hU hW => ⟨rfl, by rw [hU], by rw [hU]; exact hP, hG.warm hW, hD.weaken (fun _ _ _ _ => trivial)⟩⟩ rfl rfl hl.1 rfl (lv_room (Nat.le_of_ble_eq_true rfl)) dX7_sell_94 (by exact ⟨Nat.zero_le _, Nat.zero_le _⟩)) hP hD hS hA [0, 1, 2, 3, 4, 5, 6, 7, 8, 9, 10, 11, 12, 13, 14, 15, 16, 17, 18, 19, 20] [] [0, 1, 2, 3, 4, 5, 6, 7, 8, 9, 10, 11, 12, 13, 14, 15, 16, 17, 18, 19, 20] rfl rfl (by decide) (by decide) (by decide) (fun _ => rfl) (fun r_94 _ H locs hw_94 hP hD hS => ?_)
            subst hw_94
            have hP : va_P D vwCl (wM cy g S (va_up K 28 (fun _ => (nI 3)))) H := hP
            have hD : va_D A (wM cy g S (va_up K 28 (fun _ => (nI 3)))) := hD
            exact W.iret (v := nI 0) hx hb hr (fun t ht hW => ⟨⟨nI 0, (S, (va_up K 28 (fun _ => (nI 3)))), rfl, mO_no (k := 3) (by decide) (by decide) (by rw [c_16, c_24, c_41, c_50, decide_eq_false c_65]; rfl) rfl, by rw [ht]; exact hP, hD⟩, hS.F ht⟩) hS.2.2 dX7_sell_97
          · refine lv_aload_n hx hb dX7_sell_68 rfl (lv_at hl 0 rfl) ?_
            refine va_get (D := D) (ci := 7) (v := .int (S 31 0)) (C := RX7) (T := TX7) (N := 29) hx hb hts iX7 hown hK hP 0 rfl rfl 20 (by decide) f_147 (fun _ h9 => h9) rfl dX7_sell_69 ?_
            have b_69 := iv_31 hI
            refine cd_tp (y := nI (nv (S 31 0))) b_69.1 ?_
            have b_69 := b_69.2
            refine lv_bipush (v := nI 100) hx hb dX7_sell_72 (by decide) ?_
            refine cd_icmp_eq (tgt := 92) hx hb dX7_sell_74 (by decide) (by omega) (by omega) (fun c_74 => ?_) (fun c_74 => ?_)
            · refine lv_aload_n hx hb dX7_sell_92 rfl (lv_at hl 0 rfl) ?_
              refine lv_iconst (v := nI 3) hx hb dX7_sell_93 (by decide) ?_
              have M_94 := c_X7_fails l D cy g S (va_up K 28 (fun _ => nI 0)) (nI 3) H.size
              refine cd_fri (S := Unit) (W1 := fun u => (wM cy g S (va_up (va_up K 28 (fun _ => nI 0)) 28 (fun _ => (nI 3))))) (ws' := fun u => (wM cy g S (va_up K 28 (fun _ => (nI 3))))) (wc := (wM cy g S (va_up K 28 (fun _ => nI 0)))) (wr := []) (va_runV (As := [.int (nI 3)]) (rest := []) ⟨hx, hb, hml, hown, hts⟩ M_94 (cwV 1 hts gX7_sell_X7_fails rfl rfl rfl (by decide +kernel) ⟨Nat.le_of_ble_eq_true rfl, Nat.le_of_ble_eq_true rfl⟩) ⟨wrB.bl, va_recv hK hP (ci := 7) (q0 := 0) rfl rfl, fun U hU hW => ⟨rfl, by rw [hU], by rw [hU]; exact hP, hG.warm hW, hD.weaken (fun _ _ _ _ => trivial)⟩⟩ rfl rfl hl.1 rfl (lv_room (Nat.le_of_ble_eq_true rfl)) dX7_sell_94 (by exact ⟨Nat.zero_le _, Nat.zero_le _⟩)) hP hD hS hA [0, 1, 2, 3, 4, 5, 6, 7, 8, 9, 10, 11, 12, 13, 14, 15, 16, 17, 18, 19, 20] [] [0, 1, 2, 3, 4, 5, 6, 7, 8, 9, 10, 11, 12, 13, 14, 15, 16, 17, 18, 19, 20] rfl rfl (by decide) (by decide) (by decide) (fun _ => rfl) (fun r_94 _ H locs hw_94 hP hD hS => ?_)
              subst hw_94
              have hP : va_P D vwCl (wM cy g S (va_up K 28 (fun _ => (nI 3)))) H := hP
              have hD : va_D A (wM cy g S (va_up K 28 (fun _ => (nI 3)))) := hD
              exact W.iret (v := nI 0) hx hb hr (fun t ht hW => ⟨⟨nI 0, (S, (va_up K 28 (fun _ => (nI 3)))), rfl, mO_no (k := 3) (by decide) (by decide) (by rw [c_16, c_24, c_41, c_50, decide_eq_true c_65, decide_eq_false (by omega)]; rfl) rfl, by rw [ht]; exact hP, hD⟩, hS.F ht⟩) hS.2.2 dX7_sell_97
            · refine lv_iload_n hx hb dX7_sell_77 rfl (lv_at hl 3 rfl) ?_
              refine lv_iconst (v := nI 1) hx hb dX7_sell_78 (by decide) ?_
              refine lv_icmp_ne (tgt := 98) hx hb dX7_sell_79 (by decide) (fun c_79 => ?_) (fun c_79 => ?_)
              · refine lv_aload_n hx hb dX7_sell_98 rfl (lv_at hl 0 rfl) ?_
                refine va_get (D := D) (ci := 7) (v := .ref (g 14)) (C := RX7) (T := TX7) (N := 29) hx hb hts iX7 hown hK hP 0 rfl rfl 14 (by decide) f_47 (fun _ h9 => h9) rfl dX7_sell_99 ?_
                refine lv_aload_n hx hb dX7_sell_102 rfl (lv_at hl 0 rfl) ?_
                refine va_get (D := D) (ci := 7) (v := .int (S 31 0)) (C := RX7) (T := TX7) (N := 29) hx hb hts iX7 hown hK hP 0 rfl rfl 20 (by decide) f_147 (fun _ h9 => h9) rfl dX7_sell_103 ?_
                have b_103 := iv_31 hI
                refine cd_tp (y := nI (nv (S 31 0))) b_103.1 ?_
                have b_103 := b_103.2
                refine lv_iload_n hx hb dX7_sell_106 rfl (lv_at hl 1 rfl) ?_
                refine cd_iast (f := S 21) hx hb hK hP hD hS 12 rfl (by omega) (by decide) dX7_sell_107 (fun H locs hP hD hS => ?_)
                have hP : va_P D vwCl (wM cy g (va_up S 21 (upd (S 21) (nv (S 31 0)) (nI jw))) (va_up K 28 (fun _ => nI 0))) H := hP
                have hD : va_D A (wM cy g (va_up S 21 (upd (S 21) (nv (S 31 0)) (nI jw))) (va_up K 28 (fun _ => nI 0))) := hD
                refine lv_aload_n hx hb dX7_sell_108 rfl (lv_at hl 0 rfl) ?_
                refine va_get (D := D) (ci := 7) (v := .ref (g 15)) (C := RX7) (T := TX7) (N := 29) hx hb hts iX7 hown hK hP 0 rfl rfl 15 (by decide) f_50 (fun _ h9 => h9) rfl dX7_sell_109 ?_
                refine lv_aload_n hx hb dX7_sell_112 rfl (lv_at hl 0 rfl) ?_
                refine va_get (D := D) (ci := 7) (v := .int (S 31 0)) (C := RX7) (T := TX7) (N := 29) hx hb hts iX7 hown hK hP 0 rfl rfl 20 (by decide) f_147 (fun _ h9 => h9) rfl dX7_sell_113 ?_
                have b_113 := iv_31 hI
                refine cd_tp (y := nI (nv (S 31 0))) b_113.1 ?_
                have b_113 := b_113.2
                refine lv_iload_n hx hb dX7_sell_116 rfl (lv_at hl 2 rfl) ?_
                refine cd_iast (f := S 26) hx hb hK hP hD hS 13 rfl (by omega) (by decide) dX7_sell_117 (fun H locs hP hD hS => ?_)
                have hP : va_P D vwCl (wM cy g (va_up (va_up S 21 (upd (S 21) (nv (S 31 0)) (nI jw))) 26 (upd (S 26) (nv (S 31 0)) pr)) (va_up K 28 (fun _ => nI 0))) H := hP
                have hD : va_D A (wM cy g (va_up (va_up S 21 (upd (S 21) (nv (S 31 0)) (nI jw))) 26 (upd (S 26) (nv (S 31 0)) pr)) (va_up K 28 (fun _ => nI 0))) := hD
                refine lv_aload_n hx hb dX7_sell_118 rfl (lv_at hl 0 rfl) ?_
                refine va_get (D := D) (ci := 7) (v := .ref (g 16)) (C := RX7) (T := TX7) (N := 29) hx hb hts iX7 hown hK hP 0 rfl rfl 16 (by decide) f_53 (fun _ h9 => h9) rfl dX7_sell_119 ?_
                refine lv_aload_n hx hb dX7_sell_122 rfl (lv_at hl 0 rfl) ?_
                refine va_get (D := D) (ci := 7) (v := .int (S 31 0)) (C := RX7) (T := TX7) (N := 29) hx hb hts iX7 hown hK hP 0 rfl rfl 20 (by decide) f_147 (fun _ h9 => h9) rfl dX7_sell_123 ?_
                have b_123 := iv_31 hI
                refine cd_tp (y := nI (nv (S 31 0))) b_123.1 ?_
                have b_123 := b_123.2
                refine lv_iload_n hx hb dX7_sell_126 rfl (lv_at hl 3 rfl) ?_
                refine cd_iast (f := S 22) hx hb hK hP hD hS 14 rfl (by omega) (by decide) dX7_sell_127 (fun H locs hP hD hS => ?_)
                have hP : va_P D vwCl (wM cy g (va_up (va_up (va_up S 21 (upd (S 21) (nv (S 31 0)) (nI jw))) 26 (upd (S 26) (nv (S 31 0)) pr)) 22 (upd (S 22) (nv (S 31 0)) q)) (va_up K 28 (fun _ => nI 0))) H := hP
                have hD : va_D A (wM cy g (va_up (va_up (va_up S 21 (upd (S 21) (nv (S 31 0)) (nI jw))) 26 (upd (S 26) (nv (S 31 0)) pr)) 22 (upd (S 22) (nv (S 31 0)) q)) (va_up K 28 (fun _ => nI 0))) := hD
                refine lv_aload_n hx hb dX7_sell_128 rfl (lv_at hl 0 rfl) ?_
                refine va_get (D := D) (ci := 7) (v := .ref (g 17)) (C := RX7) (T := TX7) (N := 29) hx hb hts iX7 hown hK hP 0 rfl rfl 17 (by decide) f_56 (fun _ h9 => h9) rfl dX7_sell_129 ?_
                refine lv_aload_n hx hb dX7_sell_132 rfl (lv_at hl 0 rfl) ?_
                refine va_get (D := D) (ci := 7) (v := .int (S 31 0)) (C := RX7) (T := TX7) (N := 29) hx hb hts iX7 hown hK hP 0 rfl rfl 20 (by decide) f_147 (fun _ h9 => h9) rfl dX7_sell_133 ?_
                have b_133 := iv_31 hI
                refine cd_tp (y := nI (nv (S 31 0))) b_133.1 ?_
                have b_133 := b_133.2
                refine lv_iload hx hb dX7_sell_136 (lv_at hl 4 rfl) ?_
                refine cd_iast (f := S 23) hx hb hK hP hD hS 15 rfl (by omega) (by decide) dX7_sell_138 (fun H locs hP hD hS => ?_)
                have hP : va_P D vwCl (wM cy g (va_up (va_up (va_up (va_up S 21 (upd (S 21) (nv (S 31 0)) (nI jw))) 26 (upd (S 26) (nv (S 31 0)) pr)) 22 (upd (S 22) (nv (S 31 0)) q)) 23 (upd (S 23) (nv (S 31 0)) (nI jp))) (va_up K 28 (fun _ => nI 0))) H := hP
                have hD : va_D A (wM cy g (va_up (va_up (va_up (va_up S 21 (upd (S 21) (nv (S 31 0)) (nI jw))) 26 (upd (S 26) (nv (S 31 0)) pr)) 22 (upd (S 22) (nv (S 31 0)) q)) 23 (upd (S 23) (nv (S 31 0)) (nI jp))) (va_up K 28 (fun _ => nI 0))) := hD
                refine lv_aload_n hx hb dX7_sell_139 rfl (lv_at hl 0 rfl) ?_
                refine va_get (D := D) (ci := 7) (v := .ref (g 18)) (C := RX7) (T := TX7) (N := 29) hx hb hts iX7 hown hK hP 0 rfl rfl 18 (by decide) f_59 (fun _ h9 => h9) rfl dX7_sell_140 ?_
                refine lv_aload_n hx hb dX7_sell_143 rfl (lv_at hl 0 rfl) ?_
                refine va_get (D := D) (ci := 7) (v := .int (S 31 0)) (C := RX7) (T := TX7) (N := 29) hx hb hts iX7 hown hK hP 0 rfl rfl 20 (by decide) f_147 (fun _ h9 => h9) rfl dX7_sell_144 ?_
                have b_144 := iv_31 hI
                refine cd_tp (y := nI (nv (S 31 0))) b_144.1 ?_
                have b_144 := b_144.2
                refine lv_aload_n hx hb dX7_sell_147 rfl (lv_at hl 0 rfl) ?_
                refine va_get (D := D) (ci := 7) (v := .ref (g 4)) (C := RX7) (T := TX7) (N := 29) hx hb hts iX7 hown hK hP 0 rfl rfl 4 (by decide) f_23 (fun _ h9 => h9) rfl dX7_sell_148 ?_
                refine lv_iload hx hb dX7_sell_151 (lv_at hl 4 rfl) ?_
                refine cd_iald (f := S 7) hx hb hK hP 4 rfl (by omega) (by decide) dX7_sell_153 ?_
                have b_153 := iv_7 hI jp (by omega)
                refine cd_tp (y := nI (nv (S 7 jp))) b_153.1 ?_
                have b_153 := b_153.2
                refine cd_if_ne (tgt := 161) hx hb dX7_sell_154 (by decide) (by omega) (fun c_154 => ?_) (fun c_154 => ?_)
                · refine lv_aload_n hx hb dX7_sell_161 rfl (lv_at hl 0 rfl) ?_
                  refine va_get (D := D) (ci := 7) (v := .ref (g 3)) (C := RX7) (T := TX7) (N := 29) hx hb hts iX7 hown hK hP 0 rfl rfl 3 (by decide) f_20 (fun _ h9 => h9) rfl dX7_sell_162 ?_
                  refine lv_iconst (v := nI 4) hx hb dX7_sell_165 (by decide) ?_
                  refine lv_iload hx hb dX7_sell_166 (lv_at hl 4 rfl) ?_
                  refine cd_imul hx hb dX7_sell_168 ?_
                  refine cd_iald (f := S 6) hx hb hK hP 3 rfl (by omega) (by decide) dX7_sell_169 ?_
                  refine cd_tp (y := acI S jp 0) (ac_v (by omega)) ?_
                  refine cd_iast (f := S 24) hx hb hK hP hD hS 16 rfl (by omega) (by decide) dX7_sell_170 (fun H locs hP hD hS => ?_)
                  have hP : va_P D vwCl (wM cy g (va_up (va_up (va_up (va_up (va_up S 21 (upd (S 21) (nv (S 31 0)) (nI jw))) 26 (upd (S 26) (nv (S 31 0)) pr)) 22 (upd (S 22) (nv (S 31 0)) q)) 23 (upd (S 23) (nv (S 31 0)) (nI jp))) 24 (upd (S 24) (nv (S 31 0)) (acI S jp 0))) (va_up K 28 (fun _ => nI 0))) H := hP
                  have hD : va_D A (wM cy g (va_up (va_up (va_up (va_up (va_up S 21 (upd (S 21) (nv (S 31 0)) (nI jw))) 26 (upd (S 26) (nv (S 31 0)) pr)) 22 (upd (S 22) (nv (S 31 0)) q)) 23 (upd (S 23) (nv (S 31 0)) (nI jp))) 24 (upd (S 24) (nv (S 31 0)) (acI S jp 0))) (va_up K 28 (fun _ => nI 0))) := hD
                  refine lv_aload_n hx hb dX7_sell_171 rfl (lv_at hl 0 rfl) ?_
                  refine lv_dup hx hb dX7_sell_172 rfl ?_
                  refine va_get (D := D) (ci := 7) (v := .int (S 32 0)) (C := RX7) (T := TX7) (N := 29) hx hb hts iX7 hown hK hP 0 rfl rfl 22 (by decide) f_150 (fun _ h9 => h9) rfl dX7_sell_173 ?_
                  refine lv_iload_n hx hb dX7_sell_176 rfl (lv_at hl 2 rfl) ?_
                  refine lv_iadd hx hb dX7_sell_177 ?_
                  refine va_put (D := D) (ci := 7) (v := .int ((S 32 0) + pr)) (ty := .int) (C := RX7) (T := TX7) (N := 29) hx hb hts iX7 tyX7 tyX7_ok nmX7 hown hK hP hD hS 0 rfl rfl 22 (by decide) f_150 (fun _ h9 => h9) rfl (by decide +kernel) rfl rfl (Nat.le_of_ble_eq_true rfl) dX7_sell_178 (fun H locs hP hD hS => ?_)
                  have hP : va_P D vwCl (wM cy g (va_up (va_up (va_up (va_up (va_up (va_up S 21 (upd (S 21) (nv (S 31 0)) (nI jw))) 26 (upd (S 26) (nv (S 31 0)) pr)) 22 (upd (S 22) (nv (S 31 0)) q)) 23 (upd (S 23) (nv (S 31 0)) (nI jp))) 24 (upd (S 24) (nv (S 31 0)) (acI S jp 0))) 32 (fun _ => (S 32 0) + pr)) (va_up K 28 (fun _ => nI 0))) H := hP
                  have hD : va_D A (wM cy g (va_up (va_up (va_up (va_up (va_up (va_up S 21 (upd (S 21) (nv (S 31 0)) (nI jw))) 26 (upd (S 26) (nv (S 31 0)) pr)) 22 (upd (S 22) (nv (S 31 0)) q)) 23 (upd (S 23) (nv (S 31 0)) (nI jp))) 24 (upd (S 24) (nv (S 31 0)) (acI S jp 0))) 32 (fun _ => (S 32 0) + pr)) (va_up K 28 (fun _ => nI 0))) := hD
                  refine lv_aload_n hx hb dX7_sell_181 rfl (lv_at hl 0 rfl) ?_
                  refine lv_dup hx hb dX7_sell_182 rfl ?_
                  refine va_get (D := D) (ci := 7) (v := .int (S 31 0)) (C := RX7) (T := TX7) (N := 29) hx hb hts iX7 hown hK hP 0 rfl rfl 20 (by decide) f_147 (fun _ h9 => h9) rfl dX7_sell_183 ?_
                  have b_183 := iv_31 hI
                  refine cd_tp (y := nI (nv (S 31 0))) b_183.1 ?_
                  have b_183 := b_183.2
                  refine lv_iconst (v := nI 1) hx hb dX7_sell_186 (by decide) ?_
                  refine cd_iadd hx hb dX7_sell_187 ?_
                  refine va_put (D := D) (ci := 7) (v := .int (nI ((nv (S 31 0)) + 1))) (ty := .int) (C := RX7) (T := TX7) (N := 29) hx hb hts iX7 tyX7 tyX7_ok nmX7 hown hK hP hD hS 0 rfl rfl 20 (by decide) f_147 (fun _ h9 => h9) rfl (by decide +kernel) rfl rfl (Nat.le_of_ble_eq_true rfl) dX7_sell_188 (fun H locs hP hD hS => ?_)
                  have hP : va_P D vwCl (wM cy g (va_up (va_up (va_up (va_up (va_up (va_up (va_up S 21 (upd (S 21) (nv (S 31 0)) (nI jw))) 26 (upd (S 26) (nv (S 31 0)) pr)) 22 (upd (S 22) (nv (S 31 0)) q)) 23 (upd (S 23) (nv (S 31 0)) (nI jp))) 24 (upd (S 24) (nv (S 31 0)) (acI S jp 0))) 32 (fun _ => (S 32 0) + pr)) 31 (fun _ => nI ((nv (S 31 0)) + 1))) (va_up K 28 (fun _ => nI 0))) H := hP
                  have hD : va_D A (wM cy g (va_up (va_up (va_up (va_up (va_up (va_up (va_up S 21 (upd (S 21) (nv (S 31 0)) (nI jw))) 26 (upd (S 26) (nv (S 31 0)) pr)) 22 (upd (S 22) (nv (S 31 0)) q)) 23 (upd (S 23) (nv (S 31 0)) (nI jp))) 24 (upd (S 24) (nv (S 31 0)) (acI S jp 0))) 32 (fun _ => (S 32 0) + pr)) 31 (fun _ => nI ((nv (S 31 0)) + 1))) (va_up K 28 (fun _ => nI 0))) := hD
                  refine lv_aload_n hx hb dX7_sell_191 rfl (lv_at hl 0 rfl) ?_
                  refine va_get (D := D) (ci := 7) (v := .int (nI ((nv (S 31 0)) + 1))) (C := RX7) (T := TX7) (N := 29) hx hb hts iX7 hown hK hP 0 rfl rfl 20 (by decide) f_147 (fun _ h9 => h9) rfl dX7_sell_192 ?_
                  refine lv_iconst (v := nI 1) hx hb dX7_sell_195 (by decide) ?_
                  refine cd_isub hx hb (by omega) dX7_sell_196 ?_
                  exact W.iret (v := nI (((nv (S 31 0)) + 1) - 1)) hx hb hr (fun t ht hW => ⟨⟨nI (((nv (S 31 0)) + 1) - 1), (_, (va_up K 28 (fun _ => nI 0))), rfl, mO_ok (by rw [c_16, c_24, c_41, c_50, decide_eq_true c_65, decide_eq_true (show nv (S 31 0) < 100 by omega), decide_eq_false c_79]; rfl) (by rw [Nat.add_sub_cancel]) rfl, by rw [ht]; exact hP, hD⟩, hS.F ht⟩) hS.2.2 dX7_sell_197
                · refine lv_iconst (v := (-1)) hx hb dX7_sell_157 (by decide) ?_
                  refine lv_goto (tgt := 170) hx hb dX7_sell_158 (by decide) ?_
                  refine cd_tp (y := acI S jp 0) (ac_n (by omega)) ?_
                  refine cd_iast (f := S 24) hx hb hK hP hD hS 16 rfl (by omega) (by decide) dX7_sell_170 (fun H locs hP hD hS => ?_)
                  have hP : va_P D vwCl (wM cy g (va_up (va_up (va_up (va_up (va_up S 21 (upd (S 21) (nv (S 31 0)) (nI jw))) 26 (upd (S 26) (nv (S 31 0)) pr)) 22 (upd (S 22) (nv (S 31 0)) q)) 23 (upd (S 23) (nv (S 31 0)) (nI jp))) 24 (upd (S 24) (nv (S 31 0)) (acI S jp 0))) (va_up K 28 (fun _ => nI 0))) H := hP
                  have hD : va_D A (wM cy g (va_up (va_up (va_up (va_up (va_up S 21 (upd (S 21) (nv (S 31 0)) (nI jw))) 26 (upd (S 26) (nv (S 31 0)) pr)) 22 (upd (S 22) (nv (S 31 0)) q)) 23 (upd (S 23) (nv (S 31 0)) (nI jp))) 24 (upd (S 24) (nv (S 31 0)) (acI S jp 0))) (va_up K 28 (fun _ => nI 0))) := hD
                  refine lv_aload_n hx hb dX7_sell_171 rfl (lv_at hl 0 rfl) ?_
                  refine lv_dup hx hb dX7_sell_172 rfl ?_
                  refine va_get (D := D) (ci := 7) (v := .int (S 32 0)) (C := RX7) (T := TX7) (N := 29) hx hb hts iX7 hown hK hP 0 rfl rfl 22 (by decide) f_150 (fun _ h9 => h9) rfl dX7_sell_173 ?_
                  refine lv_iload_n hx hb dX7_sell_176 rfl (lv_at hl 2 rfl) ?_
                  refine lv_iadd hx hb dX7_sell_177 ?_
                  refine va_put (D := D) (ci := 7) (v := .int ((S 32 0) + pr)) (ty := .int) (C := RX7) (T := TX7) (N := 29) hx hb hts iX7 tyX7 tyX7_ok nmX7 hown hK hP hD hS 0 rfl rfl 22 (by decide) f_150 (fun _ h9 => h9) rfl (by decide +kernel) rfl rfl (Nat.le_of_ble_eq_true rfl) dX7_sell_178 (fun H locs hP hD hS => ?_)
                  have hP : va_P D vwCl (wM cy g (va_up (va_up (va_up (va_up (va_up (va_up S 21 (upd (S 21) (nv (S 31 0)) (nI jw))) 26 (upd (S 26) (nv (S 31 0)) pr)) 22 (upd (S 22) (nv (S 31 0)) q)) 23 (upd (S 23) (nv (S 31 0)) (nI jp))) 24 (upd (S 24) (nv (S 31 0)) (acI S jp 0))) 32 (fun _ => (S 32 0) + pr)) (va_up K 28 (fun _ => nI 0))) H := hP
                  have hD : va_D A (wM cy g (va_up (va_up (va_up (va_up (va_up (va_up S 21 (upd (S 21) (nv (S 31 0)) (nI jw))) 26 (upd (S 26) (nv (S 31 0)) pr)) 22 (upd (S 22) (nv (S 31 0)) q)) 23 (upd (S 23) (nv (S 31 0)) (nI jp))) 24 (upd (S 24) (nv (S 31 0)) (acI S jp 0))) 32 (fun _ => (S 32 0) + pr)) (va_up K 28 (fun _ => nI 0))) := hD
                  refine lv_aload_n hx hb dX7_sell_181 rfl (lv_at hl 0 rfl) ?_
                  refine lv_dup hx hb dX7_sell_182 rfl ?_
                  refine va_get (D := D) (ci := 7) (v := .int (S 31 0)) (C := RX7) (T := TX7) (N := 29) hx hb hts iX7 hown hK hP 0 rfl rfl 20 (by decide) f_147 (fun _ h9 => h9) rfl dX7_sell_183 ?_
                  have b_183 := iv_31 hI
                  refine cd_tp (y := nI (nv (S 31 0))) b_183.1 ?_
                  have b_183 := b_183.2
                  refine lv_iconst (v := nI 1) hx hb dX7_sell_186 (by decide) ?_
                  refine cd_iadd hx hb dX7_sell_187 ?_
                  refine va_put (D := D) (ci := 7) (v := .int (nI ((nv (S 31 0)) + 1))) (ty := .int) (C := RX7) (T := TX7) (N := 29) hx hb hts iX7 tyX7 tyX7_ok nmX7 hown hK hP hD hS 0 rfl rfl 20 (by decide) f_147 (fun _ h9 => h9) rfl (by decide +kernel) rfl rfl (Nat.le_of_ble_eq_true rfl) dX7_sell_188 (fun H locs hP hD hS => ?_)
                  have hP : va_P D vwCl (wM cy g (va_up (va_up (va_up (va_up (va_up (va_up (va_up S 21 (upd (S 21) (nv (S 31 0)) (nI jw))) 26 (upd (S 26) (nv (S 31 0)) pr)) 22 (upd (S 22) (nv (S 31 0)) q)) 23 (upd (S 23) (nv (S 31 0)) (nI jp))) 24 (upd (S 24) (nv (S 31 0)) (acI S jp 0))) 32 (fun _ => (S 32 0) + pr)) 31 (fun _ => nI ((nv (S 31 0)) + 1))) (va_up K 28 (fun _ => nI 0))) H := hP
                  have hD : va_D A (wM cy g (va_up (va_up (va_up (va_up (va_up (va_up (va_up S 21 (upd (S 21) (nv (S 31 0)) (nI jw))) 26 (upd (S 26) (nv (S 31 0)) pr)) 22 (upd (S 22) (nv (S 31 0)) q)) 23 (upd (S 23) (nv (S 31 0)) (nI jp))) 24 (upd (S 24) (nv (S 31 0)) (acI S jp 0))) 32 (fun _ => (S 32 0) + pr)) 31 (fun _ => nI ((nv (S 31 0)) + 1))) (va_up K 28 (fun _ => nI 0))) := hD
                  refine lv_aload_n hx hb dX7_sell_191 rfl (lv_at hl 0 rfl) ?_
                  refine va_get (D := D) (ci := 7) (v := .int (nI ((nv (S 31 0)) + 1))) (C := RX7) (T := TX7) (N := 29) hx hb hts iX7 hown hK hP 0 rfl rfl 20 (by decide) f_147 (fun _ h9 => h9) rfl dX7_sell_192 ?_
                  refine lv_iconst (v := nI 1) hx hb dX7_sell_195 (by decide) ?_
                  refine cd_isub hx hb (by omega) dX7_sell_196 ?_
                  exact W.iret (v := nI (((nv (S 31 0)) + 1) - 1)) hx hb hr (fun t ht hW => ⟨⟨nI (((nv (S 31 0)) + 1) - 1), (_, (va_up K 28 (fun _ => nI 0))), rfl, mO_ok (by rw [c_16, c_24, c_41, c_50, decide_eq_true c_65, decide_eq_true (show nv (S 31 0) < 100 by omega), decide_eq_false c_79]; rfl) (by rw [Nat.add_sub_cancel]) rfl, by rw [ht]; exact hP, hD⟩, hS.F ht⟩) hS.2.2 dX7_sell_197
              · refine lv_aload_n hx hb dX7_sell_82 rfl (lv_at hl 0 rfl) ?_
                refine va_get (D := D) (ci := 7) (v := .ref (g 4)) (C := RX7) (T := TX7) (N := 29) hx hb hts iX7 hown hK hP 0 rfl rfl 4 (by decide) f_23 (fun _ h9 => h9) rfl dX7_sell_83 ?_
                refine lv_iload hx hb dX7_sell_86 (lv_at hl 4 rfl) ?_
                refine cd_iald (f := S 7) hx hb hK hP 4 rfl (by omega) (by decide) dX7_sell_88 ?_
                have b_88 := iv_7 hI jp (by omega)
                refine cd_tp (y := nI (nv (S 7 jp))) b_88.1 ?_
                have b_88 := b_88.2
                refine cd_if_ne (tgt := 98) hx hb dX7_sell_89 (by decide) (by omega) (fun c_89 => ?_) (fun c_89 => ?_)
                · refine lv_aload_n hx hb dX7_sell_98 rfl (lv_at hl 0 rfl) ?_
                  refine va_get (D := D) (ci := 7) (v := .ref (g 14)) (C := RX7) (T := TX7) (N := 29) hx hb hts iX7 hown hK hP 0 rfl rfl 14 (by decide) f_47 (fun _ h9 => h9) rfl dX7_sell_99 ?_
                  refine lv_aload_n hx hb dX7_sell_102 rfl (lv_at hl 0 rfl) ?_
                  refine va_get (D := D) (ci := 7) (v := .int (S 31 0)) (C := RX7) (T := TX7) (N := 29) hx hb hts iX7 hown hK hP 0 rfl rfl 20 (by decide) f_147 (fun _ h9 => h9) rfl dX7_sell_103 ?_
                  have b_103 := iv_31 hI
                  refine cd_tp (y := nI (nv (S 31 0))) b_103.1 ?_
                  have b_103 := b_103.2
                  refine lv_iload_n hx hb dX7_sell_106 rfl (lv_at hl 1 rfl) ?_
                  refine cd_iast (f := S 21) hx hb hK hP hD hS 12 rfl (by omega) (by decide) dX7_sell_107 (fun H locs hP hD hS => ?_)
                  have hP : va_P D vwCl (wM cy g (va_up S 21 (upd (S 21) (nv (S 31 0)) (nI jw))) (va_up K 28 (fun _ => nI 0))) H := hP
                  have hD : va_D A (wM cy g (va_up S 21 (upd (S 21) (nv (S 31 0)) (nI jw))) (va_up K 28 (fun _ => nI 0))) := hD
                  refine lv_aload_n hx hb dX7_sell_108 rfl (lv_at hl 0 rfl) ?_
                  refine va_get (D := D) (ci := 7) (v := .ref (g 15)) (C := RX7) (T := TX7) (N := 29) hx hb hts iX7 hown hK hP 0 rfl rfl 15 (by decide) f_50 (fun _ h9 => h9) rfl dX7_sell_109 ?_
                  refine lv_aload_n hx hb dX7_sell_112 rfl (lv_at hl 0 rfl) ?_
                  refine va_get (D := D) (ci := 7) (v := .int (S 31 0)) (C := RX7) (T := TX7) (N := 29) hx hb hts iX7 hown hK hP 0 rfl rfl 20 (by decide) f_147 (fun _ h9 => h9) rfl dX7_sell_113 ?_
                  have b_113 := iv_31 hI
                  refine cd_tp (y := nI (nv (S 31 0))) b_113.1 ?_
                  have b_113 := b_113.2
                  refine lv_iload_n hx hb dX7_sell_116 rfl (lv_at hl 2 rfl) ?_
                  refine cd_iast (f := S 26) hx hb hK hP hD hS 13 rfl (by omega) (by decide) dX7_sell_117 (fun H locs hP hD hS => ?_)
                  have hP : va_P D vwCl (wM cy g (va_up (va_up S 21 (upd (S 21) (nv (S 31 0)) (nI jw))) 26 (upd (S 26) (nv (S 31 0)) pr)) (va_up K 28 (fun _ => nI 0))) H := hP
                  have hD : va_D A (wM cy g (va_up (va_up S 21 (upd (S 21) (nv (S 31 0)) (nI jw))) 26 (upd (S 26) (nv (S 31 0)) pr)) (va_up K 28 (fun _ => nI 0))) := hD
                  refine lv_aload_n hx hb dX7_sell_118 rfl (lv_at hl 0 rfl) ?_
                  refine va_get (D := D) (ci := 7) (v := .ref (g 16)) (C := RX7) (T := TX7) (N := 29) hx hb hts iX7 hown hK hP 0 rfl rfl 16 (by decide) f_53 (fun _ h9 => h9) rfl dX7_sell_119 ?_
                  refine lv_aload_n hx hb dX7_sell_122 rfl (lv_at hl 0 rfl) ?_
                  refine va_get (D := D) (ci := 7) (v := .int (S 31 0)) (C := RX7) (T := TX7) (N := 29) hx hb hts iX7 hown hK hP 0 rfl rfl 20 (by decide) f_147 (fun _ h9 => h9) rfl dX7_sell_123 ?_
                  have b_123 := iv_31 hI
                  refine cd_tp (y := nI (nv (S 31 0))) b_123.1 ?_
                  have b_123 := b_123.2
                  refine lv_iload_n hx hb dX7_sell_126 rfl (lv_at hl 3 rfl) ?_
                  refine cd_iast (f := S 22) hx hb hK hP hD hS 14 rfl (by omega) (by decide) dX7_sell_127 (fun H locs hP hD hS => ?_)
                  have hP : va_P D vwCl (wM cy g (va_up (va_up (va_up S 21 (upd (S 21) (nv (S 31 0)) (nI jw))) 26 (upd (S 26) (nv (S 31 0)) pr)) 22 (upd (S 22) (nv (S 31 0)) q)) (va_up K 28 (fun _ => nI 0))) H := hP
                  have hD : va_D A (wM cy g (va_up (va_up (va_up S 21 (upd (S 21) (nv (S 31 0)) (nI jw))) 26 (upd (S 26) (nv (S 31 0)) pr)) 22 (upd (S 22) (nv (S 31 0)) q)) (va_up K 28 (fun _ => nI 0))) := hD
                  refine lv_aload_n hx hb dX7_sell_128 rfl (lv_at hl 0 rfl) ?_
                  refine va_get (D := D) (ci := 7) (v := .ref (g 17)) (C := RX7) (T := TX7) (N := 29) hx hb hts iX7 hown hK hP 0 rfl rfl 17 (by decide) f_56 (fun _ h9 => h9) rfl dX7_sell_129 ?_
                  refine lv_aload_n hx hb dX7_sell_132 rfl (lv_at hl 0 rfl) ?_
                  refine va_get (D := D) (ci := 7) (v := .int (S 31 0)) (C := RX7) (T := TX7) (N := 29) hx hb hts iX7 hown hK hP 0 rfl rfl 20 (by decide) f_147 (fun _ h9 => h9) rfl dX7_sell_133 ?_
                  have b_133 := iv_31 hI
                  refine cd_tp (y := nI (nv (S 31 0))) b_133.1 ?_
                  have b_133 := b_133.2
                  refine lv_iload hx hb dX7_sell_136 (lv_at hl 4 rfl) ?_
                  refine cd_iast (f := S 23) hx hb hK hP hD hS 15 rfl (by omega) (by decide) dX7_sell_138 (fun H locs hP hD hS => ?_)
                  have hP : va_P D vwCl (wM cy g (va_up (va_up (va_up (va_up S 21 (upd (S 21) (nv (S 31 0)) (nI jw))) 26 (upd (S 26) (nv (S 31 0)) pr)) 22 (upd (S 22) (nv (S 31 0)) q)) 23 (upd (S 23) (nv (S 31 0)) (nI jp))) (va_up K 28 (fun _ => nI 0))) H := hP
                  have hD : va_D A (wM cy g (va_up (va_up (va_up (va_up S 21 (upd (S 21) (nv (S 31 0)) (nI jw))) 26 (upd (S 26) (nv (S 31 0)) pr)) 22 (upd (S 22) (nv (S 31 0)) q)) 23 (upd (S 23) (nv (S 31 0)) (nI jp))) (va_up K 28 (fun _ => nI 0))) := hD
                  refine lv_aload_n hx hb dX7_sell_139 rfl (lv_at hl 0 rfl) ?_
                  refine va_get (D := D) (ci := 7) (v := .ref (g 18)) (C := RX7) (T := TX7) (N := 29) hx hb hts iX7 hown hK hP 0 rfl rfl 18 (by decide) f_59 (fun _ h9 => h9) rfl dX7_sell_140 ?_
                  refine lv_aload_n hx hb dX7_sell_143 rfl (lv_at hl 0 rfl) ?_
                  refine va_get (D := D) (ci := 7) (v := .int (S 31 0)) (C := RX7) (T := TX7) (N := 29) hx hb hts iX7 hown hK hP 0 rfl rfl 20 (by decide) f_147 (fun _ h9 => h9) rfl dX7_sell_144 ?_
                  have b_144 := iv_31 hI
                  refine cd_tp (y := nI (nv (S 31 0))) b_144.1 ?_
                  have b_144 := b_144.2
                  refine lv_aload_n hx hb dX7_sell_147 rfl (lv_at hl 0 rfl) ?_
                  refine va_get (D := D) (ci := 7) (v := .ref (g 4)) (C := RX7) (T := TX7) (N := 29) hx hb hts iX7 hown hK hP 0 rfl rfl 4 (by decide) f_23 (fun _ h9 => h9) rfl dX7_sell_148 ?_
                  refine lv_iload hx hb dX7_sell_151 (lv_at hl 4 rfl) ?_
                  refine cd_iald (f := S 7) hx hb hK hP 4 rfl (by omega) (by decide) dX7_sell_153 ?_
                  have b_153 := iv_7 hI jp (by omega)
                  refine cd_tp (y := nI (nv (S 7 jp))) b_153.1 ?_
                  have b_153 := b_153.2
                  refine cd_if_ne (tgt := 161) hx hb dX7_sell_154 (by decide) (by omega) (fun c_154 => ?_) (fun c_154 => ?_)
                  · refine lv_aload_n hx hb dX7_sell_161 rfl (lv_at hl 0 rfl) ?_
                    refine va_get (D := D) (ci := 7) (v := .ref (g 3)) (C := RX7) (T := TX7) (N := 29) hx hb hts iX7 hown hK hP 0 rfl rfl 3 (by decide) f_20 (fun _ h9 => h9) rfl dX7_sell_162 ?_
                    refine lv_iconst (v := nI 4) hx hb dX7_sell_165 (by decide) ?_
                    refine lv_iload hx hb dX7_sell_166 (lv_at hl 4 rfl) ?_
                    refine cd_imul hx hb dX7_sell_168 ?_
                    refine cd_iald (f := S 6) hx hb hK hP 3 rfl (by omega) (by decide) dX7_sell_169 ?_
                    refine cd_tp (y := acI S jp 0) (ac_v (by omega)) ?_
                    refine cd_iast (f := S 24) hx hb hK hP hD hS 16 rfl (by omega) (by decide) dX7_sell_170 (fun H locs hP hD hS => ?_)
                    have hP : va_P D vwCl (wM cy g (va_up (va_up (va_up (va_up (va_up S 21 (upd (S 21) (nv (S 31 0)) (nI jw))) 26 (upd (S 26) (nv (S 31 0)) pr)) 22 (upd (S 22) (nv (S 31 0)) q)) 23 (upd (S 23) (nv (S 31 0)) (nI jp))) 24 (upd (S 24) (nv (S 31 0)) (acI S jp 0))) (va_up K 28 (fun _ => nI 0))) H := hP
                    have hD : va_D A (wM cy g (va_up (va_up (va_up (va_up (va_up S 21 (upd (S 21) (nv (S 31 0)) (nI jw))) 26 (upd (S 26) (nv (S 31 0)) pr)) 22 (upd (S 22) (nv (S 31 0)) q)) 23 (upd (S 23) (nv (S 31 0)) (nI jp))) 24 (upd (S 24) (nv (S 31 0)) (acI S jp 0))) (va_up K 28 (fun _ => nI 0))) := hD
                    refine lv_aload_n hx hb dX7_sell_171 rfl (lv_at hl 0 rfl) ?_
                    refine lv_dup hx hb dX7_sell_172 rfl ?_
                    refine va_get (D := D) (ci := 7) (v := .int (S 32 0)) (C := RX7) (T := TX7) (N := 29) hx hb hts iX7 hown hK hP 0 rfl rfl 22 (by decide) f_150 (fun _ h9 => h9) rfl dX7_sell_173 ?_
                    refine lv_iload_n hx hb dX7_sell_176 rfl (lv_at hl 2 rfl) ?_
                    refine lv_iadd hx hb dX7_sell_177 ?_
                    refine va_put (D := D) (ci := 7) (v := .int ((S 32 0) + pr)) (ty := .int) (C := RX7) (T := TX7) (N := 29) hx hb hts iX7 tyX7 tyX7_ok nmX7 hown hK hP hD hS 0 rfl rfl 22 (by decide) f_150 (fun _ h9 => h9) rfl (by decide +kernel) rfl rfl (Nat.le_of_ble_eq_true rfl) dX7_sell_178 (fun H locs hP hD hS => ?_)
                    have hP : va_P D vwCl (wM cy g (va_up (va_up (va_up (va_up (va_up (va_up S 21 (upd (S 21) (nv (S 31 0)) (nI jw))) 26 (upd (S 26) (nv (S 31 0)) pr)) 22 (upd (S 22) (nv (S 31 0)) q)) 23 (upd (S 23) (nv (S 31 0)) (nI jp))) 24 (upd (S 24) (nv (S 31 0)) (acI S jp 0))) 32 (fun _ => (S 32 0) + pr)) (va_up K 28 (fun _ => nI 0))) H := hP
                    have hD : va_D A (wM cy g (va_up (va_up (va_up (va_up (va_up (va_up S 21 (upd (S 21) (nv (S 31 0)) (nI jw))) 26 (upd (S 26) (nv (S 31 0)) pr)) 22 (upd (S 22) (nv (S 31 0)) q)) 23 (upd (S 23) (nv (S 31 0)) (nI jp))) 24 (upd (S 24) (nv (S 31 0)) (acI S jp 0))) 32 (fun _ => (S 32 0) + pr)) (va_up K 28 (fun _ => nI 0))) := hD
                    refine lv_aload_n hx hb dX7_sell_181 rfl (lv_at hl 0 rfl) ?_
                    refine lv_dup hx hb dX7_sell_182 rfl ?_
                    refine va_get (D := D) (ci := 7) (v := .int (S 31 0)) (C := RX7) (T := TX7) (N := 29) hx hb hts iX7 hown hK hP 0 rfl rfl 20 (by decide) f_147 (fun _ h9 => h9) rfl dX7_sell_183 ?_
                    have b_183 := iv_31 hI
                    refine cd_tp (y := nI (nv (S 31 0))) b_183.1 ?_
                    have b_183 := b_183.2
                    refine lv_iconst (v := nI 1) hx hb dX7_sell_186 (by decide) ?_
                    refine cd_iadd hx hb dX7_sell_187 ?_
                    refine va_put (D := D) (ci := 7) (v := .int (nI ((nv (S 31 0)) + 1))) (ty := .int) (C := RX7) (T := TX7) (N := 29) hx hb hts iX7 tyX7 tyX7_ok nmX7 hown hK hP hD hS 0 rfl rfl 20 (by decide) f_147 (fun _ h9 => h9) rfl (by decide +kernel) rfl rfl (Nat.le_of_ble_eq_true rfl) dX7_sell_188 (fun H locs hP hD hS => ?_)
                    have hP : va_P D vwCl (wM cy g (va_up (va_up (va_up (va_up (va_up (va_up (va_up S 21 (upd (S 21) (nv (S 31 0)) (nI jw))) 26 (upd (S 26) (nv (S 31 0)) pr)) 22 (upd (S 22) (nv (S 31 0)) q)) 23 (upd (S 23) (nv (S 31 0)) (nI jp))) 24 (upd (S 24) (nv (S 31 0)) (acI S jp 0))) 32 (fun _ => (S 32 0) + pr)) 31 (fun _ => nI ((nv (S 31 0)) + 1))) (va_up K 28 (fun _ => nI 0))) H := hP
                    have hD : va_D A (wM cy g (va_up (va_up (va_up (va_up (va_up (va_up (va_up S 21 (upd (S 21) (nv (S 31 0)) (nI jw))) 26 (upd (S 26) (nv (S 31 0)) pr)) 22 (upd (S 22) (nv (S 31 0)) q)) 23 (upd (S 23) (nv (S 31 0)) (nI jp))) 24 (upd (S 24) (nv (S 31 0)) (acI S jp 0))) 32 (fun _ => (S 32 0) + pr)) 31 (fun _ => nI ((nv (S 31 0)) + 1))) (va_up K 28 (fun _ => nI 0))) := hD
                    refine lv_aload_n hx hb dX7_sell_191 rfl (lv_at hl 0 rfl) ?_
                    refine va_get (D := D) (ci := 7) (v := .int (nI ((nv (S 31 0)) + 1))) (C := RX7) (T := TX7) (N := 29) hx hb hts iX7 hown hK hP 0 rfl rfl 20 (by decide) f_147 (fun _ h9 => h9) rfl dX7_sell_192 ?_
                    refine lv_iconst (v := nI 1) hx hb dX7_sell_195 (by decide) ?_
                    refine cd_isub hx hb (by omega) dX7_sell_196 ?_
                    exact W.iret (v := nI (((nv (S 31 0)) + 1) - 1)) hx hb hr (fun t ht hW => ⟨⟨nI (((nv (S 31 0)) + 1) - 1), (_, (va_up K 28 (fun _ => nI 0))), rfl, mO_ok (by rw [c_16, c_24, c_41, c_50, decide_eq_true c_65, decide_eq_true (show nv (S 31 0) < 100 by omega), ac_1 hI (by omega) c_89, Bool.and_false]; rfl) (by rw [Nat.add_sub_cancel]) rfl, by rw [ht]; exact hP, hD⟩, hS.F ht⟩) hS.2.2 dX7_sell_197
                  · refine lv_iconst (v := (-1)) hx hb dX7_sell_157 (by decide) ?_
                    refine lv_goto (tgt := 170) hx hb dX7_sell_158 (by decide) ?_
                    refine cd_tp (y := acI S jp 0) (ac_n (by omega)) ?_
                    refine cd_iast (f := S 24) hx hb hK hP hD hS 16 rfl (by omega) (by decide) dX7_sell_170 (fun H locs hP hD hS => ?_)
                    have hP : va_P D vwCl (wM cy g (va_up (va_up (va_up (va_up (va_up S 21 (upd (S 21) (nv (S 31 0)) (nI jw))) 26 (upd (S 26) (nv (S 31 0)) pr)) 22 (upd (S 22) (nv (S 31 0)) q)) 23 (upd (S 23) (nv (S 31 0)) (nI jp))) 24 (upd (S 24) (nv (S 31 0)) (acI S jp 0))) (va_up K 28 (fun _ => nI 0))) H := hP
                    have hD : va_D A (wM cy g (va_up (va_up (va_up (va_up (va_up S 21 (upd (S 21) (nv (S 31 0)) (nI jw))) 26 (upd (S 26) (nv (S 31 0)) pr)) 22 (upd (S 22) (nv (S 31 0)) q)) 23 (upd (S 23) (nv (S 31 0)) (nI jp))) 24 (upd (S 24) (nv (S 31 0)) (acI S jp 0))) (va_up K 28 (fun _ => nI 0))) := hD
                    refine lv_aload_n hx hb dX7_sell_171 rfl (lv_at hl 0 rfl) ?_
                    refine lv_dup hx hb dX7_sell_172 rfl ?_
                    refine va_get (D := D) (ci := 7) (v := .int (S 32 0)) (C := RX7) (T := TX7) (N := 29) hx hb hts iX7 hown hK hP 0 rfl rfl 22 (by decide) f_150 (fun _ h9 => h9) rfl dX7_sell_173 ?_
                    refine lv_iload_n hx hb dX7_sell_176 rfl (lv_at hl 2 rfl) ?_
                    refine lv_iadd hx hb dX7_sell_177 ?_
                    refine va_put (D := D) (ci := 7) (v := .int ((S 32 0) + pr)) (ty := .int) (C := RX7) (T := TX7) (N := 29) hx hb hts iX7 tyX7 tyX7_ok nmX7 hown hK hP hD hS 0 rfl rfl 22 (by decide) f_150 (fun _ h9 => h9) rfl (by decide +kernel) rfl rfl (Nat.le_of_ble_eq_true rfl) dX7_sell_178 (fun H locs hP hD hS => ?_)
                    have hP : va_P D vwCl (wM cy g (va_up (va_up (va_up (va_up (va_up (va_up S 21 (upd (S 21) (nv (S 31 0)) (nI jw))) 26 (upd (S 26) (nv (S 31 0)) pr)) 22 (upd (S 22) (nv (S 31 0)) q)) 23 (upd (S 23) (nv (S 31 0)) (nI jp))) 24 (upd (S 24) (nv (S 31 0)) (acI S jp 0))) 32 (fun _ => (S 32 0) + pr)) (va_up K 28 (fun _ => nI 0))) H := hP
                    have hD : va_D A (wM cy g (va_up (va_up (va_up (va_up (va_up (va_up S 21 (upd (S 21) (nv (S 31 0)) (nI jw))) 26 (upd (S 26) (nv (S 31 0)) pr)) 22 (upd (S 22) (nv (S 31 0)) q)) 23 (upd (S 23) (nv (S 31 0)) (nI jp))) 24 (upd (S 24) (nv (S 31 0)) (acI S jp 0))) 32 (fun _ => (S 32 0) + pr)) (va_up K 28 (fun _ => nI 0))) := hD
                    refine lv_aload_n hx hb dX7_sell_181 rfl (lv_at hl 0 rfl) ?_
                    refine lv_dup hx hb dX7_sell_182 rfl ?_
                    refine va_get (D := D) (ci := 7) (v := .int (S 31 0)) (C := RX7) (T := TX7) (N := 29) hx hb hts iX7 hown hK hP 0 rfl rfl 20 (by decide) f_147 (fun _ h9 => h9) rfl dX7_sell_183 ?_
                    have b_183 := iv_31 hI
                    refine cd_tp (y := nI (nv (S 31 0))) b_183.1 ?_
                    have b_183 := b_183.2
                    refine lv_iconst (v := nI 1) hx hb dX7_sell_186 (by decide) ?_
                    refine cd_iadd hx hb dX7_sell_187 ?_
                    refine va_put (D := D) (ci := 7) (v := .int (nI ((nv (S 31 0)) + 1))) (ty := .int) (C := RX7) (T := TX7) (N := 29) hx hb hts iX7 tyX7 tyX7_ok nmX7 hown hK hP hD hS 0 rfl rfl 20 (by decide) f_147 (fun _ h9 => h9) rfl (by decide +kernel) rfl rfl (Nat.le_of_ble_eq_true rfl) dX7_sell_188 (fun H locs hP hD hS => ?_)
                    have hP : va_P D vwCl (wM cy g (va_up (va_up (va_up (va_up (va_up (va_up (va_up S 21 (upd (S 21) (nv (S 31 0)) (nI jw))) 26 (upd (S 26) (nv (S 31 0)) pr)) 22 (upd (S 22) (nv (S 31 0)) q)) 23 (upd (S 23) (nv (S 31 0)) (nI jp))) 24 (upd (S 24) (nv (S 31 0)) (acI S jp 0))) 32 (fun _ => (S 32 0) + pr)) 31 (fun _ => nI ((nv (S 31 0)) + 1))) (va_up K 28 (fun _ => nI 0))) H := hP
                    have hD : va_D A (wM cy g (va_up (va_up (va_up (va_up (va_up (va_up (va_up S 21 (upd (S 21) (nv (S 31 0)) (nI jw))) 26 (upd (S 26) (nv (S 31 0)) pr)) 22 (upd (S 22) (nv (S 31 0)) q)) 23 (upd (S 23) (nv (S 31 0)) (nI jp))) 24 (upd (S 24) (nv (S 31 0)) (acI S jp 0))) 32 (fun _ => (S 32 0) + pr)) 31 (fun _ => nI ((nv (S 31 0)) + 1))) (va_up K 28 (fun _ => nI 0))) := hD
                    refine lv_aload_n hx hb dX7_sell_191 rfl (lv_at hl 0 rfl) ?_
                    refine va_get (D := D) (ci := 7) (v := .int (nI ((nv (S 31 0)) + 1))) (C := RX7) (T := TX7) (N := 29) hx hb hts iX7 hown hK hP 0 rfl rfl 20 (by decide) f_147 (fun _ h9 => h9) rfl dX7_sell_192 ?_
                    refine lv_iconst (v := nI 1) hx hb dX7_sell_195 (by decide) ?_
                    refine cd_isub hx hb (by omega) dX7_sell_196 ?_
                    exact W.iret (v := nI (((nv (S 31 0)) + 1) - 1)) hx hb hr (fun t ht hW => ⟨⟨nI (((nv (S 31 0)) + 1) - 1), (_, (va_up K 28 (fun _ => nI 0))), rfl, mO_ok (by rw [c_16, c_24, c_41, c_50, decide_eq_true c_65, decide_eq_true (show nv (S 31 0) < 100 by omega), ac_1 hI (by omega) c_89, Bool.and_false]; rfl) (by rw [Nat.add_sub_cancel]) rfl, by rw [ht]; exact hP, hD⟩, hS.F ht⟩) hS.2.2 dX7_sell_197
                · refine lv_aload_n hx hb dX7_sell_92 rfl (lv_at hl 0 rfl) ?_
                  refine lv_iconst (v := nI 3) hx hb dX7_sell_93 (by decide) ?_
                  have M_94 := c_X7_fails l D cy g S (va_up K 28 (fun _ => nI 0)) (nI 3) H.size
                  refine cd_fri (S := Unit) (W1 := fun u => (wM cy g S (va_up (va_up K 28 (fun _ => nI 0)) 28 (fun _ => (nI 3))))) (ws' := fun u => (wM cy g S (va_up K 28 (fun _ => (nI 3))))) (wc := (wM cy g S (va_up K 28 (fun _ => nI 0)))) (wr := []) (va_runV (As := [.int (nI 3)]) (rest := []) ⟨hx, hb, hml, hown, hts⟩ M_94 (cwV 1 hts gX7_sell_X7_fails rfl rfl rfl (by decide +kernel) ⟨Nat.le_of_ble_eq_true rfl, Nat.le_of_ble_eq_true rfl⟩) ⟨wrB.bl, va_recv hK hP (ci := 7) (q0 := 0) rfl rfl, fun U hU hW => ⟨rfl, by rw [hU], by rw [hU]; exact hP, hG.warm hW, hD.weaken (fun _ _ _ _ => trivial)⟩⟩ rfl rfl hl.1 rfl (lv_room (Nat.le_of_ble_eq_true rfl)) dX7_sell_94 (by exact ⟨Nat.zero_le _, Nat.zero_le _⟩)) hP hD hS hA [0, 1, 2, 3, 4, 5, 6, 7, 8, 9, 10, 11, 12, 13, 14, 15, 16, 17, 18, 19, 20] [] [0, 1, 2, 3, 4, 5, 6, 7, 8, 9, 10, 11, 12, 13, 14, 15, 16, 17, 18, 19, 20] rfl rfl (by decide) (by decide) (by decide) (fun _ => rfl) (fun r_94 _ H locs hw_94 hP hD hS => ?_)
                  subst hw_94
                  have hP : va_P D vwCl (wM cy g S (va_up K 28 (fun _ => (nI 3)))) H := hP
                  have hD : va_D A (wM cy g S (va_up K 28 (fun _ => (nI 3)))) := hD
                  exact W.iret (v := nI 0) hx hb hr (fun t ht hW => ⟨⟨nI 0, (S, (va_up K 28 (fun _ => (nI 3)))), rfl, mO_no (k := 3) (by decide) (by decide) (by rw [c_16, c_24, c_41, c_50, decide_eq_true c_65, decide_eq_true (show nv (S 31 0) < 100 by omega), decide_eq_true c_79, ac_0 c_89]; rfl) rfl, by rw [ht]; exact hP, hD⟩, hS.F ht⟩) hS.2.2 dX7_sell_97
        · refine lv_aload_n hx hb dX7_sell_53 rfl (lv_at hl 0 rfl) ?_
          refine lv_iconst (v := nI 2) hx hb dX7_sell_54 (by decide) ?_
          have M_55 := c_X7_fails l D cy g S (va_up K 28 (fun _ => nI 0)) (nI 2) H.size
          refine cd_fri (S := Unit) (W1 := fun u => (wM cy g S (va_up (va_up K 28 (fun _ => nI 0)) 28 (fun _ => (nI 2))))) (ws' := fun u => (wM cy g S (va_up K 28 (fun _ => (nI 2))))) (wc := (wM cy g S (va_up K 28 (fun _ => nI 0)))) (wr := []) (va_runV (As := [.int (nI 2)]) (rest := []) ⟨hx, hb, hml, hown, hts⟩ M_55 (cwV 1 hts gX7_sell_X7_fails rfl rfl rfl (by decide +kernel) ⟨Nat.le_of_ble_eq_true rfl, Nat.le_of_ble_eq_true rfl⟩) ⟨wrB.bl, va_recv hK hP (ci := 7) (q0 := 0) rfl rfl, fun U hU hW => ⟨rfl, by rw [hU], by rw [hU]; exact hP, hG.warm hW, hD.weaken (fun _ _ _ _ => trivial)⟩⟩ rfl rfl hl.1 rfl (lv_room (Nat.le_of_ble_eq_true rfl)) dX7_sell_55 (by exact ⟨Nat.zero_le _, Nat.zero_le _⟩)) hP hD hS hA [0, 1, 2, 3, 4, 5, 6, 7, 8, 9, 10, 11, 12, 13, 14, 15, 16, 17, 18, 19, 20] [] [0, 1, 2, 3, 4, 5, 6, 7, 8, 9, 10, 11, 12, 13, 14, 15, 16, 17, 18, 19, 20] rfl rfl (by decide) (by decide) (by decide) (fun _ => rfl) (fun r_55 _ H locs hw_55 hP hD hS => ?_)
          subst hw_55
          have hP : va_P D vwCl (wM cy g S (va_up K 28 (fun _ => (nI 2)))) H := hP
          have hD : va_D A (wM cy g S (va_up K 28 (fun _ => (nI 2)))) := hD
          exact W.iret (v := nI 0) hx hb hr (fun t ht hW => ⟨⟨nI 0, (S, (va_up K 28 (fun _ => (nI 2)))), rfl, mO_no (k := 2) (by decide) (by decide) (by rw [c_16, c_24, c_41, c_50]; rfl) rfl, by rw [ht]; exact hP, hD⟩, hS.F ht⟩) hS.2.2 dX7_sell_58
    · refine lv_aload_n hx hb dX7_sell_27 rfl (lv_at hl 0 rfl) ?_
      refine lv_iconst (v := nI 1) hx hb dX7_sell_28 (by decide) ?_
      have M_29 := c_X7_fails l D cy g S (va_up K 28 (fun _ => nI 0)) (nI 1) H.size
      refine cd_fri (S := Unit) (W1 := fun u => (wM cy g S (va_up (va_up K 28 (fun _ => nI 0)) 28 (fun _ => (nI 1))))) (ws' := fun u => (wM cy g S (va_up K 28 (fun _ => (nI 1))))) (wc := (wM cy g S (va_up K 28 (fun _ => nI 0)))) (wr := []) (va_runV (As := [.int (nI 1)]) (rest := []) ⟨hx, hb, hml, hown, hts⟩ M_29 (cwV 1 hts gX7_sell_X7_fails rfl rfl rfl (by decide +kernel) ⟨Nat.le_of_ble_eq_true rfl, Nat.le_of_ble_eq_true rfl⟩) ⟨wrB.bl, va_recv hK hP (ci := 7) (q0 := 0) rfl rfl, fun U hU hW => ⟨rfl, by rw [hU], by rw [hU]; exact hP, hG.warm hW, hD.weaken (fun _ _ _ _ => trivial)⟩⟩ rfl rfl hl.1 rfl (lv_room (Nat.le_of_ble_eq_true rfl)) dX7_sell_29 (by exact ⟨Nat.zero_le _, Nat.zero_le _⟩)) hP hD hS hA [0, 1, 2, 3, 4, 5, 6, 7, 8, 9, 10, 11, 12, 13, 14, 15, 16, 17, 18, 19, 20] [] [0, 1, 2, 3, 4, 5, 6, 7, 8, 9, 10, 11, 12, 13, 14, 15, 16, 17, 18, 19, 20] rfl rfl (by decide) (by decide) (by decide) (fun _ => rfl) (fun r_29 _ H locs hw_29 hP hD hS => ?_)
      subst hw_29
      have hP : va_P D vwCl (wM cy g S (va_up K 28 (fun _ => (nI 1)))) H := hP
      have hD : va_D A (wM cy g S (va_up K 28 (fun _ => (nI 1)))) := hD
      exact W.iret (v := nI 0) hx hb hr (fun t ht hW => ⟨⟨nI 0, (S, (va_up K 28 (fun _ => (nI 1)))), rfl, mO_no (k := 1) (by decide) (by decide) (by rw [c_16, c_24]; rfl) rfl, by rw [ht]; exact hP, hD⟩, hS.F ht⟩) hS.2.2 dX7_sell_32
