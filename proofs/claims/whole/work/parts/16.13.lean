set_option maxHeartbeats 4000000 in
set_option maxRecDepth 100000 in
theorem c_X7_put (l : Launch) (D : va_G) (cy : qT) (g : Nat → Nat) (S : qS) (K : qS) (hI : Inv S) (p : Int32) (a : Int32) (sz : Nat) : Met l yX7_put wsX7_put ({ frames := 2, cells := 0, slots := 0, locals := 42 }) (va_Pc [.ref (g 0), .int p, .int a] (wrB D cy (wM cy g S K) sz)) (va_Qi (fun (r9 : Int32) (u : qS × qS) => mO (th2 (inI p (nI 0) (nI 7) && inI a (nI 0) (nI 11)) (!rkB S (nv p) a && !decide (4 ≤ nv (S 7 (nv p))))) (nI (nv (S 7 (nv p)))) (va_up (va_up S 6 (upd (S 6) (nv p * 4 + nv (S 7 (nv p))) a)) 7 (upd (S 7) (nv p) (nI (nv (S 7 (nv p)) + 1)))) S r9 u) (wrQ D (va_A (wM cy g S K) sz) (fun u : qS × qS => wM cy g u.1 u.2)) (va_A (wM cy g S K) sz)) 0 0 (va_A (wM cy g S K) sz) := by
  refine Met.ofW (cc := cX7_put) (maxL := 3) (ret := (some .int)) (by decide) rfl ?_
  intro pp e9 s m9 args9 bl9 meth9 c9 s9 B hml hv
  obtain ⟨rfl, hsz, hP, hG, hD0⟩ := hv
  have hx := B.exec
  have hb := B.bytes
  have hr := B.returns
  have hts := atoms_spec (ws := wsX7_put) B.pre
  have hown : s.vm.findClass RX7 = some m9.cls := findClass_of_methodNamed B.named
  have hlocks := B.notSynchronized
  have hK := hG.K
  subst hsz
  have hD := hD0.self (sz := s.heap.size)
  generalize hAe : (va_A (wM cy g S K) s.heap.size) = A at hD ⊢
  have hA : ∀ q : Nat, s.heap.size ≤ q → A q := fun q h9 => by rw [← hAe]; exact Or.inr h9
  have hS : va_S A s.heap s.heap [] := va_S.rf
  have hP : va_P D vwCl (wM cy g S K) s.heap := hP
  have f_74 := hts (.fieldLink RX7 74 "CastDeskModel" "thrown" "I") (by decide +kernel)
  have f_23 := hts (.fieldLink RX7 23 "CastDeskModel" "lengths" "[I") (by decide +kernel)
  have f_20 := hts (.fieldLink RX7 20 "CastDeskModel" "rows" "[I") (by decide +kernel)
  have iX7 : ∀ w ∈ wsX70, w ∈ wsX7_put := by decide +kernel
  have hl := lv_entry ([.ref (g 0), .int p, .int a]) (n := 3) (Nat.le_of_ble_eq_true rfl)
  rw [lg_entry_eq]
  generalize (lg_sl ([.ref (g 0), .int p, .int a]) ++ List.replicate (3 - (lg_sl ([.ref (g 0), .int p, .int a])).length) Slot.unset).toArray = ls at hl ⊢
  have hl : lv_has ls 3 [(0, .ref (g 0)), (1, .int p), (2, .int a)] := hl
  refine lv_aload_n hx hb dX7_put_0 rfl (lv_at hl 0 rfl) ?_
  refine lv_iconst (v := nI 0) hx hb dX7_put_1 (by decide) ?_
  refine va_put (D := D) (ci := 7) (v := .int (nI 0)) (ty := .int) (C := RX7) (T := TX7) (N := 29) hx hb hts iX7 tyX7 tyX7_ok nmX7 hown hK hP hD hS 0 rfl rfl 28 (by decide) f_74 (fun _ h9 => h9) rfl (by decide +kernel) rfl rfl (Nat.le_of_ble_eq_true rfl) dX7_put_2 (fun H locs hP hD hS => ?_)
  have hP : va_P D vwCl (wM cy g S (va_up K 28 (fun _ => nI 0))) H := hP
  have hD : va_D A (wM cy g S (va_up K 28 (fun _ => nI 0))) := hD
  refine lv_iload_n hx hb dX7_put_5 rfl (lv_at hl 1 rfl) ?_
  have M_6 := c_X7_isPart l p
  refine cd_roi (va_runS (As := [.int p]) (rest := []) ⟨hx, hb, hml, hown, hts⟩ M_6 (va_cwS 1 hts gX7_put_X7_isPart rfl rfl rfl (by decide +kernel) ⟨Nat.le_of_ble_eq_true rfl, Nat.le_of_ble_eq_true rfl⟩) ⟨nuB.bl, fun U hU hW => ⟨rfl, trivial⟩⟩ rfl rfl hl.1 rfl (lv_room (Nat.le_of_ble_eq_true rfl)) dX7_put_6 (by exact ⟨Nat.zero_le _, Nat.zero_le _⟩)) (fun r_6 hr_6 => ?_)
  subst hr_6
  refine cd_ifB_eq (tgt := 19) hx hb dX7_put_9 (by decide) (fun c_9 => ?_) (fun c_9 => ?_)
  · refine lv_aload_n hx hb dX7_put_19 rfl (lv_at hl 0 rfl) ?_
    refine lv_iconst (v := nI 1) hx hb dX7_put_20 (by decide) ?_
    have M_21 := c_X7_fails l D cy g S (va_up K 28 (fun _ => nI 0)) (nI 1) H.size
    refine cd_fri (S := Unit) (W1 := fun u => (wM cy g S (va_up (va_up K 28 (fun _ => nI 0)) 28 (fun _ => (nI 1))))) (ws' := fun u => (wM cy g S (va_up K 28 (fun _ => (nI 1))))) (wc := (wM cy g S (va_up K 28 (fun _ => nI 0)))) (wr := []) (va_runV (As := [.int (nI 1)]) (rest := []) ⟨hx, hb, hml, hown, hts⟩ M_21 (cwV 1 hts gX7_put_X7_fails rfl rfl rfl (by decide +kernel) ⟨Nat.le_of_ble_eq_true rfl, Nat.le_of_ble_eq_true rfl⟩) ⟨wrB.bl, va_recv hK hP (ci := 7) (q0 := 0) rfl rfl, fun U hU hW => ⟨rfl, by rw [hU], by rw [hU]; exact hP, hG.warm hW, hD.weaken (fun _ _ _ _ => trivial)⟩⟩ rfl rfl hl.1 rfl (lv_room (Nat.le_of_ble_eq_true rfl)) dX7_put_21 (by exact ⟨Nat.zero_le _, Nat.zero_le _⟩)) hP hD hS hA [0, 1, 2, 3, 4, 5, 6, 7, 8, 9, 10, 11, 12, 13, 14, 15, 16, 17, 18, 19, 20] [] [0, 1, 2, 3, 4, 5, 6, 7, 8, 9, 10, 11, 12, 13, 14, 15, 16, 17, 18, 19, 20] rfl rfl (by decide) (by decide) (by decide) (fun _ => rfl) (fun r_21 _ H locs hw_21 hP hD hS => ?_)
    subst hw_21
    have hP : va_P D vwCl (wM cy g S (va_up K 28 (fun _ => (nI 1)))) H := hP
    have hD : va_D A (wM cy g S (va_up K 28 (fun _ => (nI 1)))) := hD
    exact W.iret (v := nI 0) hx hb hr (fun t ht hW => ⟨⟨nI 0, (S, (va_up K 28 (fun _ => (nI 1)))), rfl, mO_no (k := 1) (by decide) (by decide) (by rw [c_9]; rfl) rfl, by rw [ht]; exact hP, hD⟩, hS.F ht⟩) hS.2.2 dX7_put_24
  · obtain ⟨jp, hjp, rfl⟩ := inI_nat (by decide) c_9
    try rw [nv_nI (show jp < 2147483648 by omega)]
    refine lv_iload_n hx hb dX7_put_12 rfl (lv_at hl 2 rfl) ?_
    have M_13 := c_X7_isActor l a
    refine cd_roi (va_runS (As := [.int a]) (rest := []) ⟨hx, hb, hml, hown, hts⟩ M_13 (va_cwS 1 hts gX7_put_X7_isActor rfl rfl rfl (by decide +kernel) ⟨Nat.le_of_ble_eq_true rfl, Nat.le_of_ble_eq_true rfl⟩) ⟨nuB.bl, fun U hU hW => ⟨rfl, trivial⟩⟩ rfl rfl hl.1 rfl (lv_room (Nat.le_of_ble_eq_true rfl)) dX7_put_13 (by exact ⟨Nat.zero_le _, Nat.zero_le _⟩)) (fun r_13 hr_13 => ?_)
    subst hr_13
    refine cd_ifB_ne (tgt := 25) hx hb dX7_put_16 (by decide) (fun c_16 => ?_) (fun c_16 => ?_)
    · obtain ⟨ja, hja, rfl⟩ := inI_nat (by decide) c_16
      try rw [nv_nI (show ja < 2147483648 by omega)]
      refine lv_aload_n hx hb dX7_put_25 rfl (lv_at hl 0 rfl) ?_
      refine lv_iload_n hx hb dX7_put_26 rfl (lv_at hl 1 rfl) ?_
      refine lv_iload_n hx hb dX7_put_27 rfl (lv_at hl 2 rfl) ?_
      have M_28 := c_X7_rankOf l D cy g S (va_up K 28 (fun _ => nI 0)) hI jp (nI ja) (by omega)
      refine cd_roi (va_runV (As := [.int (nI jp), .int (nI ja)]) (rest := []) ⟨hx, hb, hml, hown, hts⟩ M_28 (cwV 2 hts gX7_put_X7_rankOf rfl rfl rfl (by decide +kernel) ⟨Nat.le_of_ble_eq_true rfl, Nat.le_of_ble_eq_true rfl⟩) ⟨roB.bl, va_recv hK hP (ci := 7) (q0 := 0) rfl rfl, fun U hU hW => ⟨rfl, by rw [hU]; exact hP, hG.warm hW⟩⟩ rfl rfl hl.1 rfl (lv_room (Nat.le_of_ble_eq_true rfl)) dX7_put_28 (by exact ⟨Nat.zero_le _, Nat.zero_le _⟩)) (fun r_28 hr_28 => ?_)
      subst hr_28
      refine lv_iconst (v := (-1)) hx hb dX7_put_31 (by decide) ?_
      refine lv_icmp_ne (tgt := 45) hx hb dX7_put_32 (by decide) (fun c_32 => ?_) (fun c_32 => ?_)
      · refine lv_aload_n hx hb dX7_put_45 rfl (lv_at hl 0 rfl) ?_
        refine lv_iconst (v := nI 2) hx hb dX7_put_46 (by decide) ?_
        have M_47 := c_X7_fails l D cy g S (va_up K 28 (fun _ => nI 0)) (nI 2) H.size
        refine cd_fri (S := Unit) (W1 := fun u => (wM cy g S (va_up (va_up K 28 (fun _ => nI 0)) 28 (fun _ => (nI 2))))) (ws' := fun u => (wM cy g S (va_up K 28 (fun _ => (nI 2))))) (wc := (wM cy g S (va_up K 28 (fun _ => nI 0)))) (wr := []) (va_runV (As := [.int (nI 2)]) (rest := []) ⟨hx, hb, hml, hown, hts⟩ M_47 (cwV 1 hts gX7_put_X7_fails rfl rfl rfl (by decide +kernel) ⟨Nat.le_of_ble_eq_true rfl, Nat.le_of_ble_eq_true rfl⟩) ⟨wrB.bl, va_recv hK hP (ci := 7) (q0 := 0) rfl rfl, fun U hU hW => ⟨rfl, by rw [hU], by rw [hU]; exact hP, hG.warm hW, hD.weaken (fun _ _ _ _ => trivial)⟩⟩ rfl rfl hl.1 rfl (lv_room (Nat.le_of_ble_eq_true rfl)) dX7_put_47 (by exact ⟨Nat.zero_le _, Nat.zero_le _⟩)) hP hD hS hA [0, 1, 2, 3, 4, 5, 6, 7, 8, 9, 10, 11, 12, 13, 14, 15, 16, 17, 18, 19, 20] [] [0, 1, 2, 3, 4, 5, 6, 7, 8, 9, 10, 11, 12, 13, 14, 15, 16, 17, 18, 19, 20] rfl rfl (by decide) (by decide) (by decide) (fun _ => rfl) (fun r_47 _ H locs hw_47 hP hD hS => ?_)
        subst hw_47
        have hP : va_P D vwCl (wM cy g S (va_up K 28 (fun _ => (nI 2)))) H := hP
        have hD : va_D A (wM cy g S (va_up K 28 (fun _ => (nI 2)))) := hD
        exact W.iret (v := nI 0) hx hb hr (fun t ht hW => ⟨⟨nI 0, (S, (va_up K 28 (fun _ => (nI 2)))), rfl, mO_no (k := 2) (by decide) (by decide) (by rw [c_9, c_16, rk_t c_32]; rfl) rfl, by rw [ht]; exact hP, hD⟩, hS.F ht⟩) hS.2.2 dX7_put_50
      · refine lv_aload_n hx hb dX7_put_35 rfl (lv_at hl 0 rfl) ?_
        refine va_get (D := D) (ci := 7) (v := .ref (g 4)) (C := RX7) (T := TX7) (N := 29) hx hb hts iX7 hown hK hP 0 rfl rfl 4 (by decide) f_23 (fun _ h9 => h9) rfl dX7_put_36 ?_
        refine lv_iload_n hx hb dX7_put_39 rfl (lv_at hl 1 rfl) ?_
        refine cd_iald (f := S 7) hx hb hK hP 4 rfl (by omega) (by decide) dX7_put_40 ?_
        have b_40 := iv_7 hI jp (by omega)
        refine cd_tp (y := nI (nv (S 7 jp))) b_40.1 ?_
        have b_40 := b_40.2
        refine lv_iconst (v := nI 4) hx hb dX7_put_41 (by decide) ?_
        refine cd_icmp_ne (tgt := 51) hx hb dX7_put_42 (by decide) (by omega) (by omega) (fun c_42 => ?_) (fun c_42 => ?_)
        · refine lv_aload_n hx hb dX7_put_51 rfl (lv_at hl 0 rfl) ?_
          refine va_get (D := D) (ci := 7) (v := .ref (g 3)) (C := RX7) (T := TX7) (N := 29) hx hb hts iX7 hown hK hP 0 rfl rfl 3 (by decide) f_20 (fun _ h9 => h9) rfl dX7_put_52 ?_
          refine lv_iconst (v := nI 4) hx hb dX7_put_55 (by decide) ?_
          refine lv_iload_n hx hb dX7_put_56 rfl (lv_at hl 1 rfl) ?_
          refine cd_imul hx hb dX7_put_57 ?_
          refine cd_tp (y := nI (jp * 4)) (m4 jp) ?_
          refine lv_aload_n hx hb dX7_put_58 rfl (lv_at hl 0 rfl) ?_
          refine va_get (D := D) (ci := 7) (v := .ref (g 4)) (C := RX7) (T := TX7) (N := 29) hx hb hts iX7 hown hK hP 0 rfl rfl 4 (by decide) f_23 (fun _ h9 => h9) rfl dX7_put_59 ?_
          refine lv_iload_n hx hb dX7_put_62 rfl (lv_at hl 1 rfl) ?_
          refine cd_iald (f := S 7) hx hb hK hP 4 rfl (by omega) (by decide) dX7_put_63 ?_
          have b_63 := iv_7 hI jp (by omega)
          refine cd_tp (y := nI (nv (S 7 jp))) b_63.1 ?_
          have b_63 := b_63.2
          refine cd_iadd hx hb dX7_put_64 ?_
          refine lv_iload_n hx hb dX7_put_65 rfl (lv_at hl 2 rfl) ?_
          refine cd_iast (f := S 6) hx hb hK hP hD hS 3 rfl (by omega) (by decide) dX7_put_66 (fun H locs hP hD hS => ?_)
          have hP : va_P D vwCl (wM cy g (va_up S 6 (upd (S 6) ((jp * 4) + (nv (S 7 jp))) (nI ja))) (va_up K 28 (fun _ => nI 0))) H := hP
          have hD : va_D A (wM cy g (va_up S 6 (upd (S 6) ((jp * 4) + (nv (S 7 jp))) (nI ja))) (va_up K 28 (fun _ => nI 0))) := hD
          refine lv_aload_n hx hb dX7_put_67 rfl (lv_at hl 0 rfl) ?_
          refine va_get (D := D) (ci := 7) (v := .ref (g 4)) (C := RX7) (T := TX7) (N := 29) hx hb hts iX7 hown hK hP 0 rfl rfl 4 (by decide) f_23 (fun _ h9 => h9) rfl dX7_put_68 ?_
          refine lv_iload_n hx hb dX7_put_71 rfl (lv_at hl 1 rfl) ?_
          refine lv_dup2_11 hx hb dX7_put_72 rfl rfl ?_
          refine cd_iald (f := S 7) hx hb hK hP 4 rfl (by omega) (by decide) dX7_put_73 ?_
          have b_73 := iv_7 hI jp (by omega)
          refine cd_tp (y := nI (nv (S 7 jp))) b_73.1 ?_
          have b_73 := b_73.2
          refine lv_iconst (v := nI 1) hx hb dX7_put_74 (by decide) ?_
          refine cd_iadd hx hb dX7_put_75 ?_
          refine cd_iast (f := S 7) hx hb hK hP hD hS 4 rfl (by omega) (by decide) dX7_put_76 (fun H locs hP hD hS => ?_)
          have hP : va_P D vwCl (wM cy g (va_up (va_up S 6 (upd (S 6) ((jp * 4) + (nv (S 7 jp))) (nI ja))) 7 (upd (S 7) jp (nI ((nv (S 7 jp)) + 1)))) (va_up K 28 (fun _ => nI 0))) H := hP
          have hD : va_D A (wM cy g (va_up (va_up S 6 (upd (S 6) ((jp * 4) + (nv (S 7 jp))) (nI ja))) 7 (upd (S 7) jp (nI ((nv (S 7 jp)) + 1)))) (va_up K 28 (fun _ => nI 0))) := hD
          refine lv_aload_n hx hb dX7_put_77 rfl (lv_at hl 0 rfl) ?_
          refine va_get (D := D) (ci := 7) (v := .ref (g 4)) (C := RX7) (T := TX7) (N := 29) hx hb hts iX7 hown hK hP 0 rfl rfl 4 (by decide) f_23 (fun _ h9 => h9) rfl dX7_put_78 ?_
          refine lv_iload_n hx hb dX7_put_81 rfl (lv_at hl 1 rfl) ?_
          refine cd_iald (f := upd (S 7) jp (nI ((nv (S 7 jp)) + 1))) hx hb hK hP 4 rfl (by omega) (by decide) dX7_put_82 ?_
          refine cd_tp (y := nI (nv (S 7 jp) + 1)) (upd_s _ _ _) ?_
          refine lv_iconst (v := nI 1) hx hb dX7_put_83 (by decide) ?_
          refine cd_isub hx hb (by omega) dX7_put_84 ?_
          exact W.iret (v := nI ((nv (S 7 jp) + 1) - 1)) hx hb hr (fun t ht hW => ⟨⟨nI ((nv (S 7 jp) + 1) - 1), (_, (va_up K 28 (fun _ => nI 0))), rfl, mO_ok (by rw [c_9, c_16, rk_f c_32, decide_eq_false (by omega)]; rfl) (by rw [Nat.add_sub_cancel]) rfl, by rw [ht]; exact hP, hD⟩, hS.F ht⟩) hS.2.2 dX7_put_85
        · refine lv_aload_n hx hb dX7_put_45 rfl (lv_at hl 0 rfl) ?_
          refine lv_iconst (v := nI 2) hx hb dX7_put_46 (by decide) ?_
          have M_47 := c_X7_fails l D cy g S (va_up K 28 (fun _ => nI 0)) (nI 2) H.size
          refine cd_fri (S := Unit) (W1 := fun u => (wM cy g S (va_up (va_up K 28 (fun _ => nI 0)) 28 (fun _ => (nI 2))))) (ws' := fun u => (wM cy g S (va_up K 28 (fun _ => (nI 2))))) (wc := (wM cy g S (va_up K 28 (fun _ => nI 0)))) (wr := []) (va_runV (As := [.int (nI 2)]) (rest := []) ⟨hx, hb, hml, hown, hts⟩ M_47 (cwV 1 hts gX7_put_X7_fails rfl rfl rfl (by decide +kernel) ⟨Nat.le_of_ble_eq_true rfl, Nat.le_of_ble_eq_true rfl⟩) ⟨wrB.bl, va_recv hK hP (ci := 7) (q0 := 0) rfl rfl, fun U hU hW => ⟨rfl, by rw [hU], by rw [hU]; exact hP, hG.warm hW, hD.weaken (fun _ _ _ _ => trivial)⟩⟩ rfl rfl hl.1 rfl (lv_room (Nat.le_of_ble_eq_true rfl)) dX7_put_47 (by exact ⟨Nat.zero_le _, Nat.zero_le _⟩)) hP hD hS hA [0, 1, 2, 3, 4, 5, 6, 7, 8, 9, 10, 11, 12, 13, 14, 15, 16, 17, 18, 19, 20] [] [0, 1, 2, 3, 4, 5, 6, 7, 8, 9, 10, 11, 12, 13, 14, 15, 16, 17, 18, 19, 20] rfl rfl (by decide) (by decide) (by decide) (fun _ => rfl) (fun r_47 _ H locs hw_47 hP hD hS => ?_)
          subst hw_47
          have hP : va_P D vwCl (wM cy g S (va_up K 28 (fun _ => (nI 2)))) H := hP
          have hD : va_D A (wM cy g S (va_up K 28 (fun _ => (nI 2)))) := hD
          exact W.iret (v := nI 0) hx hb hr (fun t ht hW => ⟨⟨nI 0, (S, (va_up K 28 (fun _ => (nI 2)))), rfl, mO_no (k := 2) (by decide) (by decide) (by rw [c_9, c_16, rk_f c_32, decide_eq_true (by omega)]; rfl) rfl, by rw [ht]; exact hP, hD⟩, hS.F ht⟩) hS.2.2 dX7_put_50
    · refine lv_aload_n hx hb dX7_put_19 rfl (lv_at hl 0 rfl) ?_
      refine lv_iconst (v := nI 1) hx hb dX7_put_20 (by decide) ?_
      have M_21 := c_X7_fails l D cy g S (va_up K 28 (fun _ => nI 0)) (nI 1) H.size
      refine cd_fri (S := Unit) (W1 := fun u => (wM cy g S (va_up (va_up K 28 (fun _ => nI 0)) 28 (fun _ => (nI 1))))) (ws' := fun u => (wM cy g S (va_up K 28 (fun _ => (nI 1))))) (wc := (wM cy g S (va_up K 28 (fun _ => nI 0)))) (wr := []) (va_runV (As := [.int (nI 1)]) (rest := []) ⟨hx, hb, hml, hown, hts⟩ M_21 (cwV 1 hts gX7_put_X7_fails rfl rfl rfl (by decide +kernel) ⟨Nat.le_of_ble_eq_true rfl, Nat.le_of_ble_eq_true rfl⟩) ⟨wrB.bl, va_recv hK hP (ci := 7) (q0 := 0) rfl rfl, fun U hU hW => ⟨rfl, by rw [hU], by rw [hU]; exact hP, hG.warm hW, hD.weaken (fun _ _ _ _ => trivial)⟩⟩ rfl rfl hl.1 rfl (lv_room (Nat.le_of_ble_eq_true rfl)) dX7_put_21 (by exact ⟨Nat.zero_le _, Nat.zero_le _⟩)) hP hD hS hA [0, 1, 2, 3, 4, 5, 6, 7, 8, 9, 10, 11, 12, 13, 14, 15, 16, 17, 18, 19, 20] [] [0, 1, 2, 3, 4, 5, 6, 7, 8, 9, 10, 11, 12, 13, 14, 15, 16, 17, 18, 19, 20] rfl rfl (by decide) (by decide) (by decide) (fun _ => rfl) (fun r_21 _ H locs hw_21 hP hD hS => ?_)
      subst hw_21
      have hP : va_P D vwCl (wM cy g S (va_up K 28 (fun _ => (nI 1)))) H := hP
      have hD : va_D A (wM cy g S (va_up K 28 (fun _ => (nI 1)))) := hD
      exact W.iret (v := nI 0) hx hb hr (fun t ht hW => ⟨⟨nI 0, (S, (va_up K 28 (fun _ => (nI 1)))), rfl, mO_no (k := 1) (by decide) (by decide) (by rw [c_9, c_16]; rfl) rfl, by rw [ht]; exact hP, hD⟩, hS.F ht⟩) hS.2.2 dX7_put_24
