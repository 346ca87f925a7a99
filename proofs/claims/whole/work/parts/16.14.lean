set_option maxHeartbeats 4000000 in
set_option maxRecDepth 100000 in
theorem c_X7_take (l : Launch) (D : va_G) (cy : qT) (g : Nat → Nat) (S : qS) (K : qS) (hI : Inv S) (p : Int32) (a : Int32) (sz : Nat) : Met l yX7_take wsX7_take ({ frames := 2, cells := 0, slots := 0, locals := 42 }) (va_Pc [.ref (g 0), .int p, .int a] (wrB D cy (wM cy g S K) sz)) (va_Qi (fun (r9 : Int32) (u : qS × qS) => mO (th2 (inI p (nI 0) (nI 7) && inI a (nI 0) (nI 11)) (rkB S (nv p) a)) (rkI S (nv p) a) (va_up (va_up S 6 (sfT (S 6) (nv p * 4 + nv (rkI S (nv p) a)) (nv p * 4 + nv (S 7 (nv p))))) 7 (upd (S 7) (nv p) (nI (nv (S 7 (nv p)) - 1)))) S r9 u) (wrQ D (va_A (wM cy g S K) sz) (fun u : qS × qS => wM cy g u.1 u.2)) (va_A (wM cy g S K) sz)) 0 0 (va_A (wM cy g S K) sz) := by
  refine Met.ofW (cc := cX7_take) (maxL := 5) (ret := (some .int)) (by decide) rfl ?_
  intro pp e9 s m9 args9 bl9 meth9 c9 s9 B hml hv
  obtain ⟨rfl, hsz, hP, hG, hD0⟩ := hv
  have hx := B.exec
  have hb := B.bytes
  have hr := B.returns
  have hts := atoms_spec (ws := wsX7_take) B.pre
  have hown : s.vm.findClass RX7 = some m9.cls := findClass_of_methodNamed B.named
  have hlocks := B.notSynchronized
  have hK := hG.K
  subst hsz
  have hD := hD0.self (sz := s.heap.size)
  generalize hAe : (va_A (wM cy g S K) s.heap.size) = A at hD ⊢
  have hA : ∀ q : Nat, s.heap.size ≤ q → A q := fun q h9 => by rw [← hAe]; exact Or.inr h9
  have hS : va_S A s.heap s.heap [] := va_S.rf
  have hP : va_P D vwCl (wM cy g S K) s.heap := hP
  have f_74 := hts (.fieldLink RX7 74 "CastDeskModel" "thrown" "I") (by decide +kernel)
  have f_23 := hts (.fieldLink RX7 23 "CastDeskModel" "lengths" "[I") (by decide +kernel)
  have f_20 := hts (.fieldLink RX7 20 "CastDeskModel" "rows" "[I") (by decide +kernel)
  have iX7 : ∀ w ∈ wsX70, w ∈ wsX7_take := by decide +kernel
  have hl := lv_entry ([.ref (g 0), .int p, .int a]) (n := 5) (Nat.le_of_ble_eq_true rfl)
  rw [lg_entry_eq]
  generalize (lg_sl ([.ref (g 0), .int p, .int a]) ++ List.replicate (5 - (lg_sl ([.ref (g 0), .int p, .int a])).length) Slot.unset).toArray = ls at hl ⊢
  have hl : lv_has ls 5 [(0, .ref (g 0)), (1, .int p), (2, .int a)] := hl
  refine lv_aload_n hx hb dX7_take_0 rfl (lv_at hl 0 rfl) ?_
  refine lv_iconst (v := nI 0) hx hb dX7_take_1 (by decide) ?_
  refine va_put (D := D) (ci := 7) (v := .int (nI 0)) (ty := .int) (C := RX7) (T := TX7) (N := 29) hx hb hts iX7 tyX7 tyX7_ok nmX7 hown hK hP hD hS 0 rfl rfl 28 (by decide) f_74 (fun _ h9 => h9) rfl (by decide +kernel) rfl rfl (Nat.le_of_ble_eq_true rfl) dX7_take_2 (fun H locs hP hD hS => ?_)
  have hP : va_P D vwCl (wM cy g S (va_up K 28 (fun _ => nI 0))) H := hP
  have hD : va_D A (wM cy g S (va_up K 28 (fun _ => nI 0))) := hD
  refine lv_iload_n hx hb dX7_take_5 rfl (lv_at hl 1 rfl) ?_
  have M_6 := c_X7_isPart l p
  refine cd_roi (va_runS (As := [.int p]) (rest := []) ⟨hx, hb, hml, hown, hts⟩ M_6 (va_cwS 1 hts gX7_take_X7_isPart rfl rfl rfl (by decide +kernel) ⟨Nat.le_of_ble_eq_true rfl, Nat.le_of_ble_eq_true rfl⟩) ⟨nuB.bl, fun U hU hW => ⟨rfl, trivial⟩⟩ rfl rfl hl.1 rfl (lv_room (Nat.le_of_ble_eq_true rfl)) dX7_take_6 (by exact ⟨Nat.zero_le _, Nat.zero_le _⟩)) (fun r_6 hr_6 => ?_)
  subst hr_6
  refine cd_ifB_eq (tgt := 19) hx hb dX7_take_9 (by decide) (fun c_9 => ?_) (fun c_9 => ?_)
  · refine lv_aload_n hx hb dX7_take_19 rfl (lv_at hl 0 rfl) ?_
    refine lv_iconst (v := nI 1) hx hb dX7_take_20 (by decide) ?_
    have M_21 := c_X7_fails l D cy g S (va_up K 28 (fun _ => nI 0)) (nI 1) H.size
    refine cd_fri (S := Unit) (W1 := fun u => (wM cy g S (va_up (va_up K 28 (fun _ => nI 0)) 28 (fun _ => (nI 1))))) (ws' := fun u => (wM cy g S (va_up K 28 (fun _ => (nI 1))))) (wc := (wM cy g S (va_up K 28 (fun _ => nI 0)))) (wr := []) (va_runV (As := [.int (nI 1)]) (rest := []) ⟨hx, hb, hml, hown, hts⟩ M_21 (cwV 1 hts gX7_take_X7_fails rfl rfl rfl (by decide +kernel) ⟨Nat.le_of_ble_eq_true rfl, Nat.le_of_ble_eq_true rfl⟩) ⟨wrB.bl, va_recv hK hP (ci := 7) (q0 := 0) rfl rfl, fun U hU hW => ⟨rfl, by rw [hU], by rw [hU]; exact hP, hG.warm hW, hD.weaken (fun _ _ _ _ => trivial)⟩⟩ rfl rfl hl.1 rfl (lv_room (Nat.le_of_ble_eq_true rfl)) dX7_take_21 (by exact ⟨Nat.zero_le _, Nat.zero_le _⟩)) hP hD hS hA [0, 1, 2, 3, 4, 5, 6, 7, 8, 9, 10, 11, 12, 13, 14, 15, 16, 17, 18, 19, 20] [] [0, 1, 2, 3, 4, 5, 6, 7, 8, 9, 10, 11, 12, 13, 14, 15, 16, 17, 18, 19, 20] rfl rfl (by decide) (by decide) (by decide) (fun _ => rfl) (fun r_21 _ H locs hw_21 hP hD hS => ?_)
    subst hw_21
    have hP : va_P D vwCl (wM cy g S (va_up K 28 (fun _ => (nI 1)))) H := hP
    have hD : va_D A (wM cy g S (va_up K 28 (fun _ => (nI 1)))) := hD
    exact W.iret (v := nI 0) hx hb hr (fun t ht hW => ⟨⟨nI 0, (S, (va_up K 28 (fun _ => (nI 1)))), rfl, mO_no (k := 1) (by decide) (by decide) (by rw [c_9]; rfl) rfl, by rw [ht]; exact hP, hD⟩, hS.F ht⟩) hS.2.2 dX7_take_24
  · obtain ⟨jp, hjp, rfl⟩ := inI_nat (by decide) c_9
    try rw [nv_nI (show jp < 2147483648 by omega)]
    refine lv_iload_n hx hb dX7_take_12 rfl (lv_at hl 2 rfl) ?_
    have M_13 := c_X7_isActor l a
    refine cd_roi (va_runS (As := [.int a]) (rest := []) ⟨hx, hb, hml, hown, hts⟩ M_13 (va_cwS 1 hts gX7_take_X7_isActor rfl rfl rfl (by decide +kernel) ⟨Nat.le_of_ble_eq_true rfl, Nat.le_of_ble_eq_true rfl⟩) ⟨nuB.bl, fun U hU hW => ⟨rfl, trivial⟩⟩ rfl rfl hl.1 rfl (lv_room (Nat.le_of_ble_eq_true rfl)) dX7_take_13 (by exact ⟨Nat.zero_le _, Nat.zero_le _⟩)) (fun r_13 hr_13 => ?_)
    subst hr_13
    refine cd_ifB_ne (tgt := 25) hx hb dX7_take_16 (by decide) (fun c_16 => ?_) (fun c_16 => ?_)
    · obtain ⟨ja, hja, rfl⟩ := inI_nat (by decide) c_16
      try rw [nv_nI (show ja < 2147483648 by omega)]
      refine lv_aload_n hx hb dX7_take_25 rfl (lv_at hl 0 rfl) ?_
      refine lv_iload_n hx hb dX7_take_26 rfl (lv_at hl 1 rfl) ?_
      refine lv_iload_n hx hb dX7_take_27 rfl (lv_at hl 2 rfl) ?_
      have M_28 := c_X7_rankOf l D cy g S (va_up K 28 (fun _ => nI 0)) hI jp (nI ja) (by omega)
      refine cd_roi (va_runV (As := [.int (nI jp), .int (nI ja)]) (rest := []) ⟨hx, hb, hml, hown, hts⟩ M_28 (cwV 2 hts gX7_take_X7_rankOf rfl rfl rfl (by decide +kernel) ⟨Nat.le_of_ble_eq_true rfl, Nat.le_of_ble_eq_true rfl⟩) ⟨roB.bl, va_recv hK hP (ci := 7) (q0 := 0) rfl rfl, fun U hU hW => ⟨rfl, by rw [hU]; exact hP, hG.warm hW⟩⟩ rfl rfl hl.1 rfl (lv_room (Nat.le_of_ble_eq_true rfl)) dX7_take_28 (by exact ⟨Nat.zero_le _, Nat.zero_le _⟩)) (fun r_28 hr_28 => ?_)
      subst hr_28
      refine lv_istore_n (lv' := [(3, .int (rkI S jp (nI ja))), (0, .ref (g 0)), (1, .int (nI jp)), (2, .int (nI ja))]) hx hb dX7_take_31 rfl hl (by decide) rfl (fun ls hl => ?_)
      refine lv_iload_n hx hb dX7_take_32 rfl (lv_at hl 0 rfl) ?_
      refine lv_iconst (v := (-1)) hx hb dX7_take_33 (by decide) ?_
      refine lv_icmp_ne (tgt := 43) hx hb dX7_take_34 (by decide) (fun c_34 => ?_) (fun c_34 => ?_)
      · have hrk := rk_rng c_34
        have hrk2 := hrk.2
        have hl7 := iv_7 hI jp (by omega)
        have hl72 := hl7.2
        have hl : lv_has ls 5 [(3, .int (nI (nv (rkI S jp (nI ja))))), (0, .ref (g 0)), (1, .int (nI jp)), (2, .int (nI ja))] := Eq.mp (congrArg (fun z9 : Int32 => lv_has ls 5 [(3, .int z9), (0, .ref (g 0)), (1, .int (nI jp)), (2, .int (nI ja))]) (show (rkI S jp (nI ja) : Int32) = nI (nv (rkI S jp (nI ja))) from hrk.1)) hl
        refine lv_aload_n hx hb dX7_take_43 rfl (lv_at hl 1 rfl) ?_
        refine va_get (D := D) (ci := 7) (v := .ref (g 4)) (C := RX7) (T := TX7) (N := 29) hx hb hts iX7 hown hK hP 0 rfl rfl 4 (by decide) f_23 (fun _ h9 => h9) rfl dX7_take_44 ?_
        refine lv_iload_n hx hb dX7_take_47 rfl (lv_at hl 2 rfl) ?_
        refine lv_dup2_11 hx hb dX7_take_48 rfl rfl ?_
        refine cd_iald (f := S 7) hx hb hK hP 4 rfl (by omega) (by decide) dX7_take_49 ?_
        have b_49 := iv_7 hI jp (by omega)
        refine cd_tp (y := nI (nv (S 7 jp))) b_49.1 ?_
        have b_49 := b_49.2
        refine lv_iconst (v := nI 1) hx hb dX7_take_50 (by decide) ?_
        refine cd_isub hx hb (by omega) dX7_take_51 ?_
        refine cd_iast (f := S 7) hx hb hK hP hD hS 4 rfl (by omega) (by decide) dX7_take_52 (fun H locs hP hD hS => ?_)
        have hP : va_P D vwCl (wM cy g (va_up S 7 (upd (S 7) jp (nI ((nv (S 7 jp)) - 1)))) (va_up K 28 (fun _ => nI 0))) H := hP
        have hD : va_D A (wM cy g (va_up S 7 (upd (S 7) jp (nI ((nv (S 7 jp)) - 1)))) (va_up K 28 (fun _ => nI 0))) := hD
        refine lv_iload_n hx hb dX7_take_53 rfl (lv_at hl 0 rfl) ?_
        refine lv_istore (lv' := [(4, .int (nI (nv (rkI S jp (nI ja))))), (3, .int (nI (nv (rkI S jp (nI ja))))), (0, .ref (g 0)), (1, .int (nI jp)), (2, .int (nI ja))]) hx hb dX7_take_54 hl (by decide) rfl (fun ls hl => ?_)
        have e0 : sfT (S 6) (jp * 4 + nv (rkI S jp (nI ja))) (jp * 4 + (nv (rkI S jp (nI ja)) + 1)) = S 6 := sfT_0 _ _
        refine wh1 (nL := 5) (fun (k : Nat) => nv (rkI S jp (nI ja)) ≤ k ∧ k + 1 ≤ nv (S 7 jp)) (fun (k : Nat) => nv (S 7 jp) - k) (fun (k : Nat) => [(0, .ref (g 0)), (1, .int (nI jp)), (3, .int (nI (nv (rkI S jp (nI ja))))), (4, .int (nI k))]) (fun (k : Nat) => (wM cy g (va_up (va_up S 7 (upd (S 7) jp (nI ((nv (S 7 jp)) - 1)))) 6 (sfT (S 6) (jp * 4 + nv (rkI S jp (nI ja))) (jp * 4 + (k + 1)))) (va_up K 28 (fun _ => nI 0)))) (fun k hi_56 ih_56 H locs hP hD hS ls hl => ?_) (nv (rkI S jp (nI ja))) (⟨Nat.le_refl _, hrk2⟩) (by rw [e0]; exact hP) (by rw [e0]; exact hD) hS (lv_sub hl [2, 3, 1, 0] rfl)
        have hP : va_P D vwCl (wM cy g (va_up (va_up S 7 (upd (S 7) jp (nI ((nv (S 7 jp)) - 1)))) 6 (sfT (S 6) (jp * 4 + nv (rkI S jp (nI ja))) (jp * 4 + (k + 1)))) (va_up K 28 (fun _ => nI 0))) H := hP
        have hD : va_D A (wM cy g (va_up (va_up S 7 (upd (S 7) jp (nI ((nv (S 7 jp)) - 1)))) 6 (sfT (S 6) (jp * 4 + nv (rkI S jp (nI ja))) (jp * 4 + (k + 1)))) (va_up K 28 (fun _ => nI 0))) := hD
        obtain ⟨hi1, hi2⟩ := hi_56
        refine lv_iload hx hb dX7_take_56 (lv_at hl 3 rfl) ?_
        refine lv_aload_n hx hb dX7_take_58 rfl (lv_at hl 0 rfl) ?_
        refine va_get (D := D) (ci := 7) (v := .ref (g 4)) (C := RX7) (T := TX7) (N := 29) hx hb hts iX7 hown hK hP 0 rfl rfl 4 (by decide) f_23 (fun _ h9 => h9) rfl dX7_take_59 ?_
        refine lv_iload_n hx hb dX7_take_62 rfl (lv_at hl 1 rfl) ?_
        refine cd_iald (f := upd (S 7) jp (nI ((nv (S 7 jp)) - 1))) hx hb hK hP 4 rfl (by omega) (by decide) dX7_take_63 ?_
        refine cd_tp (y := nI (nv (S 7 jp) - 1)) (upd_s _ _ _) ?_
        refine cd_icmp_ge (tgt := 97) hx hb dX7_take_64 (by decide) (by omega) (by omega) (fun c_64 => ?_) (fun c_64 => ?_)
        · have ek : k + 1 = nv (S 7 jp) := by omega
          rw [ek] at hP hD
          have hP : va_P D vwCl (wM cy g (va_up (va_up S 7 (upd (S 7) jp (nI ((nv (S 7 jp)) - 1)))) 6 (sfT (S 6) (jp * 4 + nv (rkI S jp (nI ja))) (jp * 4 + nv (S 7 jp)))) (va_up K 28 (fun _ => nI 0))) H := hP
          have hD : va_D A (wM cy g (va_up (va_up S 7 (upd (S 7) jp (nI ((nv (S 7 jp)) - 1)))) 6 (sfT (S 6) (jp * 4 + nv (rkI S jp (nI ja))) (jp * 4 + nv (S 7 jp)))) (va_up K 28 (fun _ => nI 0))) := hD
          refine lv_iload_n hx hb dX7_take_97 rfl (lv_at hl 2 rfl) ?_
          exact W.iret (v := nI (nv (rkI S jp (nI ja)))) hx hb hr (fun t ht hW => ⟨⟨nI (nv (rkI S jp (nI ja))), (_, (va_up K 28 (fun _ => nI 0))), rfl, mO_ok (by rw [c_9, c_16, rk_t c_34]; rfl) (hrk.1.symm) rfl, by rw [ht]; exact hP, hD⟩, hS.F ht⟩) hS.2.2 dX7_take_98
        · refine lv_aload_n hx hb dX7_take_67 rfl (lv_at hl 0 rfl) ?_
          refine va_get (D := D) (ci := 7) (v := .ref (g 3)) (C := RX7) (T := TX7) (N := 29) hx hb hts iX7 hown hK hP 0 rfl rfl 3 (by decide) f_20 (fun _ h9 => h9) rfl dX7_take_68 ?_
          refine lv_iconst (v := nI 4) hx hb dX7_take_71 (by decide) ?_
          refine lv_iload_n hx hb dX7_take_72 rfl (lv_at hl 1 rfl) ?_
          refine cd_imul hx hb dX7_take_73 ?_
          refine cd_tp (y := nI (jp * 4)) (m4 jp) ?_
          refine lv_iload hx hb dX7_take_74 (lv_at hl 3 rfl) ?_
          refine cd_iadd hx hb dX7_take_76 ?_
          refine lv_aload_n hx hb dX7_take_77 rfl (lv_at hl 0 rfl) ?_
          refine va_get (D := D) (ci := 7) (v := .ref (g 3)) (C := RX7) (T := TX7) (N := 29) hx hb hts iX7 hown hK hP 0 rfl rfl 3 (by decide) f_20 (fun _ h9 => h9) rfl dX7_take_78 ?_
          refine lv_iconst (v := nI 4) hx hb dX7_take_81 (by decide) ?_
          refine lv_iload_n hx hb dX7_take_82 rfl (lv_at hl 1 rfl) ?_
          refine cd_imul hx hb dX7_take_83 ?_
          refine cd_tp (y := nI (jp * 4)) (m4 jp) ?_
          refine lv_iload hx hb dX7_take_84 (lv_at hl 3 rfl) ?_
          refine cd_iadd hx hb dX7_take_86 ?_
          refine lv_iconst (v := nI 1) hx hb dX7_take_87 (by decide) ?_
          refine cd_iadd hx hb dX7_take_88 ?_
          refine cd_iald (f := sfT (S 6) (jp * 4 + nv (rkI S jp (nI ja))) (jp * 4 + (k + 1))) hx hb hK hP 3 rfl (by omega) (by decide) dX7_take_89 ?_
          refine cd_tp (y := S 6 (jp * 4 + (k + 1))) (by unfold sfT; exact if_neg (by omega)) ?_
          refine cd_iast (f := sfT (S 6) (jp * 4 + nv (rkI S jp (nI ja))) (jp * 4 + (k + 1))) hx hb hK hP hD hS 3 rfl (by omega) (by decide) dX7_take_90 (fun H locs hP hD hS => ?_)
          have hP : va_P D vwCl (wM cy g (va_up (va_up S 7 (upd (S 7) jp (nI ((nv (S 7 jp)) - 1)))) 6 (upd (sfT (S 6) (jp * 4 + nv (rkI S jp (nI ja))) (jp * 4 + (k + 1))) ((jp * 4) + k) (S 6 (jp * 4 + (k + 1))))) (va_up K 28 (fun _ => nI 0))) H := hP
          have hD : va_D A (wM cy g (va_up (va_up S 7 (upd (S 7) jp (nI ((nv (S 7 jp)) - 1)))) 6 (upd (sfT (S 6) (jp * 4 + nv (rkI S jp (nI ja))) (jp * 4 + (k + 1))) ((jp * 4) + k) (S 6 (jp * 4 + (k + 1))))) (va_up K 28 (fun _ => nI 0))) := hD
          have e_90 : (upd (sfT (S 6) (jp * 4 + nv (rkI S jp (nI ja))) (jp * 4 + (k + 1))) ((jp * 4) + k) (S 6 (jp * 4 + (k + 1)))) = (sfT (S 6) (jp * 4 + nv (rkI S jp (nI ja))) (jp * 4 + (k + 1 + 1))) := by have := sfT_s (S 6) (jp * 4 + nv (rkI S jp (nI ja))) (jp * 4 + (k + 1)) (by omega); exact this
          rw [e_90] at hP hD
          have hP : va_P D vwCl (wM cy g (va_up (va_up S 7 (upd (S 7) jp (nI ((nv (S 7 jp)) - 1)))) 6 (sfT (S 6) (jp * 4 + nv (rkI S jp (nI ja))) (jp * 4 + (k + 1 + 1)))) (va_up K 28 (fun _ => nI 0))) H := hP
          have hD : va_D A (wM cy g (va_up (va_up S 7 (upd (S 7) jp (nI ((nv (S 7 jp)) - 1)))) 6 (sfT (S 6) (jp * 4 + nv (rkI S jp (nI ja))) (jp * 4 + (k + 1 + 1)))) (va_up K 28 (fun _ => nI 0))) := hD
          refine lv_iinc (v := nI (k + 1)) (lv' := [(4, .int (nI (k + 1))), (0, .ref (g 0)), (1, .int (nI jp)), (3, .int (nI (nv (rkI S jp (nI ja)))))]) hx hb dX7_take_91 hl (k := 3) rfl (cd_i1 _) (by decide) rfl (fun ls hl => ?_)
          refine lv_goto (tgt := 56) hx hb dX7_take_94 (by decide) ?_
          exact ih_56 (k + 1) (⟨by omega, by omega⟩) (by omega) _ _ hP hD hS _ (lv_sub hl [1, 2, 3, 0] rfl)
      · refine lv_aload_n hx hb dX7_take_37 rfl (lv_at hl 1 rfl) ?_
        refine lv_iconst (v := nI 2) hx hb dX7_take_38 (by decide) ?_
        have M_39 := c_X7_fails l D cy g S (va_up K 28 (fun _ => nI 0)) (nI 2) H.size
        refine cd_fri (S := Unit) (W1 := fun u => (wM cy g S (va_up (va_up K 28 (fun _ => nI 0)) 28 (fun _ => (nI 2))))) (ws' := fun u => (wM cy g S (va_up K 28 (fun _ => (nI 2))))) (wc := (wM cy g S (va_up K 28 (fun _ => nI 0)))) (wr := []) (va_runV (As := [.int (nI 2)]) (rest := []) ⟨hx, hb, hml, hown, hts⟩ M_39 (cwV 1 hts gX7_take_X7_fails rfl rfl rfl (by decide +kernel) ⟨Nat.le_of_ble_eq_true rfl, Nat.le_of_ble_eq_true rfl⟩) ⟨wrB.bl, va_recv hK hP (ci := 7) (q0 := 0) rfl rfl, fun U hU hW => ⟨rfl, by rw [hU], by rw [hU]; exact hP, hG.warm hW, hD.weaken (fun _ _ _ _ => trivial)⟩⟩ rfl rfl hl.1 rfl (lv_room (Nat.le_of_ble_eq_true rfl)) dX7_take_39 (by exact ⟨Nat.zero_le _, Nat.zero_le _⟩)) hP hD hS hA [0, 1, 2, 3, 4, 5, 6, 7, 8, 9, 10, 11, 12, 13, 14, 15, 16, 17, 18, 19, 20] [] [0, 1, 2, 3, 4, 5, 6, 7, 8, 9, 10, 11, 12, 13, 14, 15, 16, 17, 18, 19, 20] rfl rfl (by decide) (by decide) (by decide) (fun _ => rfl) (fun r_39 _ H locs hw_39 hP hD hS => ?_)
        subst hw_39
        have hP : va_P D vwCl (wM cy g S (va_up K 28 (fun _ => (nI 2)))) H := hP
        have hD : va_D A (wM cy g S (va_up K 28 (fun _ => (nI 2)))) := hD
        exact W.iret (v := nI 0) hx hb hr (fun t ht hW => ⟨⟨nI 0, (S, (va_up K 28 (fun _ => (nI 2)))), rfl, mO_no (k := 2) (by decide) (by decide) (by rw [c_9, c_16, rk_f c_34]; rfl) rfl, by rw [ht]; exact hP, hD⟩, hS.F ht⟩) hS.2.2 dX7_take_42
    · refine lv_aload_n hx hb dX7_take_19 rfl (lv_at hl 0 rfl) ?_
      refine lv_iconst (v := nI 1) hx hb dX7_take_20 (by decide) ?_
      have M_21 := c_X7_fails l D cy g S (va_up K 28 (fun _ => nI 0)) (nI 1) H.size
      refine cd_fri (S := Unit) (W1 := fun u => (wM cy g S (va_up (va_up K 28 (fun _ => nI 0)) 28 (fun _ => (nI 1))))) (ws' := fun u => (wM cy g S (va_up K 28 (fun _ => (nI 1))))) (wc := (wM cy g S (va_up K 28 (fun _ => nI 0)))) (wr := []) (va_runV (As := [.int (nI 1)]) (rest := []) ⟨hx, hb, hml, hown, hts⟩ M_21 (cwV 1 hts gX7_take_X7_fails rfl rfl rfl (by decide +kernel) ⟨Nat.le_of_ble_eq_true rfl, Nat.le_of_ble_eq_true rfl⟩) ⟨wrB.bl, va_recv hK hP (ci := 7) (q0 := 0) rfl rfl, fun U hU hW => ⟨rfl, by rw [hU], by rw [hU]; exact hP, hG.warm hW, hD.weaken (fun _ _ _ _ => trivial)⟩⟩ rfl rfl hl.1 rfl (lv_room (Nat.le_of_ble_eq_true rfl)) dX7_take_21 (by exact ⟨Nat.zero_le _, Nat.zero_le _⟩)) hP hD hS hA [0, 1, 2, 3, 4, 5, 6, 7, 8, 9, 10, 11, 12, 13, 14, 15, 16, 17, 18, 19, 20] [] [0, 1, 2, 3, 4, 5, 6, 7, 8, 9, 10, 11, 12, 13, 14, 15, 16, 17, 18, 19, 20] rfl rfl (by decide) (by decide) (by decide) (fun _ => rfl) (fun r_21 _ H locs hw_21 hP hD hS => ?_)
      subst hw_21
      have hP : va_P D vwCl (wM cy g S (va_up K 28 (fun _ => (nI 1)))) H := hP
      have hD : va_D A (wM cy g S (va_up K 28 (fun _ => (nI 1)))) := hD
      exact W.iret (v := nI 0) hx hb hr (fun t ht hW => ⟨⟨nI 0, (S, (va_up K 28 (fun _ => (nI 1)))), rfl, mO_no (k := 1) (by decide) (by decide) (by rw [c_9, c_16]; rfl) rfl, by rw [ht]; exact hP, hD⟩, hS.F ht⟩) hS.2.2 dX7_take_24
