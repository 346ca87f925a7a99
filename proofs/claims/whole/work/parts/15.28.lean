set_option maxHeartbeats 4000000 in
set_option maxRecDepth 100000 in
theorem c_X7_refundAll (l : Launch) (D : va_G) (cy : qT) (g : Nat → Nat) (S : qS) (K : qS) (hI : Inv S) (w : Nat) (m : Nat) (h26 : K 26 0 = bcS S m) (h24 : ∀ p, p < 8 → K 24 p = bcA S m p) (sz : Nat) : Met l yX7_refundAll wsX7_refundAll ({ frames := 2, cells := 0, slots := 0, locals := 46 }) (va_Pc [.ref (g 0), .int (nI w), .int (bI ((bc S m).isSome))] (wrB D cy (wM cy g S K) sz)) (va_Qi (fun (r9 : Int32) (u : Unit) => r9 = rfS S w (bcI S m) (nv (S 31 0))) (wrQ D (va_A (wM cy g S K) sz) (fun u : Unit => (wM cy g (va_up S 25 (rfF S w (bcI S m) (nv (S 31 0)))) K))) (va_A (wM cy g S K) sz)) 0 0 (va_A (wM cy g S K) sz) := by
  refine Met.ofW (cc := cX7_refundAll) (maxL := 5) (ret := (some .int)) (by decide) rfl ?_
  intro pp e9 s m9 args9 bl9 meth9 c9 s9 B hml hv
  obtain ⟨rfl, hsz, hP, hG, hD0⟩ := hv
  have hx := B.exec
  have hb := B.bytes
  have hr := B.returns
  have hts := atoms_spec (ws := wsX7_refundAll) B.pre
  have hown : s.vm.findClass RX7 = some m9.cls := findClass_of_methodNamed B.named
  have hlocks := B.notSynchronized
  have hK := hG.K
  subst hsz
  have hD := hD0.self (sz := s.heap.size)
  generalize hAe : (va_A (wM cy g S K) s.heap.size) = A at hD ⊢
  have hA : ∀ q : Nat, s.heap.size ≤ q → A q := fun q h9 => by rw [← hAe]; exact Or.inr h9
  have hS : va_S A s.heap s.heap [] := va_S.rf
  have hP : va_P D vwCl (wM cy g S K) s.heap := hP
  have f_147 := hts (.fieldLink RX7 147 "CastDeskModel" "seats" "I") (by decide +kernel)
  have f_47 := hts (.fieldLink RX7 47 "CastDeskModel" "seatShow" "[I") (by decide +kernel)
  have f_62 := hts (.fieldLink RX7 62 "CastDeskModel" "seatRefund" "[I") (by decide +kernel)
  have f_50 := hts (.fieldLink RX7 50 "CastDeskModel" "seatPrice" "[I") (by decide +kernel)
  have iX7 : ∀ w ∈ wsX70, w ∈ wsX7_refundAll := by decide +kernel
  have hl := lv_entry ([.ref (g 0), .int (nI w), .int (bI ((bc S m).isSome))]) (n := 5) (Nat.le_of_ble_eq_true rfl)
  rw [lg_entry_eq]
  generalize (lg_sl ([.ref (g 0), .int (nI w), .int (bI ((bc S m).isSome))]) ++ List.replicate (5 - (lg_sl ([.ref (g 0), .int (nI w), .int (bI ((bc S m).isSome))])).length) Slot.unset).toArray = ls at hl ⊢
  have hl : lv_has ls 5 [(0, .ref (g 0)), (1, .int (nI w)), (2, .int (bI ((bc S m).isSome)))] := hl
  have h31 := (iv_31 hI).2
  refine lv_iconst (v := nI 0) hx hb dX7_refundAll_0 (by decide) ?_
  refine lv_istore_n (lv' := [(3, .int (nI 0)), (0, .ref (g 0)), (1, .int (nI w)), (2, .int (bI ((bc S m).isSome)))]) hx hb dX7_refundAll_1 rfl hl (by decide) rfl (fun ls hl => ?_)
  refine lv_iconst (v := nI 0) hx hb dX7_refundAll_2 (by decide) ?_
  refine lv_istore (lv' := [(4, .int (nI 0)), (3, .int (nI 0)), (0, .ref (g 0)), (1, .int (nI w)), (2, .int (bI ((bc S m).isSome)))]) hx hb dX7_refundAll_3 hl (by decide) rfl (fun ls hl => ?_)
  refine wh1 (nL := 5) (fun (i : Nat) => i ≤ nv (S 31 0)) (fun (i : Nat) => nv (S 31 0) - i) (fun (i : Nat) => [(0, .ref (g 0)), (1, .int (nI w)), (2, .int (bI ((bc S m).isSome))), (3, .int (rfS S w (bcI S m) i)), (4, .int (nI i))]) (fun (i : Nat) => (wM cy g (va_up S 25 (rfF S w (bcI S m) i)) K)) (fun i hi_5 ih_5 H locs hP hD hS ls hl => ?_) 0 (Nat.zero_le _) hP hD hS (lv_sub hl [2, 3, 4, 1, 0] rfl)
  have hP : va_P D vwCl (wM cy g (va_up S 25 (rfF S w (bcI S m) i)) K) H := hP
  have hD : va_D A (wM cy g (va_up S 25 (rfF S w (bcI S m) i)) K) := hD
  refine lv_iload hx hb dX7_refundAll_5 (lv_at hl 4 rfl) ?_
  refine lv_aload_n hx hb dX7_refundAll_7 rfl (lv_at hl 0 rfl) ?_
  refine va_get (D := D) (ci := 7) (v := .int (S 31 0)) (C := RX7) (T := TX7) (N := 29) hx hb hts iX7 hown hK hP 0 rfl rfl 20 (by decide) f_147 (fun _ h9 => h9) rfl dX7_refundAll_8 ?_
  have b_8 := iv_31 hI
  refine cd_tp (y := nI (nv (S 31 0))) b_8.1 ?_
  have b_8 := b_8.2
  refine cd_icmp_ge (tgt := 68) hx hb dX7_refundAll_11 (by decide) (by omega) (by omega) (fun c_11 => ?_) (fun c_11 => ?_)
  · have ei : i = nv (S 31 0) := by omega
    subst ei
    have hP : va_P D vwCl (wM cy g (va_up S 25 (rfF S w (bcI S m) (nv (S 31 0)))) K) H := hP
    have hD : va_D A (wM cy g (va_up S 25 (rfF S w (bcI S m) (nv (S 31 0)))) K) := hD
    refine lv_iload_n hx hb dX7_refundAll_68 rfl (lv_at hl 3 rfl) ?_
    exact W.iret (v := rfS S w (bcI S m) (nv (S 31 0))) hx hb hr (fun t ht hW => ⟨⟨_, (), rfl, rfl, by rw [ht]; exact hP, hD⟩, hS.F ht⟩) hS.2.2 dX7_refundAll_69
  · refine lv_aload_n hx hb dX7_refundAll_14 rfl (lv_at hl 0 rfl) ?_
    refine va_get (D := D) (ci := 7) (v := .ref (g 14)) (C := RX7) (T := TX7) (N := 29) hx hb hts iX7 hown hK hP 0 rfl rfl 14 (by decide) f_47 (fun _ h9 => h9) rfl dX7_refundAll_15 ?_
    refine lv_iload hx hb dX7_refundAll_18 (lv_at hl 4 rfl) ?_
    refine cd_iald (f := S 21) hx hb hK hP 12 rfl (by omega) (by decide) dX7_refundAll_20 ?_
    refine lv_iload_n hx hb dX7_refundAll_21 rfl (lv_at hl 1 rfl) ?_
    refine lv_icmp_ne (tgt := 62) hx hb dX7_refundAll_22 (by decide) (fun c_22 => ?_) (fun c_22 => ?_)
    · refine lv_iinc (v := nI (i + 1)) (lv' := [(4, .int (nI (i + 1))), (0, .ref (g 0)), (1, .int (nI w)), (2, .int (bI ((bc S m).isSome))), (3, .int (rfS S w (bcI S m) i))]) hx hb dX7_refundAll_62 hl (k := 4) rfl (cd_i1 _) (by decide) rfl (fun ls hl => ?_)
      refine lv_goto (tgt := 5) hx hb dX7_refundAll_65 (by decide) ?_
      rw [show (rfF S w (bcI S m) i) = (rfF S w (bcI S m) (i + 1)) from (rf_n c_22).1] at hP hD
      have hP : va_P D vwCl (wM cy g (va_up S 25 (rfF S w (bcI S m) (i + 1))) K) H := hP
      have hD : va_D A (wM cy g (va_up S 25 (rfF S w (bcI S m) (i + 1))) K) := hD
      have hl : lv_has ls 5 [(4, .int (nI (i + 1))), (0, .ref (g 0)), (1, .int (nI w)), (2, .int (bI ((bc S m).isSome))), (3, .int (rfS S w (bcI S m) (i + 1)))] := Eq.mp (congrArg (fun z9 : Int32 => lv_has ls 5 [(4, .int (nI (i + 1))), (0, .ref (g 0)), (1, .int (nI w)), (2, .int (bI ((bc S m).isSome))), (3, .int z9)]) (show (rfS S w (bcI S m) i : Int32) = rfS S w (bcI S m) (i + 1) from (rf_n c_22).2.1)) hl
      exact ih_5 (i + 1) (by omega) (by omega) _ _ hP hD hS _ (lv_sub hl [1, 2, 3, 4, 0] rfl)
    · refine lv_aload_n hx hb dX7_refundAll_25 rfl (lv_at hl 0 rfl) ?_
      refine va_get (D := D) (ci := 7) (v := .ref (g 19)) (C := RX7) (T := TX7) (N := 29) hx hb hts iX7 hown hK hP 0 rfl rfl 19 (by decide) f_62 (fun _ h9 => h9) rfl dX7_refundAll_26 ?_
      refine lv_iload hx hb dX7_refundAll_29 (lv_at hl 4 rfl) ?_
      refine lv_iload_n hx hb dX7_refundAll_31 rfl (lv_at hl 2 rfl) ?_
      refine cd_ifB_eq (tgt := 44) hx hb dX7_refundAll_32 (by decide) (fun c_32 => ?_) (fun c_32 => ?_)
      · refine lv_aload_n hx hb dX7_refundAll_44 rfl (lv_at hl 0 rfl) ?_
        refine va_get (D := D) (ci := 7) (v := .ref (g 15)) (C := RX7) (T := TX7) (N := 29) hx hb hts iX7 hown hK hP 0 rfl rfl 15 (by decide) f_50 (fun _ h9 => h9) rfl dX7_refundAll_45 ?_
        refine lv_iload hx hb dX7_refundAll_48 (lv_at hl 4 rfl) ?_
        refine cd_iald (f := S 26) hx hb hK hP 13 rfl (by omega) (by decide) dX7_refundAll_50 ?_
        refine cd_tp (y := gbI S i (shR S (bcI S m) i)) (by rw [shR_n (bc_isn c_32)]; exact gb_1) ?_
        refine cd_iast (f := rfF S w (bcI S m) i) hx hb hK hP hD hS 17 rfl (by omega) (by decide) dX7_refundAll_51 (fun H locs hP hD hS => ?_)
        have hP : va_P D vwCl (wM cy g (va_up S 25 (upd (rfF S w (bcI S m) i) i (gbI S i (shR S (bcI S m) i)))) K) H := hP
        have hD : va_D A (wM cy g (va_up S 25 (upd (rfF S w (bcI S m) i) i (gbI S i (shR S (bcI S m) i)))) K) := hD
        have e_51 : (upd (rfF S w (bcI S m) i) i (gbI S i (shR S (bcI S m) i))) = (rfF S w (bcI S m) (i + 1)) := (rf_y c_22).1
        rw [e_51] at hP hD
        have hP : va_P D vwCl (wM cy g (va_up S 25 (rfF S w (bcI S m) (i + 1))) K) H := hP
        have hD : va_D A (wM cy g (va_up S 25 (rfF S w (bcI S m) (i + 1))) K) := hD
        refine lv_iload_n hx hb dX7_refundAll_52 rfl (lv_at hl 3 rfl) ?_
        refine lv_aload_n hx hb dX7_refundAll_53 rfl (lv_at hl 0 rfl) ?_
        refine va_get (D := D) (ci := 7) (v := .ref (g 19)) (C := RX7) (T := TX7) (N := 29) hx hb hts iX7 hown hK hP 0 rfl rfl 19 (by decide) f_62 (fun _ h9 => h9) rfl dX7_refundAll_54 ?_
        refine lv_iload hx hb dX7_refundAll_57 (lv_at hl 4 rfl) ?_
        refine cd_iald (f := rfF S w (bcI S m) (i + 1)) hx hb hK hP 17 rfl (by omega) (by decide) dX7_refundAll_59 ?_
        refine cd_tp (y := gbI S i (shR S (bcI S m) i)) (rfF_at c_22) ?_
        refine lv_iadd hx hb dX7_refundAll_60 ?_
        refine lv_istore_n (lv' := [(3, .int ((rfS S w (bcI S m) i) + (gbI S i (shR S (bcI S m) i)))), (0, .ref (g 0)), (1, .int (nI w)), (2, .int (bI ((bc S m).isSome))), (4, .int (nI i))]) hx hb dX7_refundAll_61 rfl hl (by decide) rfl (fun ls hl => ?_)
        refine lv_iinc (v := nI (i + 1)) (lv' := [(4, .int (nI (i + 1))), (3, .int ((rfS S w (bcI S m) i) + (gbI S i (shR S (bcI S m) i)))), (0, .ref (g 0)), (1, .int (nI w)), (2, .int (bI ((bc S m).isSome)))]) hx hb dX7_refundAll_62 hl (k := 4) rfl (cd_i1 _) (by decide) rfl (fun ls hl => ?_)
        refine lv_goto (tgt := 5) hx hb dX7_refundAll_65 (by decide) ?_
        have hl : lv_has ls 5 [(4, .int (nI (i + 1))), (3, .int (rfS S w (bcI S m) (i + 1))), (0, .ref (g 0)), (1, .int (nI w)), (2, .int (bI ((bc S m).isSome)))] := Eq.mp (congrArg (fun z9 : Int32 => lv_has ls 5 [(4, .int (nI (i + 1))), (3, .int z9), (0, .ref (g 0)), (1, .int (nI w)), (2, .int (bI ((bc S m).isSome)))]) (show ((rfS S w (bcI S m) i) + (gbI S i (shR S (bcI S m) i)) : Int32) = rfS S w (bcI S m) (i + 1) from (rf_y c_22).2.1)) hl
        exact ih_5 (i + 1) (by omega) (by omega) _ _ hP hD hS _ (lv_sub hl [2, 3, 4, 1, 0] rfl)
      · obtain ⟨b, hb0⟩ := bc_is c_32
        refine lv_aload_n hx hb dX7_refundAll_35 rfl (lv_at hl 0 rfl) ?_
        refine lv_iload hx hb dX7_refundAll_36 (lv_at hl 4 rfl) ?_
        have M_38 := c_X7_refundOf l D cy g (va_up S 25 (rfF S w (bcI S m) i)) K hI i m b (show i < nv (S 31 0) by omega) (by rw [bc_25]; exact hb0) (by rw [bcS_25]; exact h26) (by rw [bcA_25]; exact h24)
        refine cd_roi (va_runV (As := [.int (nI i)]) (rest := [.int (nI i), .ref (g 19)]) ⟨hx, hb, hml, hown, hts⟩ M_38 (cwV 1 hts gX7_refundAll_X7_refundOf rfl rfl rfl (by decide +kernel) ⟨Nat.le_of_ble_eq_true rfl, Nat.le_of_ble_eq_true rfl⟩) ⟨roB.bl, va_recv hK hP (ci := 7) (q0 := 0) rfl rfl, fun U hU hW => ⟨rfl, by rw [hU]; exact hP, hG.warm hW⟩⟩ rfl rfl hl.1 rfl (lv_room (Nat.le_of_ble_eq_true rfl)) dX7_refundAll_38 (by exact ⟨Nat.zero_le _, Nat.zero_le _⟩)) (fun r_38 hr_38 => ?_)
        subst hr_38
        refine cd_tp (y := gbI S i (shR S (bcI S m) i)) (by rw [bcI_25]; rfl) ?_
        refine lv_goto (tgt := 51) hx hb dX7_refundAll_41 (by decide) ?_
        refine cd_iast (f := rfF S w (bcI S m) i) hx hb hK hP hD hS 17 rfl (by omega) (by decide) dX7_refundAll_51 (fun H locs hP hD hS => ?_)
        have hP : va_P D vwCl (wM cy g (va_up S 25 (upd (rfF S w (bcI S m) i) i (gbI S i (shR S (bcI S m) i)))) K) H := hP
        have hD : va_D A (wM cy g (va_up S 25 (upd (rfF S w (bcI S m) i) i (gbI S i (shR S (bcI S m) i)))) K) := hD
        have e_51 : (upd (rfF S w (bcI S m) i) i (gbI S i (shR S (bcI S m) i))) = (rfF S w (bcI S m) (i + 1)) := (rf_y c_22).1
        rw [e_51] at hP hD
        have hP : va_P D vwCl (wM cy g (va_up S 25 (rfF S w (bcI S m) (i + 1))) K) H := hP
        have hD : va_D A (wM cy g (va_up S 25 (rfF S w (bcI S m) (i + 1))) K) := hD
        refine lv_iload_n hx hb dX7_refundAll_52 rfl (lv_at hl 3 rfl) ?_
        refine lv_aload_n hx hb dX7_refundAll_53 rfl (lv_at hl 0 rfl) ?_
        refine va_get (D := D) (ci := 7) (v := .ref (g 19)) (C := RX7) (T := TX7) (N := 29) hx hb hts iX7 hown hK hP 0 rfl rfl 19 (by decide) f_62 (fun _ h9 => h9) rfl dX7_refundAll_54 ?_
        refine lv_iload hx hb dX7_refundAll_57 (lv_at hl 4 rfl) ?_
        refine cd_iald (f := rfF S w (bcI S m) (i + 1)) hx hb hK hP 17 rfl (by omega) (by decide) dX7_refundAll_59 ?_
        refine cd_tp (y := gbI S i (shR S (bcI S m) i)) (rfF_at c_22) ?_
        refine lv_iadd hx hb dX7_refundAll_60 ?_
        refine lv_istore_n (lv' := [(3, .int ((rfS S w (bcI S m) i) + (gbI S i (shR S (bcI S m) i)))), (0, .ref (g 0)), (1, .int (nI w)), (2, .int (bI ((bc S m).isSome))), (4, .int (nI i))]) hx hb dX7_refundAll_61 rfl hl (by decide) rfl (fun ls hl => ?_)
        refine lv_iinc (v := nI (i + 1)) (lv' := [(4, .int (nI (i + 1))), (3, .int ((rfS S w (bcI S m) i) + (gbI S i (shR S (bcI S m) i)))), (0, .ref (g 0)), (1, .int (nI w)), (2, .int (bI ((bc S m).isSome)))]) hx hb dX7_refundAll_62 hl (k := 4) rfl (cd_i1 _) (by decide) rfl (fun ls hl => ?_)
        refine lv_goto (tgt := 5) hx hb dX7_refundAll_65 (by decide) ?_
        have hl : lv_has ls 5 [(4, .int (nI (i + 1))), (3, .int (rfS S w (bcI S m) (i + 1))), (0, .ref (g 0)), (1, .int (nI w)), (2, .int (bI ((bc S m).isSome)))] := Eq.mp (congrArg (fun z9 : Int32 => lv_has ls 5 [(4, .int (nI (i + 1))), (3, .int z9), (0, .ref (g 0)), (1, .int (nI w)), (2, .int (bI ((bc S m).isSome)))]) (show ((rfS S w (bcI S m) i) + (gbI S i (shR S (bcI S m) i)) : Int32) = rfS S w (bcI S m) (i + 1) from (rf_y c_22).2.1)) hl
        exact ih_5 (i + 1) (by omega) (by omega) _ _ hP hD hS _ (lv_sub hl [2, 3, 4, 1, 0] rfl)
