set_option maxHeartbeats 4000000 in
set_option maxRecDepth 100000 in
theorem c_X7_toLetOut (l : Launch) (D : va_G) (cy : qT) (g : Nat → Nat) (S : qS) (K : qS) (hI : Inv S) (a : Nat) (p : Nat) (ha : a < 12) : Met l yX7_toLetOut wsX7_toLetOut ({ frames := 0, cells := 0, slots := 0, locals := 0 }) (va_Pc [.ref (g 0), .int (nI a), .int (nI p)] (roB D cy (wM cy g S K))) (vp_Si (fun r9 => r9 = loI S p (S 2 a))) 0 0 (fun _ => False) := by
  refine Met.ofW (cc := cX7_toLetOut) (maxL := 4) (ret := (some .int)) (by decide) rfl ?_
  intro pp e9 s m9 args9 bl9 meth9 c9 s9 B hml hv
  obtain ⟨rfl, hP, hG⟩ := hv
  have hx := B.exec
  have hb := B.bytes
  have hr := B.returns
  have hts := atoms_spec (ws := wsX7_toLetOut) B.pre
  have hown : s.vm.findClass RX7 = some m9.cls := findClass_of_methodNamed B.named
  have hlocks := B.notSynchronized
  have hK := hG.K
  have f_103 := hts (.fieldLink RX7 103 "CastDeskModel" "costumes" "I") (by decide +kernel)
  have f_26 := hts (.fieldLink RX7 26 "CastDeskModel" "costumePart" "[I") (by decide +kernel)
  have f_32 := hts (.fieldLink RX7 32 "CastDeskModel" "letOut" "[I") (by decide +kernel)
  have f_29 := hts (.fieldLink RX7 29 "CastDeskModel" "costumeSize" "[I") (by decide +kernel)
  have f_13 := hts (.fieldLink RX7 13 "CastDeskModel" "sizes" "[I") (by decide +kernel)
  have iX7 : ∀ w ∈ wsX70, w ∈ wsX7_toLetOut := by decide +kernel
  have hl := lv_entry ([.ref (g 0), .int (nI a), .int (nI p)]) (n := 4) (Nat.le_of_ble_eq_true rfl)
  rw [lg_entry_eq]
  generalize (lg_sl ([.ref (g 0), .int (nI a), .int (nI p)]) ++ List.replicate (4 - (lg_sl ([.ref (g 0), .int (nI a), .int (nI p)])).length) Slot.unset).toArray = ls at hl ⊢
  have hl : lv_has ls 4 [(0, .ref (g 0)), (1, .int (nI a)), (2, .int (nI p))] := hl
  have h29 := (iv_29 hI).2
  refine lv_iconst (v := nI 0) hx hb dX7_toLetOut_0 (by decide) ?_
  refine lv_istore_n (lv' := [(3, .int (nI 0)), (0, .ref (g 0)), (1, .int (nI a)), (2, .int (nI p))]) hx hb dX7_toLetOut_1 rfl hl (by decide) rfl (fun ls hl => ?_)
  refine wl1 (nL := 4) (fun (k : Nat) => k ≤ nv (S 29 0) ∧ ∀ j, j < k → loP S p (S 2 a) j = false) (fun (k : Nat) => nv (S 29 0) - k) (fun (k : Nat) => [(0, .ref (g 0)), (1, .int (nI a)), (2, .int (nI p)), (3, .int (nI k))]) (fun k hi_2 ih_2 ls hl => ?_) 0 (⟨Nat.zero_le _, fun j hj => absurd hj (Nat.not_lt_zero j)⟩) (lv_sub hl [1, 2, 3, 0] rfl)
  have hi1 := hi_2.1
  refine lv_iload_n hx hb dX7_toLetOut_2 rfl (lv_at hl 3 rfl) ?_
  refine lv_aload_n hx hb dX7_toLetOut_3 rfl (lv_at hl 0 rfl) ?_
  refine va_get (D := D) (ci := 7) (v := .int (S 29 0)) (C := RX7) (T := TX7) (N := 29) hx hb hts iX7 hown hK hP 0 rfl rfl 8 (by decide) f_103 (fun _ h9 => h9) rfl dX7_toLetOut_4 ?_
  have b_4 := iv_29 hI
  refine cd_tp (y := nI (nv (S 29 0))) b_4.1 ?_
  have b_4 := b_4.2
  refine cd_icmp_ge (tgt := 53) hx hb dX7_toLetOut_7 (by decide) (by omega) (by omega) (fun c_7 => ?_) (fun c_7 => ?_)
  · refine lv_iload_n hx hb dX7_toLetOut_53 rfl (lv_at hl 3 rfl) ?_
    refine lv_aload_n hx hb dX7_toLetOut_54 rfl (lv_at hl 0 rfl) ?_
    refine va_get (D := D) (ci := 7) (v := .int (S 29 0)) (C := RX7) (T := TX7) (N := 29) hx hb hts iX7 hown hK hP 0 rfl rfl 8 (by decide) f_103 (fun _ h9 => h9) rfl dX7_toLetOut_55 ?_
    have b_55 := iv_29 hI
    refine cd_tp (y := nI (nv (S 29 0))) b_55.1 ?_
    have b_55 := b_55.2
    refine cd_icmp_ge (tgt := 65) hx hb dX7_toLetOut_58 (by decide) (by omega) (by omega) (fun c_58 => ?_) (fun c_58 => ?_)
    · refine lv_iconst (v := (-1)) hx hb dX7_toLetOut_65 (by decide) ?_
      exact W.iret (v := (-1)) hx hb hr (fun t ht hW => ⟨_, rfl, (fi_miss (fun j hj => hi_2.2 j (by omega))), ht⟩) (fun _ h9 => nomatch h9) dX7_toLetOut_66
    · exact absurd c_58 (by omega)
  · refine lv_aload_n hx hb dX7_toLetOut_10 rfl (lv_at hl 0 rfl) ?_
    refine va_get (D := D) (ci := 7) (v := .ref (g 5)) (C := RX7) (T := TX7) (N := 29) hx hb hts iX7 hown hK hP 0 rfl rfl 5 (by decide) f_26 (fun _ h9 => h9) rfl dX7_toLetOut_11 ?_
    refine lv_iload_n hx hb dX7_toLetOut_14 rfl (lv_at hl 3 rfl) ?_
    refine cd_iald (f := S 10) hx hb hK hP 5 rfl (by omega) (by decide) dX7_toLetOut_15 ?_
    refine lv_iload_n hx hb dX7_toLetOut_16 rfl (lv_at hl 2 rfl) ?_
    refine lv_icmp_ne (tgt := 47) hx hb dX7_toLetOut_17 (by decide) (fun c_17 => ?_) (fun c_17 => ?_)
    · refine lv_iinc (v := nI (k + 1)) (lv' := [(3, .int (nI (k + 1))), (0, .ref (g 0)), (1, .int (nI a)), (2, .int (nI p))]) hx hb dX7_toLetOut_47 hl (k := 3) rfl (cd_i1 _) (by decide) rfl (fun ls hl => ?_)
      refine lv_goto (tgt := 2) hx hb dX7_toLetOut_50 (by decide) ?_
      exact ih_2 (k + 1) (⟨by omega, lt_s hi_2.2 (decide_eq_false (fun q => c_17 q.1))⟩) (by omega) _ (lv_sub hl [1, 2, 3, 0] rfl)
    · refine lv_aload_n hx hb dX7_toLetOut_20 rfl (lv_at hl 0 rfl) ?_
      refine va_get (D := D) (ci := 7) (v := .ref (g 7)) (C := RX7) (T := TX7) (N := 29) hx hb hts iX7 hown hK hP 0 rfl rfl 7 (by decide) f_32 (fun _ h9 => h9) rfl dX7_toLetOut_21 ?_
      refine lv_iload_n hx hb dX7_toLetOut_24 rfl (lv_at hl 3 rfl) ?_
      refine cd_iald (f := S 11) hx hb hK hP 7 rfl (by omega) (by decide) dX7_toLetOut_25 ?_
      refine lv_iconst (v := nI 1) hx hb dX7_toLetOut_26 (by decide) ?_
      refine lv_icmp_eq (tgt := 47) hx hb dX7_toLetOut_27 (by decide) (fun c_27 => ?_) (fun c_27 => ?_)
      · refine lv_iinc (v := nI (k + 1)) (lv' := [(3, .int (nI (k + 1))), (0, .ref (g 0)), (1, .int (nI a)), (2, .int (nI p))]) hx hb dX7_toLetOut_47 hl (k := 3) rfl (cd_i1 _) (by decide) rfl (fun ls hl => ?_)
        refine lv_goto (tgt := 2) hx hb dX7_toLetOut_50 (by decide) ?_
        exact ih_2 (k + 1) (⟨by omega, lt_s hi_2.2 (decide_eq_false (fun q => absurd (c_27.symm.trans q.2.2) (by decide)))⟩) (by omega) _ (lv_sub hl [1, 2, 3, 0] rfl)
      · refine lv_aload_n hx hb dX7_toLetOut_30 rfl (lv_at hl 0 rfl) ?_
        refine va_get (D := D) (ci := 7) (v := .ref (g 6)) (C := RX7) (T := TX7) (N := 29) hx hb hts iX7 hown hK hP 0 rfl rfl 6 (by decide) f_29 (fun _ h9 => h9) rfl dX7_toLetOut_31 ?_
        refine lv_iload_n hx hb dX7_toLetOut_34 rfl (lv_at hl 3 rfl) ?_
        refine cd_iald (f := S 9) hx hb hK hP 6 rfl (by omega) (by decide) dX7_toLetOut_35 ?_
        refine lv_iconst (v := nI 1) hx hb dX7_toLetOut_36 (by decide) ?_
        refine lv_iadd hx hb dX7_toLetOut_37 ?_
        refine lv_aload_n hx hb dX7_toLetOut_38 rfl (lv_at hl 0 rfl) ?_
        refine va_get (D := D) (ci := 7) (v := .ref (g 1)) (C := RX7) (T := TX7) (N := 29) hx hb hts iX7 hown hK hP 0 rfl rfl 1 (by decide) f_13 (fun _ h9 => h9) rfl dX7_toLetOut_39 ?_
        refine lv_iload_n hx hb dX7_toLetOut_42 rfl (lv_at hl 1 rfl) ?_
        refine cd_iald (f := S 2) hx hb hK hP 1 rfl (by omega) (by decide) dX7_toLetOut_43 ?_
        refine lv_icmp_eq (tgt := 53) hx hb dX7_toLetOut_44 (by decide) (fun c_44 => ?_) (fun c_44 => ?_)
        · refine lv_iload_n hx hb dX7_toLetOut_53 rfl (lv_at hl 3 rfl) ?_
          refine lv_aload_n hx hb dX7_toLetOut_54 rfl (lv_at hl 0 rfl) ?_
          refine va_get (D := D) (ci := 7) (v := .int (S 29 0)) (C := RX7) (T := TX7) (N := 29) hx hb hts iX7 hown hK hP 0 rfl rfl 8 (by decide) f_103 (fun _ h9 => h9) rfl dX7_toLetOut_55 ?_
          have b_55 := iv_29 hI
          refine cd_tp (y := nI (nv (S 29 0))) b_55.1 ?_
          have b_55 := b_55.2
          refine cd_icmp_ge (tgt := 65) hx hb dX7_toLetOut_58 (by decide) (by omega) (by omega) (fun c_58 => ?_) (fun c_58 => ?_)
          · exact absurd c_58 (by omega)
          · refine lv_iload_n hx hb dX7_toLetOut_61 rfl (lv_at hl 3 rfl) ?_
            refine lv_goto (tgt := 66) hx hb dX7_toLetOut_62 (by decide) ?_
            exact W.iret (v := nI k) hx hb hr (fun t ht hW => ⟨_, rfl, (fi_hit (by omega) hi_2.2 (decide_eq_true ⟨c_17, c_44, (iv_11 hI k).elim id (fun q => absurd q c_27)⟩)), ht⟩) (fun _ h9 => nomatch h9) dX7_toLetOut_66
        · refine lv_iinc (v := nI (k + 1)) (lv' := [(3, .int (nI (k + 1))), (0, .ref (g 0)), (1, .int (nI a)), (2, .int (nI p))]) hx hb dX7_toLetOut_47 hl (k := 3) rfl (cd_i1 _) (by decide) rfl (fun ls hl => ?_)
          refine lv_goto (tgt := 2) hx hb dX7_toLetOut_50 (by decide) ?_
          exact ih_2 (k + 1) (⟨by omega, lt_s hi_2.2 (decide_eq_false (fun q => c_44 q.2.1))⟩) (by omega) _ (lv_sub hl [1, 2, 3, 0] rfl)
