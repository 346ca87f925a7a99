set_option maxHeartbeats 4000000 in
set_option maxRecDepth 100000 in
theorem c_X7_firstBad (l : Launch) (D : va_G) (cy : qT) (g : Nat → Nat) (S : qS) (K : qS) (hI : Inv S) (c : Nat) (m : Nat) (hc : c < 65536) (hab : ∀ i, i < nv (S 27 0) * 4 → K 23 i = abI S m i) : Met l yX7_firstBad wsX7_firstBad ({ frames := 0, cells := 0, slots := 0, locals := 0 }) (va_Pc [.ref (g 0), .int (nI c)] (roB D cy (wM cy g S K))) (vp_Si (fun r9 => r9 = fbI S m (dg (nv (S 27 0)) c) (nv (S 27 0)))) 0 0 (fun _ => False) := by
  refine Met.ofW (cc := cX7_firstBad) (maxL := 5) (ret := (some .int)) (by decide) rfl ?_
  intro pp e9 s m9 args9 bl9 meth9 c9 s9 B hml hv
  obtain ⟨rfl, hP, hG⟩ := hv
  have hx := B.exec
  have hb := B.bytes
  have hr := B.returns
  have hts := atoms_spec (ws := wsX7_firstBad) B.pre
  have hown : s.vm.findClass RX7 = some m9.cls := findClass_of_methodNamed B.named
  have hlocks := B.notSynchronized
  have hK := hG.K
  have f_7 := hts (.fieldLink RX7 7 "CastDeskModel" "parts" "I") (by decide +kernel)
  have f_65 := hts (.fieldLink RX7 65 "CastDeskModel" "able" "[I") (by decide +kernel)
  have f_20 := hts (.fieldLink RX7 20 "CastDeskModel" "rows" "[I") (by decide +kernel)
  have iX7 : ∀ w ∈ wsX70, w ∈ wsX7_firstBad := by decide +kernel
  have hl := lv_entry ([.ref (g 0), .int (nI c)]) (n := 5) (Nat.le_of_ble_eq_true rfl)
  rw [lg_entry_eq]
  generalize (lg_sl ([.ref (g 0), .int (nI c)]) ++ List.replicate (5 - (lg_sl ([.ref (g 0), .int (nI c)])).length) Slot.unset).toArray = ls at hl ⊢
  have hl : lv_has ls 5 [(0, .ref (g 0)), (1, .int (nI c))] := hl
  have h27 := (iv_27 hI).1.2
  refine lv_iconst (v := nI 0) hx hb dX7_firstBad_0 (by decide) ?_
  refine lv_istore_n (lv' := [(2, .int (nI 0)), (0, .ref (g 0)), (1, .int (nI c))]) hx hb dX7_firstBad_1 rfl hl (by decide) rfl (fun ls hl => ?_)
  refine lv_iconst (v := nI 0) hx hb dX7_firstBad_2 (by decide) ?_
  refine lv_istore_n (lv' := [(3, .int (nI 0)), (2, .int (nI 0)), (0, .ref (g 0)), (1, .int (nI c))]) hx hb dX7_firstBad_3 rfl hl (by decide) rfl (fun ls hl => ?_)
  refine wl1 (nL := 5) (fun (k : Nat) => k ≤ nv (S 27 0) ∧ ok S m (dg (nv (S 27 0)) c) k = true) (fun (k : Nat) => nv (S 27 0) - k) (fun (k : Nat) => [(0, .ref (g 0)), (1, .int (nI c)), (2, .int (nI (us S (dg (nv (S 27 0)) c) k))), (3, .int (nI k))]) (fun k hi_4 ih_4 ls hl => ?_) 0 (⟨Nat.zero_le _, rfl⟩) (lv_sub hl [2, 3, 1, 0] rfl)
  have hi1 := hi_4.1
  have hdg := dg_lt (nv (S 27 0)) c k
  refine lv_iload_n hx hb dX7_firstBad_4 rfl (lv_at hl 3 rfl) ?_
  refine lv_aload_n hx hb dX7_firstBad_5 rfl (lv_at hl 0 rfl) ?_
  refine va_get (D := D) (ci := 7) (v := .int (S 27 0)) (C := RX7) (T := TX7) (N := 29) hx hb hts iX7 hown hK hP 0 rfl rfl 0 (by decide) f_7 (fun _ h9 => h9) rfl dX7_firstBad_6 ?_
  have b_6 := (iv_27 hI).1
  refine cd_tp (y := nI (nv (S 27 0))) b_6.1 ?_
  have b_6 := b_6.2
  refine cd_icmp_ge (tgt := 77) hx hb dX7_firstBad_9 (by decide) (by omega) (by omega) (fun c_9 => ?_) (fun c_9 => ?_)
  · refine lv_iconst (v := (-1)) hx hb dX7_firstBad_77 (by decide) ?_
    exact W.iret (v := (-1)) hx hb hr (fun t ht hW => ⟨_, rfl, ((fb_ok (by rw [show nv (S 27 0) = k by omega]; rw [show nv (S 27 0) = k by omega] at hi_4; exact hi_4.2)).symm), ht⟩) (fun _ h9 => nomatch h9) dX7_firstBad_78
  · refine lv_iconst (v := nI 4) hx hb dX7_firstBad_12 (by decide) ?_
    refine lv_iload_n hx hb dX7_firstBad_13 rfl (lv_at hl 3 rfl) ?_
    refine cd_imul hx hb dX7_firstBad_14 ?_
    refine cd_tp (y := nI (k * 4)) (m4 k) ?_
    refine lv_iload_n hx hb dX7_firstBad_15 rfl (lv_at hl 1 rfl) ?_
    refine lv_iconst (v := nI 2) hx hb dX7_firstBad_16 (by decide) ?_
    refine lv_aload_n hx hb dX7_firstBad_17 rfl (lv_at hl 0 rfl) ?_
    refine va_get (D := D) (ci := 7) (v := .int (S 27 0)) (C := RX7) (T := TX7) (N := 29) hx hb hts iX7 hown hK hP 0 rfl rfl 0 (by decide) f_7 (fun _ h9 => h9) rfl dX7_firstBad_18 ?_
    have b_18 := (iv_27 hI).1
    refine cd_tp (y := nI (nv (S 27 0))) b_18.1 ?_
    have b_18 := b_18.2
    refine lv_iconst (v := nI 1) hx hb dX7_firstBad_21 (by decide) ?_
    refine cd_isub hx hb (by omega) dX7_firstBad_22 ?_
    refine lv_iload_n hx hb dX7_firstBad_23 rfl (lv_at hl 3 rfl) ?_
    refine cd_isub hx hb (by omega) dX7_firstBad_24 ?_
    refine cd_imul hx hb dX7_firstBad_25 ?_
    refine cd_ishr hx hb (by omega) (by omega) dX7_firstBad_26 ?_
    refine lv_iconst (v := nI 3) hx hb dX7_firstBad_27 (by decide) ?_
    refine cd_iand hx hb dX7_firstBad_28 ?_
    refine cd_tp (y := nI (dg (nv (S 27 0)) c k)) (congrArg nI (dg_2 _ _ _)) ?_
    refine cd_iadd hx hb dX7_firstBad_29 ?_
    refine lv_istore (lv' := [(4, .int (nI ((k * 4) + (dg (nv (S 27 0)) c k)))), (0, .ref (g 0)), (1, .int (nI c)), (2, .int (nI (us S (dg (nv (S 27 0)) c) k))), (3, .int (nI k))]) hx hb dX7_firstBad_30 hl (by decide) rfl (fun ls hl => ?_)
    refine lv_aload_n hx hb dX7_firstBad_32 rfl (lv_at hl 1 rfl) ?_
    refine va_get (D := D) (ci := 7) (v := .ref (g 23)) (C := RX7) (T := TX7) (N := 29) hx hb hts iX7 hown hK hP 0 rfl rfl 23 (by decide) f_65 (fun _ h9 => h9) rfl dX7_firstBad_33 ?_
    refine lv_iload hx hb dX7_firstBad_36 (lv_at hl 0 rfl) ?_
    refine cd_iald (f := K 23) hx hb hK hP 18 rfl (by omega) (by decide) dX7_firstBad_38 ?_
    refine cd_tp (y := abI S m (k * 4 + dg (nv (S 27 0)) c k)) (hab _ (by omega)) ?_
    refine lv_if_eq (tgt := 57) hx hb dX7_firstBad_39 (by decide) (fun c_39 => ?_) (fun c_39 => ?_)
    · have hav : avB S m (k * 4 + dg (nv (S 27 0)) c k) = false := ab_z c_39
      refine lv_iload_n hx hb dX7_firstBad_57 rfl (lv_at hl 4 rfl) ?_
      exact W.iret (v := nI k) hx hb hr (fun t ht hW => ⟨_, rfl, ((fb_no hi_4.2 (ok_sn (Or.inl hav)) (by omega)).symm), ht⟩) (fun _ h9 => nomatch h9) dX7_firstBad_58
    · have hav : avB S m (k * 4 + dg (nv (S 27 0)) c k) = true := ab_nz c_39
      have hbd := avB_in hI (by omega) hav
      have hbd2 := hbd.2
      have hus := us_lt hI (show nv (S 27 0) ≤ 8 by omega) (m := m) (n := nv (S 27 0)) (c := dg (nv (S 27 0)) c) (k := k) ⟨hi1, fun p _ => dg_lt _ c p, hi_4.2⟩
      refine lv_iload_n hx hb dX7_firstBad_42 rfl (lv_at hl 3 rfl) ?_
      refine lv_aload_n hx hb dX7_firstBad_43 rfl (lv_at hl 1 rfl) ?_
      refine va_get (D := D) (ci := 7) (v := .ref (g 3)) (C := RX7) (T := TX7) (N := 29) hx hb hts iX7 hown hK hP 0 rfl rfl 3 (by decide) f_20 (fun _ h9 => h9) rfl dX7_firstBad_44 ?_
      refine lv_iload hx hb dX7_firstBad_47 (lv_at hl 0 rfl) ?_
      refine cd_iald (f := S 6) hx hb hK hP 3 rfl (by omega) (by decide) dX7_firstBad_49 ?_
      refine cd_tp (y := nI (nv (S 6 (k * 4 + dg (nv (S 27 0)) c k)))) (hbd.1) ?_
      refine cd_ishr hx hb (by omega) (by omega) dX7_firstBad_50 ?_
      refine lv_iconst (v := nI 1) hx hb dX7_firstBad_51 (by decide) ?_
      refine cd_iand hx hb dX7_firstBad_52 ?_
      refine lv_iconst (v := nI 1) hx hb dX7_firstBad_53 (by decide) ?_
      refine cd_icmp_ne (tgt := 59) hx hb dX7_firstBad_54 (by decide) (by have := Nat.and_le_right (n := us S (dg (nv (S 27 0)) c) k / 2 ^ nv (S 6 (k * 4 + dg (nv (S 27 0)) c k))) (m := 1); omega) (by decide) (fun c_54 => ?_) (fun c_54 => ?_)
      · have hbt : (us S (dg (nv (S 27 0)) c) k).testBit (nv (S 6 (k * 4 + dg (nv (S 27 0)) c k))) = false := and1_n c_54
        refine lv_iload_n hx hb dX7_firstBad_59 rfl (lv_at hl 3 rfl) ?_
        refine lv_iconst (v := nI 1) hx hb dX7_firstBad_60 (by decide) ?_
        refine lv_aload_n hx hb dX7_firstBad_61 rfl (lv_at hl 1 rfl) ?_
        refine va_get (D := D) (ci := 7) (v := .ref (g 3)) (C := RX7) (T := TX7) (N := 29) hx hb hts iX7 hown hK hP 0 rfl rfl 3 (by decide) f_20 (fun _ h9 => h9) rfl dX7_firstBad_62 ?_
        refine lv_iload hx hb dX7_firstBad_65 (lv_at hl 0 rfl) ?_
        refine cd_iald (f := S 6) hx hb hK hP 3 rfl (by omega) (by decide) dX7_firstBad_67 ?_
        refine cd_tp (y := nI (nv (S 6 (k * 4 + dg (nv (S 27 0)) c k)))) (hbd.1) ?_
        refine cd_ishl hx hb (by omega) (by have := Nat.pow_lt_pow_right (a := 2) (n := 12) (by decide) hbd2; omega) dX7_firstBad_68 ?_
        refine cd_ior hx hb dX7_firstBad_69 ?_
        refine lv_istore_n (lv' := [(2, .int (nI ((us S (dg (nv (S 27 0)) c) k) ||| (1 * 2 ^ (nv (S 6 (k * 4 + dg (nv (S 27 0)) c k))))))), (4, .int (nI ((k * 4) + (dg (nv (S 27 0)) c k)))), (0, .ref (g 0)), (1, .int (nI c)), (3, .int (nI k))]) hx hb dX7_firstBad_70 rfl hl (by decide) rfl (fun ls hl => ?_)
        refine lv_iinc (v := nI (k + 1)) (lv' := [(3, .int (nI (k + 1))), (2, .int (nI ((us S (dg (nv (S 27 0)) c) k) ||| (1 * 2 ^ (nv (S 6 (k * 4 + dg (nv (S 27 0)) c k))))))), (4, .int (nI ((k * 4) + (dg (nv (S 27 0)) c k)))), (0, .ref (g 0)), (1, .int (nI c))]) hx hb dX7_firstBad_71 hl (k := 4) rfl (cd_i1 _) (by decide) rfl (fun ls hl => ?_)
        refine lv_goto (tgt := 4) hx hb dX7_firstBad_74 (by decide) ?_
        have hl : lv_has ls 5 [(3, .int (nI (k + 1))), (2, .int (nI (us S (dg (nv (S 27 0)) c) (k + 1)))), (4, .int (nI ((k * 4) + (dg (nv (S 27 0)) c k)))), (0, .ref (g 0)), (1, .int (nI c))] := Eq.mp (congrArg (fun z9 : Int32 => lv_has ls 5 [(3, .int (nI (k + 1))), (2, .int z9), (4, .int (nI ((k * 4) + (dg (nv (S 27 0)) c k)))), (0, .ref (g 0)), (1, .int (nI c))]) (show (nI ((us S (dg (nv (S 27 0)) c) k) ||| (1 * 2 ^ (nv (S 6 (k * 4 + dg (nv (S 27 0)) c k))))) : Int32) = nI (us S (dg (nv (S 27 0)) c) (k + 1)) from by rw [Nat.one_mul]; rfl)) hl
        exact ih_4 (k + 1) (⟨by omega, ok_s.mpr ⟨hi_4.2, hav, hbt⟩⟩) (by omega) _ (lv_sub hl [3, 4, 1, 0] rfl)
      · have hbt : (us S (dg (nv (S 27 0)) c) k).testBit (nv (S 6 (k * 4 + dg (nv (S 27 0)) c k))) = true := and1_e c_54
        refine lv_iload_n hx hb dX7_firstBad_57 rfl (lv_at hl 4 rfl) ?_
        exact W.iret (v := nI k) hx hb hr (fun t ht hW => ⟨_, rfl, ((fb_no hi_4.2 (ok_sn (Or.inr hbt)) (by omega)).symm), ht⟩) (fun _ h9 => nomatch h9) dX7_firstBad_58
