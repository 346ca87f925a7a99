set_option maxHeartbeats 4000000 in
set_option maxRecDepth 100000 in
theorem c_X7_fits (l : Launch) (D : va_G) (cy : qT) (g : Nat → Nat) (S : qS) (K : qS) (hI : Inv S) (a : Nat) (p : Nat) (ha : a < 12) : Met l yX7_fits wsX7_fits ({ frames := 0, cells := 0, slots := 0, locals := 0 }) (va_Pc [.ref (g 0), .int (nI a), .int (nI p)] (roB D cy (wM cy g S K))) (vp_Si (fun r9 => r9 = bI (ftB S p (S 2 a)))) 0 0 (fun _ => False) := by
  refine Met.ofW (cc := cX7_fits) (maxL := 5) (ret := (some .boolean)) (by decide) rfl ?_
  intro pp e9 s m9 args9 bl9 meth9 c9 s9 B hml hv
  obtain ⟨rfl, hP, hG⟩ := hv
  have hx := B.exec
  have hb := B.bytes
  have hr := B.returns
  have hts := atoms_spec (ws := wsX7_fits) B.pre
  have hown : s.vm.findClass RX7 = some m9.cls := findClass_of_methodNamed B.named
  have hlocks := B.notSynchronized
  have hK := hG.K
  have f_103 := hts (.fieldLink RX7 103 "CastDeskModel" "costumes" "I") (by decide +kernel)
  have f_26 := hts (.fieldLink RX7 26 "CastDeskModel" "costumePart" "[I") (by decide +kernel)
  have f_29 := hts (.fieldLink RX7 29 "CastDeskModel" "costumeSize" "[I") (by decide +kernel)
  have f_13 := hts (.fieldLink RX7 13 "CastDeskModel" "sizes" "[I") (by decide +kernel)
  have iX7 : ∀ w ∈ wsX70, w ∈ wsX7_fits := by decide +kernel
  have hl := lv_entry ([.ref (g 0), .int (nI a), .int (nI p)]) (n := 5) (Nat.le_of_ble_eq_true rfl)
  rw [lg_entry_eq]
  generalize (lg_sl ([.ref (g 0), .int (nI a), .int (nI p)]) ++ List.replicate (5 - (lg_sl ([.ref (g 0), .int (nI a), .int (nI p)])).length) Slot.unset).toArray = ls at hl ⊢
  have hl : lv_has ls 5 [(0, .ref (g 0)), (1, .int (nI a)), (2, .int (nI p))] := hl
  have h29 := (iv_29 hI).2
  refine lv_iconst (v := nI 0) hx hb dX7_fits_0 (by decide) ?_
  refine lv_istore_n (lv' := [(3, .int (nI 0)), (0, .ref (g 0)), (1, .int (nI a)), (2, .int (nI p))]) hx hb dX7_fits_1 rfl hl (by decide) rfl (fun ls hl => ?_)
  refine lv_iconst (v := nI 0) hx hb dX7_fits_2 (by decide) ?_
  refine lv_istore (lv' := [(4, .int (nI 0)), (3, .int (nI 0)), (0, .ref (g 0)), (1, .int (nI a)), (2, .int (nI p))]) hx hb dX7_fits_3 hl (by decide) rfl (fun ls hl => ?_)
  have hl : lv_has ls 5 [(4, .int (nI 0)), (3, .int (bI (ex (ftP S p (S 2 a)) 0))), (0, .ref (g 0)), (1, .int (nI a)), (2, .int (nI p))] := Eq.mp (congrArg (fun z9 : Int32 => lv_has ls 5 [(4, .int (nI 0)), (3, .int z9), (0, .ref (g 0)), (1, .int (nI a)), (2, .int (nI p))]) (show (nI 0 : Int32) = bI (ex (ftP S p (S 2 a)) 0) from rfl)) hl
  refine wl1 (nL := 5) (fun (k : Nat) => k ≤ nv (S 29 0)) (fun (k : Nat) => nv (S 29 0) - k) (fun (k : Nat) => [(0, .ref (g 0)), (1, .int (nI a)), (2, .int (nI p)), (3, .int (bI (ex (ftP S p (S 2 a)) k))), (4, .int (nI k))]) (fun k hi_5 ih_5 ls hl => ?_) 0 (Nat.zero_le _) (lv_sub hl [2, 3, 4, 1, 0] rfl)
  refine lv_iload hx hb dX7_fits_5 (lv_at hl 4 rfl) ?_
  refine lv_aload_n hx hb dX7_fits_7 rfl (lv_at hl 0 rfl) ?_
  refine va_get (D := D) (ci := 7) (v := .int (S 29 0)) (C := RX7) (T := TX7) (N := 29) hx hb hts iX7 hown hK hP 0 rfl rfl 8 (by decide) f_103 (fun _ h9 => h9) rfl dX7_fits_8 ?_
  have b_8 := iv_29 hI
  refine cd_tp (y := nI (nv (S 29 0))) b_8.1 ?_
  have b_8 := b_8.2
  refine cd_icmp_ge (tgt := 55) hx hb dX7_fits_11 (by decide) (by omega) (by omega) (fun c_11 => ?_) (fun c_11 => ?_)
  · refine lv_iload_n hx hb dX7_fits_55 rfl (lv_at hl 3 rfl) ?_
    exact W.zret (v := bI (ex (ftP S p (S 2 a)) k)) hx hb hr (nar_bI _) (fun t ht hW => ⟨_, rfl, (by rw [ftB, show k = nv (S 29 0) by omega]), ht⟩) (fun _ h9 => nomatch h9) dX7_fits_56
  · refine lv_iload_n hx hb dX7_fits_14 rfl (lv_at hl 3 rfl) ?_
    refine lv_aload_n hx hb dX7_fits_15 rfl (lv_at hl 0 rfl) ?_
    refine va_get (D := D) (ci := 7) (v := .ref (g 5)) (C := RX7) (T := TX7) (N := 29) hx hb hts iX7 hown hK hP 0 rfl rfl 5 (by decide) f_26 (fun _ h9 => h9) rfl dX7_fits_16 ?_
    refine lv_iload hx hb dX7_fits_19 (lv_at hl 4 rfl) ?_
    refine cd_iald (f := S 10) hx hb hK hP 5 rfl (by omega) (by decide) dX7_fits_21 ?_
    refine lv_iload_n hx hb dX7_fits_22 rfl (lv_at hl 2 rfl) ?_
    refine lv_icmp_ne (tgt := 46) hx hb dX7_fits_23 (by decide) (fun c_23 => ?_) (fun c_23 => ?_)
    · refine lv_iconst (v := nI 0) hx hb dX7_fits_46 (by decide) ?_
      refine lv_ior hx hb dX7_fits_47 ?_
      refine cd_tp (y := bI (ex (ftP S p (S 2 a)) (k + 1))) (ex_n (decide_eq_false (fun q => c_23 q.1))) ?_
      refine lv_istore_n (lv' := [(3, .int (bI (ex (ftP S p (S 2 a)) (k + 1)))), (0, .ref (g 0)), (1, .int (nI a)), (2, .int (nI p)), (4, .int (nI k))]) hx hb dX7_fits_48 rfl hl (by decide) rfl (fun ls hl => ?_)
      refine lv_iinc (v := nI (k + 1)) (lv' := [(4, .int (nI (k + 1))), (3, .int (bI (ex (ftP S p (S 2 a)) (k + 1)))), (0, .ref (g 0)), (1, .int (nI a)), (2, .int (nI p))]) hx hb dX7_fits_49 hl (k := 4) rfl (cd_i1 _) (by decide) rfl (fun ls hl => ?_)
      refine lv_goto (tgt := 5) hx hb dX7_fits_52 (by decide) ?_
      exact ih_5 (k + 1) (by omega) (by omega) _ (lv_sub hl [2, 3, 4, 1, 0] rfl)
    · refine lv_aload_n hx hb dX7_fits_26 rfl (lv_at hl 0 rfl) ?_
      refine va_get (D := D) (ci := 7) (v := .ref (g 6)) (C := RX7) (T := TX7) (N := 29) hx hb hts iX7 hown hK hP 0 rfl rfl 6 (by decide) f_29 (fun _ h9 => h9) rfl dX7_fits_27 ?_
      refine lv_iload hx hb dX7_fits_30 (lv_at hl 4 rfl) ?_
      refine cd_iald (f := S 9) hx hb hK hP 6 rfl (by omega) (by decide) dX7_fits_32 ?_
      refine lv_aload_n hx hb dX7_fits_33 rfl (lv_at hl 0 rfl) ?_
      refine va_get (D := D) (ci := 7) (v := .ref (g 1)) (C := RX7) (T := TX7) (N := 29) hx hb hts iX7 hown hK hP 0 rfl rfl 1 (by decide) f_13 (fun _ h9 => h9) rfl dX7_fits_34 ?_
      refine lv_iload_n hx hb dX7_fits_37 rfl (lv_at hl 1 rfl) ?_
      refine cd_iald (f := S 2) hx hb hK hP 1 rfl (by omega) (by decide) dX7_fits_38 ?_
      refine lv_icmp_ne (tgt := 46) hx hb dX7_fits_39 (by decide) (fun c_39 => ?_) (fun c_39 => ?_)
      · refine lv_iconst (v := nI 0) hx hb dX7_fits_46 (by decide) ?_
        refine lv_ior hx hb dX7_fits_47 ?_
        refine cd_tp (y := bI (ex (ftP S p (S 2 a)) (k + 1))) (ex_n (decide_eq_false (fun q => c_39 q.2))) ?_
        refine lv_istore_n (lv' := [(3, .int (bI (ex (ftP S p (S 2 a)) (k + 1)))), (0, .ref (g 0)), (1, .int (nI a)), (2, .int (nI p)), (4, .int (nI k))]) hx hb dX7_fits_48 rfl hl (by decide) rfl (fun ls hl => ?_)
        refine lv_iinc (v := nI (k + 1)) (lv' := [(4, .int (nI (k + 1))), (3, .int (bI (ex (ftP S p (S 2 a)) (k + 1)))), (0, .ref (g 0)), (1, .int (nI a)), (2, .int (nI p))]) hx hb dX7_fits_49 hl (k := 4) rfl (cd_i1 _) (by decide) rfl (fun ls hl => ?_)
        refine lv_goto (tgt := 5) hx hb dX7_fits_52 (by decide) ?_
        exact ih_5 (k + 1) (by omega) (by omega) _ (lv_sub hl [2, 3, 4, 1, 0] rfl)
      · refine lv_iconst (v := nI 1) hx hb dX7_fits_42 (by decide) ?_
        refine lv_goto (tgt := 47) hx hb dX7_fits_43 (by decide) ?_
        refine lv_ior hx hb dX7_fits_47 ?_
        refine cd_tp (y := bI (ex (ftP S p (S 2 a)) (k + 1))) (ex_y (decide_eq_true ⟨c_23, c_39⟩)) ?_
        refine lv_istore_n (lv' := [(3, .int (bI (ex (ftP S p (S 2 a)) (k + 1)))), (0, .ref (g 0)), (1, .int (nI a)), (2, .int (nI p)), (4, .int (nI k))]) hx hb dX7_fits_48 rfl hl (by decide) rfl (fun ls hl => ?_)
        refine lv_iinc (v := nI (k + 1)) (lv' := [(4, .int (nI (k + 1))), (3, .int (bI (ex (ftP S p (S 2 a)) (k + 1)))), (0, .ref (g 0)), (1, .int (nI a)), (2, .int (nI p))]) hx hb dX7_fits_49 hl (k := 4) rfl (cd_i1 _) (by decide) rfl (fun ls hl => ?_)
        refine lv_goto (tgt := 5) hx hb dX7_fits_52 (by decide) ?_
        exact ih_5 (k + 1) (by omega) (by omega) _ (lv_sub hl [2, 3, 4, 1, 0] rfl)
