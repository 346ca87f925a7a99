set_option maxHeartbeats 4000000 in
set_option maxRecDepth 100000 in
theorem c_X7_rankOf (l : Launch) (D : va_G) (cy : qT) (g : Nat → Nat) (S : qS) (K : qS) (hI : Inv S) (p : Nat) (x : Int32) (hp : p < 8) : Met l yX7_rankOf wsX7_rankOf ({ frames := 0, cells := 0, slots := 0, locals := 0 }) (va_Pc [.ref (g 0), .int (nI p), .int x] (roB D cy (wM cy g S K))) (vp_Si (fun r9 => r9 = rkI S p x)) 0 0 (fun _ => False) := by
  refine Met.ofW (cc := cX7_rankOf) (maxL := 4) (ret := (some .int)) (by decide) rfl ?_
  intro pp e9 s m9 args9 bl9 meth9 c9 s9 B hml hv
  obtain ⟨rfl, hP, hG⟩ := hv
  have hx := B.exec
  have hb := B.bytes
  have hr := B.returns
  have hts := atoms_spec (ws := wsX7_rankOf) B.pre
  have hown : s.vm.findClass RX7 = some m9.cls := findClass_of_methodNamed B.named
  have hlocks := B.notSynchronized
  have hK := hG.K
  have f_23 := hts (.fieldLink RX7 23 "CastDeskModel" "lengths" "[I") (by decide +kernel)
  have f_20 := hts (.fieldLink RX7 20 "CastDeskModel" "rows" "[I") (by decide +kernel)
  have iX7 : ∀ w ∈ wsX70, w ∈ wsX7_rankOf := by decide +kernel
  have hl := lv_entry ([.ref (g 0), .int (nI p), .int x]) (n := 4) (Nat.le_of_ble_eq_true rfl)
  rw [lg_entry_eq]
  generalize (lg_sl ([.ref (g 0), .int (nI p), .int x]) ++ List.replicate (4 - (lg_sl ([.ref (g 0), .int (nI p), .int x])).length) Slot.unset).toArray = ls at hl ⊢
  have hl : lv_has ls 4 [(0, .ref (g 0)), (1, .int (nI p)), (2, .int x)] := hl
  refine lv_iconst (v := nI 0) hx hb dX7_rankOf_0 (by decide) ?_
  refine lv_istore_n (lv' := [(3, .int (nI 0)), (0, .ref (g 0)), (1, .int (nI p)), (2, .int x)]) hx hb dX7_rankOf_1 rfl hl (by decide) rfl (fun ls hl => ?_)
  refine wl1 (nL := 4) (fun (k : Nat) => k ≤ nv (S 7 p) ∧ ∀ j, j < k → rkP S p x j = false) (fun (k : Nat) => nv (S 7 p) - k) (fun (k : Nat) => [(0, .ref (g 0)), (1, .int (nI p)), (2, .int x), (3, .int (nI k))]) (fun k hi_2 ih_2 ls hl => ?_) 0 (⟨Nat.zero_le _, fun j hj => absurd hj (Nat.not_lt_zero j)⟩) (lv_sub hl [1, 2, 3, 0] rfl)
  have hi1 := hi_2.1
  refine lv_iload_n hx hb dX7_rankOf_2 rfl (lv_at hl 3 rfl) ?_
  refine lv_aload_n hx hb dX7_rankOf_3 rfl (lv_at hl 0 rfl) ?_
  refine va_get (D := D) (ci := 7) (v := .ref (g 4)) (C := RX7) (T := TX7) (N := 29) hx hb hts iX7 hown hK hP 0 rfl rfl 4 (by decide) f_23 (fun _ h9 => h9) rfl dX7_rankOf_4 ?_
  refine lv_iload_n hx hb dX7_rankOf_7 rfl (lv_at hl 1 rfl) ?_
  refine cd_iald (f := S 7) hx hb hK hP 4 rfl (by omega) (by decide) dX7_rankOf_8 ?_
  have b_8 := iv_7 hI p (by omega)
  refine cd_tp (y := nI (nv (S 7 p))) b_8.1 ?_
  have b_8 := b_8.2
  refine cd_icmp_ge (tgt := 32) hx hb dX7_rankOf_9 (by decide) (by omega) (by omega) (fun c_9 => ?_) (fun c_9 => ?_)
  · refine lv_iload_n hx hb dX7_rankOf_32 rfl (lv_at hl 3 rfl) ?_
    refine lv_aload_n hx hb dX7_rankOf_33 rfl (lv_at hl 0 rfl) ?_
    refine va_get (D := D) (ci := 7) (v := .ref (g 4)) (C := RX7) (T := TX7) (N := 29) hx hb hts iX7 hown hK hP 0 rfl rfl 4 (by decide) f_23 (fun _ h9 => h9) rfl dX7_rankOf_34 ?_
    refine lv_iload_n hx hb dX7_rankOf_37 rfl (lv_at hl 1 rfl) ?_
    refine cd_iald (f := S 7) hx hb hK hP 4 rfl (by omega) (by decide) dX7_rankOf_38 ?_
    have b_38 := iv_7 hI p (by omega)
    refine cd_tp (y := nI (nv (S 7 p))) b_38.1 ?_
    have b_38 := b_38.2
    refine cd_icmp_ge (tgt := 46) hx hb dX7_rankOf_39 (by decide) (by omega) (by omega) (fun c_39 => ?_) (fun c_39 => ?_)
    · refine lv_iconst (v := (-1)) hx hb dX7_rankOf_46 (by decide) ?_
      exact W.iret (v := (-1)) hx hb hr (fun t ht hW => ⟨_, rfl, (fi_miss (fun j hj => hi_2.2 j (by omega))), ht⟩) (fun _ h9 => nomatch h9) dX7_rankOf_47
    · exact absurd c_39 (by omega)
  · refine lv_aload_n hx hb dX7_rankOf_12 rfl (lv_at hl 0 rfl) ?_
    refine va_get (D := D) (ci := 7) (v := .ref (g 3)) (C := RX7) (T := TX7) (N := 29) hx hb hts iX7 hown hK hP 0 rfl rfl 3 (by decide) f_20 (fun _ h9 => h9) rfl dX7_rankOf_13 ?_
    refine lv_iconst (v := nI 4) hx hb dX7_rankOf_16 (by decide) ?_
    refine lv_iload_n hx hb dX7_rankOf_17 rfl (lv_at hl 1 rfl) ?_
    refine cd_imul hx hb dX7_rankOf_18 ?_
    refine cd_tp (y := nI (p * 4)) (m4 p) ?_
    refine lv_iload_n hx hb dX7_rankOf_19 rfl (lv_at hl 3 rfl) ?_
    refine cd_iadd hx hb dX7_rankOf_20 ?_
    refine cd_iald (f := S 6) hx hb hK hP 3 rfl (by omega) (by decide) dX7_rankOf_21 ?_
    refine lv_iload_n hx hb dX7_rankOf_22 rfl (lv_at hl 2 rfl) ?_
    refine lv_icmp_eq (tgt := 32) hx hb dX7_rankOf_23 (by decide) (fun c_23 => ?_) (fun c_23 => ?_)
    · refine lv_iload_n hx hb dX7_rankOf_32 rfl (lv_at hl 3 rfl) ?_
      refine lv_aload_n hx hb dX7_rankOf_33 rfl (lv_at hl 0 rfl) ?_
      refine va_get (D := D) (ci := 7) (v := .ref (g 4)) (C := RX7) (T := TX7) (N := 29) hx hb hts iX7 hown hK hP 0 rfl rfl 4 (by decide) f_23 (fun _ h9 => h9) rfl dX7_rankOf_34 ?_
      refine lv_iload_n hx hb dX7_rankOf_37 rfl (lv_at hl 1 rfl) ?_
      refine cd_iald (f := S 7) hx hb hK hP 4 rfl (by omega) (by decide) dX7_rankOf_38 ?_
      have b_38 := iv_7 hI p (by omega)
      refine cd_tp (y := nI (nv (S 7 p))) b_38.1 ?_
      have b_38 := b_38.2
      refine cd_icmp_ge (tgt := 46) hx hb dX7_rankOf_39 (by decide) (by omega) (by omega) (fun c_39 => ?_) (fun c_39 => ?_)
      · exact absurd c_39 (by omega)
      · refine lv_iload_n hx hb dX7_rankOf_42 rfl (lv_at hl 3 rfl) ?_
        refine lv_goto (tgt := 47) hx hb dX7_rankOf_43 (by decide) ?_
        exact W.iret (v := nI k) hx hb hr (fun t ht hW => ⟨_, rfl, (fi_hit (by omega) hi_2.2 (decide_eq_true c_23)), ht⟩) (fun _ h9 => nomatch h9) dX7_rankOf_47
    · refine lv_iinc (v := nI (k + 1)) (lv' := [(3, .int (nI (k + 1))), (0, .ref (g 0)), (1, .int (nI p)), (2, .int x)]) hx hb dX7_rankOf_26 hl (k := 3) rfl (cd_i1 _) (by decide) rfl (fun ls hl => ?_)
      refine lv_goto (tgt := 2) hx hb dX7_rankOf_29 (by decide) ?_
      exact ih_2 (k + 1) (⟨by omega, lt_s hi_2.2 (decide_eq_false c_23)⟩) (by omega) _ (lv_sub hl [1, 2, 3, 0] rfl)
