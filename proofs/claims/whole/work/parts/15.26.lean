set_option maxHeartbeats 4000000 in
set_option maxRecDepth 100000 in
theorem c_X7_showOn (l : Launch) (D : va_G) (cy : qT) (g : Nat → Nat) (S : qS) (K : qS) (hI : Inv S) (d : Int32) : Met l yX7_showOn wsX7_showOn ({ frames := 0, cells := 0, slots := 0, locals := 0 }) (va_Pc [.ref (g 0), .int d] (roB D cy (wM cy g S K))) (vp_Si (fun r9 => r9 = shI S d)) 0 0 (fun _ => False) := by
  refine Met.ofW (cc := cX7_showOn) (maxL := 4) (ret := (some .int)) (by decide) rfl ?_
  intro pp e9 s m9 args9 bl9 meth9 c9 s9 B hml hv
  obtain ⟨rfl, hP, hG⟩ := hv
  have hx := B.exec
  have hb := B.bytes
  have hr := B.returns
  have hts := atoms_spec (ws := wsX7_showOn) B.pre
  have hown : s.vm.findClass RX7 = some m9.cls := findClass_of_methodNamed B.named
  have hlocks := B.notSynchronized
  have hK := hG.K
  have f_141 := hts (.fieldLink RX7 141 "CastDeskModel" "shows" "I") (by decide +kernel)
  have f_38 := hts (.fieldLink RX7 38 "CastDeskModel" "showDay" "[I") (by decide +kernel)
  have iX7 : ∀ w ∈ wsX70, w ∈ wsX7_showOn := by decide +kernel
  have hl := lv_entry ([.ref (g 0), .int d]) (n := 4) (Nat.le_of_ble_eq_true rfl)
  rw [lg_entry_eq]
  generalize (lg_sl ([.ref (g 0), .int d]) ++ List.replicate (4 - (lg_sl ([.ref (g 0), .int d])).length) Slot.unset).toArray = ls at hl ⊢
  have hl : lv_has ls 4 [(0, .ref (g 0)), (1, .int d)] := hl
  have h30 := (iv_30 hI).2
  refine lv_iconst (v := (-1)) hx hb dX7_showOn_0 (by decide) ?_
  refine lv_istore_n (lv' := [(2, .int (-1)), (0, .ref (g 0)), (1, .int d)]) hx hb dX7_showOn_1 rfl hl (by decide) rfl (fun ls hl => ?_)
  refine lv_iconst (v := nI 0) hx hb dX7_showOn_2 (by decide) ?_
  refine lv_istore_n (lv' := [(3, .int (nI 0)), (2, .int (-1)), (0, .ref (g 0)), (1, .int d)]) hx hb dX7_showOn_3 rfl hl (by decide) rfl (fun ls hl => ?_)
  have hl : lv_has ls 4 [(3, .int (nI 0)), (2, .int (fi (shP S d) 0)), (0, .ref (g 0)), (1, .int d)] := Eq.mp (congrArg (fun z9 : Int32 => lv_has ls 4 [(3, .int (nI 0)), (2, .int z9), (0, .ref (g 0)), (1, .int d)]) (show ((-1) : Int32) = fi (shP S d) 0 from rfl)) hl
  refine wl1 (nL := 4) (fun (i : Nat) => i ≤ nv (S 30 0)) (fun (i : Nat) => nv (S 30 0) - i) (fun (i : Nat) => [(0, .ref (g 0)), (1, .int d), (2, .int (fi (shP S d) i)), (3, .int (nI i))]) (fun i hi_4 ih_4 ls hl => ?_) 0 (Nat.zero_le _) (lv_sub hl [2, 3, 1, 0] rfl)
  refine lv_iload_n hx hb dX7_showOn_4 rfl (lv_at hl 3 rfl) ?_
  refine lv_aload_n hx hb dX7_showOn_5 rfl (lv_at hl 0 rfl) ?_
  refine va_get (D := D) (ci := 7) (v := .int (S 30 0)) (C := RX7) (T := TX7) (N := 29) hx hb hts iX7 hown hK hP 0 rfl rfl 13 (by decide) f_141 (fun _ h9 => h9) rfl dX7_showOn_6 ?_
  have b_6 := iv_30 hI
  refine cd_tp (y := nI (nv (S 30 0))) b_6.1 ?_
  have b_6 := b_6.2
  refine cd_icmp_ge (tgt := 34) hx hb dX7_showOn_9 (by decide) (by omega) (by omega) (fun c_9 => ?_) (fun c_9 => ?_)
  · refine lv_iload_n hx hb dX7_showOn_34 rfl (lv_at hl 2 rfl) ?_
    exact W.iret (v := fi (shP S d) i) hx hb hr (fun t ht hW => ⟨_, rfl, (by rw [shI, show i = nv (S 30 0) by omega]), ht⟩) (fun _ h9 => nomatch h9) dX7_showOn_35
  · refine lv_aload_n hx hb dX7_showOn_12 rfl (lv_at hl 0 rfl) ?_
    refine va_get (D := D) (ci := 7) (v := .ref (g 10)) (C := RX7) (T := TX7) (N := 29) hx hb hts iX7 hown hK hP 0 rfl rfl 10 (by decide) f_38 (fun _ h9 => h9) rfl dX7_showOn_13 ?_
    refine lv_iload_n hx hb dX7_showOn_16 rfl (lv_at hl 3 rfl) ?_
    refine cd_iald (f := S 19) hx hb hK hP 9 rfl (by omega) (by decide) dX7_showOn_17 ?_
    refine lv_iload_n hx hb dX7_showOn_18 rfl (lv_at hl 1 rfl) ?_
    refine lv_icmp_ne (tgt := 26) hx hb dX7_showOn_19 (by decide) (fun c_19 => ?_) (fun c_19 => ?_)
    · refine lv_iload_n hx hb dX7_showOn_26 rfl (lv_at hl 2 rfl) ?_
      refine lv_istore_n (lv' := [(2, .int (fi (shP S d) i)), (0, .ref (g 0)), (1, .int d), (3, .int (nI i))]) hx hb dX7_showOn_27 rfl hl (by decide) rfl (fun ls hl => ?_)
      refine lv_iinc (v := nI (i + 1)) (lv' := [(3, .int (nI (i + 1))), (2, .int (fi (shP S d) i)), (0, .ref (g 0)), (1, .int d)]) hx hb dX7_showOn_28 hl (k := 3) rfl (cd_i1 _) (by decide) rfl (fun ls hl => ?_)
      refine lv_goto (tgt := 4) hx hb dX7_showOn_31 (by decide) ?_
      have hl : lv_has ls 4 [(3, .int (nI (i + 1))), (2, .int (fi (shP S d) (i + 1))), (0, .ref (g 0)), (1, .int d)] := Eq.mp (congrArg (fun z9 : Int32 => lv_has ls 4 [(3, .int (nI (i + 1))), (2, .int z9), (0, .ref (g 0)), (1, .int d)]) (show (fi (shP S d) i : Int32) = fi (shP S d) (i + 1) from fi_n (decide_eq_false c_19))) hl
      exact ih_4 (i + 1) (by omega) (by omega) _ (lv_sub hl [2, 3, 1, 0] rfl)
    · refine lv_iload_n hx hb dX7_showOn_22 rfl (lv_at hl 3 rfl) ?_
      refine lv_goto (tgt := 27) hx hb dX7_showOn_23 (by decide) ?_
      refine lv_istore_n (lv' := [(2, .int (nI i)), (0, .ref (g 0)), (1, .int d), (3, .int (nI i))]) hx hb dX7_showOn_27 rfl hl (by decide) rfl (fun ls hl => ?_)
      refine lv_iinc (v := nI (i + 1)) (lv' := [(3, .int (nI (i + 1))), (2, .int (nI i)), (0, .ref (g 0)), (1, .int d)]) hx hb dX7_showOn_28 hl (k := 3) rfl (cd_i1 _) (by decide) rfl (fun ls hl => ?_)
      refine lv_goto (tgt := 4) hx hb dX7_showOn_31 (by decide) ?_
      have hl : lv_has ls 4 [(3, .int (nI (i + 1))), (2, .int (fi (shP S d) (i + 1))), (0, .ref (g 0)), (1, .int d)] := Eq.mp (congrArg (fun z9 : Int32 => lv_has ls 4 [(3, .int (nI (i + 1))), (2, .int z9), (0, .ref (g 0)), (1, .int d)]) (show (nI i : Int32) = fi (shP S d) (i + 1) from fi_hit (by omega) (fun j hj => decide_eq_false (fun q => iv_19 hI i j (by omega) hj (q.trans c_19.symm))) (decide_eq_true c_19))) hl
      exact ih_4 (i + 1) (by omega) (by omega) _ (lv_sub hl [2, 3, 1, 0] rfl)
