set_option maxHeartbeats 4000000 in
set_option maxRecDepth 100000 in
theorem c_X7_knownBy (l : Launch) (D : va_G) (cy : qT) (g : Nat → Nat) (S : qS) (K : qS) (a : Nat) (ha : a < 12) (hb3 : bd (S 3 a) 256) : Met l yX7_knownBy wsX7_knownBy ({ frames := 0, cells := 0, slots := 0, locals := 0 }) (va_Pc [.ref (g 0), .int (nI a)] (roB D cy (wM cy g S K))) (vp_Si (fun r9 => r9 = nI (pcn 8 (nv (S 3 a))))) 0 0 (fun _ => False) := by
  refine Met.ofW (cc := cX7_knownBy) (maxL := 4) (ret := (some .int)) (by decide) rfl ?_
  intro pp e9 s m9 args9 bl9 meth9 c9 s9 B hml hv
  obtain ⟨rfl, hP, hG⟩ := hv
  have hx := B.exec
  have hb := B.bytes
  have hr := B.returns
  have hts := atoms_spec (ws := wsX7_knownBy) B.pre
  have hown : s.vm.findClass RX7 = some m9.cls := findClass_of_methodNamed B.named
  have hlocks := B.notSynchronized
  have hK := hG.K
  have f_17 := hts (.fieldLink RX7 17 "CastDeskModel" "known" "[I") (by decide +kernel)
  have iX7 : ∀ w ∈ wsX70, w ∈ wsX7_knownBy := by decide +kernel
  have hl := lv_entry ([.ref (g 0), .int (nI a)]) (n := 4) (Nat.le_of_ble_eq_true rfl)
  rw [lg_entry_eq]
  generalize (lg_sl ([.ref (g 0), .int (nI a)]) ++ List.replicate (4 - (lg_sl ([.ref (g 0), .int (nI a)])).length) Slot.unset).toArray = ls at hl ⊢
  have hl : lv_has ls 4 [(0, .ref (g 0)), (1, .int (nI a))] := hl
  have hb32 := hb3.2
  refine lv_iconst (v := nI 0) hx hb dX7_knownBy_0 (by decide) ?_
  refine lv_istore_n (lv' := [(2, .int (nI 0)), (0, .ref (g 0)), (1, .int (nI a))]) hx hb dX7_knownBy_1 rfl hl (by decide) rfl (fun ls hl => ?_)
  refine lv_iconst (v := nI 0) hx hb dX7_knownBy_2 (by decide) ?_
  refine lv_istore_n (lv' := [(3, .int (nI 0)), (2, .int (nI 0)), (0, .ref (g 0)), (1, .int (nI a))]) hx hb dX7_knownBy_3 rfl hl (by decide) rfl (fun ls hl => ?_)
  refine wl1 (nL := 4) (fun (i : Nat) => i ≤ 8) (fun (i : Nat) => 8 - i) (fun (i : Nat) => [(0, .ref (g 0)), (1, .int (nI a)), (2, .int (nI (pcn i (nv (S 3 a))))), (3, .int (nI i))]) (fun i hi_4 ih_4 ls hl => ?_) 0 (Nat.zero_le _) (lv_sub hl [2, 3, 1, 0] rfl)
  refine lv_iload_n hx hb dX7_knownBy_4 rfl (lv_at hl 3 rfl) ?_
  refine lv_bipush (v := nI 8) hx hb dX7_knownBy_5 (by decide) ?_
  refine cd_icmp_ge (tgt := 29) hx hb dX7_knownBy_7 (by decide) (by omega) (by omega) (fun c_7 => ?_) (fun c_7 => ?_)
  · refine lv_iload_n hx hb dX7_knownBy_29 rfl (lv_at hl 2 rfl) ?_
    exact W.iret (v := nI (pcn i (nv (S 3 a)))) hx hb hr (fun t ht hW => ⟨_, rfl, (by rw [show i = 8 by omega]), ht⟩) (fun _ h9 => nomatch h9) dX7_knownBy_30
  · refine lv_iload_n hx hb dX7_knownBy_10 rfl (lv_at hl 2 rfl) ?_
    refine lv_aload_n hx hb dX7_knownBy_11 rfl (lv_at hl 0 rfl) ?_
    refine va_get (D := D) (ci := 7) (v := .ref (g 2)) (C := RX7) (T := TX7) (N := 29) hx hb hts iX7 hown hK hP 0 rfl rfl 2 (by decide) f_17 (fun _ h9 => h9) rfl dX7_knownBy_12 ?_
    refine lv_iload_n hx hb dX7_knownBy_15 rfl (lv_at hl 1 rfl) ?_
    refine cd_iald (f := S 3) hx hb hK hP 2 rfl (by omega) (by decide) dX7_knownBy_16 ?_
    refine cd_tp (y := nI (nv (S 3 a))) (hb3.1) ?_
    refine lv_iload_n hx hb dX7_knownBy_17 rfl (lv_at hl 3 rfl) ?_
    refine cd_ishr hx hb (by omega) (by omega) dX7_knownBy_18 ?_
    refine lv_iconst (v := nI 1) hx hb dX7_knownBy_19 (by decide) ?_
    refine cd_iand hx hb dX7_knownBy_20 ?_
    refine cd_iadd hx hb dX7_knownBy_21 ?_
    refine lv_istore_n (lv' := [(2, .int (nI ((pcn i (nv (S 3 a))) + (((nv (S 3 a)) / 2 ^ i) &&& 1)))), (0, .ref (g 0)), (1, .int (nI a)), (3, .int (nI i))]) hx hb dX7_knownBy_22 rfl hl (by decide) rfl (fun ls hl => ?_)
    refine lv_iinc (v := nI (i + 1)) (lv' := [(3, .int (nI (i + 1))), (2, .int (nI ((pcn i (nv (S 3 a))) + (((nv (S 3 a)) / 2 ^ i) &&& 1)))), (0, .ref (g 0)), (1, .int (nI a))]) hx hb dX7_knownBy_23 hl (k := 3) rfl (cd_i1 _) (by decide) rfl (fun ls hl => ?_)
    refine lv_goto (tgt := 4) hx hb dX7_knownBy_26 (by decide) ?_
    have hl : lv_has ls 4 [(3, .int (nI (i + 1))), (2, .int (nI (pcn (i + 1) (nv (S 3 a))))), (0, .ref (g 0)), (1, .int (nI a))] := Eq.mp (congrArg (fun z9 : Int32 => lv_has ls 4 [(3, .int (nI (i + 1))), (2, .int z9), (0, .ref (g 0)), (1, .int (nI a))]) (show (nI ((pcn i (nv (S 3 a))) + (((nv (S 3 a)) / 2 ^ i) &&& 1)) : Int32) = nI (pcn (i + 1) (nv (S 3 a))) from congrArg nI (pcn_st _ _))) hl
    exact ih_4 (i + 1) (by omega) (by omega) _ (lv_sub hl [2, 3, 1, 0] rfl)
