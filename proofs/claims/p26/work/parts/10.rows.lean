set_option maxHeartbeats 4000000 in
set_option maxRecDepth 100000 in
theorem c_X6_has (l : Launch) (m : Nat) (j : Nat) (hm : m < 2147483648) (hj : j < 31) : Met l yX6_has wsX6_has ({ frames := 0, cells := 0, slots := 0, locals := 0 }) (va_Pc [.int (nI m), .int (nI j)] (fun _ => True)) (vp_Si (fun r9 => r9 = bI (m.testBit j))) 0 0 (fun _ => False) := by
  refine Met.ofW (cc := cX6_has) (maxL := 2) (ret := (some .boolean)) (by decide) rfl ?_
  intro pp e9 s m9 args9 bl9 meth9 c9 s9 B hml hv
  obtain ⟨rfl, -⟩ := hv
  have hx := B.exec
  have hb := B.bytes
  have hr := B.returns
  have hts := atoms_spec (ws := wsX6_has) B.pre
  have hown : s.vm.findClass RX6 = some m9.cls := findClass_of_methodNamed B.named
  have hlocks := B.notSynchronized
  have hl := lv_entry ([.int (nI m), .int (nI j)]) (n := 2) (Nat.le_of_ble_eq_true rfl)
  rw [lg_entry_eq]
  generalize (lg_sl ([.int (nI m), .int (nI j)]) ++ List.replicate (2 - (lg_sl ([.int (nI m), .int (nI j)])).length) Slot.unset).toArray = ls at hl ⊢
  have hl : lv_has ls 2 [(0, .int (nI m)), (1, .int (nI j))] := hl
  refine lv_iload_n hx hb dX6_has_0 rfl (lv_at hl 0 rfl) ?_
  refine lv_iload_n hx hb dX6_has_1 rfl (lv_at hl 1 rfl) ?_
  refine cd_ishr hx hb (by omega) (by omega) dX6_has_2 ?_
  refine lv_iconst (v := nI 1) hx hb dX6_has_3 (by decide) ?_
  refine cd_iand hx hb dX6_has_4 ?_
  refine cd_if_eq (tgt := 12) hx hb dX6_has_5 (by decide) (by rw [Nat.and_one_is_mod]; omega) (fun c_5 => ?_) (fun c_5 => ?_)
  · refine lv_iconst (v := nI 0) hx hb dX6_has_12 (by decide) ?_
    exact W.zret (v := nI 0) hx hb hr rfl (fun t ht hW => ⟨_, rfl, (by rw [tb_0 c_5]; rfl), ht⟩) (fun _ h9 => nomatch h9) dX6_has_13
  · refine lv_iconst (v := nI 1) hx hb dX6_has_8 (by decide) ?_
    refine lv_goto (tgt := 13) hx hb dX6_has_9 (by decide) ?_
    exact W.zret (v := nI 1) hx hb hr rfl (fun t ht hW => ⟨_, rfl, (by rw [tb_1 c_5]; rfl), ht⟩) (fun _ h9 => nomatch h9) dX6_has_13
set_option maxHeartbeats 4000000 in
set_option maxRecDepth 100000 in
theorem c_X6_with (l : Launch) (m : Nat) (j : Nat) (hj : j < 31) : Met l yX6_with wsX6_with ({ frames := 0, cells := 0, slots := 0, locals := 0 }) (va_Pc [.int (nI m), .int (nI j)] (fun _ => True)) (vp_Si (fun r9 => r9 = nI (m ||| 2 ^ j))) 0 0 (fun _ => False) := by
  refine Met.ofW (cc := cX6_with) (maxL := 2) (ret := (some .int)) (by decide) rfl ?_
  intro pp e9 s m9 args9 bl9 meth9 c9 s9 B hml hv
  obtain ⟨rfl, -⟩ := hv
  have hx := B.exec
  have hb := B.bytes
  have hr := B.returns
  have hts := atoms_spec (ws := wsX6_with) B.pre
  have hown : s.vm.findClass RX6 = some m9.cls := findClass_of_methodNamed B.named
  have hlocks := B.notSynchronized
  have hl := lv_entry ([.int (nI m), .int (nI j)]) (n := 2) (Nat.le_of_ble_eq_true rfl)
  rw [lg_entry_eq]
  generalize (lg_sl ([.int (nI m), .int (nI j)]) ++ List.replicate (2 - (lg_sl ([.int (nI m), .int (nI j)])).length) Slot.unset).toArray = ls at hl ⊢
  have hl : lv_has ls 2 [(0, .int (nI m)), (1, .int (nI j))] := hl
  refine lv_iload_n hx hb dX6_with_0 rfl (lv_at hl 0 rfl) ?_
  refine lv_iconst (v := nI 1) hx hb dX6_with_1 (by decide) ?_
  refine lv_iload_n hx hb dX6_with_2 rfl (lv_at hl 1 rfl) ?_
  refine cd_ishl hx hb (by omega) (by have := Nat.pow_lt_pow_right (a := 2) (by decide) hj; omega) dX6_with_3 ?_
  refine cd_ior hx hb dX6_with_4 ?_
  exact W.iret (v := nI (m ||| (1 * 2 ^ j))) hx hb hr (fun t ht hW => ⟨_, rfl, (by rw [Nat.one_mul]), ht⟩) (fun _ h9 => nomatch h9) dX6_with_5
set_option maxHeartbeats 4000000 in
set_option maxRecDepth 100000 in
theorem c_X6_without (l : Launch) (m : Nat) (j : Nat) (hm : m < 256) (hj : j < 8) : Met l yX6_without wsX6_without ({ frames := 0, cells := 0, slots := 0, locals := 0 }) (va_Pc [.int (nI m), .int (nI j)] (fun _ => True)) (vp_Si (fun r9 => r9 = nI (clr m j))) 0 0 (fun _ => False) := by
  refine Met.ofW (cc := cX6_without) (maxL := 2) (ret := (some .int)) (by decide) rfl ?_
  intro pp e9 s m9 args9 bl9 meth9 c9 s9 B hml hv
  obtain ⟨rfl, -⟩ := hv
  have hx := B.exec
  have hb := B.bytes
  have hr := B.returns
  have hts := atoms_spec (ws := wsX6_without) B.pre
  have hown : s.vm.findClass RX6 = some m9.cls := findClass_of_methodNamed B.named
  have hlocks := B.notSynchronized
  have hl := lv_entry ([.int (nI m), .int (nI j)]) (n := 2) (Nat.le_of_ble_eq_true rfl)
  rw [lg_entry_eq]
  generalize (lg_sl ([.int (nI m), .int (nI j)]) ++ List.replicate (2 - (lg_sl ([.int (nI m), .int (nI j)])).length) Slot.unset).toArray = ls at hl ⊢
  have hl : lv_has ls 2 [(0, .int (nI m)), (1, .int (nI j))] := hl
  refine lv_iload_n hx hb dX6_without_0 rfl (lv_at hl 0 rfl) ?_
  refine lv_iconst (v := nI 1) hx hb dX6_without_1 (by decide) ?_
  refine lv_iload_n hx hb dX6_without_2 rfl (lv_at hl 1 rfl) ?_
  refine cd_ishl hx hb (by omega) (by have := p2_lt (show j < 31 by omega); omega) dX6_without_3 ?_
  refine lv_iconst (v := (-1)) hx hb dX6_without_4 (by decide) ?_
  refine lv_ixor hx hb dX6_without_5 ?_
  refine lv_iand hx hb dX6_without_6 ?_
  exact W.iret (v := (nI m) &&& ((nI (1 * 2 ^ j)) ^^^ (-1))) hx hb hr (fun t ht hW => ⟨_, rfl, (clr_J _ hm _ hj), ht⟩) (fun _ h9 => nomatch h9) dX6_without_7
set_option maxHeartbeats 4000000 in
set_option maxRecDepth 100000 in
theorem c_X3_actorAt (l : Launch) (D : va_G) (cy : qT) (h : Nat → Nat) (S : qS) (hI : Inv S) (p : Nat) (r : Nat) (hp : p < 8) (hq : r < 2147483648) : Met l yX3_actorAt wsX3_actorAt ({ frames := 0, cells := 0, slots := 0, locals := 0 }) (va_Pc [.ref (h 5), .int (nI p), .int (nI r)] (roB D cy (wX3 cy h S))) (vp_Si (fun r9 => r9 = acI S p r)) 0 0 (fun _ => False) := by
  refine Met.ofW (cc := cX3_actorAt) (maxL := 3) (ret := (some .int)) (by decide) rfl ?_
  intro pp e9 s m9 args9 bl9 meth9 c9 s9 B hml hv
  obtain ⟨rfl, hP, hG⟩ := hv
  have hx := B.exec
  have hb := B.bytes
  have hr := B.returns
  have hts := atoms_spec (ws := wsX3_actorAt) B.pre
  have hown : s.vm.findClass RX3 = some m9.cls := findClass_of_methodNamed B.named
  have hlocks := B.notSynchronized
  have hK := hG.K
  have f_15 := hts (.fieldLink RX3 15 "CastDesk$Rows" "lengths" "[I") (by decide +kernel)
  have f_9 := hts (.fieldLink RX3 9 "CastDesk$Rows" "actors" "[I") (by decide +kernel)
  have iX3 : ∀ w ∈ wsX30, w ∈ wsX3_actorAt := by decide +kernel
  have hl := lv_entry ([.ref (h 5), .int (nI p), .int (nI r)]) (n := 3) (Nat.le_of_ble_eq_true rfl)
  rw [lg_entry_eq]
  generalize (lg_sl ([.ref (h 5), .int (nI p), .int (nI r)]) ++ List.replicate (3 - (lg_sl ([.ref (h 5), .int (nI p), .int (nI r)])).length) Slot.unset).toArray = ls at hl ⊢
  have hl : lv_has ls 3 [(0, .ref (h 5)), (1, .int (nI p)), (2, .int (nI r))] := hl
  refine lv_iload_n hx hb dX3_actorAt_0 rfl (lv_at hl 2 rfl) ?_
  refine lv_aload_n hx hb dX3_actorAt_1 rfl (lv_at hl 0 rfl) ?_
  refine va_get (D := D) (ci := 3) (v := .ref (h 7)) (C := RX3) (T := TX3) (N := 2) hx hb hts iX3 hown hK hP 0 rfl rfl 1 (by decide) f_15 (fun _ h9 => h9) rfl dX3_actorAt_2 ?_
  refine lv_iload_n hx hb dX3_actorAt_5 rfl (lv_at hl 1 rfl) ?_
  refine cd_iald (f := S 7) hx hb hK hP 2 rfl (by omega) (by decide) dX3_actorAt_6 ?_
  have b_6 := iv_7 hI p (by omega)
  refine cd_tp (y := nI (nv (S 7 p))) b_6.1 ?_
  have b_6 := b_6.2
  refine cd_icmp_ge (tgt := 23) hx hb dX3_actorAt_7 (by decide) (by omega) (by omega) (fun c_7 => ?_) (fun c_7 => ?_)
  · refine lv_iconst (v := (-1)) hx hb dX3_actorAt_23 (by decide) ?_
    exact W.iret (v := (-1)) hx hb hr (fun t ht hW => ⟨_, rfl, (by unfold acI; rw [if_neg (by omega)]), ht⟩) (fun _ h9 => nomatch h9) dX3_actorAt_24
  · refine lv_aload_n hx hb dX3_actorAt_10 rfl (lv_at hl 0 rfl) ?_
    refine va_get (D := D) (ci := 3) (v := .ref (h 6)) (C := RX3) (T := TX3) (N := 2) hx hb hts iX3 hown hK hP 0 rfl rfl 0 (by decide) f_9 (fun _ h9 => h9) rfl dX3_actorAt_11 ?_
    refine lv_iload_n hx hb dX3_actorAt_14 rfl (lv_at hl 1 rfl) ?_
    refine lv_iconst (v := nI 4) hx hb dX3_actorAt_15 (by decide) ?_
    refine cd_imul hx hb dX3_actorAt_16 ?_
    refine lv_iload_n hx hb dX3_actorAt_17 rfl (lv_at hl 2 rfl) ?_
    refine cd_iadd hx hb dX3_actorAt_18 ?_
    refine cd_iald (f := S 6) hx hb hK hP 1 rfl (by omega) (by decide) dX3_actorAt_19 ?_
    refine lv_goto (tgt := 24) hx hb dX3_actorAt_20 (by decide) ?_
    exact W.iret (v := (S 6) ((p * 4) + r)) hx hb hr (fun t ht hW => ⟨_, rfl, (by unfold acI; rw [if_pos c_7]), ht⟩) (fun _ h9 => nomatch h9) dX3_actorAt_24
set_option maxHeartbeats 4000000 in
set_option maxRecDepth 100000 in
theorem c_X3_rankIn (l : Launch) (D : va_G) (cy : qT) (h : Nat → Nat) (S : qS) (hI : Inv S) (p : Nat) (x : Int32) (hp : p < 8) : Met l yX3_rankIn wsX3_rankIn ({ frames := 0, cells := 0, slots := 0, locals := 0 }) (va_Pc [.ref (h 5), .int (nI p), .int x] (roB D cy (wX3 cy h S))) (vp_Si (fun r9 => r9 = rkI S p x)) 0 0 (fun _ => False) := by
  refine Met.ofW (cc := cX3_rankIn) (maxL := 4) (ret := (some .int)) (by decide) rfl ?_
  intro pp e9 s m9 args9 bl9 meth9 c9 s9 B hml hv
  obtain ⟨rfl, hP, hG⟩ := hv
  have hx := B.exec
  have hb := B.bytes
  have hr := B.returns
  have hts := atoms_spec (ws := wsX3_rankIn) B.pre
  have hown : s.vm.findClass RX3 = some m9.cls := findClass_of_methodNamed B.named
  have hlocks := B.notSynchronized
  have hK := hG.K
  have f_15 := hts (.fieldLink RX3 15 "CastDesk$Rows" "lengths" "[I") (by decide +kernel)
  have f_9 := hts (.fieldLink RX3 9 "CastDesk$Rows" "actors" "[I") (by decide +kernel)
  have iX3 : ∀ w ∈ wsX30, w ∈ wsX3_rankIn := by decide +kernel
  have hl := lv_entry ([.ref (h 5), .int (nI p), .int x]) (n := 4) (Nat.le_of_ble_eq_true rfl)
  rw [lg_entry_eq]
  generalize (lg_sl ([.ref (h 5), .int (nI p), .int x]) ++ List.replicate (4 - (lg_sl ([.ref (h 5), .int (nI p), .int x])).length) Slot.unset).toArray = ls at hl ⊢
  have hl : lv_has ls 4 [(0, .ref (h 5)), (1, .int (nI p)), (2, .int x)] := hl
  refine lv_iconst (v := nI 0) hx hb dX3_rankIn_0 (by decide) ?_
  refine lv_istore_n (lv' := [(3, .int (nI 0)), (0, .ref (h 5)), (1, .int (nI p)), (2, .int x)]) hx hb dX3_rankIn_1 rfl hl (by decide) rfl (fun ls hl => ?_)
  refine wl1 (nL := 4) (fun (k : Nat) => k ≤ nv (S 7 p) ∧ ∀ j, j < k → rkP S p x j = false) (fun (k : Nat) => nv (S 7 p) - k) (fun (k : Nat) => [(0, .ref (h 5)), (1, .int (nI p)), (2, .int x), (3, .int (nI k))]) (fun k hi_2 ih_2 ls hl => ?_) 0 (⟨Nat.zero_le _, fun j hj => absurd hj (Nat.not_lt_zero j)⟩) (lv_sub hl [1, 2, 3, 0] rfl)
  have hi1 := hi_2.1
  refine lv_iload_n hx hb dX3_rankIn_2 rfl (lv_at hl 3 rfl) ?_
  refine lv_aload_n hx hb dX3_rankIn_3 rfl (lv_at hl 0 rfl) ?_
  refine va_get (D := D) (ci := 3) (v := .ref (h 7)) (C := RX3) (T := TX3) (N := 2) hx hb hts iX3 hown hK hP 0 rfl rfl 1 (by decide) f_15 (fun _ h9 => h9) rfl dX3_rankIn_4 ?_
  refine lv_iload_n hx hb dX3_rankIn_7 rfl (lv_at hl 1 rfl) ?_
  refine cd_iald (f := S 7) hx hb hK hP 2 rfl (by omega) (by decide) dX3_rankIn_8 ?_
  have b_8 := iv_7 hI p (by omega)
  refine cd_tp (y := nI (nv (S 7 p))) b_8.1 ?_
  have b_8 := b_8.2
  refine cd_icmp_ge (tgt := 34) hx hb dX3_rankIn_9 (by decide) (by omega) (by omega) (fun c_9 => ?_) (fun c_9 => ?_)
  · refine lv_iconst (v := (-1)) hx hb dX3_rankIn_34 (by decide) ?_
    exact W.iret (v := (-1)) hx hb hr (fun t ht hW => ⟨_, rfl, (fi_miss (fun j hj => hi_2.2 j (by omega))), ht⟩) (fun _ h9 => nomatch h9) dX3_rankIn_35
  · refine lv_aload_n hx hb dX3_rankIn_12 rfl (lv_at hl 0 rfl) ?_
    refine va_get (D := D) (ci := 3) (v := .ref (h 6)) (C := RX3) (T := TX3) (N := 2) hx hb hts iX3 hown hK hP 0 rfl rfl 0 (by decide) f_9 (fun _ h9 => h9) rfl dX3_rankIn_13 ?_
    refine lv_iload_n hx hb dX3_rankIn_16 rfl (lv_at hl 1 rfl) ?_
    refine lv_iconst (v := nI 4) hx hb dX3_rankIn_17 (by decide) ?_
    refine cd_imul hx hb dX3_rankIn_18 ?_
    refine lv_iload_n hx hb dX3_rankIn_19 rfl (lv_at hl 3 rfl) ?_
    refine cd_iadd hx hb dX3_rankIn_20 ?_
    refine cd_iald (f := S 6) hx hb hK hP 1 rfl (by omega) (by decide) dX3_rankIn_21 ?_
    refine lv_iload_n hx hb dX3_rankIn_22 rfl (lv_at hl 2 rfl) ?_
    refine lv_icmp_ne (tgt := 28) hx hb dX3_rankIn_23 (by decide) (fun c_23 => ?_) (fun c_23 => ?_)
    · refine lv_iinc (v := nI (k + 1)) (lv' := [(3, .int (nI (k + 1))), (0, .ref (h 5)), (1, .int (nI p)), (2, .int x)]) hx hb dX3_rankIn_28 hl (k := 3) rfl (cd_i1 _) (by decide) rfl (fun ls hl => ?_)
      refine lv_goto (tgt := 2) hx hb dX3_rankIn_31 (by decide) ?_
      exact ih_2 (k + 1) (⟨c_9, lt_s hi_2.2 (decide_eq_false c_23)⟩) (by omega) _ (lv_sub hl [1, 2, 3, 0] rfl)
    · refine lv_iload_n hx hb dX3_rankIn_26 rfl (lv_at hl 3 rfl) ?_
      exact W.iret (v := nI k) hx hb hr (fun t ht hW => ⟨_, rfl, (fi_hit c_9 hi_2.2 (decide_eq_true c_23)), ht⟩) (fun _ h9 => nomatch h9) dX3_rankIn_27
set_option maxHeartbeats 4000000 in
set_option maxRecDepth 100000 in
theorem c_X3_isFull (l : Launch) (D : va_G) (cy : qT) (h : Nat → Nat) (S : qS) (hI : Inv S) (p : Nat) (hp : p < 8) : Met l yX3_isFull wsX3_isFull ({ frames := 0, cells := 0, slots := 0, locals := 0 }) (va_Pc [.ref (h 5), .int (nI p)] (roB D cy (wX3 cy h S))) (vp_Si (fun r9 => r9 = bI (decide (4 ≤ nv (S 7 p))))) 0 0 (fun _ => False) := by
  refine Met.ofW (cc := cX3_isFull) (maxL := 2) (ret := (some .boolean)) (by decide) rfl ?_
  intro pp e9 s m9 args9 bl9 meth9 c9 s9 B hml hv
  obtain ⟨rfl, hP, hG⟩ := hv
  have hx := B.exec
  have hb := B.bytes
  have hr := B.returns
  have hts := atoms_spec (ws := wsX3_isFull) B.pre
  have hown : s.vm.findClass RX3 = some m9.cls := findClass_of_methodNamed B.named
  have hlocks := B.notSynchronized
  have hK := hG.K
  have f_15 := hts (.fieldLink RX3 15 "CastDesk$Rows" "lengths" "[I") (by decide +kernel)
  have iX3 : ∀ w ∈ wsX30, w ∈ wsX3_isFull := by decide +kernel
  have hl := lv_entry ([.ref (h 5), .int (nI p)]) (n := 2) (Nat.le_of_ble_eq_true rfl)
  rw [lg_entry_eq]
  generalize (lg_sl ([.ref (h 5), .int (nI p)]) ++ List.replicate (2 - (lg_sl ([.ref (h 5), .int (nI p)])).length) Slot.unset).toArray = ls at hl ⊢
  have hl : lv_has ls 2 [(0, .ref (h 5)), (1, .int (nI p))] := hl
  refine lv_aload_n hx hb dX3_isFull_0 rfl (lv_at hl 0 rfl) ?_
  refine va_get (D := D) (ci := 3) (v := .ref (h 7)) (C := RX3) (T := TX3) (N := 2) hx hb hts iX3 hown hK hP 0 rfl rfl 1 (by decide) f_15 (fun _ h9 => h9) rfl dX3_isFull_1 ?_
  refine lv_iload_n hx hb dX3_isFull_4 rfl (lv_at hl 1 rfl) ?_
  refine cd_iald (f := S 7) hx hb hK hP 2 rfl (by omega) (by decide) dX3_isFull_5 ?_
  have b_5 := iv_7 hI p (by omega)
  refine cd_tp (y := nI (nv (S 7 p))) b_5.1 ?_
  have b_5 := b_5.2
  refine lv_iconst (v := nI 4) hx hb dX3_isFull_6 (by decide) ?_
  refine cd_icmp_lt (tgt := 14) hx hb dX3_isFull_7 (by decide) (by omega) (by omega) (fun c_7 => ?_) (fun c_7 => ?_)
  · refine lv_iconst (v := nI 0) hx hb dX3_isFull_14 (by decide) ?_
    exact W.zret (v := nI 0) hx hb hr rfl (fun t ht hW => ⟨_, rfl, (by rw [decide_eq_false (by omega)]; rfl), ht⟩) (fun _ h9 => nomatch h9) dX3_isFull_15
  · refine lv_iconst (v := nI 1) hx hb dX3_isFull_10 (by decide) ?_
    refine lv_goto (tgt := 15) hx hb dX3_isFull_11 (by decide) ?_
    exact W.zret (v := nI 1) hx hb hr rfl (fun t ht hW => ⟨_, rfl, (by rw [decide_eq_true (by omega)]; rfl), ht⟩) (fun _ h9 => nomatch h9) dX3_isFull_15
set_option maxHeartbeats 4000000 in
set_option maxRecDepth 100000 in
theorem c_X3_append (l : Launch) (D : va_G) (cy : qT) (h : Nat → Nat) (S : qS) (hI : Inv S) (p : Nat) (x : Int32) (hp : p < 8) (hn : nv (S 7 p) < 4) (sz : Nat) : Met l yX3_append wsX3_append ({ frames := 0, cells := 0, slots := 0, locals := 0 }) (va_Pc [.ref (h 5), .int (nI p), .int x] (wrB D cy (wX3 cy h S) sz)) (va_Qi (fun (r9 : Int32) (u : Unit) => r9 = nI (nv (S 7 p))) (wrQ D (va_A (wX3 cy h S) sz) (fun u : Unit => (wX3 cy h (va_up (va_up S 6 (upd (S 6) (p * 4 + nv (S 7 p)) x)) 7 (upd (S 7) p (nI (nv (S 7 p) + 1))))))) (va_A (wX3 cy h S) sz)) 0 0 (va_A (wX3 cy h S) sz) := by
  refine Met.ofW (cc := cX3_append) (maxL := 4) (ret := (some .int)) (by decide) rfl ?_
  intro pp e9 s m9 args9 bl9 meth9 c9 s9 B hml hv
  obtain ⟨rfl, hsz, hP, hG, hD0⟩ := hv
  have hx := B.exec
  have hb := B.bytes
  have hr := B.returns
  have hts := atoms_spec (ws := wsX3_append) B.pre
  have hown : s.vm.findClass RX3 = some m9.cls := findClass_of_methodNamed B.named
  have hlocks := B.notSynchronized
  have hK := hG.K
  subst hsz
  have hD := hD0.self (sz := s.heap.size)
  generalize hAe : (va_A (wX3 cy h S) s.heap.size) = A at hD ⊢
  have hA : ∀ q : Nat, s.heap.size ≤ q → A q := fun q h9 => by rw [← hAe]; exact Or.inr h9
  have hS : va_S A s.heap s.heap [] := va_S.rf
  have hP : va_P D vwCl (wX3 cy h S) s.heap := hP
  have f_15 := hts (.fieldLink RX3 15 "CastDesk$Rows" "lengths" "[I") (by decide +kernel)
  have f_9 := hts (.fieldLink RX3 9 "CastDesk$Rows" "actors" "[I") (by decide +kernel)
  have iX3 : ∀ w ∈ wsX30, w ∈ wsX3_append := by decide +kernel
  have hl := lv_entry ([.ref (h 5), .int (nI p), .int x]) (n := 4) (Nat.le_of_ble_eq_true rfl)
  rw [lg_entry_eq]
  generalize (lg_sl ([.ref (h 5), .int (nI p), .int x]) ++ List.replicate (4 - (lg_sl ([.ref (h 5), .int (nI p), .int x])).length) Slot.unset).toArray = ls at hl ⊢
  have hl : lv_has ls 4 [(0, .ref (h 5)), (1, .int (nI p)), (2, .int x)] := hl
  refine lv_aload_n hx hb dX3_append_0 rfl (lv_at hl 0 rfl) ?_
  refine va_get (D := D) (ci := 3) (v := .ref (h 7)) (C := RX3) (T := TX3) (N := 2) hx hb hts iX3 hown hK hP 0 rfl rfl 1 (by decide) f_15 (fun _ h9 => h9) rfl dX3_append_1 ?_
  refine lv_iload_n hx hb dX3_append_4 rfl (lv_at hl 1 rfl) ?_
  refine cd_iald (f := S 7) hx hb hK hP 2 rfl (by omega) (by decide) dX3_append_5 ?_
  have b_5 := iv_7 hI p (by omega)
  refine cd_tp (y := nI (nv (S 7 p))) b_5.1 ?_
  have b_5 := b_5.2
  refine lv_istore_n (lv' := [(3, .int (nI (nv (S 7 p)))), (0, .ref (h 5)), (1, .int (nI p)), (2, .int x)]) hx hb dX3_append_6 rfl hl (by decide) rfl (fun ls hl => ?_)
  refine lv_aload_n hx hb dX3_append_7 rfl (lv_at hl 1 rfl) ?_
  refine va_get (D := D) (ci := 3) (v := .ref (h 6)) (C := RX3) (T := TX3) (N := 2) hx hb hts iX3 hown hK hP 0 rfl rfl 0 (by decide) f_9 (fun _ h9 => h9) rfl dX3_append_8 ?_
  refine lv_iload_n hx hb dX3_append_11 rfl (lv_at hl 2 rfl) ?_
  refine lv_iconst (v := nI 4) hx hb dX3_append_12 (by decide) ?_
  refine cd_imul hx hb dX3_append_13 ?_
  refine lv_iload_n hx hb dX3_append_14 rfl (lv_at hl 0 rfl) ?_
  refine cd_iadd hx hb dX3_append_15 ?_
  refine lv_iload_n hx hb dX3_append_16 rfl (lv_at hl 3 rfl) ?_
  refine cd_iast (f := S 6) hx hb hK hP hD hS 1 rfl (by omega) (by decide) dX3_append_17 (fun H locs hP hD hS => ?_)
  have hP : va_P D vwCl (wX3 cy h (va_up S 6 (upd (S 6) ((p * 4) + (nv (S 7 p))) x))) H := hP
  have hD : va_D A (wX3 cy h (va_up S 6 (upd (S 6) ((p * 4) + (nv (S 7 p))) x))) := hD
  refine lv_aload_n hx hb dX3_append_18 rfl (lv_at hl 1 rfl) ?_
  refine va_get (D := D) (ci := 3) (v := .ref (h 7)) (C := RX3) (T := TX3) (N := 2) hx hb hts iX3 hown hK hP 0 rfl rfl 1 (by decide) f_15 (fun _ h9 => h9) rfl dX3_append_19 ?_
  refine lv_iload_n hx hb dX3_append_22 rfl (lv_at hl 2 rfl) ?_
  refine lv_iload_n hx hb dX3_append_23 rfl (lv_at hl 0 rfl) ?_
  refine lv_iconst (v := nI 1) hx hb dX3_append_24 (by decide) ?_
  refine cd_iadd hx hb dX3_append_25 ?_
  refine cd_iast (f := S 7) hx hb hK hP hD hS 2 rfl (by omega) (by decide) dX3_append_26 (fun H locs hP hD hS => ?_)
  have hP : va_P D vwCl (wX3 cy h (va_up (va_up S 6 (upd (S 6) ((p * 4) + (nv (S 7 p))) x)) 7 (upd (S 7) p (nI ((nv (S 7 p)) + 1))))) H := hP
  have hD : va_D A (wX3 cy h (va_up (va_up S 6 (upd (S 6) ((p * 4) + (nv (S 7 p))) x)) 7 (upd (S 7) p (nI ((nv (S 7 p)) + 1))))) := hD
  refine lv_iload_n hx hb dX3_append_27 rfl (lv_at hl 0 rfl) ?_
  exact W.iret (v := nI (nv (S 7 p))) hx hb hr (fun t ht hW => ⟨⟨_, (), rfl, rfl, by rw [ht]; exact hP, hD⟩, hS.F ht⟩) hS.2.2 dX3_append_28
set_option maxHeartbeats 4000000 in
set_option maxRecDepth 100000 in
theorem c_X3_remove (l : Launch) (D : va_G) (cy : qT) (h : Nat → Nat) (S : qS) (hI : Inv S) (p : Nat) (r : Nat) (hp : p < 8) (hq : r < nv (S 7 p)) (sz : Nat) : Met l yX3_remove wsX3_remove ({ frames := 0, cells := 0, slots := 0, locals := 0 }) (va_Pc [.ref (h 5), .int (nI p), .int (nI r)] (wrB D cy (wX3 cy h S) sz)) (va_Qv (fun (u : Unit) => True) (wrQ D (va_A (wX3 cy h S) sz) (fun u : Unit => (wX3 cy h (va_up (va_up S 6 (sfT (S 6) (p * 4 + r) (p * 4 + nv (S 7 p)))) 7 (upd (S 7) p (nI (nv (S 7 p) - 1))))))) (va_A (wX3 cy h S) sz)) 0 0 (va_A (wX3 cy h S) sz) := by
  refine Met.ofW (cc := cX3_remove) (maxL := 4) (ret := none) (by decide) rfl ?_
  intro pp e9 s m9 args9 bl9 meth9 c9 s9 B hml hv
  obtain ⟨rfl, hsz, hP, hG, hD0⟩ := hv
  have hx := B.exec
  have hb := B.bytes
  have hr := B.returns
  have hts := atoms_spec (ws := wsX3_remove) B.pre
  have hown : s.vm.findClass RX3 = some m9.cls := findClass_of_methodNamed B.named
  have hlocks := B.notSynchronized
  have hK := hG.K
  subst hsz
  have hD := hD0.self (sz := s.heap.size)
  generalize hAe : (va_A (wX3 cy h S) s.heap.size) = A at hD ⊢
  have hA : ∀ q : Nat, s.heap.size ≤ q → A q := fun q h9 => by rw [← hAe]; exact Or.inr h9
  have hS : va_S A s.heap s.heap [] := va_S.rf
  have hP : va_P D vwCl (wX3 cy h S) s.heap := hP
  have f_15 := hts (.fieldLink RX3 15 "CastDesk$Rows" "lengths" "[I") (by decide +kernel)
  have f_9 := hts (.fieldLink RX3 9 "CastDesk$Rows" "actors" "[I") (by decide +kernel)
  have iX3 : ∀ w ∈ wsX30, w ∈ wsX3_remove := by decide +kernel
  have hl := lv_entry ([.ref (h 5), .int (nI p), .int (nI r)]) (n := 4) (Nat.le_of_ble_eq_true rfl)
  rw [lg_entry_eq]
  generalize (lg_sl ([.ref (h 5), .int (nI p), .int (nI r)]) ++ List.replicate (4 - (lg_sl ([.ref (h 5), .int (nI p), .int (nI r)])).length) Slot.unset).toArray = ls at hl ⊢
  have hl : lv_has ls 4 [(0, .ref (h 5)), (1, .int (nI p)), (2, .int (nI r))] := hl
  refine lv_iload_n hx hb dX3_remove_0 rfl (lv_at hl 2 rfl) ?_
  refine lv_iconst (v := nI 1) hx hb dX3_remove_1 (by decide) ?_
  refine cd_iadd hx hb dX3_remove_2 ?_
  refine lv_istore_n (lv' := [(3, .int (nI (r + 1))), (0, .ref (h 5)), (1, .int (nI p)), (2, .int (nI r))]) hx hb dX3_remove_3 rfl hl (by decide) rfl (fun ls hl => ?_)
  have e0 : sfT (S 6) (p * 4 + r) (p * 4 + (r + 1)) = S 6 := sfT_0 _ _
  refine wh1 (nL := 4) (fun (k : Nat) => r < k ∧ k ≤ nv (S 7 p)) (fun (k : Nat) => nv (S 7 p) - k) (fun (k : Nat) => [(0, .ref (h 5)), (1, .int (nI p)), (2, .int (nI r)), (3, .int (nI k))]) (fun (k : Nat) => (wX3 cy h (va_up S 6 (sfT (S 6) (p * 4 + r) (p * 4 + k))))) (fun k hi_4 ih_4 H locs hP hD hS ls hl => ?_) (r + 1) (⟨by omega, by omega⟩) (by rw [e0]; exact hP) (by rw [e0]; exact hD) hS (lv_sub hl [1, 2, 3, 0] rfl)
  have hP : va_P D vwCl (wX3 cy h (va_up S 6 (sfT (S 6) (p * 4 + r) (p * 4 + k)))) H := hP
  have hD : va_D A (wX3 cy h (va_up S 6 (sfT (S 6) (p * 4 + r) (p * 4 + k)))) := hD
  obtain ⟨hi1, hi2⟩ := hi_4
  refine lv_iload_n hx hb dX3_remove_4 rfl (lv_at hl 3 rfl) ?_
  refine lv_aload_n hx hb dX3_remove_5 rfl (lv_at hl 0 rfl) ?_
  refine va_get (D := D) (ci := 3) (v := .ref (h 7)) (C := RX3) (T := TX3) (N := 2) hx hb hts iX3 hown hK hP 0 rfl rfl 1 (by decide) f_15 (fun _ h9 => h9) rfl dX3_remove_6 ?_
  refine lv_iload_n hx hb dX3_remove_9 rfl (lv_at hl 1 rfl) ?_
  refine cd_iald (f := S 7) hx hb hK hP 2 rfl (by omega) (by decide) dX3_remove_10 ?_
  have b_10 := iv_7 hI p (by omega)
  refine cd_tp (y := nI (nv (S 7 p))) b_10.1 ?_
  have b_10 := b_10.2
  refine cd_icmp_ge (tgt := 42) hx hb dX3_remove_11 (by decide) (by omega) (by omega) (fun c_11 => ?_) (fun c_11 => ?_)
  · have ek : k = nv (S 7 p) := by omega
    subst ek
    have hP : va_P D vwCl (wX3 cy h (va_up S 6 (sfT (S 6) (p * 4 + r) (p * 4 + (nv (S 7 p)))))) H := hP
    have hD : va_D A (wX3 cy h (va_up S 6 (sfT (S 6) (p * 4 + r) (p * 4 + (nv (S 7 p)))))) := hD
    refine lv_aload_n hx hb dX3_remove_42 rfl (lv_at hl 0 rfl) ?_
    refine va_get (D := D) (ci := 3) (v := .ref (h 7)) (C := RX3) (T := TX3) (N := 2) hx hb hts iX3 hown hK hP 0 rfl rfl 1 (by decide) f_15 (fun _ h9 => h9) rfl dX3_remove_43 ?_
    refine lv_iload_n hx hb dX3_remove_46 rfl (lv_at hl 1 rfl) ?_
    refine lv_dup2_11 hx hb dX3_remove_47 rfl rfl ?_
    refine cd_iald (f := S 7) hx hb hK hP 2 rfl (by omega) (by decide) dX3_remove_48 ?_
    have b_48 := iv_7 hI p (by omega)
    refine cd_tp (y := nI (nv (S 7 p))) b_48.1 ?_
    have b_48 := b_48.2
    refine lv_iconst (v := nI 1) hx hb dX3_remove_49 (by decide) ?_
    refine cd_isub hx hb (by omega) dX3_remove_50 ?_
    refine cd_iast (f := S 7) hx hb hK hP hD hS 2 rfl (by omega) (by decide) dX3_remove_51 (fun H locs hP hD hS => ?_)
    have hP : va_P D vwCl (wX3 cy h (va_up (va_up S 6 (sfT (S 6) (p * 4 + r) (p * 4 + (nv (S 7 p))))) 7 (upd (S 7) p (nI ((nv (S 7 p)) - 1))))) H := hP
    have hD : va_D A (wX3 cy h (va_up (va_up S 6 (sfT (S 6) (p * 4 + r) (p * 4 + (nv (S 7 p))))) 7 (upd (S 7) p (nI ((nv (S 7 p)) - 1))))) := hD
    exact W.vret hx hb hr (fun t ht hW => ⟨⟨(), rfl, trivial, by rw [ht]; exact hP, hD⟩, hS.F ht⟩) hS.2.2 dX3_remove_52
  · refine lv_aload_n hx hb dX3_remove_14 rfl (lv_at hl 0 rfl) ?_
    refine va_get (D := D) (ci := 3) (v := .ref (h 6)) (C := RX3) (T := TX3) (N := 2) hx hb hts iX3 hown hK hP 0 rfl rfl 0 (by decide) f_9 (fun _ h9 => h9) rfl dX3_remove_15 ?_
    refine lv_iload_n hx hb dX3_remove_18 rfl (lv_at hl 1 rfl) ?_
    refine lv_iconst (v := nI 4) hx hb dX3_remove_19 (by decide) ?_
    refine cd_imul hx hb dX3_remove_20 ?_
    refine lv_iload_n hx hb dX3_remove_21 rfl (lv_at hl 3 rfl) ?_
    refine cd_iadd hx hb dX3_remove_22 ?_
    refine lv_iconst (v := nI 1) hx hb dX3_remove_23 (by decide) ?_
    refine cd_isub hx hb (by omega) dX3_remove_24 ?_
    refine lv_aload_n hx hb dX3_remove_25 rfl (lv_at hl 0 rfl) ?_
    refine va_get (D := D) (ci := 3) (v := .ref (h 6)) (C := RX3) (T := TX3) (N := 2) hx hb hts iX3 hown hK hP 0 rfl rfl 0 (by decide) f_9 (fun _ h9 => h9) rfl dX3_remove_26 ?_
    refine lv_iload_n hx hb dX3_remove_29 rfl (lv_at hl 1 rfl) ?_
    refine lv_iconst (v := nI 4) hx hb dX3_remove_30 (by decide) ?_
    refine cd_imul hx hb dX3_remove_31 ?_
    refine lv_iload_n hx hb dX3_remove_32 rfl (lv_at hl 3 rfl) ?_
    refine cd_iadd hx hb dX3_remove_33 ?_
    refine cd_iald (f := sfT (S 6) (p * 4 + r) (p * 4 + k)) hx hb hK hP 1 rfl (by omega) (by decide) dX3_remove_34 ?_
    refine cd_tp (y := S 6 (p * 4 + k)) (by unfold sfT; rw [if_neg (by omega)]) ?_
    refine cd_iast (f := sfT (S 6) (p * 4 + r) (p * 4 + k)) hx hb hK hP hD hS 1 rfl (by omega) (by decide) dX3_remove_35 (fun H locs hP hD hS => ?_)
    have hP : va_P D vwCl (wX3 cy h (va_up S 6 (upd (sfT (S 6) (p * 4 + r) (p * 4 + k)) (((p * 4) + k) - 1) (S 6 (p * 4 + k))))) H := hP
    have hD : va_D A (wX3 cy h (va_up S 6 (upd (sfT (S 6) (p * 4 + r) (p * 4 + k)) (((p * 4) + k) - 1) (S 6 (p * 4 + k))))) := hD
    have e_35 : (upd (sfT (S 6) (p * 4 + r) (p * 4 + k)) (((p * 4) + k) - 1) (S 6 (p * 4 + k))) = (sfT (S 6) (p * 4 + r) (p * 4 + (k + 1))) := sfT_s (S 6) (p * 4 + r) (p * 4 + k) (by omega)
    rw [e_35] at hP hD
    have hP : va_P D vwCl (wX3 cy h (va_up S 6 (sfT (S 6) (p * 4 + r) (p * 4 + (k + 1))))) H := hP
    have hD : va_D A (wX3 cy h (va_up S 6 (sfT (S 6) (p * 4 + r) (p * 4 + (k + 1))))) := hD
    refine lv_iinc (v := nI (k + 1)) (lv' := [(3, .int (nI (k + 1))), (0, .ref (h 5)), (1, .int (nI p)), (2, .int (nI r))]) hx hb dX3_remove_36 hl (k := 3) rfl (cd_i1 _) (by decide) rfl (fun ls hl => ?_)
    refine lv_goto (tgt := 4) hx hb dX3_remove_39 (by decide) ?_
    exact ih_4 (k + 1) (⟨by omega, by omega⟩) (by omega) _ _ hP hD hS _ (lv_sub hl [1, 2, 3, 0] rfl)
set_option maxHeartbeats 4000000 in
set_option maxRecDepth 100000 in
theorem c_X5_add (l : Launch) (D : va_G) (cy : qT) (h : Nat → Nat) (S : qS) (hI : Inv S) (x : Int32) (z : Int32) (hn : nv (S 29 0) < 40) (sz : Nat) : Met l yX5_add wsX5_add ({ frames := 0, cells := 0, slots := 0, locals := 0 }) (va_Pc [.ref (h 8), .int x, .int z] (wrB D cy (wX5 cy h S) sz)) (va_Qi (fun (r9 : Int32) (u : Unit) => r9 = nI (nv (S 29 0))) (wrQ D (va_A (wX5 cy h S) sz) (fun u : Unit => (wX5 cy h (va_up (va_up (va_up S 10 (upd (S 10) (nv (S 29 0)) x)) 9 (upd (S 9) (nv (S 29 0)) z)) 29 (fun _ => nI (nv (S 29 0) + 1)))))) (va_A (wX5 cy h S) sz)) 0 0 (va_A (wX5 cy h S) sz) := by
  refine Met.ofW (cc := cX5_add) (maxL := 3) (ret := (some .int)) (by decide) rfl ?_
  intro pp e9 s m9 args9 bl9 meth9 c9 s9 B hml hv
  obtain ⟨rfl, hsz, hP, hG, hD0⟩ := hv
  have hx := B.exec
  have hb := B.bytes
  have hr := B.returns
  have hts := atoms_spec (ws := wsX5_add) B.pre
  have hown : s.vm.findClass RX5 = some m9.cls := findClass_of_methodNamed B.named
  have hlocks := B.notSynchronized
  have hK := hG.K
  subst hsz
  have hD := hD0.self (sz := s.heap.size)
  generalize hAe : (va_A (wX5 cy h S) s.heap.size) = A at hD ⊢
  have hA : ∀ q : Nat, s.heap.size ≤ q → A q := fun q h9 => by rw [← hAe]; exact Or.inr h9
  have hS : va_S A s.heap s.heap [] := va_S.rf
  have hP : va_P D vwCl (wX5 cy h S) s.heap := hP
  have f_15 := hts (.fieldLink RX5 15 "CastDesk$Wardrobe" "parts" "[I") (by decide +kernel)
  have f_22 := hts (.fieldLink RX5 22 "CastDesk$Wardrobe" "count" "I") (by decide +kernel)
  have f_9 := hts (.fieldLink RX5 9 "CastDesk$Wardrobe" "sizes" "[I") (by decide +kernel)
  have iX5 : ∀ w ∈ wsX50, w ∈ wsX5_add := by decide +kernel
  have hl := lv_entry ([.ref (h 8), .int x, .int z]) (n := 3) (Nat.le_of_ble_eq_true rfl)
  rw [lg_entry_eq]
  generalize (lg_sl ([.ref (h 8), .int x, .int z]) ++ List.replicate (3 - (lg_sl ([.ref (h 8), .int x, .int z])).length) Slot.unset).toArray = ls at hl ⊢
  have hl : lv_has ls 3 [(0, .ref (h 8)), (1, .int x), (2, .int z)] := hl
  refine lv_aload_n hx hb dX5_add_0 rfl (lv_at hl 0 rfl) ?_
  refine va_get (D := D) (ci := 5) (v := .ref (h 10)) (C := RX5) (T := TX5) (N := 4) hx hb hts iX5 hown hK hP 0 rfl rfl 1 (by decide) f_15 (fun _ h9 => h9) rfl dX5_add_1 ?_
  refine lv_aload_n hx hb dX5_add_4 rfl (lv_at hl 0 rfl) ?_
  refine va_get (D := D) (ci := 5) (v := .int (S 29 0)) (C := RX5) (T := TX5) (N := 4) hx hb hts iX5 hown hK hP 0 rfl rfl 3 (by decide) f_22 (fun _ h9 => h9) rfl dX5_add_5 ?_
  have b_5 := iv_29 hI
  refine cd_tp (y := nI (nv (S 29 0))) b_5.1 ?_
  have b_5 := b_5.2
  refine lv_iload_n hx hb dX5_add_8 rfl (lv_at hl 1 rfl) ?_
  refine cd_iast (f := S 10) hx hb hK hP hD hS 2 rfl (by omega) (by decide) dX5_add_9 (fun H locs hP hD hS => ?_)
  have hP : va_P D vwCl (wX5 cy h (va_up S 10 (upd (S 10) (nv (S 29 0)) x))) H := hP
  have hD : va_D A (wX5 cy h (va_up S 10 (upd (S 10) (nv (S 29 0)) x))) := hD
  refine lv_aload_n hx hb dX5_add_10 rfl (lv_at hl 0 rfl) ?_
  refine va_get (D := D) (ci := 5) (v := .ref (h 9)) (C := RX5) (T := TX5) (N := 4) hx hb hts iX5 hown hK hP 0 rfl rfl 0 (by decide) f_9 (fun _ h9 => h9) rfl dX5_add_11 ?_
  refine lv_aload_n hx hb dX5_add_14 rfl (lv_at hl 0 rfl) ?_
  refine va_get (D := D) (ci := 5) (v := .int (S 29 0)) (C := RX5) (T := TX5) (N := 4) hx hb hts iX5 hown hK hP 0 rfl rfl 3 (by decide) f_22 (fun _ h9 => h9) rfl dX5_add_15 ?_
  have b_15 := iv_29 hI
  refine cd_tp (y := nI (nv (S 29 0))) b_15.1 ?_
  have b_15 := b_15.2
  refine lv_iload_n hx hb dX5_add_18 rfl (lv_at hl 2 rfl) ?_
  refine cd_iast (f := S 9) hx hb hK hP hD hS 1 rfl (by omega) (by decide) dX5_add_19 (fun H locs hP hD hS => ?_)
  have hP : va_P D vwCl (wX5 cy h (va_up (va_up S 10 (upd (S 10) (nv (S 29 0)) x)) 9 (upd (S 9) (nv (S 29 0)) z))) H := hP
  have hD : va_D A (wX5 cy h (va_up (va_up S 10 (upd (S 10) (nv (S 29 0)) x)) 9 (upd (S 9) (nv (S 29 0)) z))) := hD
  refine lv_aload_n hx hb dX5_add_20 rfl (lv_at hl 0 rfl) ?_
  refine lv_dup hx hb dX5_add_21 rfl ?_
  refine va_get (D := D) (ci := 5) (v := .int (S 29 0)) (C := RX5) (T := TX5) (N := 4) hx hb hts iX5 hown hK hP 0 rfl rfl 3 (by decide) f_22 (fun _ h9 => h9) rfl dX5_add_22 ?_
  have b_22 := iv_29 hI
  refine cd_tp (y := nI (nv (S 29 0))) b_22.1 ?_
  have b_22 := b_22.2
  refine lv_iconst (v := nI 1) hx hb dX5_add_25 (by decide) ?_
  refine cd_iadd hx hb dX5_add_26 ?_
  refine va_put (D := D) (ci := 5) (v := .int (nI ((nv (S 29 0)) + 1))) (ty := .int) (C := RX5) (T := TX5) (N := 4) hx hb hts iX5 tyX5 tyX5_ok nmX5 hown hK hP hD hS 0 rfl rfl 3 (by decide) f_22 (fun _ h9 => h9) rfl (by decide +kernel) rfl rfl (Nat.le_of_ble_eq_true rfl) dX5_add_27 (fun H locs hP hD hS => ?_)
  have hP : va_P D vwCl (wX5 cy h (va_up (va_up (va_up S 10 (upd (S 10) (nv (S 29 0)) x)) 9 (upd (S 9) (nv (S 29 0)) z)) 29 (fun _ => nI ((nv (S 29 0)) + 1)))) H := hP
  have hD : va_D A (wX5 cy h (va_up (va_up (va_up S 10 (upd (S 10) (nv (S 29 0)) x)) 9 (upd (S 9) (nv (S 29 0)) z)) 29 (fun _ => nI ((nv (S 29 0)) + 1)))) := hD
  refine lv_aload_n hx hb dX5_add_30 rfl (lv_at hl 0 rfl) ?_
  refine va_get (D := D) (ci := 5) (v := .int (nI ((nv (S 29 0)) + 1))) (C := RX5) (T := TX5) (N := 4) hx hb hts iX5 hown hK hP 0 rfl rfl 3 (by decide) f_22 (fun _ h9 => h9) rfl dX5_add_31 ?_
  refine lv_iconst (v := nI 1) hx hb dX5_add_34 (by decide) ?_
  refine cd_isub hx hb (by omega) dX5_add_35 ?_
  exact W.iret (v := nI (((nv (S 29 0)) + 1) - 1)) hx hb hr (fun t ht hW => ⟨⟨_, (), rfl, rfl, by rw [ht]; exact hP, hD⟩, hS.F ht⟩) hS.2.2 dX5_add_36
set_option maxHeartbeats 4000000 in
set_option maxRecDepth 100000 in
theorem c_X5_lowestFitting (l : Launch) (D : va_G) (cy : qT) (h : Nat → Nat) (S : qS) (hI : Inv S) (p : Nat) (z : Int32) : Met l yX5_lowestFitting wsX5_lowestFitting ({ frames := 0, cells := 0, slots := 0, locals := 0 }) (va_Pc [.ref (h 8), .int (nI p), .int z] (roB D cy (wX5 cy h S))) (vp_Si (fun r9 => r9 = ftI S p z)) 0 0 (fun _ => False) := by
  refine Met.ofW (cc := cX5_lowestFitting) (maxL := 4) (ret := (some .int)) (by decide) rfl ?_
  intro pp e9 s m9 args9 bl9 meth9 c9 s9 B hml hv
  obtain ⟨rfl, hP, hG⟩ := hv
  have hx := B.exec
  have hb := B.bytes
  have hr := B.returns
  have hts := atoms_spec (ws := wsX5_lowestFitting) B.pre
  have hown : s.vm.findClass RX5 = some m9.cls := findClass_of_methodNamed B.named
  have hlocks := B.notSynchronized
  have hK := hG.K
  have f_22 := hts (.fieldLink RX5 22 "CastDesk$Wardrobe" "count" "I") (by decide +kernel)
  have f_15 := hts (.fieldLink RX5 15 "CastDesk$Wardrobe" "parts" "[I") (by decide +kernel)
  have f_9 := hts (.fieldLink RX5 9 "CastDesk$Wardrobe" "sizes" "[I") (by decide +kernel)
  have iX5 : ∀ w ∈ wsX50, w ∈ wsX5_lowestFitting := by decide +kernel
  have hl := lv_entry ([.ref (h 8), .int (nI p), .int z]) (n := 4) (Nat.le_of_ble_eq_true rfl)
  rw [lg_entry_eq]
  generalize (lg_sl ([.ref (h 8), .int (nI p), .int z]) ++ List.replicate (4 - (lg_sl ([.ref (h 8), .int (nI p), .int z])).length) Slot.unset).toArray = ls at hl ⊢
  have hl : lv_has ls 4 [(0, .ref (h 8)), (1, .int (nI p)), (2, .int z)] := hl
  have h29 := (iv_29 hI).2
  refine lv_iconst (v := nI 0) hx hb dX5_lowestFitting_0 (by decide) ?_
  refine lv_istore_n (lv' := [(3, .int (nI 0)), (0, .ref (h 8)), (1, .int (nI p)), (2, .int z)]) hx hb dX5_lowestFitting_1 rfl hl (by decide) rfl (fun ls hl => ?_)
  refine wl1 (nL := 4) (fun (k : Nat) => k ≤ nv (S 29 0) ∧ ∀ j, j < k → ftP S p z j = false) (fun (k : Nat) => nv (S 29 0) - k) (fun (k : Nat) => [(0, .ref (h 8)), (1, .int (nI p)), (2, .int z), (3, .int (nI k))]) (fun k hi_2 ih_2 ls hl => ?_) 0 (⟨Nat.zero_le _, fun j hj => absurd hj (Nat.not_lt_zero j)⟩) (lv_sub hl [1, 2, 3, 0] rfl)
  have hi1 := hi_2.1
  refine lv_iload_n hx hb dX5_lowestFitting_2 rfl (lv_at hl 3 rfl) ?_
  refine lv_aload_n hx hb dX5_lowestFitting_3 rfl (lv_at hl 0 rfl) ?_
  refine va_get (D := D) (ci := 5) (v := .int (S 29 0)) (C := RX5) (T := TX5) (N := 4) hx hb hts iX5 hown hK hP 0 rfl rfl 3 (by decide) f_22 (fun _ h9 => h9) rfl dX5_lowestFitting_4 ?_
  have b_4 := iv_29 hI
  refine cd_tp (y := nI (nv (S 29 0))) b_4.1 ?_
  have b_4 := b_4.2
  refine cd_icmp_ge (tgt := 38) hx hb dX5_lowestFitting_7 (by decide) (by omega) (by omega) (fun c_7 => ?_) (fun c_7 => ?_)
  · refine lv_iconst (v := (-1)) hx hb dX5_lowestFitting_38 (by decide) ?_
    exact W.iret (v := (-1)) hx hb hr (fun t ht hW => ⟨_, rfl, (fi_miss (fun j hj => hi_2.2 j (by omega))), ht⟩) (fun _ h9 => nomatch h9) dX5_lowestFitting_39
  · refine lv_aload_n hx hb dX5_lowestFitting_10 rfl (lv_at hl 0 rfl) ?_
    refine va_get (D := D) (ci := 5) (v := .ref (h 10)) (C := RX5) (T := TX5) (N := 4) hx hb hts iX5 hown hK hP 0 rfl rfl 1 (by decide) f_15 (fun _ h9 => h9) rfl dX5_lowestFitting_11 ?_
    refine lv_iload_n hx hb dX5_lowestFitting_14 rfl (lv_at hl 3 rfl) ?_
    refine cd_iald (f := S 10) hx hb hK hP 2 rfl (by omega) (by decide) dX5_lowestFitting_15 ?_
    refine lv_iload_n hx hb dX5_lowestFitting_16 rfl (lv_at hl 1 rfl) ?_
    refine lv_icmp_ne (tgt := 32) hx hb dX5_lowestFitting_17 (by decide) (fun c_17 => ?_) (fun c_17 => ?_)
    · refine lv_iinc (v := nI (k + 1)) (lv' := [(3, .int (nI (k + 1))), (0, .ref (h 8)), (1, .int (nI p)), (2, .int z)]) hx hb dX5_lowestFitting_32 hl (k := 3) rfl (cd_i1 _) (by decide) rfl (fun ls hl => ?_)
      refine lv_goto (tgt := 2) hx hb dX5_lowestFitting_35 (by decide) ?_
      exact ih_2 (k + 1) (⟨c_7, lt_s hi_2.2 (decide_eq_false (fun q => c_17 q.1))⟩) (by omega) _ (lv_sub hl [1, 2, 3, 0] rfl)
    · refine lv_aload_n hx hb dX5_lowestFitting_20 rfl (lv_at hl 0 rfl) ?_
      refine va_get (D := D) (ci := 5) (v := .ref (h 9)) (C := RX5) (T := TX5) (N := 4) hx hb hts iX5 hown hK hP 0 rfl rfl 0 (by decide) f_9 (fun _ h9 => h9) rfl dX5_lowestFitting_21 ?_
      refine lv_iload_n hx hb dX5_lowestFitting_24 rfl (lv_at hl 3 rfl) ?_
      refine cd_iald (f := S 9) hx hb hK hP 1 rfl (by omega) (by decide) dX5_lowestFitting_25 ?_
      refine lv_iload_n hx hb dX5_lowestFitting_26 rfl (lv_at hl 2 rfl) ?_
      refine lv_icmp_ne (tgt := 32) hx hb dX5_lowestFitting_27 (by decide) (fun c_27 => ?_) (fun c_27 => ?_)
      · refine lv_iinc (v := nI (k + 1)) (lv' := [(3, .int (nI (k + 1))), (0, .ref (h 8)), (1, .int (nI p)), (2, .int z)]) hx hb dX5_lowestFitting_32 hl (k := 3) rfl (cd_i1 _) (by decide) rfl (fun ls hl => ?_)
        refine lv_goto (tgt := 2) hx hb dX5_lowestFitting_35 (by decide) ?_
        exact ih_2 (k + 1) (⟨c_7, lt_s hi_2.2 (decide_eq_false (fun q => c_27 q.2))⟩) (by omega) _ (lv_sub hl [1, 2, 3, 0] rfl)
      · refine lv_iload_n hx hb dX5_lowestFitting_30 rfl (lv_at hl 3 rfl) ?_
        exact W.iret (v := nI k) hx hb hr (fun t ht hW => ⟨_, rfl, (fi_hit c_7 hi_2.2 (decide_eq_true ⟨c_17, c_27⟩)), ht⟩) (fun _ h9 => nomatch h9) dX5_lowestFitting_31
set_option maxHeartbeats 4000000 in
set_option maxRecDepth 100000 in
theorem c_X5_lowestToLetOut (l : Launch) (D : va_G) (cy : qT) (h : Nat → Nat) (S : qS) (hI : Inv S) (p : Nat) (z : Int32) : Met l yX5_lowestToLetOut wsX5_lowestToLetOut ({ frames := 0, cells := 0, slots := 0, locals := 0 }) (va_Pc [.ref (h 8), .int (nI p), .int z] (roB D cy (wX5 cy h S))) (vp_Si (fun r9 => r9 = loI S p z)) 0 0 (fun _ => False) := by
  refine Met.ofW (cc := cX5_lowestToLetOut) (maxL := 4) (ret := (some .int)) (by decide) rfl ?_
  intro pp e9 s m9 args9 bl9 meth9 c9 s9 B hml hv
  obtain ⟨rfl, hP, hG⟩ := hv
  have hx := B.exec
  have hb := B.bytes
  have hr := B.returns
  have hts := atoms_spec (ws := wsX5_lowestToLetOut) B.pre
  have hown : s.vm.findClass RX5 = some m9.cls := findClass_of_methodNamed B.named
  have hlocks := B.notSynchronized
  have hK := hG.K
  have f_22 := hts (.fieldLink RX5 22 "CastDesk$Wardrobe" "count" "I") (by decide +kernel)
  have f_15 := hts (.fieldLink RX5 15 "CastDesk$Wardrobe" "parts" "[I") (by decide +kernel)
  have f_9 := hts (.fieldLink RX5 9 "CastDesk$Wardrobe" "sizes" "[I") (by decide +kernel)
  have f_18 := hts (.fieldLink RX5 18 "CastDesk$Wardrobe" "isLetOut" "[Z") (by decide +kernel)
  have iX5 : ∀ w ∈ wsX50, w ∈ wsX5_lowestToLetOut := by decide +kernel
  have hl := lv_entry ([.ref (h 8), .int (nI p), .int z]) (n := 4) (Nat.le_of_ble_eq_true rfl)
  rw [lg_entry_eq]
  generalize (lg_sl ([.ref (h 8), .int (nI p), .int z]) ++ List.replicate (4 - (lg_sl ([.ref (h 8), .int (nI p), .int z])).length) Slot.unset).toArray = ls at hl ⊢
  have hl : lv_has ls 4 [(0, .ref (h 8)), (1, .int (nI p)), (2, .int z)] := hl
  have h29 := (iv_29 hI).2
  refine lv_iconst (v := nI 0) hx hb dX5_lowestToLetOut_0 (by decide) ?_
  refine lv_istore_n (lv' := [(3, .int (nI 0)), (0, .ref (h 8)), (1, .int (nI p)), (2, .int z)]) hx hb dX5_lowestToLetOut_1 rfl hl (by decide) rfl (fun ls hl => ?_)
  refine wl1 (nL := 4) (fun (k : Nat) => k ≤ nv (S 29 0) ∧ ∀ j, j < k → loP S p z j = false) (fun (k : Nat) => nv (S 29 0) - k) (fun (k : Nat) => [(0, .ref (h 8)), (1, .int (nI p)), (2, .int z), (3, .int (nI k))]) (fun k hi_2 ih_2 ls hl => ?_) 0 (⟨Nat.zero_le _, fun j hj => absurd hj (Nat.not_lt_zero j)⟩) (lv_sub hl [1, 2, 3, 0] rfl)
  have hi1 := hi_2.1
  refine lv_iload_n hx hb dX5_lowestToLetOut_2 rfl (lv_at hl 3 rfl) ?_
  refine lv_aload_n hx hb dX5_lowestToLetOut_3 rfl (lv_at hl 0 rfl) ?_
  refine va_get (D := D) (ci := 5) (v := .int (S 29 0)) (C := RX5) (T := TX5) (N := 4) hx hb hts iX5 hown hK hP 0 rfl rfl 3 (by decide) f_22 (fun _ h9 => h9) rfl dX5_lowestToLetOut_4 ?_
  have b_4 := iv_29 hI
  refine cd_tp (y := nI (nv (S 29 0))) b_4.1 ?_
  have b_4 := b_4.2
  refine cd_icmp_ge (tgt := 49) hx hb dX5_lowestToLetOut_7 (by decide) (by omega) (by omega) (fun c_7 => ?_) (fun c_7 => ?_)
  · refine lv_iconst (v := (-1)) hx hb dX5_lowestToLetOut_49 (by decide) ?_
    exact W.iret (v := (-1)) hx hb hr (fun t ht hW => ⟨_, rfl, (fi_miss (fun j hj => hi_2.2 j (by omega))), ht⟩) (fun _ h9 => nomatch h9) dX5_lowestToLetOut_50
  · refine lv_aload_n hx hb dX5_lowestToLetOut_10 rfl (lv_at hl 0 rfl) ?_
    refine va_get (D := D) (ci := 5) (v := .ref (h 10)) (C := RX5) (T := TX5) (N := 4) hx hb hts iX5 hown hK hP 0 rfl rfl 1 (by decide) f_15 (fun _ h9 => h9) rfl dX5_lowestToLetOut_11 ?_
    refine lv_iload_n hx hb dX5_lowestToLetOut_14 rfl (lv_at hl 3 rfl) ?_
    refine cd_iald (f := S 10) hx hb hK hP 2 rfl (by omega) (by decide) dX5_lowestToLetOut_15 ?_
    refine lv_iload_n hx hb dX5_lowestToLetOut_16 rfl (lv_at hl 1 rfl) ?_
    refine lv_icmp_ne (tgt := 43) hx hb dX5_lowestToLetOut_17 (by decide) (fun c_17 => ?_) (fun c_17 => ?_)
    · refine lv_iinc (v := nI (k + 1)) (lv' := [(3, .int (nI (k + 1))), (0, .ref (h 8)), (1, .int (nI p)), (2, .int z)]) hx hb dX5_lowestToLetOut_43 hl (k := 3) rfl (cd_i1 _) (by decide) rfl (fun ls hl => ?_)
      refine lv_goto (tgt := 2) hx hb dX5_lowestToLetOut_46 (by decide) ?_
      exact ih_2 (k + 1) (⟨c_7, lt_s hi_2.2 (decide_eq_false (fun q => c_17 q.1))⟩) (by omega) _ (lv_sub hl [1, 2, 3, 0] rfl)
    · refine lv_aload_n hx hb dX5_lowestToLetOut_20 rfl (lv_at hl 0 rfl) ?_
      refine va_get (D := D) (ci := 5) (v := .ref (h 9)) (C := RX5) (T := TX5) (N := 4) hx hb hts iX5 hown hK hP 0 rfl rfl 0 (by decide) f_9 (fun _ h9 => h9) rfl dX5_lowestToLetOut_21 ?_
      refine lv_iload_n hx hb dX5_lowestToLetOut_24 rfl (lv_at hl 3 rfl) ?_
      refine cd_iald (f := S 9) hx hb hK hP 1 rfl (by omega) (by decide) dX5_lowestToLetOut_25 ?_
      refine lv_iconst (v := nI 1) hx hb dX5_lowestToLetOut_26 (by decide) ?_
      refine lv_iadd hx hb dX5_lowestToLetOut_27 ?_
      refine lv_iload_n hx hb dX5_lowestToLetOut_28 rfl (lv_at hl 2 rfl) ?_
      refine lv_icmp_ne (tgt := 43) hx hb dX5_lowestToLetOut_29 (by decide) (fun c_29 => ?_) (fun c_29 => ?_)
      · refine lv_iinc (v := nI (k + 1)) (lv' := [(3, .int (nI (k + 1))), (0, .ref (h 8)), (1, .int (nI p)), (2, .int z)]) hx hb dX5_lowestToLetOut_43 hl (k := 3) rfl (cd_i1 _) (by decide) rfl (fun ls hl => ?_)
        refine lv_goto (tgt := 2) hx hb dX5_lowestToLetOut_46 (by decide) ?_
        exact ih_2 (k + 1) (⟨c_7, lt_s hi_2.2 (decide_eq_false (fun q => c_29 q.2.1))⟩) (by omega) _ (lv_sub hl [1, 2, 3, 0] rfl)
      · refine lv_aload_n hx hb dX5_lowestToLetOut_32 rfl (lv_at hl 0 rfl) ?_
        refine va_get (D := D) (ci := 5) (v := .ref (h 11)) (C := RX5) (T := TX5) (N := 4) hx hb hts iX5 hown hK hP 0 rfl rfl 2 (by decide) f_18 (fun _ h9 => h9) rfl dX5_lowestToLetOut_33 ?_
        refine lv_iload_n hx hb dX5_lowestToLetOut_36 rfl (lv_at hl 3 rfl) ?_
        refine cd_zald (f := S 11) hx hb hK hP 3 rfl (by omega) (by decide) dX5_lowestToLetOut_37 ?_
        refine lv_if_ne (tgt := 43) hx hb dX5_lowestToLetOut_38 (by decide) (fun c_38 => ?_) (fun c_38 => ?_)
        · refine lv_iinc (v := nI (k + 1)) (lv' := [(3, .int (nI (k + 1))), (0, .ref (h 8)), (1, .int (nI p)), (2, .int z)]) hx hb dX5_lowestToLetOut_43 hl (k := 3) rfl (cd_i1 _) (by decide) rfl (fun ls hl => ?_)
          refine lv_goto (tgt := 2) hx hb dX5_lowestToLetOut_46 (by decide) ?_
          exact ih_2 (k + 1) (⟨c_7, lt_s hi_2.2 (decide_eq_false (fun q => c_38 q.2.2))⟩) (by omega) _ (lv_sub hl [1, 2, 3, 0] rfl)
        · refine lv_iload_n hx hb dX5_lowestToLetOut_41 rfl (lv_at hl 3 rfl) ?_
          exact W.iret (v := nI k) hx hb hr (fun t ht hW => ⟨_, rfl, (fi_hit c_7 hi_2.2 (decide_eq_true ⟨c_17, c_29, c_38⟩)), ht⟩) (fun _ h9 => nomatch h9) dX5_lowestToLetOut_42