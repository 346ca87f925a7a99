set_option maxHeartbeats 4000000 in
set_option maxRecDepth 100000 in
theorem c_L_rank (l : Launch) (D : va_G) (cy : qT) (o : Nat → Nat) (S : qS) (hI : Inv S) (p : Nat) (x : Int32) (hp1 : p < 8) : Met l yL_rank wsL_rank ({ frames := 0, cells := 0, slots := 0, locals := 0 }) (va_Pc [.int (nI p), .int x, .ref (o 0), .ref (o 1)] (roB D cy (wRN cy o (S 6) (S 7)))) (vp_Si (fun r9 => r9 = rkI S p x)) 0 0 (fun _ => False) := by
  refine Met.ofW (cc := cL_rank) (maxL := 5) (ret := (some .int)) (by decide) rfl ?_
  intro pp e9 s m9 args9 bl9 meth9 c9 s9 B hml hv
  obtain ⟨rfl, hP, hG⟩ := hv
  have hx := B.exec
  have hb := B.bytes
  have hr := B.returns
  have hts := atoms_spec (ws := wsL_rank) B.pre
  have hown : s.vm.findClass RL = some m9.cls := findClass_of_methodNamed B.named
  have hlocks := B.notSynchronized
  have hK := hG.K
  have hl := lv_entry ([.int (nI p), .int x, .ref (o 0), .ref (o 1)]) (n := 5) (Nat.le_of_ble_eq_true rfl)
  rw [lg_entry_eq]
  generalize (lg_sl ([.int (nI p), .int x, .ref (o 0), .ref (o 1)]) ++ List.replicate (5 - (lg_sl ([.int (nI p), .int x, .ref (o 0), .ref (o 1)])).length) Slot.unset).toArray = ls at hl ⊢
  have hl : lv_has ls 5 [(0, .int (nI p)), (1, .int x), (2, .ref (o 0)), (3, .ref (o 1))] := hl
  have h7 := (iv_7 hI p hp1).2
  refine lv_iconst (v := nI 0) hx hb dL_rank_0 (by decide) ?_
  refine lv_istore (lv' := [(4, .int (nI 0)), (0, .int (nI p)), (1, .int x), (2, .ref (o 0)), (3, .ref (o 1))]) hx hb dL_rank_1 hl (by decide) rfl (fun ls hl => ?_)
  refine wl1 (nL := 5) (fun (k : Nat) => k ≤ nv (S 7 p) ∧ ∀ j, j < k → rkP S p x j = false) (fun (k : Nat) => nv (S 7 p) - k) (fun (k : Nat) => [(0, .int (nI p)), (1, .int x), (2, .ref (o 0)), (3, .ref (o 1)), (4, .int (nI k))]) (fun k hi_3 ih_3 ls hl => ?_) 0 (⟨Nat.zero_le _, fun j hj => absurd hj (Nat.not_lt_zero j)⟩) (lv_sub hl [1, 2, 3, 4, 0] rfl)
  have hi1 := hi_3.1
  refine lv_iload hx hb dL_rank_3 (lv_at hl 4 rfl) ?_
  refine lv_aload_n hx hb dL_rank_5 rfl (lv_at hl 3 rfl) ?_
  refine lv_iload_n hx hb dL_rank_6 rfl (lv_at hl 0 rfl) ?_
  refine cd_iald (f := S 7) hx hb hK hP 1 rfl (by omega) (by decide) dL_rank_7 ?_
  refine cd_tp (y := nI (nv (S 7 p))) ((iv_7 hI p hp1).1) ?_
  refine cd_icmp_ge (tgt := 32) hx hb dL_rank_8 (by decide) (by omega) (by omega) (fun c_8 => ?_) (fun c_8 => ?_)
  · refine lv_iconst (v := (-1)) hx hb dL_rank_32 (by decide) ?_
    exact W.iret (v := (-1)) hx hb hr (fun t ht hW => ⟨_, rfl, (fi_miss (fun j hj => hi_3.2 j (by omega))), ht⟩) (fun _ h9 => nomatch h9) dL_rank_33
  · refine lv_aload_n hx hb dL_rank_11 rfl (lv_at hl 2 rfl) ?_
    refine lv_iconst (v := nI 4) hx hb dL_rank_12 (by decide) ?_
    refine lv_iload_n hx hb dL_rank_13 rfl (lv_at hl 0 rfl) ?_
    refine cd_imul hx hb dL_rank_14 ?_
    refine lv_iload hx hb dL_rank_15 (lv_at hl 4 rfl) ?_
    refine cd_iadd hx hb dL_rank_17 ?_
    refine cd_tp (y := nI (p * 4 + k)) (by rw [Nat.mul_comm]) ?_
    refine cd_iald (f := S 6) hx hb hK hP 0 rfl (by omega) (by decide) dL_rank_18 ?_
    refine lv_iload_n hx hb dL_rank_19 rfl (lv_at hl 1 rfl) ?_
    refine lv_icmp_ne (tgt := 26) hx hb dL_rank_20 (by decide) (fun c_20 => ?_) (fun c_20 => ?_)
    · refine lv_iinc (v := nI (k + 1)) (lv' := [(4, .int (nI (k + 1))), (0, .int (nI p)), (1, .int x), (2, .ref (o 0)), (3, .ref (o 1))]) hx hb dL_rank_26 hl (k := 4) rfl (cd_i1 _) (by decide) rfl (fun ls hl => ?_)
      refine lv_goto (tgt := 3) hx hb dL_rank_29 (by decide) ?_
      exact ih_3 (k + 1) (⟨c_8, lt_s hi_3.2 (decide_eq_false c_20)⟩) (by omega) _ (lv_sub hl [1, 2, 3, 4, 0] rfl)
    · refine lv_iload hx hb dL_rank_23 (lv_at hl 4 rfl) ?_
      exact W.iret (v := nI k) hx hb hr (fun t ht hW => ⟨_, rfl, (fi_hit c_8 hi_3.2 (decide_eq_true c_20)), ht⟩) (fun _ h9 => nomatch h9) dL_rank_25
