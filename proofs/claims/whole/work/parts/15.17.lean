set_option maxHeartbeats 4000000 in
set_option maxRecDepth 100000 in
theorem c_X7_knows (l : Launch) (D : va_G) (cy : qT) (g : Nat → Nat) (S : qS) (K : qS) (hI : Inv S) (a : Nat) (p : Nat) (ha : a < 12) (hp : p < 8) : Met l yX7_knows wsX7_knows ({ frames := 0, cells := 0, slots := 0, locals := 0 }) (va_Pc [.ref (g 0), .int (nI a), .int (nI p)] (roB D cy (wM cy g S K))) (vp_Si (fun r9 => r9 = bI ((nv (S 3 a)).testBit p))) 0 0 (fun _ => False) := by
  refine Met.ofW (cc := cX7_knows) (maxL := 3) (ret := (some .boolean)) (by decide) rfl ?_
  intro pp e9 s m9 args9 bl9 meth9 c9 s9 B hml hv
  obtain ⟨rfl, hP, hG⟩ := hv
  have hx := B.exec
  have hb := B.bytes
  have hr := B.returns
  have hts := atoms_spec (ws := wsX7_knows) B.pre
  have hown : s.vm.findClass RX7 = some m9.cls := findClass_of_methodNamed B.named
  have hlocks := B.notSynchronized
  have hK := hG.K
  have f_17 := hts (.fieldLink RX7 17 "CastDeskModel" "known" "[I") (by decide +kernel)
  have iX7 : ∀ w ∈ wsX70, w ∈ wsX7_knows := by decide +kernel
  have hl := lv_entry ([.ref (g 0), .int (nI a), .int (nI p)]) (n := 3) (Nat.le_of_ble_eq_true rfl)
  rw [lg_entry_eq]
  generalize (lg_sl ([.ref (g 0), .int (nI a), .int (nI p)]) ++ List.replicate (3 - (lg_sl ([.ref (g 0), .int (nI a), .int (nI p)])).length) Slot.unset).toArray = ls at hl ⊢
  have hl : lv_has ls 3 [(0, .ref (g 0)), (1, .int (nI a)), (2, .int (nI p))] := hl
  refine lv_aload_n hx hb dX7_knows_0 rfl (lv_at hl 0 rfl) ?_
  refine va_get (D := D) (ci := 7) (v := .ref (g 2)) (C := RX7) (T := TX7) (N := 29) hx hb hts iX7 hown hK hP 0 rfl rfl 2 (by decide) f_17 (fun _ h9 => h9) rfl dX7_knows_1 ?_
  refine lv_iload_n hx hb dX7_knows_4 rfl (lv_at hl 1 rfl) ?_
  refine cd_iald (f := S 3) hx hb hK hP 2 rfl (by omega) (by decide) dX7_knows_5 ?_
  have b_5 := (iv_3 hI a (by omega)).1
  refine cd_tp (y := nI (nv (S 3 a))) b_5.1 ?_
  have b_5 := b_5.2
  refine lv_iload_n hx hb dX7_knows_6 rfl (lv_at hl 2 rfl) ?_
  refine cd_ishr hx hb (by omega) (by omega) dX7_knows_7 ?_
  refine lv_iconst (v := nI 1) hx hb dX7_knows_8 (by decide) ?_
  refine cd_iand hx hb dX7_knows_9 ?_
  refine lv_iconst (v := nI 1) hx hb dX7_knows_10 (by decide) ?_
  refine cd_icmp_ne (tgt := 18) hx hb dX7_knows_11 (by decide) (by have := Nat.and_le_right (n := nv (S 3 a) / 2 ^ p) (m := 1); omega) (by decide) (fun c_11 => ?_) (fun c_11 => ?_)
  · refine lv_iconst (v := nI 0) hx hb dX7_knows_18 (by decide) ?_
    exact W.zret (v := nI 0) hx hb hr rfl (fun t ht hW => ⟨_, rfl, (by rw [and1_n c_11]; rfl), ht⟩) (fun _ h9 => nomatch h9) dX7_knows_19
  · refine lv_iconst (v := nI 1) hx hb dX7_knows_14 (by decide) ?_
    refine lv_goto (tgt := 19) hx hb dX7_knows_15 (by decide) ?_
    exact W.zret (v := nI 1) hx hb hr rfl (fun t ht hW => ⟨_, rfl, (by rw [and1_e c_11]; rfl), ht⟩) (fun _ h9 => nomatch h9) dX7_knows_19
