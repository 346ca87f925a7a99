set_option maxHeartbeats 4000000 in
set_option maxRecDepth 100000 in
theorem c_X6_isIll (l : Launch) (D : va_G) (cy : qT) (h : Nat → Nat) (S : qS) (J : qS) (hI : Inv S) (a : Nat) (d : Nat) (ha1 : a < 12) (hd1 : d ≤ 1000) : Met l yX6_isIll wsX6_isIll ({ frames := 1, cells := 0, slots := 0, locals := 21 }) (va_Pc [.ref (h 0), .int (nI a), .int (nI d)] (roB D cy (wC cy h S J))) (vp_Si (fun r9 => r9 = bI ((nv (S 4 d)).testBit a))) 0 0 (fun _ => False) := by
  refine Met.ofW (cc := cX6_isIll) (maxL := 3) (ret := (some .boolean)) (by decide) rfl ?_
  intro pp e9 s m9 args9 bl9 meth9 c9 s9 B hml hv
  obtain ⟨rfl, hP, hG⟩ := hv
  have hx := B.exec
  have hb := B.bytes
  have hr := B.returns
  have hts := atoms_spec (ws := wsX6_isIll) B.pre
  have hown : s.vm.findClass RX6 = some m9.cls := findClass_of_methodNamed B.named
  have hlocks := B.notSynchronized
  have hK := hG.K
  have f_10 := hts (.fieldLink RX6 10 "CastDesk" "troupe" "LCastDesk$Troupe;") (by decide +kernel)
  have f_139 := hts (.fieldLink RX6 139 "CastDesk$Troupe" "ill" "[I") (by decide +kernel)
  have iX4 : ∀ w ∈ wsX40, w ∈ wsX6_isIll := by decide +kernel
  have iX6 : ∀ w ∈ wsX60, w ∈ wsX6_isIll := by decide +kernel
  have hl := lv_entry ([.ref (h 0), .int (nI a), .int (nI d)]) (n := 3) (Nat.le_of_ble_eq_true rfl)
  rw [lg_entry_eq]
  generalize (lg_sl ([.ref (h 0), .int (nI a), .int (nI d)]) ++ List.replicate (3 - (lg_sl ([.ref (h 0), .int (nI a), .int (nI d)])).length) Slot.unset).toArray = ls at hl ⊢
  have hl : lv_has ls 3 [(0, .ref (h 0)), (1, .int (nI a)), (2, .int (nI d))] := hl
  refine lv_iload_n hx hb dX6_isIll_0 rfl (lv_at hl 1 rfl) ?_
  have M_1 := c_X6_needActor l a (by omega)
  refine cd_rov (va_runS (As := [.int (nI a)]) (rest := []) ⟨hx, hb, hml, hown, hts⟩ M_1 (va_cwS 1 hts gX6_isIll_X6_needActor rfl rfl rfl (by decide +kernel) ⟨Nat.le_of_ble_eq_true rfl, Nat.le_of_ble_eq_true rfl⟩) ⟨nuB.bl, fun U hU hW => ⟨rfl, trivial⟩⟩ rfl rfl hl.1 rfl (lv_room (Nat.le_of_ble_eq_true rfl)) dX6_isIll_1 (by exact ⟨Nat.zero_le _, Nat.zero_le _⟩)) ?_
  refine lv_iload_n hx hb dX6_isIll_4 rfl (lv_at hl 2 rfl) ?_
  refine lv_iconst (v := nI 0) hx hb dX6_isIll_5 (by decide) ?_
  have M_6 := c_X6_needDay l d 0 (by omega) (by omega)
  refine cd_rov (va_runS (As := [.int (nI d), .int (nI 0)]) (rest := []) ⟨hx, hb, hml, hown, hts⟩ M_6 (va_cwS 2 hts gX6_isIll_X6_needDay rfl rfl rfl (by decide +kernel) ⟨Nat.le_of_ble_eq_true rfl, Nat.le_of_ble_eq_true rfl⟩) ⟨nuB.bl, fun U hU hW => ⟨rfl, trivial⟩⟩ rfl rfl hl.1 rfl (lv_room (Nat.le_of_ble_eq_true rfl)) dX6_isIll_6 (by exact ⟨Nat.zero_le _, Nat.zero_le _⟩)) ?_
  refine lv_aload_n hx hb dX6_isIll_9 rfl (lv_at hl 0 rfl) ?_
  refine va_get (D := D) (ci := 6) (v := .ref (h 1)) (C := RX6) (T := TX6) (N := 8) hx hb hts iX6 hown hK hP 0 rfl rfl 0 (by decide) f_10 (fun _ h9 => h9) rfl dX6_isIll_10 ?_
  refine va_get (D := D) (ci := 4) (v := .ref (h 4)) (C := RX4) (T := TX4) (N := 3) hx hb hts iX4 hown hK hP 1 rfl rfl 2 (by decide) f_139 (fun _ h9 => h9) rfl dX6_isIll_13 ?_
  refine lv_iload_n hx hb dX6_isIll_16 rfl (lv_at hl 2 rfl) ?_
  refine cd_iald (f := S 4) hx hb hK hP 4 rfl (by omega) (by decide) dX6_isIll_17 ?_
  have b_17 := iv_4 hI d (by omega)
  refine cd_tp (y := nI (nv (S 4 d))) b_17.1 ?_
  have b_17 := b_17.2
  refine lv_iload_n hx hb dX6_isIll_18 rfl (lv_at hl 1 rfl) ?_
  have M_19 := c_X6_has l (nv (S 4 d)) a (by omega) (by omega)
  refine cd_roi (va_runS (As := [.int (nI (nv (S 4 d))), .int (nI a)]) (rest := []) ⟨hx, hb, hml, hown, hts⟩ M_19 (va_cwS 2 hts gX6_isIll_X6_has rfl rfl rfl (by decide +kernel) ⟨Nat.le_of_ble_eq_true rfl, Nat.le_of_ble_eq_true rfl⟩) ⟨nuB.bl, fun U hU hW => ⟨rfl, trivial⟩⟩ rfl rfl hl.1 rfl (lv_room (Nat.le_of_ble_eq_true rfl)) dX6_isIll_19 (by exact ⟨Nat.zero_le _, Nat.zero_le _⟩)) (fun r_19 hr_19 => ?_)
  subst hr_19
  exact W.zret (v := bI ((nv (S 4 d)).testBit a)) hx hb hr (nar_bI _) (fun t ht hW => ⟨_, rfl, rfl, ht⟩) (fun _ h9 => nomatch h9) dX6_isIll_22
