set_option maxHeartbeats 4000000 in
set_option maxRecDepth 100000 in
theorem c_X6_sizeOf (l : Launch) (D : va_G) (cy : qT) (h : Nat → Nat) (S : qS) (J : qS) (hI : Inv S) (c : Nat) (hc1 : c < nv (S 29 0)) : Met l yX6_sizeOf wsX6_sizeOf ({ frames := 1, cells := 0, slots := 0, locals := 21 }) (va_Pc [.ref (h 0), .int (nI c)] (roB D cy (wC cy h S J))) (vp_Si (fun r9 => r9 = S 9 c)) 0 0 (fun _ => False) := by
  refine Met.ofW (cc := cX6_sizeOf) (maxL := 2) (ret := (some .int)) (by decide) rfl ?_
  intro pp e9 s m9 args9 bl9 meth9 c9 s9 B hml hv
  obtain ⟨rfl, hP, hG⟩ := hv
  have hx := B.exec
  have hb := B.bytes
  have hr := B.returns
  have hts := atoms_spec (ws := wsX6_sizeOf) B.pre
  have hown : s.vm.findClass RX6 = some m9.cls := findClass_of_methodNamed B.named
  have hlocks := B.notSynchronized
  have hK := hG.K
  have f_26 := hts (.fieldLink RX6 26 "CastDesk" "wardrobe" "LCastDesk$Wardrobe;") (by decide +kernel)
  have f_120 := hts (.fieldLink RX6 120 "CastDesk$Wardrobe" "count" "I") (by decide +kernel)
  have f_131 := hts (.fieldLink RX6 131 "CastDesk$Wardrobe" "sizes" "[I") (by decide +kernel)
  have iX5 : ∀ w ∈ wsX50, w ∈ wsX6_sizeOf := by decide +kernel
  have iX6 : ∀ w ∈ wsX60, w ∈ wsX6_sizeOf := by decide +kernel
  have hl := lv_entry ([.ref (h 0), .int (nI c)]) (n := 2) (Nat.le_of_ble_eq_true rfl)
  rw [lg_entry_eq]
  generalize (lg_sl ([.ref (h 0), .int (nI c)]) ++ List.replicate (2 - (lg_sl ([.ref (h 0), .int (nI c)])).length) Slot.unset).toArray = ls at hl ⊢
  have hl : lv_has ls 2 [(0, .ref (h 0)), (1, .int (nI c))] := hl
  have h29 := (iv_29 hI).2
  refine lv_iload_n hx hb dX6_sizeOf_0 rfl (lv_at hl 1 rfl) ?_
  refine lv_aload_n hx hb dX6_sizeOf_1 rfl (lv_at hl 0 rfl) ?_
  refine va_get (D := D) (ci := 6) (v := .ref (h 8)) (C := RX6) (T := TX6) (N := 8) hx hb hts iX6 hown hK hP 0 rfl rfl 2 (by decide) f_26 (fun _ h9 => h9) rfl dX6_sizeOf_2 ?_
  refine va_get (D := D) (ci := 5) (v := .int (S 29 0)) (C := RX5) (T := TX5) (N := 4) hx hb hts iX5 hown hK hP 8 rfl rfl 3 (by decide) f_120 (fun _ h9 => h9) rfl dX6_sizeOf_5 ?_
  have b_5 := iv_29 hI
  refine cd_tp (y := nI (nv (S 29 0))) b_5.1 ?_
  have b_5 := b_5.2
  have M_8 := c_X6_needOneOf l c (nv (S 29 0)) (by omega) (by omega)
  refine cd_rov (va_runS (As := [.int (nI c), .int (nI (nv (S 29 0)))]) (rest := []) ⟨hx, hb, hml, hown, hts⟩ M_8 (va_cwS 2 hts gX6_sizeOf_X6_needOneOf rfl rfl rfl (by decide +kernel) ⟨Nat.le_of_ble_eq_true rfl, Nat.le_of_ble_eq_true rfl⟩) ⟨nuB.bl, fun U hU hW => ⟨rfl, trivial⟩⟩ rfl rfl hl.1 rfl (lv_room (Nat.le_of_ble_eq_true rfl)) dX6_sizeOf_8 (by exact ⟨Nat.zero_le _, Nat.zero_le _⟩)) ?_
  refine lv_aload_n hx hb dX6_sizeOf_11 rfl (lv_at hl 0 rfl) ?_
  refine va_get (D := D) (ci := 6) (v := .ref (h 8)) (C := RX6) (T := TX6) (N := 8) hx hb hts iX6 hown hK hP 0 rfl rfl 2 (by decide) f_26 (fun _ h9 => h9) rfl dX6_sizeOf_12 ?_
  refine va_get (D := D) (ci := 5) (v := .ref (h 9)) (C := RX5) (T := TX5) (N := 4) hx hb hts iX5 hown hK hP 8 rfl rfl 0 (by decide) f_131 (fun _ h9 => h9) rfl dX6_sizeOf_15 ?_
  refine lv_iload_n hx hb dX6_sizeOf_18 rfl (lv_at hl 1 rfl) ?_
  refine cd_iald (f := S 9) hx hb hK hP 9 rfl (by omega) (by decide) dX6_sizeOf_19 ?_
  exact W.iret (v := (S 9) c) hx hb hr (fun t ht hW => ⟨_, rfl, rfl, ht⟩) (fun _ h9 => nomatch h9) dX6_sizeOf_20
