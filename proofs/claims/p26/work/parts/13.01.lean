set_option maxHeartbeats 4000000 in
set_option maxRecDepth 100000 in
theorem c_X1_leastStrain (l : Launch) (D : va_G) (cy : qT) (h : Nat → Nat) (J : qS) (n : Nat) (hn : n ≤ 8) (hA13 : ∀ i, i < 32 → J 13 i = -1 ∨ bd (J 13 i) 12) : Met l yX1_leastStrain wsX1_leastStrain ({ frames := 10, cells := 0, slots := 0, locals := 264 }) (va_Pc [.ref (h 12), .int (nI n)] (roB D cy (wX1 cy h J))) (vp_Si (fun r9 => r9 = lfF (J 13) n 8 0 0)) 0 0 (fun _ => False) := by
  refine Met.ofW (cc := cX1_leastStrain) (maxL := 2) (ret := (some .int)) (by decide) rfl ?_
  intro pp e9 s m9 args9 bl9 meth9 c9 s9 B hml hv
  obtain ⟨rfl, hP, hG⟩ := hv
  have hx := B.exec
  have hb := B.bytes
  have hr := B.returns
  have hts := atoms_spec (ws := wsX1_leastStrain) B.pre
  have hown : s.vm.findClass RX1 = some m9.cls := findClass_of_methodNamed B.named
  have hlocks := B.notSynchronized
  have hK := hG.K
  have f_11 := hts (.fieldLink RX1 11 "CastDesk$Casting" "actors" "[I") (by decide +kernel)
  have iX1 : ∀ w ∈ wsX10, w ∈ wsX1_leastStrain := by decide +kernel
  have hl := lv_entry ([.ref (h 12), .int (nI n)]) (n := 2) (Nat.le_of_ble_eq_true rfl)
  rw [lg_entry_eq]
  generalize (lg_sl ([.ref (h 12), .int (nI n)]) ++ List.replicate (2 - (lg_sl ([.ref (h 12), .int (nI n)])).length) Slot.unset).toArray = ls at hl ⊢
  have hl : lv_has ls 2 [(0, .ref (h 12)), (1, .int (nI n))] := hl
  refine lv_aload_n hx hb dX1_leastStrain_0 rfl (lv_at hl 0 rfl) ?_
  refine va_get (D := D) (ci := 1) (v := .ref (h 13)) (C := RX1) (T := TX1) (N := 4) hx hb hts iX1 hown hK hP 0 rfl rfl 0 (by decide) f_11 (fun _ h9 => h9) rfl dX1_leastStrain_1 ?_
  refine lv_iload_n hx hb dX1_leastStrain_4 rfl (lv_at hl 1 rfl) ?_
  refine lv_iconst (v := nI 0) hx hb dX1_leastStrain_5 (by decide) ?_
  refine lv_iconst (v := nI 0) hx hb dX1_leastStrain_6 (by decide) ?_
  have M_7 := c_X1_leastFrom l D cy (h 13) (J 13) n hn hA13 8 0 0 (by decide) (by decide)
  have hPc := hP.sub (ws' := [((h 13), aI cy 32 (J 13))]) [1] rfl
  refine cd_roi (va_runS (As := [.ref (h 13), .int (nI n), .int (nI 0), .int (nI 0)]) (rest := []) ⟨hx, hb, hml, hown, hts⟩ M_7 (va_cwS 4 hts gX1_leastStrain_X1_leastFrom rfl rfl rfl (by decide +kernel) ⟨Nat.le_of_ble_eq_true rfl, Nat.le_of_ble_eq_true rfl⟩) ⟨roB.bl, fun U hU hW => ⟨rfl, by rw [hU]; exact hPc, hG.warm hW⟩⟩ rfl rfl hl.1 rfl (lv_room (Nat.le_of_ble_eq_true rfl)) dX1_leastStrain_7 (by exact ⟨Nat.zero_le _, Nat.zero_le _⟩)) (fun r_7 hr_7 => ?_)
  subst hr_7
  exact W.iret (v := lfF (J 13) n 8 0 0) hx hb hr (fun t ht hW => ⟨_, rfl, rfl, ht⟩) (fun _ h9 => nomatch h9) dX1_leastStrain_10
