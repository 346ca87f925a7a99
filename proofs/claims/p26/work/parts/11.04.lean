set_option maxHeartbeats 4000000 in
set_option maxRecDepth 100000 in
theorem c_X1_rankOf (l : Launch) (k : Nat) (q : Nat) (hk : k < 2147483648) (hq : q < 8) : Met l yX1_rankOf wsX1_rankOf ({ frames := 1, cells := 0, slots := 0, locals := 20 }) (va_Pc [.int (nI k), .int (nI q)] (fun _ => True)) (vp_Si (fun r9 => r9 = nI (k / 2 ^ ((7 - q) * 2) &&& 3))) 0 0 (fun _ => False) := by
  refine Met.ofW (cc := cX1_rankOf) (maxL := 2) (ret := (some .int)) (by decide) rfl ?_
  intro pp e9 s m9 args9 bl9 meth9 c9 s9 B hml hv
  obtain ⟨rfl, -⟩ := hv
  have hx := B.exec
  have hb := B.bytes
  have hr := B.returns
  have hts := atoms_spec (ws := wsX1_rankOf) B.pre
  have hown : s.vm.findClass RX1 = some m9.cls := findClass_of_methodNamed B.named
  have hlocks := B.notSynchronized
  have hl := lv_entry ([.int (nI k), .int (nI q)]) (n := 2) (Nat.le_of_ble_eq_true rfl)
  rw [lg_entry_eq]
  generalize (lg_sl ([.int (nI k), .int (nI q)]) ++ List.replicate (2 - (lg_sl ([.int (nI k), .int (nI q)])).length) Slot.unset).toArray = ls at hl ⊢
  have hl : lv_has ls 2 [(0, .int (nI k)), (1, .int (nI q))] := hl
  refine lv_iload_n hx hb dX1_rankOf_0 rfl (lv_at hl 0 rfl) ?_
  refine lv_iload_n hx hb dX1_rankOf_1 rfl (lv_at hl 1 rfl) ?_
  have M_2 := c_X1_rankShift l q (by omega)
  refine cd_roi (va_runS (As := [.int (nI q)]) (rest := [.int (nI k)]) ⟨hx, hb, hml, hown, hts⟩ M_2 (va_cwS 1 hts gX1_rankOf_X1_rankShift rfl rfl rfl (by decide +kernel) ⟨Nat.le_of_ble_eq_true rfl, Nat.le_of_ble_eq_true rfl⟩) ⟨nuB.bl, fun U hU hW => ⟨rfl, trivial⟩⟩ rfl rfl hl.1 rfl (lv_room (Nat.le_of_ble_eq_true rfl)) dX1_rankOf_2 (by exact ⟨Nat.zero_le _, Nat.zero_le _⟩)) (fun r_2 hr_2 => ?_)
  subst hr_2
  refine cd_ishr hx hb (by omega) (by omega) dX1_rankOf_5 ?_
  refine lv_iconst (v := nI 3) hx hb dX1_rankOf_6 (by decide) ?_
  refine cd_iand hx hb dX1_rankOf_7 ?_
  exact W.iret (v := nI ((k / 2 ^ ((7 - q) * 2)) &&& 3)) hx hb hr (fun t ht hW => ⟨_, rfl, rfl, ht⟩) (fun _ h9 => nomatch h9) dX1_rankOf_8
