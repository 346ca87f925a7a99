set_option maxHeartbeats 4000000 in
set_option maxRecDepth 100000 in
theorem c_X1_workOf (l : Launch) (k : Nat) (hk : k < 2147483648) : Met l yX1_workOf wsX1_workOf ({ frames := 0, cells := 0, slots := 0, locals := 0 }) (va_Pc [.int (nI k)] (fun _ => True)) (vp_Si (fun r9 => r9 = nI (k / 2 ^ 16 &&& 15))) 0 0 (fun _ => False) := by
  refine Met.ofW (cc := cX1_workOf) (maxL := 1) (ret := (some .int)) (by decide) rfl ?_
  intro pp e9 s m9 args9 bl9 meth9 c9 s9 B hml hv
  obtain ⟨rfl, -⟩ := hv
  have hx := B.exec
  have hb := B.bytes
  have hr := B.returns
  have hts := atoms_spec (ws := wsX1_workOf) B.pre
  have hown : s.vm.findClass RX1 = some m9.cls := findClass_of_methodNamed B.named
  have hlocks := B.notSynchronized
  have hl := lv_entry ([.int (nI k)]) (n := 1) (Nat.le_of_ble_eq_true rfl)
  rw [lg_entry_eq]
  generalize (lg_sl ([.int (nI k)]) ++ List.replicate (1 - (lg_sl ([.int (nI k)])).length) Slot.unset).toArray = ls at hl ⊢
  have hl : lv_has ls 1 [(0, .int (nI k))] := hl
  refine lv_iload_n hx hb dX1_workOf_0 rfl (lv_at hl 0 rfl) ?_
  refine lv_bipush (v := nI 16) hx hb dX1_workOf_1 (by decide) ?_
  refine cd_ishr hx hb (by omega) (by omega) dX1_workOf_3 ?_
  refine lv_bipush (v := nI 15) hx hb dX1_workOf_4 (by decide) ?_
  refine cd_iand hx hb dX1_workOf_6 ?_
  exact W.iret (v := nI ((k / 2 ^ 16) &&& 15)) hx hb hr (fun t ht hW => ⟨_, rfl, rfl, ht⟩) (fun _ h9 => nomatch h9) dX1_workOf_7
