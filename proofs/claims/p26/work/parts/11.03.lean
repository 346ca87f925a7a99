set_option maxHeartbeats 4000000 in
set_option maxRecDepth 100000 in
theorem c_X1_rankShift (l : Launch) (q : Nat) (hq : q < 8) : Met l yX1_rankShift wsX1_rankShift ({ frames := 0, cells := 0, slots := 0, locals := 0 }) (va_Pc [.int (nI q)] (fun _ => True)) (vp_Si (fun r9 => r9 = nI ((7 - q) * 2))) 0 0 (fun _ => False) := by
  refine Met.ofW (cc := cX1_rankShift) (maxL := 1) (ret := (some .int)) (by decide) rfl ?_
  intro pp e9 s m9 args9 bl9 meth9 c9 s9 B hml hv
  obtain ⟨rfl, -⟩ := hv
  have hx := B.exec
  have hb := B.bytes
  have hr := B.returns
  have hts := atoms_spec (ws := wsX1_rankShift) B.pre
  have hown : s.vm.findClass RX1 = some m9.cls := findClass_of_methodNamed B.named
  have hlocks := B.notSynchronized
  have hl := lv_entry ([.int (nI q)]) (n := 1) (Nat.le_of_ble_eq_true rfl)
  rw [lg_entry_eq]
  generalize (lg_sl ([.int (nI q)]) ++ List.replicate (1 - (lg_sl ([.int (nI q)])).length) Slot.unset).toArray = ls at hl ⊢
  have hl : lv_has ls 1 [(0, .int (nI q))] := hl
  refine lv_bipush (v := nI 7) hx hb dX1_rankShift_0 (by decide) ?_
  refine lv_iload_n hx hb dX1_rankShift_2 rfl (lv_at hl 0 rfl) ?_
  refine cd_isub hx hb (by omega) dX1_rankShift_3 ?_
  refine lv_iconst (v := nI 2) hx hb dX1_rankShift_4 (by decide) ?_
  refine cd_imul hx hb dX1_rankShift_5 ?_
  exact W.iret (v := nI ((7 - q) * 2)) hx hb hr (fun t ht hW => ⟨_, rfl, rfl, ht⟩) (fun _ h9 => nomatch h9) dX1_rankShift_6
