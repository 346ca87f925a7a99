set_option maxHeartbeats 4000000 in
set_option maxRecDepth 100000 in
theorem c_X6_needOneOf (l : Launch) (x : Nat) (n : Nat) (hx1 : x < n) (hx2 : n < 2147483648) : Met l yX6_needOneOf wsX6_needOneOf ({ frames := 0, cells := 0, slots := 0, locals := 0 }) (va_Pc [.int (nI x), .int (nI n)] (fun _ => True)) (va_Sv (fun _ => True)) 0 0 (fun _ => False) := by
  refine Met.ofW (cc := cX6_needOneOf) (maxL := 2) (ret := none) (by decide) rfl ?_
  intro pp e9 s m9 args9 bl9 meth9 c9 s9 B hml hv
  obtain ⟨rfl, -⟩ := hv
  have hx := B.exec
  have hb := B.bytes
  have hr := B.returns
  have hts := atoms_spec (ws := wsX6_needOneOf) B.pre
  have hown : s.vm.findClass RX6 = some m9.cls := findClass_of_methodNamed B.named
  have hlocks := B.notSynchronized
  have hl := lv_entry ([.int (nI x), .int (nI n)]) (n := 2) (Nat.le_of_ble_eq_true rfl)
  rw [lg_entry_eq]
  generalize (lg_sl ([.int (nI x), .int (nI n)]) ++ List.replicate (2 - (lg_sl ([.int (nI x), .int (nI n)])).length) Slot.unset).toArray = ls at hl ⊢
  have hl : lv_has ls 2 [(0, .int (nI x)), (1, .int (nI n))] := hl
  refine lv_iload_n hx hb dX6_needOneOf_0 rfl (lv_at hl 0 rfl) ?_
  refine lv_if_lt (tgt := 9) hx hb dX6_needOneOf_1 (by decide) (fun c_1 => ?_) (fun c_1 => ?_)
  · exact absurd c_1 (by exact Int32.not_lt.mpr (nI_pos' (by omega)))
  · refine lv_iload_n hx hb dX6_needOneOf_4 rfl (lv_at hl 0 rfl) ?_
    refine lv_iload_n hx hb dX6_needOneOf_5 rfl (lv_at hl 1 rfl) ?_
    refine cd_icmp_lt (tgt := 19) hx hb dX6_needOneOf_6 (by decide) (by omega) (by omega) (fun c_6 => ?_) (fun c_6 => ?_)
    · exact W.vret hx hb hr (fun t ht hW => ⟨rfl, trivial, ht⟩) (fun _ h9 => nomatch h9) dX6_needOneOf_19
    · exact absurd c_6 (by omega)
