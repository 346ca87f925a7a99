set_option maxHeartbeats 4000000 in
set_option maxRecDepth 100000 in
theorem c_X6_takings (l : Launch) (D : va_G) (cy : qT) (h : Nat → Nat) (S : qS) (J : qS) (hI : Inv S) : Met l yX6_takings wsX6_takings ({ frames := 0, cells := 0, slots := 0, locals := 0 }) (va_Pc [.ref (h 0)] (roB D cy (wC cy h S J))) (vp_Si (fun r9 => r9 = S 32 0)) 0 0 (fun _ => False) := by
  refine Met.ofW (cc := cX6_takings) (maxL := 1) (ret := (some .int)) (by decide) rfl ?_
  intro pp e9 s m9 args9 bl9 meth9 c9 s9 B hml hv
  obtain ⟨rfl, hP, hG⟩ := hv
  have hx := B.exec
  have hb := B.bytes
  have hr := B.returns
  have hts := atoms_spec (ws := wsX6_takings) B.pre
  have hown : s.vm.findClass RX6 = some m9.cls := findClass_of_methodNamed B.named
  have hlocks := B.notSynchronized
  have hK := hG.K
  have f_47 := hts (.fieldLink RX6 47 "CastDesk" "office" "LCastDesk$BoxOffice;") (by decide +kernel)
  have f_212 := hts (.fieldLink RX6 212 "CastDesk$BoxOffice" "money" "I") (by decide +kernel)
  have iX0 : ∀ w ∈ wsX00, w ∈ wsX6_takings := by decide +kernel
  have iX6 : ∀ w ∈ wsX60, w ∈ wsX6_takings := by decide +kernel
  have hl := lv_entry ([.ref (h 0)]) (n := 1) (Nat.le_of_ble_eq_true rfl)
  rw [lg_entry_eq]
  generalize (lg_sl ([.ref (h 0)]) ++ List.replicate (1 - (lg_sl ([.ref (h 0)])).length) Slot.unset).toArray = ls at hl ⊢
  have hl : lv_has ls 1 [(0, .ref (h 0))] := hl
  refine lv_aload_n hx hb dX6_takings_0 rfl (lv_at hl 0 rfl) ?_
  refine va_get (D := D) (ci := 6) (v := .ref (h 20)) (C := RX6) (T := TX6) (N := 8) hx hb hts iX6 hown hK hP 0 rfl rfl 5 (by decide) f_47 (fun _ h9 => h9) rfl dX6_takings_1 ?_
  refine va_get (D := D) (ci := 0) (v := .int (S 32 0)) (C := RX0) (T := TX0) (N := 8) hx hb hts iX0 hown hK hP 20 rfl rfl 7 (by decide) f_212 (fun _ h9 => h9) rfl dX6_takings_4 ?_
  exact W.iret (v := S 32 0) hx hb hr (fun t ht hW => ⟨_, rfl, rfl, ht⟩) (fun _ h9 => nomatch h9) dX6_takings_7
