set_option maxHeartbeats 4000000 in
set_option maxRecDepth 100000 in
theorem c_X6_needDay (l : Launch) (D : va_G) (cy : qT) (hfl : l.stackTraces = false) (x : Int32) (y : Int32) (sz : Nat) : vx_Met l yX6_needDay wsX6_needDay ({ frames := 6, cells := 1, slots := 6, locals := 92 }) (va_Pc [.int x, .int y] (thB D cy [] sz)) (va_Sv (fun _ => inI x y (nI 1000) = true)) (nX (fun E => E = xIA ∧ inI x y (nI 1000) = false)) 1 6 (va_A [] sz) := by
  refine vx_ofW (cc := cX6_needDay) (maxL := 2) (ret := none) (by decide) rfl ?_
  intro pp e9 s m9 args9 bl9 meth9 c9 s9 B hml htab hv
  obtain ⟨rfl, ⟨hsz, hP, hG, hD0⟩, hTz⟩ := hv
  have hx := B.exec
  have hb := B.bytes
  have hr := B.returns
  have hts := atoms_spec (ws := wsX6_needDay) B.pre
  have hown : s.vm.findClass RX6 = some m9.cls := findClass_of_methodNamed B.named
  have hlocks := B.notSynchronized
  have hK := hG.K
  subst hsz
  have hD := hD0.self (sz := s.heap.size)
  generalize hAe : (va_A [] s.heap.size) = A at hD hTz ⊢
  have hA : ∀ q : Nat, s.heap.size ≤ q → A q := fun q h9 => by rw [← hAe]; exact Or.inr h9
  have hS : va_S A s.heap s.heap [] := va_S.rf
  have hP : va_P D vwCl [] s.heap := hP
  have tk_58 := hts (.classLink RX6 58 "java/lang/IllegalArgumentException") (by decide +kernel)
  have ti_IA := hts (.initialized "java/lang/IllegalArgumentException") (by decide +kernel)
  have hl := lv_entry ([.int x, .int y]) (n := 2) (Nat.le_of_ble_eq_true rfl)
  rw [lg_entry_eq]
  generalize (lg_sl ([.int x, .int y]) ++ List.replicate (2 - (lg_sl ([.int x, .int y])).length) Slot.unset).toArray = ls at hl ⊢
  have hl : lv_has ls 2 [(0, .int x), (1, .int y)] := hl
  refine lv_iload_n hx hb dX6_needDay_0 rfl (lv_at hl 0 rfl) ?_
  refine lv_iload_n hx hb dX6_needDay_1 rfl (lv_at hl 1 rfl) ?_
  refine lv_icmp_lt (tgt := 12) hx hb dX6_needDay_2 (by decide) (fun c_2 => ?_) (fun c_2 => ?_)
  · exact cd_thr tf_IA tg_IA tn_IA (hG.2.2.2.ws hG.2.2.2.2.2.2.2.1) hx hb hfl hown tk_58 ti_IA hG.2.2.1.2.2.2.2.2.2.2.2.2.2 (fun w hw9 => hts w ((by decide +kernel : ∀ w ∈ (vx_atS RX6 62 xIA nm2).filter goodWord, w ∈ wsX6_needDay) w hw9)) hTz hS rfl hl.1 hml dX6_needDay_12 dX6_needDay_15 dX6_needDay_16 dX6_needDay_18 dX6_needDay_21 (fun x h9 => (htab x h9).elim) (Nat.le_of_ble_eq_true rfl) (Nat.le_of_ble_eq_true rfl) (Nat.le_of_ble_eq_true rfl) (Nat.le_of_ble_eq_true rfl) hlocks (⟨rfl, inI_lo c_2⟩) (by decide) (by decide)
  · refine lv_iload_n hx hb dX6_needDay_5 rfl (lv_at hl 0 rfl) ?_
    refine lv_sipush (v := nI 1000) hx hb dX6_needDay_6 (by decide) ?_
    refine lv_icmp_le (tgt := 22) hx hb dX6_needDay_9 (by decide) (fun c_9 => ?_) (fun c_9 => ?_)
    · refine vx_ret ?_
      refine W.widen (k := 1) (n := 6) (by decide) (by decide) ?_
      exact W.vret hx hb hr (fun t ht hW => ⟨rfl, (inI_t (Int32.not_lt.mp c_2) c_9), ht⟩) hS.2.2 dX6_needDay_22
    · exact cd_thr tf_IA tg_IA tn_IA (hG.2.2.2.ws hG.2.2.2.2.2.2.2.1) hx hb hfl hown tk_58 ti_IA hG.2.2.1.2.2.2.2.2.2.2.2.2.2 (fun w hw9 => hts w ((by decide +kernel : ∀ w ∈ (vx_atS RX6 62 xIA nm2).filter goodWord, w ∈ wsX6_needDay) w hw9)) hTz hS rfl hl.1 hml dX6_needDay_12 dX6_needDay_15 dX6_needDay_16 dX6_needDay_18 dX6_needDay_21 (fun x h9 => (htab x h9).elim) (Nat.le_of_ble_eq_true rfl) (Nat.le_of_ble_eq_true rfl) (Nat.le_of_ble_eq_true rfl) (Nat.le_of_ble_eq_true rfl) hlocks (⟨rfl, inI_hi (Int32.not_le.mp c_9)⟩) (by decide) (by decide)
