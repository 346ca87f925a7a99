set_option maxHeartbeats 4000000 in
set_option maxRecDepth 100000 in
theorem c_X6_needPart (l : Launch) (D : va_G) (cy : qT) (hfl : l.stackTraces = false) (x : Int32) (sz : Nat) : vx_Met l yX6_needPart wsX6_needPart ({ frames := 6, cells := 1, slots := 6, locals := 92 }) (va_Pc [.int x] (thB D cy [] sz)) (va_Sv (fun _ => inI x (nI 0) (nI 7) = true)) (nX (fun E => E = xIO ∧ inI x (nI 0) (nI 7) = false)) 1 6 (va_A [] sz) := by
  refine vx_ofW (cc := cX6_needPart) (maxL := 1) (ret := none) (by decide) rfl ?_
  intro pp e9 s m9 args9 bl9 meth9 c9 s9 B hml htab hv
  obtain ⟨rfl, ⟨hsz, hP, hG, hD0⟩, hTz⟩ := hv
  have hx := B.exec
  have hb := B.bytes
  have hr := B.returns
  have hts := atoms_spec (ws := wsX6_needPart) B.pre
  have hown : s.vm.findClass RX6 = some m9.cls := findClass_of_methodNamed B.named
  have hlocks := B.notSynchronized
  have hK := hG.K
  subst hsz
  have hD := hD0.self (sz := s.heap.size)
  generalize hAe : (va_A [] s.heap.size) = A at hD hTz ⊢
  have hA : ∀ q : Nat, s.heap.size ≤ q → A q := fun q h9 => by rw [← hAe]; exact Or.inr h9
  have hS : va_S A s.heap s.heap [] := va_S.rf
  have hP : va_P D vwCl [] s.heap := hP
  have tk_215 := hts (.classLink RX6 215 "java/lang/IndexOutOfBoundsException") (by decide +kernel)
  have ti_IO := hts (.initialized "java/lang/IndexOutOfBoundsException") (by decide +kernel)
  have hl := lv_entry ([.int x]) (n := 1) (Nat.le_of_ble_eq_true rfl)
  rw [lg_entry_eq]
  generalize (lg_sl ([.int x]) ++ List.replicate (1 - (lg_sl ([.int x])).length) Slot.unset).toArray = ls at hl ⊢
  have hl : lv_has ls 1 [(0, .int x)] := hl
  refine lv_iload_n hx hb dX6_needPart_0 rfl (lv_at hl 0 rfl) ?_
  refine lv_if_lt (tgt := 10) hx hb dX6_needPart_1 (by decide) (fun c_1 => ?_) (fun c_1 => ?_)
  · exact cd_thr tf_IO tg_IO tn_IO (hG.2.2.2.ws hG.2.2.2.2.2.2.1) hx hb hfl hown tk_215 ti_IO hG.2.2.1.2.2.2.2.2.2.2.1 (fun w hw9 => hts w ((by decide +kernel : ∀ w ∈ (vx_atS RX6 219 xIO nm2).filter goodWord, w ∈ wsX6_needPart) w hw9)) hTz hS rfl hl.1 hml dX6_needPart_10 dX6_needPart_13 dX6_needPart_14 dX6_needPart_16 dX6_needPart_19 (fun x h9 => (htab x h9).elim) (Nat.le_of_ble_eq_true rfl) (Nat.le_of_ble_eq_true rfl) (Nat.le_of_ble_eq_true rfl) (Nat.le_of_ble_eq_true rfl) hlocks (⟨rfl, inI_lo c_1⟩) (by decide) (by decide)
  · refine lv_iload_n hx hb dX6_needPart_4 rfl (lv_at hl 0 rfl) ?_
    refine lv_bipush (v := nI 8) hx hb dX6_needPart_5 (by decide) ?_
    refine lv_icmp_lt (tgt := 20) hx hb dX6_needPart_7 (by decide) (fun c_7 => ?_) (fun c_7 => ?_)
    · refine vx_ret ?_
      refine W.widen (k := 1) (n := 6) (by decide) (by decide) ?_
      exact W.vret hx hb hr (fun t ht hW => ⟨rfl, (inI_t (Int32.not_lt.mp c_1) ((i_lt (by decide)).mp c_7)), ht⟩) hS.2.2 dX6_needPart_20
    · exact cd_thr tf_IO tg_IO tn_IO (hG.2.2.2.ws hG.2.2.2.2.2.2.1) hx hb hfl hown tk_215 ti_IO hG.2.2.1.2.2.2.2.2.2.2.1 (fun w hw9 => hts w ((by decide +kernel : ∀ w ∈ (vx_atS RX6 219 xIO nm2).filter goodWord, w ∈ wsX6_needPart) w hw9)) hTz hS rfl hl.1 hml dX6_needPart_10 dX6_needPart_13 dX6_needPart_14 dX6_needPart_16 dX6_needPart_19 (fun x h9 => (htab x h9).elim) (Nat.le_of_ble_eq_true rfl) (Nat.le_of_ble_eq_true rfl) (Nat.le_of_ble_eq_true rfl) (Nat.le_of_ble_eq_true rfl) hlocks (⟨rfl, inI_hi (Int32.not_le.mp (fun q => c_7 ((i_lt (by decide)).mpr q)))⟩) (by decide) (by decide)
