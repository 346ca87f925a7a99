set_option maxHeartbeats 4000000 in
set_option maxRecDepth 100000 in
theorem c_X6_setParts (l : Launch) (D : va_G) (cy : qT) (hfl : l.stackTraces = false) (h : Nat → Nat) (S : qS) (J : qS) (hI : Inv S) (x : Int32) (hJ : jk J) (sz : Nat) : vx_Met l yX6_setParts wsX6_setParts ({ frames := 6, cells := 4, slots := 24, locals := 92 }) (va_Pc [.ref (h 0), .int x] (thB D cy (wC cy h S J) sz)) (va_Qi (fun (r9 : Int32) (u : qS) => r9 = nI (nv (S 27 0)) ∧ th1 (inI x (nI 1) (nI 8)) = nI 0 ∧ jk u) (wrQ D (va_A (wC cy h S J) sz) (fun u : qS => (wC cy h (va_up S 27 (fun _ => x)) u))) (va_A (wC cy h S J) sz)) (nX (fun E => E = xIA ∧ th1 (inI x (nI 1) (nI 8)) = nI 1)) 4 24 (va_A (wC cy h S J) sz) := by
  refine vx_ofW (cc := cX6_setParts) (maxL := 3) (ret := (some .int)) (by decide) rfl ?_
  intro pp e9 s m9 args9 bl9 meth9 c9 s9 B hml htab hv
  obtain ⟨rfl, ⟨hsz, hP, hG, hD0⟩, hTz⟩ := hv
  have hx := B.exec
  have hb := B.bytes
  have hr := B.returns
  have hts := atoms_spec (ws := wsX6_setParts) B.pre
  have hown : s.vm.findClass RX6 = some m9.cls := findClass_of_methodNamed B.named
  have hlocks := B.notSynchronized
  have hK := hG.K
  subst hsz
  have hD := hD0.self (sz := s.heap.size)
  generalize hAe : (va_A (wC cy h S J) s.heap.size) = A at hD hTz ⊢
  have hA : ∀ q : Nat, s.heap.size ≤ q → A q := fun q h9 => by rw [← hAe]; exact Or.inr h9
  have hS : va_S A s.heap s.heap [] := va_S.rf
  have hP : va_P D vwCl (wC cy h S J) s.heap := hP
  have tk_58 := hts (.classLink RX6 58 "java/lang/IllegalArgumentException") (by decide +kernel)
  have ti_IA := hts (.initialized "java/lang/IllegalArgumentException") (by decide +kernel)
  have f_51 := hts (.fieldLink RX6 51 "CastDesk" "partCount" "I") (by decide +kernel)
  have iX6 : ∀ w ∈ wsX60, w ∈ wsX6_setParts := by decide +kernel
  have hl := lv_entry ([.ref (h 0), .int x]) (n := 3) (Nat.le_of_ble_eq_true rfl)
  rw [lg_entry_eq]
  generalize (lg_sl ([.ref (h 0), .int x]) ++ List.replicate (3 - (lg_sl ([.ref (h 0), .int x])).length) Slot.unset).toArray = ls at hl ⊢
  have hl : lv_has ls 3 [(0, .ref (h 0)), (1, .int x)] := hl
  refine lv_iload_n hx hb dX6_setParts_0 rfl (lv_at hl 1 rfl) ?_
  refine lv_iconst (v := nI 1) hx hb dX6_setParts_1 (by decide) ?_
  refine lv_icmp_lt (tgt := 11) hx hb dX6_setParts_2 (by decide) (fun c_2 => ?_) (fun c_2 => ?_)
  · exact cd_thr tf_IA tg_IA tn_IA (hG.2.2.2.ws hG.2.2.2.2.2.2.2.1) hx hb hfl hown tk_58 ti_IA hG.2.2.1.1 (fun w hw9 => hts w ((by decide +kernel : ∀ w ∈ (vx_atS RX6 62 xIA nm2).filter goodWord, w ∈ wsX6_setParts) w hw9)) hTz hS rfl hl.1 hml dX6_setParts_11 dX6_setParts_14 dX6_setParts_15 dX6_setParts_17 dX6_setParts_20 (fun x h9 => (htab x h9).elim) (Nat.le_of_ble_eq_true rfl) (Nat.le_of_ble_eq_true rfl) (Nat.le_of_ble_eq_true rfl) (Nat.le_of_ble_eq_true rfl) hlocks (⟨rfl, by rw [inI_lo c_2]; rfl⟩) (by decide) (by decide)
  · refine lv_iload_n hx hb dX6_setParts_5 rfl (lv_at hl 1 rfl) ?_
    refine lv_bipush (v := nI 8) hx hb dX6_setParts_6 (by decide) ?_
    refine lv_icmp_le (tgt := 21) hx hb dX6_setParts_8 (by decide) (fun c_8 => ?_) (fun c_8 => ?_)
    · refine lv_aload_n hx hb dX6_setParts_21 rfl (lv_at hl 0 rfl) ?_
      refine va_get (D := D) (ci := 6) (v := .int (S 27 0)) (C := RX6) (T := TX6) (N := 8) hx hb hts iX6 hown hK hP 0 rfl rfl 6 (by decide) f_51 (fun _ h9 => h9) rfl dX6_setParts_22 ?_
      have b_22 := (iv_27 hI).1
      refine cd_tp (y := nI (nv (S 27 0))) b_22.1 ?_
      have b_22 := b_22.2
      refine lv_istore_n (lv' := [(2, .int (nI (nv (S 27 0)))), (0, .ref (h 0)), (1, .int x)]) hx hb dX6_setParts_25 rfl hl (by decide) rfl (fun ls hl => ?_)
      refine lv_aload_n hx hb dX6_setParts_26 rfl (lv_at hl 1 rfl) ?_
      refine lv_iload_n hx hb dX6_setParts_27 rfl (lv_at hl 2 rfl) ?_
      refine va_put (D := D) (ci := 6) (v := .int x) (ty := .int) (C := RX6) (T := TX6) (N := 8) hx hb hts iX6 tyX6 tyX6_ok nmX6 hown hK hP hD hS 0 rfl rfl 6 (by decide) f_51 (fun _ h9 => h9) rfl (by decide +kernel) rfl rfl (Nat.le_of_ble_eq_true rfl) dX6_setParts_28 (fun H locs hP hD hS => ?_)
      have hP : va_P D vwCl (wC cy h (va_up S 27 (fun _ => x)) J) H := hP
      have hD : va_D A (wC cy h (va_up S 27 (fun _ => x)) J) := hD
      refine lv_iload_n hx hb dX6_setParts_31 rfl (lv_at hl 0 rfl) ?_
      refine vx_ret ?_
      refine W.widen (k := 4) (n := 24) (by decide) (by decide) ?_
      exact W.iret (v := nI (nv (S 27 0))) hx hb hr (fun t ht hW => ⟨⟨_, J, rfl, (⟨rfl, by rw [inI_t (Int32.not_lt.mp c_2) c_8]; rfl, hJ⟩), by rw [ht]; exact hP, hD⟩, hS.F ht⟩) hS.2.2 dX6_setParts_32
    · exact cd_thr tf_IA tg_IA tn_IA (hG.2.2.2.ws hG.2.2.2.2.2.2.2.1) hx hb hfl hown tk_58 ti_IA hG.2.2.1.1 (fun w hw9 => hts w ((by decide +kernel : ∀ w ∈ (vx_atS RX6 62 xIA nm2).filter goodWord, w ∈ wsX6_setParts) w hw9)) hTz hS rfl hl.1 hml dX6_setParts_11 dX6_setParts_14 dX6_setParts_15 dX6_setParts_17 dX6_setParts_20 (fun x h9 => (htab x h9).elim) (Nat.le_of_ble_eq_true rfl) (Nat.le_of_ble_eq_true rfl) (Nat.le_of_ble_eq_true rfl) (Nat.le_of_ble_eq_true rfl) hlocks (⟨rfl, by rw [inI_hi (Int32.not_le.mp c_8)]; rfl⟩) (by decide) (by decide)
