set_option maxHeartbeats 4000000 in
set_option maxRecDepth 100000 in
theorem c_X6_setParts (l : Launch) (D : va_G) (cy : qT) (h : Nat → Nat) (S : qS) (J : qS) (hI : Inv S) (x : Nat) (hx1 : 1 ≤ x) (hx2 : x ≤ 8) (sz : Nat) : Met l yX6_setParts wsX6_setParts ({ frames := 0, cells := 0, slots := 0, locals := 0 }) (va_Pc [.ref (h 0), .int (nI x)] (wrB D cy (wC cy h S J) sz)) (va_Qi (fun (r9 : Int32) (u : Unit) => r9 = nI (nv (S 27 0))) (wrQ D (va_A (wC cy h S J) sz) (fun u : Unit => (wC cy h (va_up S 27 (fun _ => nI x)) J))) (va_A (wC cy h S J) sz)) 0 0 (va_A (wC cy h S J) sz) := by
  refine Met.ofW (cc := cX6_setParts) (maxL := 3) (ret := (some .int)) (by decide) rfl ?_
  intro pp e9 s m9 args9 bl9 meth9 c9 s9 B hml hv
  obtain ⟨rfl, hsz, hP, hG, hD0⟩ := hv
  have hx := B.exec
  have hb := B.bytes
  have hr := B.returns
  have hts := atoms_spec (ws := wsX6_setParts) B.pre
  have hown : s.vm.findClass RX6 = some m9.cls := findClass_of_methodNamed B.named
  have hlocks := B.notSynchronized
  have hK := hG.K
  subst hsz
  have hD := hD0.self (sz := s.heap.size)
  generalize hAe : (va_A (wC cy h S J) s.heap.size) = A at hD ⊢
  have hA : ∀ q : Nat, s.heap.size ≤ q → A q := fun q h9 => by rw [← hAe]; exact Or.inr h9
  have hS : va_S A s.heap s.heap [] := va_S.rf
  have hP : va_P D vwCl (wC cy h S J) s.heap := hP
  have f_51 := hts (.fieldLink RX6 51 "CastDesk" "partCount" "I") (by decide +kernel)
  have iX6 : ∀ w ∈ wsX60, w ∈ wsX6_setParts := by decide +kernel
  have hl := lv_entry ([.ref (h 0), .int (nI x)]) (n := 3) (Nat.le_of_ble_eq_true rfl)
  rw [lg_entry_eq]
  generalize (lg_sl ([.ref (h 0), .int (nI x)]) ++ List.replicate (3 - (lg_sl ([.ref (h 0), .int (nI x)])).length) Slot.unset).toArray = ls at hl ⊢
  have hl : lv_has ls 3 [(0, .ref (h 0)), (1, .int (nI x))] := hl
  refine lv_iload_n hx hb dX6_setParts_0 rfl (lv_at hl 1 rfl) ?_
  refine lv_iconst (v := nI 1) hx hb dX6_setParts_1 (by decide) ?_
  refine cd_icmp_lt (tgt := 11) hx hb dX6_setParts_2 (by decide) (by omega) (by omega) (fun c_2 => ?_) (fun c_2 => ?_)
  · omega
  · refine lv_iload_n hx hb dX6_setParts_5 rfl (lv_at hl 1 rfl) ?_
    refine lv_bipush (v := nI 8) hx hb dX6_setParts_6 (by decide) ?_
    refine cd_icmp_le (tgt := 21) hx hb dX6_setParts_8 (by decide) (by omega) (by omega) (fun c_8 => ?_) (fun c_8 => ?_)
    · refine lv_aload_n hx hb dX6_setParts_21 rfl (lv_at hl 0 rfl) ?_
      refine va_get (D := D) (ci := 6) (v := .int (S 27 0)) (C := RX6) (T := TX6) (N := 8) hx hb hts iX6 hown hK hP 0 rfl rfl 6 (by decide) f_51 (fun _ h9 => h9) rfl dX6_setParts_22 ?_
      have b_22 := (iv_27 hI).1
      refine cd_tp (y := nI (nv (S 27 0))) b_22.1 ?_
      have b_22 := b_22.2
      refine lv_istore_n (lv' := [(2, .int (nI (nv (S 27 0)))), (0, .ref (h 0)), (1, .int (nI x))]) hx hb dX6_setParts_25 rfl hl (by decide) rfl (fun ls hl => ?_)
      refine lv_aload_n hx hb dX6_setParts_26 rfl (lv_at hl 1 rfl) ?_
      refine lv_iload_n hx hb dX6_setParts_27 rfl (lv_at hl 2 rfl) ?_
      refine va_put (D := D) (ci := 6) (v := .int (nI x)) (ty := .int) (C := RX6) (T := TX6) (N := 8) hx hb hts iX6 tyX6 tyX6_ok nmX6 hown hK hP hD hS 0 rfl rfl 6 (by decide) f_51 (fun _ h9 => h9) rfl (by decide +kernel) rfl rfl (Nat.le_of_ble_eq_true rfl) dX6_setParts_28 (fun H locs hP hD hS => ?_)
      have hP : va_P D vwCl (wC cy h (va_up S 27 (fun _ => nI x)) J) H := hP
      have hD : va_D A (wC cy h (va_up S 27 (fun _ => nI x)) J) := hD
      refine lv_iload_n hx hb dX6_setParts_31 rfl (lv_at hl 0 rfl) ?_
      exact W.iret (v := nI (nv (S 27 0))) hx hb hr (fun t ht hW => ⟨⟨_, (), rfl, rfl, by rw [ht]; exact hP, hD⟩, hS.F ht⟩) hS.2.2 dX6_setParts_32
    · omega
