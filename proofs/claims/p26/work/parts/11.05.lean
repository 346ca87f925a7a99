set_option maxHeartbeats 4000000 in
set_option maxRecDepth 100000 in
theorem c_X1_clear (l : Launch) (D : va_G) (cy : qT) (h : Nat → Nat) (J : qS) (sz : Nat) : Met l yX1_clear wsX1_clear ({ frames := 0, cells := 0, slots := 0, locals := 0 }) (va_Pc [.ref (h 12)] (wrB D cy (wX1 cy h J) sz)) (va_Qv (fun (u : Unit) => True) (wrQ D (va_A (wX1 cy h J) sz) (fun u : Unit => (wX1 cy h (va_up (va_up J 13 (clF (J 13) 32)) 12 (fun _ => nI 1))))) (va_A (wX1 cy h J) sz)) 0 0 (va_A (wX1 cy h J) sz) := by
  refine Met.ofW (cc := cX1_clear) (maxL := 2) (ret := none) (by decide) rfl ?_
  intro pp e9 s m9 args9 bl9 meth9 c9 s9 B hml hv
  obtain ⟨rfl, hsz, hP, hG, hD0⟩ := hv
  have hx := B.exec
  have hb := B.bytes
  have hr := B.returns
  have hts := atoms_spec (ws := wsX1_clear) B.pre
  have hown : s.vm.findClass RX1 = some m9.cls := findClass_of_methodNamed B.named
  have hlocks := B.notSynchronized
  have hK := hG.K
  subst hsz
  have hD := hD0.self (sz := s.heap.size)
  generalize hAe : (va_A (wX1 cy h J) s.heap.size) = A at hD ⊢
  have hA : ∀ q : Nat, s.heap.size ≤ q → A q := fun q h9 => by rw [← hAe]; exact Or.inr h9
  have hS : va_S A s.heap s.heap [] := va_S.rf
  have hP : va_P D vwCl (wX1 cy h J) s.heap := hP
  have f_11 := hts (.fieldLink RX1 11 "CastDesk$Casting" "actors" "[I") (by decide +kernel)
  have f_25 := hts (.fieldLink RX1 25 "CastDesk$Casting" "setsBound" "I") (by decide +kernel)
  have iX1 : ∀ w ∈ wsX10, w ∈ wsX1_clear := by decide +kernel
  have hl := lv_entry ([.ref (h 12)]) (n := 2) (Nat.le_of_ble_eq_true rfl)
  rw [lg_entry_eq]
  generalize (lg_sl ([.ref (h 12)]) ++ List.replicate (2 - (lg_sl ([.ref (h 12)])).length) Slot.unset).toArray = ls at hl ⊢
  have hl : lv_has ls 2 [(0, .ref (h 12))] := hl
  refine lv_iconst (v := nI 0) hx hb dX1_clear_0 (by decide) ?_
  refine lv_istore_n (lv' := [(1, .int (nI 0)), (0, .ref (h 12))]) hx hb dX1_clear_1 rfl hl (by decide) rfl (fun ls hl => ?_)
  have e0 : clF (J 13) 0 = J 13 := clF_0 _
  refine wh1 (nL := 2) (fun (k : Nat) => k ≤ 32) (fun (k : Nat) => 32 - k) (fun (k : Nat) => [(0, .ref (h 12)), (1, .int (nI k))]) (fun (k : Nat) => (wX1 cy h (va_up J 13 (clF (J 13) k)))) (fun k hi_2 ih_2 H locs hP hD hS ls hl => ?_) 0 (by decide) (by rw [e0]; exact hP) (by rw [e0]; exact hD) hS (lv_sub hl [1, 0] rfl)
  have hP : va_P D vwCl (wX1 cy h (va_up J 13 (clF (J 13) k))) H := hP
  have hD : va_D A (wX1 cy h (va_up J 13 (clF (J 13) k))) := hD
  refine lv_iload_n hx hb dX1_clear_2 rfl (lv_at hl 1 rfl) ?_
  refine lv_aload_n hx hb dX1_clear_3 rfl (lv_at hl 0 rfl) ?_
  refine va_get (D := D) (ci := 1) (v := .ref (h 13)) (C := RX1) (T := TX1) (N := 4) hx hb hts iX1 hown hK hP 0 rfl rfl 0 (by decide) f_11 (fun _ h9 => h9) rfl dX1_clear_4 ?_
  refine va_alen (v := nI 32) hx hb hK hP 1 0 rfl rfl rfl dX1_clear_7 ?_
  refine cd_icmp_ge (tgt := 24) hx hb dX1_clear_8 (by decide) (by omega) (by omega) (fun c_8 => ?_) (fun c_8 => ?_)
  · have ek : k = 32 := by omega
    subst ek
    have hP : va_P D vwCl (wX1 cy h (va_up J 13 (clF (J 13) 32))) H := hP
    have hD : va_D A (wX1 cy h (va_up J 13 (clF (J 13) 32))) := hD
    refine lv_aload_n hx hb dX1_clear_24 rfl (lv_at hl 0 rfl) ?_
    refine lv_iconst (v := nI 1) hx hb dX1_clear_25 (by decide) ?_
    refine va_put (D := D) (ci := 1) (v := .int (nI 1)) (ty := .int) (C := RX1) (T := TX1) (N := 4) hx hb hts iX1 tyX1 tyX1_ok nmX1 hown hK hP hD hS 0 rfl rfl 3 (by decide) f_25 (fun _ h9 => h9) rfl (by decide +kernel) rfl rfl (Nat.le_of_ble_eq_true rfl) dX1_clear_26 (fun H locs hP hD hS => ?_)
    have hP : va_P D vwCl (wX1 cy h (va_up (va_up J 13 (clF (J 13) 32)) 12 (fun _ => nI 1))) H := hP
    have hD : va_D A (wX1 cy h (va_up (va_up J 13 (clF (J 13) 32)) 12 (fun _ => nI 1))) := hD
    exact W.vret hx hb hr (fun t ht hW => ⟨⟨(), rfl, trivial, by rw [ht]; exact hP, hD⟩, hS.F ht⟩) hS.2.2 dX1_clear_29
  · refine lv_aload_n hx hb dX1_clear_11 rfl (lv_at hl 0 rfl) ?_
    refine va_get (D := D) (ci := 1) (v := .ref (h 13)) (C := RX1) (T := TX1) (N := 4) hx hb hts iX1 hown hK hP 0 rfl rfl 0 (by decide) f_11 (fun _ h9 => h9) rfl dX1_clear_12 ?_
    refine lv_iload_n hx hb dX1_clear_15 rfl (lv_at hl 1 rfl) ?_
    refine lv_iconst (v := (-1)) hx hb dX1_clear_16 (by decide) ?_
    refine cd_iast (f := clF (J 13) k) hx hb hK hP hD hS 1 rfl (by omega) (by decide) dX1_clear_17 (fun H locs hP hD hS => ?_)
    have hP : va_P D vwCl (wX1 cy h (va_up J 13 (upd (clF (J 13) k) k (-1)))) H := hP
    have hD : va_D A (wX1 cy h (va_up J 13 (upd (clF (J 13) k) k (-1)))) := hD
    have e_17 : (upd (clF (J 13) k) k (-1)) = (clF (J 13) (k + 1)) := clF_s (J 13) k
    rw [e_17] at hP hD
    have hP : va_P D vwCl (wX1 cy h (va_up J 13 (clF (J 13) (k + 1)))) H := hP
    have hD : va_D A (wX1 cy h (va_up J 13 (clF (J 13) (k + 1)))) := hD
    refine lv_iinc (v := nI (k + 1)) (lv' := [(1, .int (nI (k + 1))), (0, .ref (h 12))]) hx hb dX1_clear_18 hl (k := 1) rfl (cd_i1 _) (by decide) rfl (fun ls hl => ?_)
    refine lv_goto (tgt := 2) hx hb dX1_clear_21 (by decide) ?_
    exact ih_2 (k + 1) (by omega) (by omega) _ _ hP hD hS _ (lv_sub hl [1, 0] rfl)
