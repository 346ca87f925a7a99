set_option maxHeartbeats 4000000 in
set_option maxRecDepth 100000 in
theorem c_X4_fallIll (l : Launch) (D : va_G) (cy : qT) (h : Nat → Nat) (S : qS) (hI : Inv S) (a : Nat) (d0 : Nat) (d1 : Nat) (ha : a < 12) (h01 : d0 ≤ d1) (hd : d1 ≤ 1000) (sz : Nat) : Met l yX4_fallIll wsX4_fallIll ({ frames := 1, cells := 0, slots := 0, locals := 21 }) (va_Pc [.ref (h 1), .int (nI a), .int (nI d0), .int (nI d1)] (wrB D cy (wX4 cy h S) sz)) (va_Qi (fun (r9 : Int32) (u : Unit) => r9 = nI (ilC (S 4) a d0 (d1 + 1 - d0))) (wrQ D (va_A (wX4 cy h S) sz) (fun u : Unit => (wX4 cy h (va_up S 4 (ilF (S 4) a d0 (d0 + (d1 + 1 - d0))))))) (va_A (wX4 cy h S) sz)) 0 0 (va_A (wX4 cy h S) sz) := by
  refine Met.ofW (cc := cX4_fallIll) (maxL := 6) (ret := (some .int)) (by decide) rfl ?_
  intro pp e9 s m9 args9 bl9 meth9 c9 s9 B hml hv
  obtain ⟨rfl, hsz, hP, hG, hD0⟩ := hv
  have hx := B.exec
  have hb := B.bytes
  have hr := B.returns
  have hts := atoms_spec (ws := wsX4_fallIll) B.pre
  have hown : s.vm.findClass RX4 = some m9.cls := findClass_of_methodNamed B.named
  have hlocks := B.notSynchronized
  have hK := hG.K
  subst hsz
  have hD := hD0.self (sz := s.heap.size)
  generalize hAe : (va_A (wX4 cy h S) s.heap.size) = A at hD ⊢
  have hA : ∀ q : Nat, s.heap.size ≤ q → A q := fun q h9 => by rw [← hAe]; exact Or.inr h9
  have hS : va_S A s.heap s.heap [] := va_S.rf
  have hP : va_P D vwCl (wX4 cy h S) s.heap := hP
  have f_18 := hts (.fieldLink RX4 18 "CastDesk$Troupe" "ill" "[I") (by decide +kernel)
  have in_X6 := hts (.initialized RX6) (by decide +kernel)
  have st_has := hts (.static yX6_has) (by decide +kernel)
  have st_with := hts (.static yX6_with) (by decide +kernel)
  have iX4 : ∀ w ∈ wsX40, w ∈ wsX4_fallIll := by decide +kernel
  have hl := lv_entry ([.ref (h 1), .int (nI a), .int (nI d0), .int (nI d1)]) (n := 6) (Nat.le_of_ble_eq_true rfl)
  rw [lg_entry_eq]
  generalize (lg_sl ([.ref (h 1), .int (nI a), .int (nI d0), .int (nI d1)]) ++ List.replicate (6 - (lg_sl ([.ref (h 1), .int (nI a), .int (nI d0), .int (nI d1)])).length) Slot.unset).toArray = ls at hl ⊢
  have hl : lv_has ls 6 [(0, .ref (h 1)), (1, .int (nI a)), (2, .int (nI d0)), (3, .int (nI d1))] := hl
  refine lv_iconst (v := nI 0) hx hb dX4_fallIll_0 (by decide) ?_
  refine lv_istore (lv' := [(4, .int (nI 0)), (0, .ref (h 1)), (1, .int (nI a)), (2, .int (nI d0)), (3, .int (nI d1))]) hx hb dX4_fallIll_1 hl (by decide) rfl (fun ls hl => ?_)
  refine lv_iload_n hx hb dX4_fallIll_3 rfl (lv_at hl 3 rfl) ?_
  refine lv_istore (lv' := [(5, .int (nI d0)), (4, .int (nI 0)), (0, .ref (h 1)), (1, .int (nI a)), (2, .int (nI d0)), (3, .int (nI d1))]) hx hb dX4_fallIll_4 hl (by decide) rfl (fun ls hl => ?_)
  have e0 : ilF (S 4) a d0 (d0 + 0) = S 4 := ilF_0 _ _ _
  refine wh1 (nL := 6) (fun (n : Nat) => n ≤ d1 + 1 - d0) (fun (n : Nat) => d1 + 1 - d0 - n) (fun (n : Nat) => [(0, .ref (h 1)), (1, .int (nI a)), (2, .int (nI d0)), (3, .int (nI d1)), (4, .int (nI (ilC (S 4) a d0 n))), (5, .int (nI (d0 + n)))]) (fun (n : Nat) => (wX4 cy h (va_up S 4 (ilF (S 4) a d0 (d0 + n))))) (fun n hi_6 ih_6 H locs hP hD hS ls hl => ?_) 0 (Nat.zero_le _) (by rw [e0]; exact hP) (by rw [e0]; exact hD) hS (lv_sub hl [2, 3, 4, 5, 1, 0] rfl)
  have hP : va_P D vwCl (wX4 cy h (va_up S 4 (ilF (S 4) a d0 (d0 + n)))) H := hP
  have hD : va_D A (wX4 cy h (va_up S 4 (ilF (S 4) a d0 (d0 + n)))) := hD
  refine lv_iload hx hb dX4_fallIll_6 (lv_at hl 5 rfl) ?_
  refine lv_iload_n hx hb dX4_fallIll_8 rfl (lv_at hl 3 rfl) ?_
  refine cd_icmp_gt (tgt := 53) hx hb dX4_fallIll_9 (by decide) (by omega) (by omega) (fun c_9 => ?_) (fun c_9 => ?_)
  · have en : n = d1 + 1 - d0 := by omega
    subst en
    have hP : va_P D vwCl (wX4 cy h (va_up S 4 (ilF (S 4) a d0 (d0 + (d1 + 1 - d0))))) H := hP
    have hD : va_D A (wX4 cy h (va_up S 4 (ilF (S 4) a d0 (d0 + (d1 + 1 - d0))))) := hD
    refine lv_iload hx hb dX4_fallIll_53 (lv_at hl 4 rfl) ?_
    exact W.iret (v := nI (ilC (S 4) a d0 (d1 + 1 - d0))) hx hb hr (fun t ht hW => ⟨⟨_, (), rfl, rfl, by rw [ht]; exact hP, hD⟩, hS.F ht⟩) hS.2.2 dX4_fallIll_55
  · have hil := iv_4 hI (d0 + n) (by omega)
    have hilb := hil.2
    refine lv_aload_n hx hb dX4_fallIll_12 rfl (lv_at hl 0 rfl) ?_
    refine va_get (D := D) (ci := 4) (v := .ref (h 4)) (C := RX4) (T := TX4) (N := 3) hx hb hts iX4 hown hK hP 0 rfl rfl 2 (by decide) f_18 (fun _ h9 => h9) rfl dX4_fallIll_13 ?_
    refine lv_iload hx hb dX4_fallIll_16 (lv_at hl 5 rfl) ?_
    refine cd_iald (f := ilF (S 4) a d0 (d0 + n)) hx hb hK hP 3 rfl (by omega) (by decide) dX4_fallIll_18 ?_
    refine cd_tp (y := nI (nv (S 4 (d0 + n)))) ((ilF_at (S 4) a d0 n).trans hil.1) ?_
    refine lv_iload_n hx hb dX4_fallIll_19 rfl (lv_at hl 1 rfl) ?_
    have M_20 := c_X6_has l (nv (S 4 (d0 + n))) a (by omega) (by omega)
    refine cd_roi (va_runSN (As := [.int (nI (nv (S 4 (d0 + n)))), .int (nI a)]) (rest := []) ⟨hx, hb, hml, hown, hts⟩ M_20 ⟨va_cnB 2 hts gX4_fallIll_X6_has_n21 rfl rfl rfl hG.2.1.2.2.2.1 in_X6 (by decide +kernel) ⟨Nat.le_of_ble_eq_true rfl, Nat.le_of_ble_eq_true rfl⟩, st_has, trivial⟩ ⟨nuB.bl, fun U hU hW => ⟨rfl, trivial⟩⟩ rfl rfl hl.1 rfl (lv_room (Nat.le_of_ble_eq_true rfl)) dX4_fallIll_20 (by exact ⟨Nat.zero_le _, Nat.zero_le _⟩)) (fun r_20 hr_20 => ?_)
    subst hr_20
    refine cd_ifB_ne (tgt := 47) hx hb dX4_fallIll_23 (by decide) (fun c_23 => ?_) (fun c_23 => ?_)
    · refine lv_iinc (v := nI (d0 + n + 1)) (lv' := [(5, .int (nI (d0 + n + 1))), (0, .ref (h 1)), (1, .int (nI a)), (2, .int (nI d0)), (3, .int (nI d1)), (4, .int (nI (ilC (S 4) a d0 n)))]) hx hb dX4_fallIll_47 hl (k := 5) rfl (cd_i1 _) (by decide) rfl (fun ls hl => ?_)
      refine lv_goto (tgt := 6) hx hb dX4_fallIll_50 (by decide) ?_
      rw [(ilF_n (S 4) a d0 n hil.1 c_23 : (ilF (S 4) a d0 (d0 + n)) = (ilF (S 4) a d0 (d0 + (n + 1))))] at hP hD
      have hP : va_P D vwCl (wX4 cy h (va_up S 4 (ilF (S 4) a d0 (d0 + (n + 1))))) H := hP
      have hD : va_D A (wX4 cy h (va_up S 4 (ilF (S 4) a d0 (d0 + (n + 1))))) := hD
      have hl : lv_has ls 6 [(5, .int (nI (d0 + n + 1))), (0, .ref (h 1)), (1, .int (nI a)), (2, .int (nI d0)), (3, .int (nI d1)), (4, .int (nI (ilC (S 4) a d0 (n + 1))))] := by rw [← (by rw [ilC_t (S 4) a d0 n c_23] : (nI (ilC (S 4) a d0 n) : Int32) = nI (ilC (S 4) a d0 (n + 1)))]; exact hl
      exact ih_6 (n + 1) (by omega) (by omega) _ _ hP hD hS _ (lv_sub hl [1, 2, 3, 4, 5, 0] rfl)
    · refine lv_aload_n hx hb dX4_fallIll_26 rfl (lv_at hl 0 rfl) ?_
      refine va_get (D := D) (ci := 4) (v := .ref (h 4)) (C := RX4) (T := TX4) (N := 3) hx hb hts iX4 hown hK hP 0 rfl rfl 2 (by decide) f_18 (fun _ h9 => h9) rfl dX4_fallIll_27 ?_
      refine lv_iload hx hb dX4_fallIll_30 (lv_at hl 5 rfl) ?_
      refine lv_aload_n hx hb dX4_fallIll_32 rfl (lv_at hl 0 rfl) ?_
      refine va_get (D := D) (ci := 4) (v := .ref (h 4)) (C := RX4) (T := TX4) (N := 3) hx hb hts iX4 hown hK hP 0 rfl rfl 2 (by decide) f_18 (fun _ h9 => h9) rfl dX4_fallIll_33 ?_
      refine lv_iload hx hb dX4_fallIll_36 (lv_at hl 5 rfl) ?_
      refine cd_iald (f := ilF (S 4) a d0 (d0 + n)) hx hb hK hP 3 rfl (by omega) (by decide) dX4_fallIll_38 ?_
      refine cd_tp (y := nI (nv (S 4 (d0 + n)))) ((ilF_at (S 4) a d0 n).trans hil.1) ?_
      refine lv_iload_n hx hb dX4_fallIll_39 rfl (lv_at hl 1 rfl) ?_
      have M_40 := c_X6_with l (nv (S 4 (d0 + n))) a (by omega)
      refine cd_roi (va_runSN (As := [.int (nI (nv (S 4 (d0 + n)))), .int (nI a)]) (rest := [.int (nI (d0 + n)), .ref (h 4)]) ⟨hx, hb, hml, hown, hts⟩ M_40 ⟨va_cnB 2 hts gX4_fallIll_X6_with_n25 rfl rfl rfl hG.2.1.2.2.2.2.1 in_X6 (by decide +kernel) ⟨Nat.le_of_ble_eq_true rfl, Nat.le_of_ble_eq_true rfl⟩, st_with, trivial⟩ ⟨nuB.bl, fun U hU hW => ⟨rfl, trivial⟩⟩ rfl rfl hl.1 rfl (lv_room (Nat.le_of_ble_eq_true rfl)) dX4_fallIll_40 (by exact ⟨Nat.zero_le _, Nat.zero_le _⟩)) (fun r_40 hr_40 => ?_)
      subst hr_40
      refine cd_iast (f := ilF (S 4) a d0 (d0 + n)) hx hb hK hP hD hS 3 rfl (by omega) (by decide) dX4_fallIll_43 (fun H locs hP hD hS => ?_)
      have hP : va_P D vwCl (wX4 cy h (va_up S 4 (upd (ilF (S 4) a d0 (d0 + n)) (d0 + n) (nI ((nv (S 4 (d0 + n))) ||| 2 ^ a))))) H := hP
      have hD : va_D A (wX4 cy h (va_up S 4 (upd (ilF (S 4) a d0 (d0 + n)) (d0 + n) (nI ((nv (S 4 (d0 + n))) ||| 2 ^ a))))) := hD
      have e_43 : (upd (ilF (S 4) a d0 (d0 + n)) (d0 + n) (nI ((nv (S 4 (d0 + n))) ||| 2 ^ a))) = (ilF (S 4) a d0 (d0 + (n + 1))) := ilF_w (S 4) a d0 n
      rw [e_43] at hP hD
      have hP : va_P D vwCl (wX4 cy h (va_up S 4 (ilF (S 4) a d0 (d0 + (n + 1))))) H := hP
      have hD : va_D A (wX4 cy h (va_up S 4 (ilF (S 4) a d0 (d0 + (n + 1))))) := hD
      refine lv_iinc (v := nI (ilC (S 4) a d0 n + 1)) (lv' := [(4, .int (nI (ilC (S 4) a d0 n + 1))), (0, .ref (h 1)), (1, .int (nI a)), (2, .int (nI d0)), (3, .int (nI d1)), (5, .int (nI (d0 + n)))]) hx hb dX4_fallIll_44 hl (k := 4) rfl (cd_i1 _) (by decide) rfl (fun ls hl => ?_)
      refine lv_iinc (v := nI (d0 + n + 1)) (lv' := [(5, .int (nI (d0 + n + 1))), (4, .int (nI (ilC (S 4) a d0 n + 1))), (0, .ref (h 1)), (1, .int (nI a)), (2, .int (nI d0)), (3, .int (nI d1))]) hx hb dX4_fallIll_47 hl (k := 5) rfl (cd_i1 _) (by decide) rfl (fun ls hl => ?_)
      refine lv_goto (tgt := 6) hx hb dX4_fallIll_50 (by decide) ?_
      have hl : lv_has ls 6 [(5, .int (nI (d0 + n + 1))), (4, .int (nI (ilC (S 4) a d0 (n + 1)))), (0, .ref (h 1)), (1, .int (nI a)), (2, .int (nI d0)), (3, .int (nI d1))] := by rw [← (by rw [← ilC_f (S 4) a d0 n c_23] : (nI (ilC (S 4) a d0 n + 1) : Int32) = nI (ilC (S 4) a d0 (n + 1)))]; exact hl
      exact ih_6 (n + 1) (by omega) (by omega) _ _ hP hD hS _ (lv_sub hl [2, 3, 4, 5, 1, 0] rfl)
