set_option maxHeartbeats 4000000 in
set_option maxRecDepth 100000 in
theorem c_X6_play (l : Launch) (D : va_G) (cy : qT) (hfl : l.stackTraces = false) (h : Nat → Nat) (S : qS) (J : qS) (hI : Inv S) (hJ : jk J) (sz : Nat) : vx_Met l yX6_play wsX6_play ({ frames := 6, cells := 4, slots := 24, locals := 136 }) (va_Pc [.ref (h 0)] (thB D cy (wC cy h S J) sz)) (va_Qi (fun (r9 : Int32) (u : qS) => r9 = plR S ∧ th1 (decide (nv (S 28 0) < 1000)) = nI 0 ∧ jk u) (wrQ D (va_A (wC cy h S J) sz) (fun u : qS => (wC cy h (va_up (va_up (va_up (va_up (va_up (va_up (va_up S 17 (pl17 S)) 18 (pl18 S)) 9 (pl9 S)) 11 (pl11 S)) 25 (pl25 S)) 32 (fun _ => pl32 S)) 28 (fun _ => nI (nv (S 28 0) + 1))) u))) (va_A (wC cy h S J) sz)) (nX (fun E => E = xIS ∧ th1 (decide (nv (S 28 0) < 1000)) = nI 1)) 4 24 (va_A (wC cy h S J) sz) := by
  refine vx_ofW (cc := cX6_play) (maxL := 3) (ret := (some .int)) (by decide) rfl ?_
  intro pp e9 s m9 args9 bl9 meth9 c9 s9 B hml htab hv
  obtain ⟨rfl, ⟨hsz, hP, hG, hD0⟩, hTz⟩ := hv
  have hx := B.exec
  have hb := B.bytes
  have hr := B.returns
  have hts := atoms_spec (ws := wsX6_play) B.pre
  have hown : s.vm.findClass RX6 = some m9.cls := findClass_of_methodNamed B.named
  have hlocks := B.notSynchronized
  have hK := hG.K
  subst hsz
  have hD := hD0.self (sz := s.heap.size)
  generalize hAe : (va_A (wC cy h S J) s.heap.size) = A at hD hTz ⊢
  have hA : ∀ q : Nat, s.heap.size ≤ q → A q := fun q h9 => by rw [← hAe]; exact Or.inr h9
  have hS : va_S A s.heap s.heap [] := va_S.rf
  have hP : va_P D vwCl (wC cy h S J) s.heap := hP
  have f_55 := hts (.fieldLink RX6 55 "CastDesk" "today" "I") (by decide +kernel)
  have f_40 := hts (.fieldLink RX6 40 "CastDesk" "programme" "LCastDesk$Programme;") (by decide +kernel)
  have tk_95 := hts (.classLink RX6 95 "java/lang/IllegalStateException") (by decide +kernel)
  have ti_IS := hts (.initialized "java/lang/IllegalStateException") (by decide +kernel)
  have iX6 : ∀ w ∈ wsX60, w ∈ wsX6_play := by decide +kernel
  have hl := lv_entry ([.ref (h 0)]) (n := 3) (Nat.le_of_ble_eq_true rfl)
  rw [lg_entry_eq]
  generalize (lg_sl ([.ref (h 0)]) ++ List.replicate (3 - (lg_sl ([.ref (h 0)])).length) Slot.unset).toArray = ls at hl ⊢
  have hl : lv_has ls 3 [(0, .ref (h 0))] := hl
  have h30 := (iv_30 hI).2
  have h28 := iv_28 hI
  refine lv_aload_n hx hb dX6_play_0 rfl (lv_at hl 0 rfl) ?_
  refine va_get (D := D) (ci := 6) (v := .int (S 28 0)) (C := RX6) (T := TX6) (N := 8) hx hb hts iX6 hown hK hP 0 rfl rfl 7 (by decide) f_55 (fun _ h9 => h9) rfl dX6_play_1 ?_
  have b_1 := iv_28 hI
  refine cd_tp (y := nI (nv (S 28 0))) b_1.1 ?_
  have b_1 := b_1.2
  refine lv_sipush (v := nI 1000) hx hb dX6_play_4 (by decide) ?_
  refine cd_icmp_lt (tgt := 20) hx hb dX6_play_7 (by decide) (by omega) (by omega) (fun c_7 => ?_) (fun c_7 => ?_)
  · refine lv_aload_n hx hb dX6_play_20 rfl (lv_at hl 0 rfl) ?_
    refine va_get (D := D) (ci := 6) (v := .ref (h 16)) (C := RX6) (T := TX6) (N := 8) hx hb hts iX6 hown hK hP 0 rfl rfl 4 (by decide) f_40 (fun _ h9 => h9) rfl dX6_play_21 ?_
    refine lv_aload_n hx hb dX6_play_24 rfl (lv_at hl 0 rfl) ?_
    refine va_get (D := D) (ci := 6) (v := .int (S 28 0)) (C := RX6) (T := TX6) (N := 8) hx hb hts iX6 hown hK hP 0 rfl rfl 7 (by decide) f_55 (fun _ h9 => h9) rfl dX6_play_25 ?_
    have b_25 := iv_28 hI
    refine cd_tp (y := nI (nv (S 28 0))) b_25.1 ?_
    have b_25 := b_25.2
    have M_28 := c_X2_showOn l D cy h S hI (nI (nv (S 28 0)))
    have hPc := hP.sub (ws' := (wX2 cy h S)) [16, 17, 18, 19] rfl
    refine cd_roi (va_runV (As := [.int (nI (nv (S 28 0)))]) (rest := []) ⟨hx, hb, hml, hown, hts⟩ M_28 (cwV 1 hts gX6_play_X2_showOn rfl rfl rfl (by decide +kernel) ⟨Nat.le_of_ble_eq_true rfl, Nat.le_of_ble_eq_true rfl⟩) ⟨roB.bl, va_recv hK hP (ci := 2) (q0 := 16) rfl rfl, fun U hU hW => ⟨rfl, by rw [hU]; exact hPc, hG.warm hW⟩⟩ rfl rfl hl.1 rfl (lv_room (Nat.le_of_ble_eq_true rfl)) dX6_play_28 (by exact ⟨Nat.zero_le _, Nat.zero_le _⟩)) (fun r_28 hr_28 => ?_)
    subst hr_28
    refine cd_tp (y := shI S (S 28 0)) (by rw [← h28.1]) ?_
    refine lv_istore_n (lv' := [(1, .int (shI S (S 28 0))), (0, .ref (h 0))]) hx hb dX6_play_31 rfl hl (by decide) rfl (fun ls hl => ?_)
    refine lv_iload_n hx hb dX6_play_32 rfl (lv_at hl 0 rfl) ?_
    refine lv_iconst (v := (-1)) hx hb dX6_play_33 (by decide) ?_
    refine lv_icmp_ne (tgt := 41) hx hb dX6_play_34 (by decide) (fun c_34 => ?_) (fun c_34 => ?_)
    · have hsb := sh_rng c_34
      have hl : lv_has ls 3 [(1, .int (nI (shW S (S 28 0)))), (0, .ref (h 0))] := Eq.mp (congrArg (fun z9 : Int32 => lv_has ls 3 [(1, .int z9), (0, .ref (h 0))]) (show (shI S (S 28 0) : Int32) = nI (shW S (S 28 0)) from hsb.2.2)) hl
      refine lv_aload_n hx hb dX6_play_41 rfl (lv_at hl 1 rfl) ?_
      refine lv_iload_n hx hb dX6_play_42 rfl (lv_at hl 0 rfl) ?_
      have M_43 := c_X6_perform l D cy h S J hI (shW S (S 28 0)) hsb.2.1 hJ s.heap.size
      refine cd_fri (S := qS) (W1 := fun u_43 => (wC cy h (va_up (va_up (va_up (va_up (va_up (va_up S 17 (pf17 S (plM S) (shW S (S 28 0)))) 18 (pf18 S (plM S) (shW S (S 28 0)))) 9 (pf9 S (plM S))) 11 (pf11 S (plM S))) 25 (rfF S (shW S (S 28 0)) (bcI S (plM S)) (nv (S 31 0)))) 32 (fun _ => rfM S (shW S (S 28 0)) (bcI S (plM S)) (nv (S 31 0)))) u_43)) (ws' := fun u_43 => (wC cy h (va_up (va_up (va_up (va_up (va_up (va_up S 17 (pf17 S (plM S) (shW S (S 28 0)))) 18 (pf18 S (plM S) (shW S (S 28 0)))) 9 (pf9 S (plM S))) 11 (pf11 S (plM S))) 25 (rfF S (shW S (S 28 0)) (bcI S (plM S)) (nv (S 31 0)))) 32 (fun _ => rfM S (shW S (S 28 0)) (bcI S (plM S)) (nv (S 31 0)))) u_43)) (wc := (wC cy h S J)) (wr := []) (va_runV (As := [.int (nI (shW S (S 28 0)))]) (rest := []) ⟨hx, hb, hml, hown, hts⟩ M_43 (cwV 1 hts gX6_play_X6_perform rfl rfl rfl (by decide +kernel) ⟨Nat.le_of_ble_eq_true rfl, Nat.le_of_ble_eq_true rfl⟩) ⟨wrB.bl, va_recv hK hP (ci := 6) (q0 := 0) rfl rfl, fun U hU hW => ⟨rfl, by rw [hU], by rw [hU]; exact hP, hG.warm hW, hD.weaken (fun _ _ _ _ => trivial)⟩⟩ rfl rfl hl.1 rfl (lv_room (Nat.le_of_ble_eq_true rfl)) dX6_play_43 (by exact ⟨Nat.zero_le _, Nat.zero_le _⟩)) hP hD hS hA [0, 1, 2, 3, 4, 5, 6, 7, 8, 9, 10, 11, 12, 13, 14, 15, 16, 17, 18, 19, 20, 21, 22, 23, 24, 25, 26] [] [0, 1, 2, 3, 4, 5, 6, 7, 8, 9, 10, 11, 12, 13, 14, 15, 16, 17, 18, 19, 20, 21, 22, 23, 24, 25, 26] rfl rfl (by decide) (by decide) (by decide) (fun _ => rfl) (fun r_43 u_43 H locs hw_43 hP hD hS => ?_)
      obtain ⟨hr_43, hw_43⟩ := hw_43
      subst hr_43
      have hP : va_P D vwCl (wC cy h (va_up (va_up (va_up (va_up (va_up (va_up S 17 (pf17 S (plM S) (shW S (S 28 0)))) 18 (pf18 S (plM S) (shW S (S 28 0)))) 9 (pf9 S (plM S))) 11 (pf11 S (plM S))) 25 (rfF S (shW S (S 28 0)) (bcI S (plM S)) (nv (S 31 0)))) 32 (fun _ => rfM S (shW S (S 28 0)) (bcI S (plM S)) (nv (S 31 0)))) u_43) H := hP
      have hD : va_D A (wC cy h (va_up (va_up (va_up (va_up (va_up (va_up S 17 (pf17 S (plM S) (shW S (S 28 0)))) 18 (pf18 S (plM S) (shW S (S 28 0)))) 9 (pf9 S (plM S))) 11 (pf11 S (plM S))) 25 (rfF S (shW S (S 28 0)) (bcI S (plM S)) (nv (S 31 0)))) 32 (fun _ => rfM S (shW S (S 28 0)) (bcI S (plM S)) (nv (S 31 0)))) u_43) := hD
      refine lv_istore_n (lv' := [(2, .int (rfS S (shW S (S 28 0)) (bcI S (plM S)) (nv (S 31 0)))), (1, .int (nI (shW S (S 28 0)))), (0, .ref (h 0))]) hx hb dX6_play_46 rfl hl (by decide) rfl (fun ls hl => ?_)
      rw [show (pf17 S (plM S) (shW S (S 28 0))) = (pl17 S) from by rw [pl17, if_pos hsb.1]] at hP hD
      have hP : va_P D vwCl (wC cy h (va_up (va_up (va_up (va_up (va_up (va_up S 17 (pl17 S)) 18 (pf18 S (plM S) (shW S (S 28 0)))) 9 (pf9 S (plM S))) 11 (pf11 S (plM S))) 25 (rfF S (shW S (S 28 0)) (bcI S (plM S)) (nv (S 31 0)))) 32 (fun _ => rfM S (shW S (S 28 0)) (bcI S (plM S)) (nv (S 31 0)))) u_43) H := hP
      have hD : va_D A (wC cy h (va_up (va_up (va_up (va_up (va_up (va_up S 17 (pl17 S)) 18 (pf18 S (plM S) (shW S (S 28 0)))) 9 (pf9 S (plM S))) 11 (pf11 S (plM S))) 25 (rfF S (shW S (S 28 0)) (bcI S (plM S)) (nv (S 31 0)))) 32 (fun _ => rfM S (shW S (S 28 0)) (bcI S (plM S)) (nv (S 31 0)))) u_43) := hD
      rw [show (pf18 S (plM S) (shW S (S 28 0))) = (pl18 S) from by rw [pl18, if_pos hsb.1]] at hP hD
      have hP : va_P D vwCl (wC cy h (va_up (va_up (va_up (va_up (va_up (va_up S 17 (pl17 S)) 18 (pl18 S)) 9 (pf9 S (plM S))) 11 (pf11 S (plM S))) 25 (rfF S (shW S (S 28 0)) (bcI S (plM S)) (nv (S 31 0)))) 32 (fun _ => rfM S (shW S (S 28 0)) (bcI S (plM S)) (nv (S 31 0)))) u_43) H := hP
      have hD : va_D A (wC cy h (va_up (va_up (va_up (va_up (va_up (va_up S 17 (pl17 S)) 18 (pl18 S)) 9 (pf9 S (plM S))) 11 (pf11 S (plM S))) 25 (rfF S (shW S (S 28 0)) (bcI S (plM S)) (nv (S 31 0)))) 32 (fun _ => rfM S (shW S (S 28 0)) (bcI S (plM S)) (nv (S 31 0)))) u_43) := hD
      rw [show (pf9 S (plM S)) = (pl9 S) from by rw [pl9, if_pos hsb.1]] at hP hD
      have hP : va_P D vwCl (wC cy h (va_up (va_up (va_up (va_up (va_up (va_up S 17 (pl17 S)) 18 (pl18 S)) 9 (pl9 S)) 11 (pf11 S (plM S))) 25 (rfF S (shW S (S 28 0)) (bcI S (plM S)) (nv (S 31 0)))) 32 (fun _ => rfM S (shW S (S 28 0)) (bcI S (plM S)) (nv (S 31 0)))) u_43) H := hP
      have hD : va_D A (wC cy h (va_up (va_up (va_up (va_up (va_up (va_up S 17 (pl17 S)) 18 (pl18 S)) 9 (pl9 S)) 11 (pf11 S (plM S))) 25 (rfF S (shW S (S 28 0)) (bcI S (plM S)) (nv (S 31 0)))) 32 (fun _ => rfM S (shW S (S 28 0)) (bcI S (plM S)) (nv (S 31 0)))) u_43) := hD
      rw [show (pf11 S (plM S)) = (pl11 S) from by rw [pl11, if_pos hsb.1]] at hP hD
      have hP : va_P D vwCl (wC cy h (va_up (va_up (va_up (va_up (va_up (va_up S 17 (pl17 S)) 18 (pl18 S)) 9 (pl9 S)) 11 (pl11 S)) 25 (rfF S (shW S (S 28 0)) (bcI S (plM S)) (nv (S 31 0)))) 32 (fun _ => rfM S (shW S (S 28 0)) (bcI S (plM S)) (nv (S 31 0)))) u_43) H := hP
      have hD : va_D A (wC cy h (va_up (va_up (va_up (va_up (va_up (va_up S 17 (pl17 S)) 18 (pl18 S)) 9 (pl9 S)) 11 (pl11 S)) 25 (rfF S (shW S (S 28 0)) (bcI S (plM S)) (nv (S 31 0)))) 32 (fun _ => rfM S (shW S (S 28 0)) (bcI S (plM S)) (nv (S 31 0)))) u_43) := hD
      rw [show (rfF S (shW S (S 28 0)) (bcI S (plM S)) (nv (S 31 0))) = (pl25 S) from by rw [pl25, if_pos hsb.1]] at hP hD
      have hP : va_P D vwCl (wC cy h (va_up (va_up (va_up (va_up (va_up (va_up S 17 (pl17 S)) 18 (pl18 S)) 9 (pl9 S)) 11 (pl11 S)) 25 (pl25 S)) 32 (fun _ => rfM S (shW S (S 28 0)) (bcI S (plM S)) (nv (S 31 0)))) u_43) H := hP
      have hD : va_D A (wC cy h (va_up (va_up (va_up (va_up (va_up (va_up S 17 (pl17 S)) 18 (pl18 S)) 9 (pl9 S)) 11 (pl11 S)) 25 (pl25 S)) 32 (fun _ => rfM S (shW S (S 28 0)) (bcI S (plM S)) (nv (S 31 0)))) u_43) := hD
      rw [show ((fun _ => rfM S (shW S (S 28 0)) (bcI S (plM S)) (nv (S 31 0)) : Nat → Int32)) = ((fun _ => pl32 S : Nat → Int32)) from by rw [pl32, if_pos hsb.1]] at hP hD
      have hP : va_P D vwCl (wC cy h (va_up (va_up (va_up (va_up (va_up (va_up S 17 (pl17 S)) 18 (pl18 S)) 9 (pl9 S)) 11 (pl11 S)) 25 (pl25 S)) 32 (fun _ => pl32 S)) u_43) H := hP
      have hD : va_D A (wC cy h (va_up (va_up (va_up (va_up (va_up (va_up S 17 (pl17 S)) 18 (pl18 S)) 9 (pl9 S)) 11 (pl11 S)) 25 (pl25 S)) 32 (fun _ => pl32 S)) u_43) := hD
      have hl : lv_has ls 3 [(2, .int (plR S)), (1, .int (nI (shW S (S 28 0)))), (0, .ref (h 0))] := Eq.mp (congrArg (fun z9 : Int32 => lv_has ls 3 [(2, .int z9), (1, .int (nI (shW S (S 28 0)))), (0, .ref (h 0))]) (show (rfS S (shW S (S 28 0)) (bcI S (plM S)) (nv (S 31 0)) : Int32) = plR S from by rw [plR, if_pos hsb.1])) hl
      refine lv_aload_n hx hb dX6_play_47 rfl (lv_at hl 2 rfl) ?_
      refine lv_dup hx hb dX6_play_48 rfl ?_
      refine va_get (D := D) (ci := 6) (v := .int (S 28 0)) (C := RX6) (T := TX6) (N := 8) hx hb hts iX6 hown hK hP 0 rfl rfl 7 (by decide) f_55 (fun _ h9 => h9) rfl dX6_play_49 ?_
      have b_49 := iv_28 hI
      refine cd_tp (y := nI (nv (S 28 0))) b_49.1 ?_
      have b_49 := b_49.2
      refine lv_iconst (v := nI 1) hx hb dX6_play_52 (by decide) ?_
      refine cd_iadd hx hb dX6_play_53 ?_
      refine va_put (D := D) (ci := 6) (v := .int (nI ((nv (S 28 0)) + 1))) (ty := .int) (C := RX6) (T := TX6) (N := 8) hx hb hts iX6 tyX6 tyX6_ok nmX6 hown hK hP hD hS 0 rfl rfl 7 (by decide) f_55 (fun _ h9 => h9) rfl (by decide +kernel) rfl rfl (Nat.le_of_ble_eq_true rfl) dX6_play_54 (fun H locs hP hD hS => ?_)
      have hP : va_P D vwCl (wC cy h (va_up (va_up (va_up (va_up (va_up (va_up (va_up S 17 (pl17 S)) 18 (pl18 S)) 9 (pl9 S)) 11 (pl11 S)) 25 (pl25 S)) 32 (fun _ => pl32 S)) 28 (fun _ => nI ((nv (S 28 0)) + 1))) u_43) H := hP
      have hD : va_D A (wC cy h (va_up (va_up (va_up (va_up (va_up (va_up (va_up S 17 (pl17 S)) 18 (pl18 S)) 9 (pl9 S)) 11 (pl11 S)) 25 (pl25 S)) 32 (fun _ => pl32 S)) 28 (fun _ => nI ((nv (S 28 0)) + 1))) u_43) := hD
      refine lv_iload_n hx hb dX6_play_57 rfl (lv_at hl 0 rfl) ?_
      refine vx_ret ?_
      refine W.widen (k := 4) (n := 24) (by decide) (by decide) ?_
      exact W.iret (v := plR S) hx hb hr (fun t ht hW => ⟨⟨_, u_43, rfl, (⟨rfl, by rw [decide_eq_true (by omega)]; rfl, hw_43⟩), by rw [ht]; exact hP, hD⟩, hS.F ht⟩) hS.2.2 dX6_play_58
    · have hsb := sh_no c_34
      refine lv_iconst (v := nI 0) hx hb dX6_play_37 (by decide) ?_
      refine lv_goto (tgt := 46) hx hb dX6_play_38 (by decide) ?_
      refine lv_istore_n (lv' := [(2, .int (nI 0)), (1, .int (shI S (S 28 0))), (0, .ref (h 0))]) hx hb dX6_play_46 rfl hl (by decide) rfl (fun ls hl => ?_)
      have eS17_97 : S 17 = pl17 S := by rw [pl17, if_neg (by rw [hsb]; decide)]
      have hP : va_P D vwCl (wC cy h (va_up S 17 (pl17 S)) J) s.heap := by rw [← eS17_97]; exact hP
      have hD : va_D A (wC cy h (va_up S 17 (pl17 S)) J) := by rw [← eS17_97]; exact hD
      have eS18_100 : S 18 = pl18 S := by rw [pl18, if_neg (by rw [hsb]; decide)]
      have hP : va_P D vwCl (wC cy h (va_up (va_up S 17 (pl17 S)) 18 (pl18 S)) J) s.heap := by rw [← eS18_100]; exact hP
      have hD : va_D A (wC cy h (va_up (va_up S 17 (pl17 S)) 18 (pl18 S)) J) := by rw [← eS18_100]; exact hD
      have eS9_103 : S 9 = pl9 S := by rw [pl9, if_neg (by rw [hsb]; decide)]
      have hP : va_P D vwCl (wC cy h (va_up (va_up (va_up S 17 (pl17 S)) 18 (pl18 S)) 9 (pl9 S)) J) s.heap := by rw [← eS9_103]; exact hP
      have hD : va_D A (wC cy h (va_up (va_up (va_up S 17 (pl17 S)) 18 (pl18 S)) 9 (pl9 S)) J) := by rw [← eS9_103]; exact hD
      have eS11_106 : S 11 = pl11 S := by rw [pl11, if_neg (by rw [hsb]; decide)]
      have hP : va_P D vwCl (wC cy h (va_up (va_up (va_up (va_up S 17 (pl17 S)) 18 (pl18 S)) 9 (pl9 S)) 11 (pl11 S)) J) s.heap := by rw [← eS11_106]; exact hP
      have hD : va_D A (wC cy h (va_up (va_up (va_up (va_up S 17 (pl17 S)) 18 (pl18 S)) 9 (pl9 S)) 11 (pl11 S)) J) := by rw [← eS11_106]; exact hD
      have eS25_109 : S 25 = pl25 S := by rw [pl25, if_neg (by rw [hsb]; decide)]
      have hP : va_P D vwCl (wC cy h (va_up (va_up (va_up (va_up (va_up S 17 (pl17 S)) 18 (pl18 S)) 9 (pl9 S)) 11 (pl11 S)) 25 (pl25 S)) J) s.heap := by rw [← eS25_109]; exact hP
      have hD : va_D A (wC cy h (va_up (va_up (va_up (va_up (va_up S 17 (pl17 S)) 18 (pl18 S)) 9 (pl9 S)) 11 (pl11 S)) 25 (pl25 S)) J) := by rw [← eS25_109]; exact hD
      have e32 : pl32 S = S 32 0 := by rw [pl32, if_neg (by rw [hsb]; decide)]
      have hP : va_P D vwCl (wC cy h (va_up (va_up (va_up (va_up (va_up (va_up S 17 (pl17 S)) 18 (pl18 S)) 9 (pl9 S)) 11 (pl11 S)) 25 (pl25 S)) 32 (fun _ => pl32 S)) J) s.heap := by rw [e32]; exact hP
      have hD : va_D A (wC cy h (va_up (va_up (va_up (va_up (va_up (va_up S 17 (pl17 S)) 18 (pl18 S)) 9 (pl9 S)) 11 (pl11 S)) 25 (pl25 S)) 32 (fun _ => pl32 S)) J) := by rw [e32]; exact hD
      have hl : lv_has ls 3 [(2, .int (plR S)), (1, .int (shI S (S 28 0))), (0, .ref (h 0))] := Eq.mp (congrArg (fun z9 : Int32 => lv_has ls 3 [(2, .int z9), (1, .int (shI S (S 28 0))), (0, .ref (h 0))]) (show (nI 0 : Int32) = plR S from by rw [plR, if_neg (by rw [hsb]; decide)])) hl
      refine lv_aload_n hx hb dX6_play_47 rfl (lv_at hl 2 rfl) ?_
      refine lv_dup hx hb dX6_play_48 rfl ?_
      refine va_get (D := D) (ci := 6) (v := .int (S 28 0)) (C := RX6) (T := TX6) (N := 8) hx hb hts iX6 hown hK hP 0 rfl rfl 7 (by decide) f_55 (fun _ h9 => h9) rfl dX6_play_49 ?_
      have b_49 := iv_28 hI
      refine cd_tp (y := nI (nv (S 28 0))) b_49.1 ?_
      have b_49 := b_49.2
      refine lv_iconst (v := nI 1) hx hb dX6_play_52 (by decide) ?_
      refine cd_iadd hx hb dX6_play_53 ?_
      refine va_put (D := D) (ci := 6) (v := .int (nI ((nv (S 28 0)) + 1))) (ty := .int) (C := RX6) (T := TX6) (N := 8) hx hb hts iX6 tyX6 tyX6_ok nmX6 hown hK hP hD hS 0 rfl rfl 7 (by decide) f_55 (fun _ h9 => h9) rfl (by decide +kernel) rfl rfl (Nat.le_of_ble_eq_true rfl) dX6_play_54 (fun H locs hP hD hS => ?_)
      have hP : va_P D vwCl (wC cy h (va_up (va_up (va_up (va_up (va_up (va_up (va_up S 17 (pl17 S)) 18 (pl18 S)) 9 (pl9 S)) 11 (pl11 S)) 25 (pl25 S)) 32 (fun _ => pl32 S)) 28 (fun _ => nI ((nv (S 28 0)) + 1))) J) H := hP
      have hD : va_D A (wC cy h (va_up (va_up (va_up (va_up (va_up (va_up (va_up S 17 (pl17 S)) 18 (pl18 S)) 9 (pl9 S)) 11 (pl11 S)) 25 (pl25 S)) 32 (fun _ => pl32 S)) 28 (fun _ => nI ((nv (S 28 0)) + 1))) J) := hD
      refine lv_iload_n hx hb dX6_play_57 rfl (lv_at hl 0 rfl) ?_
      refine vx_ret ?_
      refine W.widen (k := 4) (n := 24) (by decide) (by decide) ?_
      exact W.iret (v := plR S) hx hb hr (fun t ht hW => ⟨⟨_, J, rfl, (⟨rfl, by rw [decide_eq_true (by omega)]; rfl, hJ⟩), by rw [ht]; exact hP, hD⟩, hS.F ht⟩) hS.2.2 dX6_play_58
  · exact cd_thr tf_IS tg_IS tn_IS (hG.2.2.2.ws hG.2.2.2.2.2.2.2.2.1) hx hb hfl hown tk_95 ti_IS hG.2.2.1.2.2.2.2.2.2.2.2.2.2.2.2.2.1 (fun w hw9 => hts w ((by decide +kernel : ∀ w ∈ (vx_atS RX6 99 xIS nm2).filter goodWord, w ∈ wsX6_play) w hw9)) hTz hS rfl hl.1 hml dX6_play_10 dX6_play_13 dX6_play_14 dX6_play_16 dX6_play_19 (fun x h9 => (htab x h9).elim) (Nat.le_of_ble_eq_true rfl) (Nat.le_of_ble_eq_true rfl) (Nat.le_of_ble_eq_true rfl) (Nat.le_of_ble_eq_true rfl) hlocks (⟨rfl, by rw [decide_eq_false (by omega)]; rfl⟩) (by decide) (by decide)
