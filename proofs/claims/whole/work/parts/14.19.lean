set_option maxHeartbeats 4000000 in
set_option maxRecDepth 100000 in
theorem c_X6_perform (l : Launch) (D : va_G) (cy : qT) (h : Nat → Nat) (S : qS) (J : qS) (hI : Inv S) (w : Nat) (hw : w < nv (S 30 0)) (hJ : jk J) (sz : Nat) : Met l yX6_perform wsX6_perform ({ frames := 5, cells := 0, slots := 0, locals := 112 }) (va_Pc [.ref (h 0), .int (nI w)] (wrB D cy (wC cy h S J) sz)) (va_Qi (fun (r9 : Int32) (u : qS) => r9 = rfS S w (bcI S (plM S)) (nv (S 31 0)) ∧ jk u) (wrQ D (va_A (wC cy h S J) sz) (fun u : qS => (wC cy h (va_up (va_up (va_up (va_up (va_up (va_up S 17 (pf17 S (plM S) w)) 18 (pf18 S (plM S) w)) 9 (pf9 S (plM S))) 11 (pf11 S (plM S))) 25 (rfF S w (bcI S (plM S)) (nv (S 31 0)))) 32 (fun _ => rfM S w (bcI S (plM S)) (nv (S 31 0)))) u))) (va_A (wC cy h S J) sz)) 0 0 (va_A (wC cy h S J) sz) := by
  refine Met.ofW (cc := cX6_perform) (maxL := 5) (ret := (some .int)) (by decide) rfl ?_
  intro pp e9 s m9 args9 bl9 meth9 c9 s9 B hml hv
  obtain ⟨rfl, hsz, hP, hG, hD0⟩ := hv
  have hx := B.exec
  have hb := B.bytes
  have hr := B.returns
  have hts := atoms_spec (ws := wsX6_perform) B.pre
  have hown : s.vm.findClass RX6 = some m9.cls := findClass_of_methodNamed B.named
  have hlocks := B.notSynchronized
  have hK := hG.K
  subst hsz
  have hD := hD0.self (sz := s.heap.size)
  generalize hAe : (va_A (wC cy h S J) s.heap.size) = A at hD ⊢
  have hA : ∀ q : Nat, s.heap.size ≤ q → A q := fun q h9 => by rw [← hAe]; exact Or.inr h9
  have hS : va_S A s.heap s.heap [] := va_S.rf
  have hP : va_P D vwCl (wC cy h S J) s.heap := hP
  have f_10 := hts (.fieldLink RX6 10 "CastDesk" "troupe" "LCastDesk$Troupe;") (by decide +kernel)
  have f_139 := hts (.fieldLink RX6 139 "CastDesk$Troupe" "ill" "[I") (by decide +kernel)
  have f_55 := hts (.fieldLink RX6 55 "CastDesk" "today" "I") (by decide +kernel)
  have f_40 := hts (.fieldLink RX6 40 "CastDesk" "programme" "LCastDesk$Programme;") (by decide +kernel)
  have f_185 := hts (.fieldLink RX6 185 "CastDesk$Programme" "states" "[I") (by decide +kernel)
  have f_51 := hts (.fieldLink RX6 51 "CastDesk" "partCount" "I") (by decide +kernel)
  have f_206 := hts (.fieldLink RX6 206 "CastDesk$Programme" "casts" "[I") (by decide +kernel)
  have iX2 : ∀ w ∈ wsX20, w ∈ wsX6_perform := by decide +kernel
  have iX4 : ∀ w ∈ wsX40, w ∈ wsX6_perform := by decide +kernel
  have iX6 : ∀ w ∈ wsX60, w ∈ wsX6_perform := by decide +kernel
  have hl := lv_entry ([.ref (h 0), .int (nI w)]) (n := 5) (Nat.le_of_ble_eq_true rfl)
  rw [lg_entry_eq]
  generalize (lg_sl ([.ref (h 0), .int (nI w)]) ++ List.replicate (5 - (lg_sl ([.ref (h 0), .int (nI w)])).length) Slot.unset).toArray = ls at hl ⊢
  have hl : lv_has ls 5 [(0, .ref (h 0)), (1, .int (nI w))] := hl
  have h27 := (iv_27 hI).1.2
  have h30 := (iv_30 hI).2
  have h28 := (iv_28 hI).2
  refine lv_aload_n hx hb dX6_perform_0 rfl (lv_at hl 0 rfl) ?_
  refine lv_aload_n hx hb dX6_perform_1 rfl (lv_at hl 0 rfl) ?_
  refine va_get (D := D) (ci := 6) (v := .ref (h 1)) (C := RX6) (T := TX6) (N := 8) hx hb hts iX6 hown hK hP 0 rfl rfl 0 (by decide) f_10 (fun _ h9 => h9) rfl dX6_perform_2 ?_
  refine va_get (D := D) (ci := 4) (v := .ref (h 4)) (C := RX4) (T := TX4) (N := 3) hx hb hts iX4 hown hK hP 1 rfl rfl 2 (by decide) f_139 (fun _ h9 => h9) rfl dX6_perform_5 ?_
  refine lv_aload_n hx hb dX6_perform_8 rfl (lv_at hl 0 rfl) ?_
  refine va_get (D := D) (ci := 6) (v := .int (S 28 0)) (C := RX6) (T := TX6) (N := 8) hx hb hts iX6 hown hK hP 0 rfl rfl 7 (by decide) f_55 (fun _ h9 => h9) rfl dX6_perform_9 ?_
  have b_9 := iv_28 hI
  refine cd_tp (y := nI (nv (S 28 0))) b_9.1 ?_
  have b_9 := b_9.2
  refine cd_iald (f := S 4) hx hb hK hP 4 rfl (by omega) (by decide) dX6_perform_12 ?_
  have b_12 := iv_4 hI (nv (S 28 0)) (by omega)
  refine cd_tp (y := nI (nv (S 4 (nv (S 28 0))))) b_12.1 ?_
  have b_12 := b_12.2
  have M_13 := c_X6_bestCast l D cy h S J hI (nv (S 4 (nv (S 28 0)))) (by omega) hJ s.heap.size
  refine cd_fri (S := qS) (W1 := fun u_13 => (wC cy h S u_13)) (ws' := fun u_13 => (wC cy h S u_13)) (wc := (wC cy h S J)) (wr := []) (va_runV (As := [.int (nI (nv (S 4 (nv (S 28 0)))))]) (rest := []) ⟨hx, hb, hml, hown, hts⟩ M_13 (cwV 1 hts gX6_perform_X6_bestCast rfl rfl rfl (by decide +kernel) ⟨Nat.le_of_ble_eq_true rfl, Nat.le_of_ble_eq_true rfl⟩) ⟨wrB.bl, va_recv hK hP (ci := 6) (q0 := 0) rfl rfl, fun U hU hW => ⟨rfl, by rw [hU], by rw [hU]; exact hP, hG.warm hW, hD.weaken (fun _ _ _ _ => trivial)⟩⟩ rfl rfl hl.1 rfl (lv_room (Nat.le_of_ble_eq_true rfl)) dX6_perform_13 (by exact ⟨Nat.zero_le _, Nat.zero_le _⟩)) hP hD hS hA [0, 1, 2, 3, 4, 5, 6, 7, 8, 9, 10, 11, 12, 13, 14, 15, 16, 17, 18, 19, 20, 21, 22, 23, 24, 25, 26] [] [0, 1, 2, 3, 4, 5, 6, 7, 8, 9, 10, 11, 12, 13, 14, 15, 16, 17, 18, 19, 20, 21, 22, 23, 24, 25, 26] rfl rfl (by decide) (by decide) (by decide) (fun _ => rfl) (fun r_13 u_13 H locs hw_13 hP hD hS => ?_)
  obtain ⟨hr_13, hw_13⟩ := hw_13
  subst hr_13
  have hP : va_P D vwCl (wC cy h S u_13) H := hP
  have hD : va_D A (wC cy h S u_13) := hD
  refine cd_tp (y := bcI S (plM S)) (rfl) ?_
  refine lv_istore_n (lv' := [(2, .int (bcI S (plM S))), (0, .ref (h 0)), (1, .int (nI w))]) hx hb dX6_perform_16 rfl hl (by decide) rfl (fun ls hl => ?_)
  refine lv_iload_n hx hb dX6_perform_17 rfl (lv_at hl 0 rfl) ?_
  refine lv_iconst (v := (-1)) hx hb dX6_perform_18 (by decide) ?_
  refine lv_icmp_ne (tgt := 35) hx hb dX6_perform_19 (by decide) (fun c_19 => ?_) (fun c_19 => ?_)
  · obtain ⟨b, hb0, hb4, hbe, hbk⟩ := bcI_rng hI c_19
    have hl : lv_has ls 5 [(2, .int (nI (kk S (dg (nv (S 27 0)) b) (nv (S 27 0))))), (0, .ref (h 0)), (1, .int (nI w))] := Eq.mp (congrArg (fun z9 : Int32 => lv_has ls 5 [(2, .int z9), (0, .ref (h 0)), (1, .int (nI w))]) (show (bcI S (plM S) : Int32) = nI (kk S (dg (nv (S 27 0)) b) (nv (S 27 0))) from hbe)) hl
    refine lv_aload_n hx hb dX6_perform_35 rfl (lv_at hl 1 rfl) ?_
    refine va_get (D := D) (ci := 6) (v := .ref (h 16)) (C := RX6) (T := TX6) (N := 8) hx hb hts iX6 hown hK hP 0 rfl rfl 4 (by decide) f_40 (fun _ h9 => h9) rfl dX6_perform_36 ?_
    refine va_get (D := D) (ci := 2) (v := .ref (h 17)) (C := RX2) (T := TX2) (N := 4) hx hb hts iX2 hown hK hP 16 rfl rfl 0 (by decide) f_185 (fun _ h9 => h9) rfl dX6_perform_39 ?_
    refine lv_iload_n hx hb dX6_perform_42 rfl (lv_at hl 2 rfl) ?_
    refine lv_iconst (v := nI 1) hx hb dX6_perform_43 (by decide) ?_
    refine cd_iast (f := S 17) hx hb hK hP hD hS 17 rfl (by omega) (by decide) dX6_perform_44 (fun H locs hP hD hS => ?_)
    have hP : va_P D vwCl (wC cy h (va_up S 17 (upd (S 17) w (nI 1))) u_13) H := hP
    have hD : va_D A (wC cy h (va_up S 17 (upd (S 17) w (nI 1))) u_13) := hD
    refine lv_iconst (v := nI 0) hx hb dX6_perform_45 (by decide) ?_
    refine lv_istore_n (lv' := [(3, .int (nI 0)), (2, .int (nI (kk S (dg (nv (S 27 0)) b) (nv (S 27 0))))), (0, .ref (h 0)), (1, .int (nI w))]) hx hb dX6_perform_46 rfl hl (by decide) rfl (fun ls hl => ?_)
    have e0 : csF (S 18) (bcA S (plM S)) w 0 = S 18 := csF_0 _ _ _
    refine wh1 (nL := 5) (fun (p : Nat) => p ≤ nv (S 27 0)) (fun (p : Nat) => nv (S 27 0) - p) (fun (p : Nat) => [(0, .ref (h 0)), (1, .int (nI w)), (2, .int (nI (kk S (dg (nv (S 27 0)) b) (nv (S 27 0))))), (3, .int (nI p))]) (fun (p : Nat) => (wC cy h (va_up (va_up (va_up (va_up S 17 (upd (S 17) w (nI 1))) 18 (csF (S 18) (bcA S (plM S)) w p)) 9 ((dzF S (bcA S (plM S)) p).1)) 11 ((dzF S (bcA S (plM S)) p).2)) u_13)) (fun p hi_47 ih_47 H locs hP hD hS ls hl => ?_) 0 (Nat.zero_le _) (by rw [e0]; exact hP) (by rw [e0]; exact hD) hS (lv_sub hl [2, 3, 1, 0] rfl)
    have hP : va_P D vwCl (wC cy h (va_up (va_up (va_up (va_up S 17 (upd (S 17) w (nI 1))) 18 (csF (S 18) (bcA S (plM S)) w p)) 9 ((dzF S (bcA S (plM S)) p).1)) 11 ((dzF S (bcA S (plM S)) p).2)) u_13) H := hP
    have hD : va_D A (wC cy h (va_up (va_up (va_up (va_up S 17 (upd (S 17) w (nI 1))) 18 (csF (S 18) (bcA S (plM S)) w p)) 9 ((dzF S (bcA S (plM S)) p).1)) 11 ((dzF S (bcA S (plM S)) p).2)) u_13) := hD
    refine lv_iload_n hx hb dX6_perform_47 rfl (lv_at hl 3 rfl) ?_
    refine lv_aload_n hx hb dX6_perform_48 rfl (lv_at hl 0 rfl) ?_
    refine va_get (D := D) (ci := 6) (v := .int (S 27 0)) (C := RX6) (T := TX6) (N := 8) hx hb hts iX6 hown hK hP 0 rfl rfl 6 (by decide) f_51 (fun _ h9 => h9) rfl dX6_perform_49 ?_
    have b_49 := (iv_27 hI).1
    refine cd_tp (y := nI (nv (S 27 0))) b_49.1 ?_
    have b_49 := b_49.2
    refine cd_icmp_ge (tgt := 92) hx hb dX6_perform_52 (by decide) (by omega) (by omega) (fun c_52 => ?_) (fun c_52 => ?_)
    · have ep : p = nv (S 27 0) := by omega
      subst ep
      have hP : va_P D vwCl (wC cy h (va_up (va_up (va_up (va_up S 17 (upd (S 17) w (nI 1))) 18 (csF (S 18) (bcA S (plM S)) w (nv (S 27 0)))) 9 ((dzF S (bcA S (plM S)) (nv (S 27 0))).1)) 11 ((dzF S (bcA S (plM S)) (nv (S 27 0))).2)) u_13) H := hP
      have hD : va_D A (wC cy h (va_up (va_up (va_up (va_up S 17 (upd (S 17) w (nI 1))) 18 (csF (S 18) (bcA S (plM S)) w (nv (S 27 0)))) 9 ((dzF S (bcA S (plM S)) (nv (S 27 0))).1)) 11 ((dzF S (bcA S (plM S)) (nv (S 27 0))).2)) u_13) := hD
      rw [show (upd (S 17) w (nI 1)) = (pf17 S (plM S) w) from by rw [pf17, if_neg c_19]] at hP hD
      have hP : va_P D vwCl (wC cy h (va_up (va_up (va_up (va_up S 17 (pf17 S (plM S) w)) 18 (csF (S 18) (bcA S (plM S)) w (nv (S 27 0)))) 9 ((dzF S (bcA S (plM S)) (nv (S 27 0))).1)) 11 ((dzF S (bcA S (plM S)) (nv (S 27 0))).2)) u_13) H := hP
      have hD : va_D A (wC cy h (va_up (va_up (va_up (va_up S 17 (pf17 S (plM S) w)) 18 (csF (S 18) (bcA S (plM S)) w (nv (S 27 0)))) 9 ((dzF S (bcA S (plM S)) (nv (S 27 0))).1)) 11 ((dzF S (bcA S (plM S)) (nv (S 27 0))).2)) u_13) := hD
      rw [show (csF (S 18) (bcA S (plM S)) w (nv (S 27 0))) = (pf18 S (plM S) w) from by rw [pf18, if_neg c_19]] at hP hD
      have hP : va_P D vwCl (wC cy h (va_up (va_up (va_up (va_up S 17 (pf17 S (plM S) w)) 18 (pf18 S (plM S) w)) 9 ((dzF S (bcA S (plM S)) (nv (S 27 0))).1)) 11 ((dzF S (bcA S (plM S)) (nv (S 27 0))).2)) u_13) H := hP
      have hD : va_D A (wC cy h (va_up (va_up (va_up (va_up S 17 (pf17 S (plM S) w)) 18 (pf18 S (plM S) w)) 9 ((dzF S (bcA S (plM S)) (nv (S 27 0))).1)) 11 ((dzF S (bcA S (plM S)) (nv (S 27 0))).2)) u_13) := hD
      rw [show ((dzF S (bcA S (plM S)) (nv (S 27 0))).1) = (pf9 S (plM S)) from by rw [pf9, if_neg c_19]] at hP hD
      have hP : va_P D vwCl (wC cy h (va_up (va_up (va_up (va_up S 17 (pf17 S (plM S) w)) 18 (pf18 S (plM S) w)) 9 (pf9 S (plM S))) 11 ((dzF S (bcA S (plM S)) (nv (S 27 0))).2)) u_13) H := hP
      have hD : va_D A (wC cy h (va_up (va_up (va_up (va_up S 17 (pf17 S (plM S) w)) 18 (pf18 S (plM S) w)) 9 (pf9 S (plM S))) 11 ((dzF S (bcA S (plM S)) (nv (S 27 0))).2)) u_13) := hD
      rw [show ((dzF S (bcA S (plM S)) (nv (S 27 0))).2) = (pf11 S (plM S)) from by rw [pf11, if_neg c_19]] at hP hD
      have hP : va_P D vwCl (wC cy h (va_up (va_up (va_up (va_up S 17 (pf17 S (plM S) w)) 18 (pf18 S (plM S) w)) 9 (pf9 S (plM S))) 11 (pf11 S (plM S))) u_13) H := hP
      have hD : va_D A (wC cy h (va_up (va_up (va_up (va_up S 17 (pf17 S (plM S) w)) 18 (pf18 S (plM S) w)) 9 (pf9 S (plM S))) 11 (pf11 S (plM S))) u_13) := hD
      have hl : lv_has ls 5 [(0, .ref (h 0)), (1, .int (nI w)), (2, .int (bcI S (plM S))), (3, .int (nI (nv (S 27 0))))] := Eq.mp (congrArg (fun z9 : Int32 => lv_has ls 5 [(0, .ref (h 0)), (1, .int (nI w)), (2, .int z9), (3, .int (nI (nv (S 27 0))))]) (show (nI (kk S (dg (nv (S 27 0)) b) (nv (S 27 0))) : Int32) = bcI S (plM S) from hbe.symm)) hl
      refine lv_aload_n hx hb dX6_perform_92 rfl (lv_at hl 0 rfl) ?_
      refine lv_iload_n hx hb dX6_perform_93 rfl (lv_at hl 1 rfl) ?_
      refine lv_iload_n hx hb dX6_perform_94 rfl (lv_at hl 2 rfl) ?_
      have M_95 := c_X6_refundSeats l D cy h (va_up (va_up (va_up (va_up S 17 (pf17 S (plM S) w)) 18 (pf18 S (plM S) w)) 9 (pf9 S (plM S))) 11 (pf11 S (plM S))) u_13 (inv_pf4 hI hw) w (bcI S (plM S)) (bcI_nv hI (plM S)) H.size
      refine cd_fri (S := Unit) (W1 := fun u => (wC cy h (va_up (va_up (va_up (va_up (va_up (va_up S 17 (pf17 S (plM S) w)) 18 (pf18 S (plM S) w)) 9 (pf9 S (plM S))) 11 (pf11 S (plM S))) 25 (rfF (va_up (va_up (va_up (va_up S 17 (pf17 S (plM S) w)) 18 (pf18 S (plM S) w)) 9 (pf9 S (plM S))) 11 (pf11 S (plM S))) w (bcI S (plM S)) (nv ((va_up (va_up (va_up (va_up S 17 (pf17 S (plM S) w)) 18 (pf18 S (plM S) w)) 9 (pf9 S (plM S))) 11 (pf11 S (plM S))) 31 0)))) 32 (fun _ => rfM (va_up (va_up (va_up (va_up S 17 (pf17 S (plM S) w)) 18 (pf18 S (plM S) w)) 9 (pf9 S (plM S))) 11 (pf11 S (plM S))) w (bcI S (plM S)) (nv ((va_up (va_up (va_up (va_up S 17 (pf17 S (plM S) w)) 18 (pf18 S (plM S) w)) 9 (pf9 S (plM S))) 11 (pf11 S (plM S))) 31 0)))) u_13)) (ws' := fun u => (wC cy h (va_up (va_up (va_up (va_up (va_up (va_up S 17 (pf17 S (plM S) w)) 18 (pf18 S (plM S) w)) 9 (pf9 S (plM S))) 11 (pf11 S (plM S))) 25 (rfF (va_up (va_up (va_up (va_up S 17 (pf17 S (plM S) w)) 18 (pf18 S (plM S) w)) 9 (pf9 S (plM S))) 11 (pf11 S (plM S))) w (bcI S (plM S)) (nv (S 31 0)))) 32 (fun _ => rfM (va_up (va_up (va_up (va_up S 17 (pf17 S (plM S) w)) 18 (pf18 S (plM S) w)) 9 (pf9 S (plM S))) 11 (pf11 S (plM S))) w (bcI S (plM S)) (nv (S 31 0)))) u_13)) (wc := (wC cy h (va_up (va_up (va_up (va_up S 17 (pf17 S (plM S) w)) 18 (pf18 S (plM S) w)) 9 (pf9 S (plM S))) 11 (pf11 S (plM S))) u_13)) (wr := []) (va_runV (As := [.int (nI w), .int (bcI S (plM S))]) (rest := []) ⟨hx, hb, hml, hown, hts⟩ M_95 (cwV 2 hts gX6_perform_X6_refundSeats rfl rfl rfl (by decide +kernel) ⟨Nat.le_of_ble_eq_true rfl, Nat.le_of_ble_eq_true rfl⟩) ⟨wrB.bl, va_recv hK hP (ci := 6) (q0 := 0) rfl rfl, fun U hU hW => ⟨rfl, by rw [hU], by rw [hU]; exact hP, hG.warm hW, hD.weaken (fun _ _ _ _ => trivial)⟩⟩ rfl rfl hl.1 rfl (lv_room (Nat.le_of_ble_eq_true rfl)) dX6_perform_95 (by exact ⟨Nat.zero_le _, Nat.zero_le _⟩)) hP hD hS hA [0, 1, 2, 3, 4, 5, 6, 7, 8, 9, 10, 11, 12, 13, 14, 15, 16, 17, 18, 19, 20, 21, 22, 23, 24, 25, 26] [] [0, 1, 2, 3, 4, 5, 6, 7, 8, 9, 10, 11, 12, 13, 14, 15, 16, 17, 18, 19, 20, 21, 22, 23, 24, 25, 26] rfl rfl (by decide) (by decide) (by decide) (fun _ => rfl) (fun r_95 _ H locs hw_95 hP hD hS => ?_)
      subst hw_95
      refine cd_tp (y := rfS (va_up (va_up (va_up (va_up S 17 (pf17 S (plM S) w)) 18 (pf18 S (plM S) w)) 9 (pf9 S (plM S))) 11 (pf11 S (plM S))) w (bcI S (plM S)) (nv (S 31 0))) rfl ?_
      have hP : va_P D vwCl (wC cy h (va_up (va_up (va_up (va_up (va_up (va_up S 17 (pf17 S (plM S) w)) 18 (pf18 S (plM S) w)) 9 (pf9 S (plM S))) 11 (pf11 S (plM S))) 25 (rfF (va_up (va_up (va_up (va_up S 17 (pf17 S (plM S) w)) 18 (pf18 S (plM S) w)) 9 (pf9 S (plM S))) 11 (pf11 S (plM S))) w (bcI S (plM S)) (nv (S 31 0)))) 32 (fun _ => rfM (va_up (va_up (va_up (va_up S 17 (pf17 S (plM S) w)) 18 (pf18 S (plM S) w)) 9 (pf9 S (plM S))) 11 (pf11 S (plM S))) w (bcI S (plM S)) (nv (S 31 0)))) u_13) H := hP
      have hD : va_D A (wC cy h (va_up (va_up (va_up (va_up (va_up (va_up S 17 (pf17 S (plM S) w)) 18 (pf18 S (plM S) w)) 9 (pf9 S (plM S))) 11 (pf11 S (plM S))) 25 (rfF (va_up (va_up (va_up (va_up S 17 (pf17 S (plM S) w)) 18 (pf18 S (plM S) w)) 9 (pf9 S (plM S))) 11 (pf11 S (plM S))) w (bcI S (plM S)) (nv (S 31 0)))) 32 (fun _ => rfM (va_up (va_up (va_up (va_up S 17 (pf17 S (plM S) w)) 18 (pf18 S (plM S) w)) 9 (pf9 S (plM S))) 11 (pf11 S (plM S))) w (bcI S (plM S)) (nv (S 31 0)))) u_13) := hD
      refine cd_tp (y := rfS S w (bcI S (plM S)) (nv (S 31 0))) (rfS_cg _ _ _ _ _ _ _ _) ?_
      rw [show (rfF (va_up (va_up (va_up (va_up S 17 (pf17 S (plM S) w)) 18 (pf18 S (plM S) w)) 9 (pf9 S (plM S))) 11 (pf11 S (plM S))) w (bcI S (plM S)) (nv (S 31 0))) = (rfF S w (bcI S (plM S)) (nv (S 31 0))) from rfF_cg _ _ _ _ _ _ _ _] at hP hD
      have hP : va_P D vwCl (wC cy h (va_up (va_up (va_up (va_up (va_up (va_up S 17 (pf17 S (plM S) w)) 18 (pf18 S (plM S) w)) 9 (pf9 S (plM S))) 11 (pf11 S (plM S))) 25 (rfF S w (bcI S (plM S)) (nv (S 31 0)))) 32 (fun _ => rfM (va_up (va_up (va_up (va_up S 17 (pf17 S (plM S) w)) 18 (pf18 S (plM S) w)) 9 (pf9 S (plM S))) 11 (pf11 S (plM S))) w (bcI S (plM S)) (nv (S 31 0)))) u_13) H := hP
      have hD : va_D A (wC cy h (va_up (va_up (va_up (va_up (va_up (va_up S 17 (pf17 S (plM S) w)) 18 (pf18 S (plM S) w)) 9 (pf9 S (plM S))) 11 (pf11 S (plM S))) 25 (rfF S w (bcI S (plM S)) (nv (S 31 0)))) 32 (fun _ => rfM (va_up (va_up (va_up (va_up S 17 (pf17 S (plM S) w)) 18 (pf18 S (plM S) w)) 9 (pf9 S (plM S))) 11 (pf11 S (plM S))) w (bcI S (plM S)) (nv (S 31 0)))) u_13) := hD
      rw [show ((fun _ => rfM (va_up (va_up (va_up (va_up S 17 (pf17 S (plM S) w)) 18 (pf18 S (plM S) w)) 9 (pf9 S (plM S))) 11 (pf11 S (plM S))) w (bcI S (plM S)) (nv (S 31 0)) : Nat → Int32)) = ((fun _ => rfM S w (bcI S (plM S)) (nv (S 31 0)) : Nat → Int32)) from congrArg (fun (z : Int32) (_ : Nat) => z) (rfM_cg _ _ _ _ _ _ _ _)] at hP hD
      have hP : va_P D vwCl (wC cy h (va_up (va_up (va_up (va_up (va_up (va_up S 17 (pf17 S (plM S) w)) 18 (pf18 S (plM S) w)) 9 (pf9 S (plM S))) 11 (pf11 S (plM S))) 25 (rfF S w (bcI S (plM S)) (nv (S 31 0)))) 32 (fun _ => rfM S w (bcI S (plM S)) (nv (S 31 0)))) u_13) H := hP
      have hD : va_D A (wC cy h (va_up (va_up (va_up (va_up (va_up (va_up S 17 (pf17 S (plM S) w)) 18 (pf18 S (plM S) w)) 9 (pf9 S (plM S))) 11 (pf11 S (plM S))) 25 (rfF S w (bcI S (plM S)) (nv (S 31 0)))) 32 (fun _ => rfM S w (bcI S (plM S)) (nv (S 31 0)))) u_13) := hD
      exact W.iret (v := rfS S w (bcI S (plM S)) (nv (S 31 0))) hx hb hr (fun t ht hW => ⟨⟨_, u_13, rfl, (⟨rfl, hw_13⟩), by rw [ht]; exact hP, hD⟩, hS.F ht⟩) hS.2.2 dX6_perform_98
    · refine lv_aload_n hx hb dX6_perform_55 rfl (lv_at hl 0 rfl) ?_
      refine lv_iload_n hx hb dX6_perform_56 rfl (lv_at hl 2 rfl) ?_
      refine lv_iload_n hx hb dX6_perform_57 rfl (lv_at hl 3 rfl) ?_
      have M_58 := c_X6_actorIn l D cy h (va_up (va_up (va_up (va_up S 17 (upd (S 17) w (nI 1))) 18 (csF (S 18) (bcA S (plM S)) w p)) 9 ((dzF S (bcA S (plM S)) p).1)) 11 ((dzF S (bcA S (plM S)) p).2)) u_13 (inv_pf hI (up_17 hI hw _) (csF_18 hI hw _ (by omega)) (dzF_01 (iv_11 hI) _ _)) (kk S (dg (nv (S 27 0)) b) (nv (S 27 0))) p (by omega) (by omega)
      refine cd_roi (va_runV (As := [.int (nI (kk S (dg (nv (S 27 0)) b) (nv (S 27 0)))), .int (nI p)]) (rest := []) ⟨hx, hb, hml, hown, hts⟩ M_58 (cwV 2 hts gX6_perform_X6_actorIn rfl rfl rfl (by decide +kernel) ⟨Nat.le_of_ble_eq_true rfl, Nat.le_of_ble_eq_true rfl⟩) ⟨roB.bl, va_recv hK hP (ci := 6) (q0 := 0) rfl rfl, fun U hU hW => ⟨rfl, by rw [hU]; exact hP, hG.warm hW⟩⟩ rfl rfl hl.1 rfl (lv_room (Nat.le_of_ble_eq_true rfl)) dX6_perform_58 (by exact ⟨Nat.zero_le _, Nat.zero_le _⟩)) (fun r_58 hr_58 => ?_)
      subst hr_58
      have hba := bcA_at hI hb0 (show p < nv (S 27 0) by omega)
      have hba3 := hba.2.2
      refine cd_tp (y := nI (nv (bcA S (plM S) p))) (hba.1.trans hba.2.1) ?_
      refine lv_istore (lv' := [(4, .int (nI (nv (bcA S (plM S) p)))), (0, .ref (h 0)), (1, .int (nI w)), (2, .int (nI (kk S (dg (nv (S 27 0)) b) (nv (S 27 0))))), (3, .int (nI p))]) hx hb dX6_perform_61 hl (by decide) rfl (fun ls hl => ?_)
      refine lv_aload_n hx hb dX6_perform_63 rfl (lv_at hl 1 rfl) ?_
      refine va_get (D := D) (ci := 6) (v := .ref (h 16)) (C := RX6) (T := TX6) (N := 8) hx hb hts iX6 hown hK hP 0 rfl rfl 4 (by decide) f_40 (fun _ h9 => h9) rfl dX6_perform_64 ?_
      refine va_get (D := D) (ci := 2) (v := .ref (h 18)) (C := RX2) (T := TX2) (N := 4) hx hb hts iX2 hown hK hP 16 rfl rfl 1 (by decide) f_206 (fun _ h9 => h9) rfl dX6_perform_67 ?_
      refine lv_iload_n hx hb dX6_perform_70 rfl (lv_at hl 2 rfl) ?_
      refine lv_bipush (v := nI 8) hx hb dX6_perform_71 (by decide) ?_
      refine cd_imul hx hb dX6_perform_73 ?_
      refine lv_iload_n hx hb dX6_perform_74 rfl (lv_at hl 4 rfl) ?_
      refine cd_iadd hx hb dX6_perform_75 ?_
      refine lv_iload hx hb dX6_perform_76 (lv_at hl 0 rfl) ?_
      refine cd_iast (f := csF (S 18) (bcA S (plM S)) w p) hx hb hK hP hD hS 18 rfl (by omega) (by decide) dX6_perform_78 (fun H locs hP hD hS => ?_)
      have hP : va_P D vwCl (wC cy h (va_up (va_up (va_up (va_up S 17 (upd (S 17) w (nI 1))) 18 (upd (csF (S 18) (bcA S (plM S)) w p) ((w * 8) + p) (nI (nv (bcA S (plM S) p))))) 9 ((dzF S (bcA S (plM S)) p).1)) 11 ((dzF S (bcA S (plM S)) p).2)) u_13) H := hP
      have hD : va_D A (wC cy h (va_up (va_up (va_up (va_up S 17 (upd (S 17) w (nI 1))) 18 (upd (csF (S 18) (bcA S (plM S)) w p) ((w * 8) + p) (nI (nv (bcA S (plM S) p))))) 9 ((dzF S (bcA S (plM S)) p).1)) 11 ((dzF S (bcA S (plM S)) p).2)) u_13) := hD
      have e_78 : (upd (csF (S 18) (bcA S (plM S)) w p) ((w * 8) + p) (nI (nv (bcA S (plM S) p)))) = (csF (S 18) (bcA S (plM S)) w (p + 1)) := by rw [← hba.2.1]; exact csF_s (S 18) (bcA S (plM S)) w p
      rw [e_78] at hP hD
      have hP : va_P D vwCl (wC cy h (va_up (va_up (va_up (va_up S 17 (upd (S 17) w (nI 1))) 18 (csF (S 18) (bcA S (plM S)) w (p + 1))) 9 ((dzF S (bcA S (plM S)) p).1)) 11 ((dzF S (bcA S (plM S)) p).2)) u_13) H := hP
      have hD : va_D A (wC cy h (va_up (va_up (va_up (va_up S 17 (upd (S 17) w (nI 1))) 18 (csF (S 18) (bcA S (plM S)) w (p + 1))) 9 ((dzF S (bcA S (plM S)) p).1)) 11 ((dzF S (bcA S (plM S)) p).2)) u_13) := hD
      refine lv_aload_n hx hb dX6_perform_79 rfl (lv_at hl 1 rfl) ?_
      refine lv_iload_n hx hb dX6_perform_80 rfl (lv_at hl 4 rfl) ?_
      refine lv_iload hx hb dX6_perform_81 (lv_at hl 0 rfl) ?_
      have M_83 := c_X6_dress l D cy h (va_up (va_up (va_up (va_up S 17 (upd (S 17) w (nI 1))) 18 (csF (S 18) (bcA S (plM S)) w (p + 1))) 9 ((dzF S (bcA S (plM S)) p).1)) 11 ((dzF S (bcA S (plM S)) p).2)) u_13 (inv_pf hI (up_17 hI hw _) (csF_18 hI hw _ (show p + 1 ≤ 8 by omega)) (dzF_01 (iv_11 hI) _ _)) p (nv (bcA S (plM S) p)) hba3 H.size
      refine cd_frv (S := Unit) (W1 := fun u => (wC cy h (va_up (va_up (va_up (va_up (va_up (va_up S 17 (upd (S 17) w (nI 1))) 18 (csF (S 18) (bcA S (plM S)) w (p + 1))) 9 ((dzF S (bcA S (plM S)) p).1)) 11 ((dzF S (bcA S (plM S)) p).2)) 9 (drZ (va_up (va_up (va_up (va_up S 17 (upd (S 17) w (nI 1))) 18 (csF (S 18) (bcA S (plM S)) w (p + 1))) 9 ((dzF S (bcA S (plM S)) p).1)) 11 ((dzF S (bcA S (plM S)) p).2)) p ((va_up (va_up (va_up (va_up S 17 (upd (S 17) w (nI 1))) 18 (csF (S 18) (bcA S (plM S)) w (p + 1))) 9 ((dzF S (bcA S (plM S)) p).1)) 11 ((dzF S (bcA S (plM S)) p).2)) 2 (nv (bcA S (plM S) p))))) 11 (drL (va_up (va_up (va_up (va_up S 17 (upd (S 17) w (nI 1))) 18 (csF (S 18) (bcA S (plM S)) w (p + 1))) 9 ((dzF S (bcA S (plM S)) p).1)) 11 ((dzF S (bcA S (plM S)) p).2)) p ((va_up (va_up (va_up (va_up S 17 (upd (S 17) w (nI 1))) 18 (csF (S 18) (bcA S (plM S)) w (p + 1))) 9 ((dzF S (bcA S (plM S)) p).1)) 11 ((dzF S (bcA S (plM S)) p).2)) 2 (nv (bcA S (plM S) p))))) u_13)) (ws' := fun u => (wC cy h (va_up (va_up (va_up (va_up S 17 (upd (S 17) w (nI 1))) 18 (csF (S 18) (bcA S (plM S)) w (p + 1))) 9 (drZ (va_up (va_up (va_up (va_up S 17 (upd (S 17) w (nI 1))) 18 (csF (S 18) (bcA S (plM S)) w (p + 1))) 9 ((dzF S (bcA S (plM S)) p).1)) 11 ((dzF S (bcA S (plM S)) p).2)) p ((S 2) (nv (bcA S (plM S) p))))) 11 (drL (va_up (va_up (va_up (va_up S 17 (upd (S 17) w (nI 1))) 18 (csF (S 18) (bcA S (plM S)) w (p + 1))) 9 ((dzF S (bcA S (plM S)) p).1)) 11 ((dzF S (bcA S (plM S)) p).2)) p ((S 2) (nv (bcA S (plM S) p))))) u_13)) (wc := (wC cy h (va_up (va_up (va_up (va_up S 17 (upd (S 17) w (nI 1))) 18 (csF (S 18) (bcA S (plM S)) w (p + 1))) 9 ((dzF S (bcA S (plM S)) p).1)) 11 ((dzF S (bcA S (plM S)) p).2)) u_13)) (wr := []) (va_runV (As := [.int (nI p), .int (nI (nv (bcA S (plM S) p)))]) (rest := []) ⟨hx, hb, hml, hown, hts⟩ M_83 (cwV 2 hts gX6_perform_X6_dress rfl rfl rfl (by decide +kernel) ⟨Nat.le_of_ble_eq_true rfl, Nat.le_of_ble_eq_true rfl⟩) ⟨wrB.bl, va_recv hK hP (ci := 6) (q0 := 0) rfl rfl, fun U hU hW => ⟨rfl, by rw [hU], by rw [hU]; exact hP, hG.warm hW, hD.weaken (fun _ _ _ _ => trivial)⟩⟩ rfl rfl hl.1 rfl (lv_room (Nat.le_of_ble_eq_true rfl)) dX6_perform_83 (by exact ⟨Nat.zero_le _, Nat.zero_le _⟩)) hP hD hS hA [0, 1, 2, 3, 4, 5, 6, 7, 8, 9, 10, 11, 12, 13, 14, 15, 16, 17, 18, 19, 20, 21, 22, 23, 24, 25, 26] [] [0, 1, 2, 3, 4, 5, 6, 7, 8, 9, 10, 11, 12, 13, 14, 15, 16, 17, 18, 19, 20, 21, 22, 23, 24, 25, 26] rfl rfl (by decide) (by decide) (by decide) (fun _ => rfl) (fun _ H locs hw_83 hP hD hS => ?_)
      have hP : va_P D vwCl (wC cy h (va_up (va_up (va_up (va_up S 17 (upd (S 17) w (nI 1))) 18 (csF (S 18) (bcA S (plM S)) w (p + 1))) 9 (drZ (va_up (va_up (va_up (va_up S 17 (upd (S 17) w (nI 1))) 18 (csF (S 18) (bcA S (plM S)) w (p + 1))) 9 ((dzF S (bcA S (plM S)) p).1)) 11 ((dzF S (bcA S (plM S)) p).2)) p ((S 2) (nv (bcA S (plM S) p))))) 11 (drL (va_up (va_up (va_up (va_up S 17 (upd (S 17) w (nI 1))) 18 (csF (S 18) (bcA S (plM S)) w (p + 1))) 9 ((dzF S (bcA S (plM S)) p).1)) 11 ((dzF S (bcA S (plM S)) p).2)) p ((S 2) (nv (bcA S (plM S) p))))) u_13) H := hP
      have hD : va_D A (wC cy h (va_up (va_up (va_up (va_up S 17 (upd (S 17) w (nI 1))) 18 (csF (S 18) (bcA S (plM S)) w (p + 1))) 9 (drZ (va_up (va_up (va_up (va_up S 17 (upd (S 17) w (nI 1))) 18 (csF (S 18) (bcA S (plM S)) w (p + 1))) 9 ((dzF S (bcA S (plM S)) p).1)) 11 ((dzF S (bcA S (plM S)) p).2)) p ((S 2) (nv (bcA S (plM S) p))))) 11 (drL (va_up (va_up (va_up (va_up S 17 (upd (S 17) w (nI 1))) 18 (csF (S 18) (bcA S (plM S)) w (p + 1))) 9 ((dzF S (bcA S (plM S)) p).1)) 11 ((dzF S (bcA S (plM S)) p).2)) p ((S 2) (nv (bcA S (plM S) p))))) u_13) := hD
      rw [show (drZ (va_up (va_up (va_up (va_up S 17 (upd (S 17) w (nI 1))) 18 (csF (S 18) (bcA S (plM S)) w (p + 1))) 9 ((dzF S (bcA S (plM S)) p).1)) 11 ((dzF S (bcA S (plM S)) p).2)) p ((S 2) (nv (bcA S (plM S) p)))) = ((dzF S (bcA S (plM S)) (p + 1)).1) from rfl] at hP hD
      have hP : va_P D vwCl (wC cy h (va_up (va_up (va_up (va_up S 17 (upd (S 17) w (nI 1))) 18 (csF (S 18) (bcA S (plM S)) w (p + 1))) 9 ((dzF S (bcA S (plM S)) (p + 1)).1)) 11 (drL (va_up (va_up (va_up (va_up S 17 (upd (S 17) w (nI 1))) 18 (csF (S 18) (bcA S (plM S)) w (p + 1))) 9 ((dzF S (bcA S (plM S)) p).1)) 11 ((dzF S (bcA S (plM S)) p).2)) p ((S 2) (nv (bcA S (plM S) p))))) u_13) H := hP
      have hD : va_D A (wC cy h (va_up (va_up (va_up (va_up S 17 (upd (S 17) w (nI 1))) 18 (csF (S 18) (bcA S (plM S)) w (p + 1))) 9 ((dzF S (bcA S (plM S)) (p + 1)).1)) 11 (drL (va_up (va_up (va_up (va_up S 17 (upd (S 17) w (nI 1))) 18 (csF (S 18) (bcA S (plM S)) w (p + 1))) 9 ((dzF S (bcA S (plM S)) p).1)) 11 ((dzF S (bcA S (plM S)) p).2)) p ((S 2) (nv (bcA S (plM S) p))))) u_13) := hD
      rw [show (drL (va_up (va_up (va_up (va_up S 17 (upd (S 17) w (nI 1))) 18 (csF (S 18) (bcA S (plM S)) w (p + 1))) 9 ((dzF S (bcA S (plM S)) p).1)) 11 ((dzF S (bcA S (plM S)) p).2)) p ((S 2) (nv (bcA S (plM S) p)))) = ((dzF S (bcA S (plM S)) (p + 1)).2) from rfl] at hP hD
      have hP : va_P D vwCl (wC cy h (va_up (va_up (va_up (va_up S 17 (upd (S 17) w (nI 1))) 18 (csF (S 18) (bcA S (plM S)) w (p + 1))) 9 ((dzF S (bcA S (plM S)) (p + 1)).1)) 11 ((dzF S (bcA S (plM S)) (p + 1)).2)) u_13) H := hP
      have hD : va_D A (wC cy h (va_up (va_up (va_up (va_up S 17 (upd (S 17) w (nI 1))) 18 (csF (S 18) (bcA S (plM S)) w (p + 1))) 9 ((dzF S (bcA S (plM S)) (p + 1)).1)) 11 ((dzF S (bcA S (plM S)) (p + 1)).2)) u_13) := hD
      refine lv_iinc (v := nI (p + 1)) (lv' := [(3, .int (nI (p + 1))), (4, .int (nI (nv (bcA S (plM S) p)))), (0, .ref (h 0)), (1, .int (nI w)), (2, .int (nI (kk S (dg (nv (S 27 0)) b) (nv (S 27 0)))))]) hx hb dX6_perform_86 hl (k := 4) rfl (cd_i1 _) (by decide) rfl (fun ls hl => ?_)
      refine lv_goto (tgt := 47) hx hb dX6_perform_89 (by decide) ?_
      exact ih_47 (p + 1) (by omega) (by omega) _ _ hP hD hS _ (lv_sub hl [2, 3, 4, 0] rfl)
  · refine lv_aload_n hx hb dX6_perform_22 rfl (lv_at hl 1 rfl) ?_
    refine va_get (D := D) (ci := 6) (v := .ref (h 16)) (C := RX6) (T := TX6) (N := 8) hx hb hts iX6 hown hK hP 0 rfl rfl 4 (by decide) f_40 (fun _ h9 => h9) rfl dX6_perform_23 ?_
    refine va_get (D := D) (ci := 2) (v := .ref (h 17)) (C := RX2) (T := TX2) (N := 4) hx hb hts iX2 hown hK hP 16 rfl rfl 0 (by decide) f_185 (fun _ h9 => h9) rfl dX6_perform_26 ?_
    refine lv_iload_n hx hb dX6_perform_29 rfl (lv_at hl 2 rfl) ?_
    refine lv_iconst (v := nI 2) hx hb dX6_perform_30 (by decide) ?_
    refine cd_iast (f := S 17) hx hb hK hP hD hS 17 rfl (by omega) (by decide) dX6_perform_31 (fun H locs hP hD hS => ?_)
    have hP : va_P D vwCl (wC cy h (va_up S 17 (upd (S 17) w (nI 2))) u_13) H := hP
    have hD : va_D A (wC cy h (va_up S 17 (upd (S 17) w (nI 2))) u_13) := hD
    refine lv_goto (tgt := 92) hx hb dX6_perform_32 (by decide) ?_
    rw [show (upd (S 17) w (nI 2)) = (pf17 S (plM S) w) from by rw [pf17, if_pos c_19]] at hP hD
    have hP : va_P D vwCl (wC cy h (va_up S 17 (pf17 S (plM S) w)) u_13) H := hP
    have hD : va_D A (wC cy h (va_up S 17 (pf17 S (plM S) w)) u_13) := hD
    have eS18_161 : S 18 = pf18 S (plM S) w := by rw [pf18, if_pos c_19]
    have hP : va_P D vwCl (wC cy h (va_up (va_up S 17 (pf17 S (plM S) w)) 18 (pf18 S (plM S) w)) u_13) H := by rw [← eS18_161]; exact hP
    have hD : va_D A (wC cy h (va_up (va_up S 17 (pf17 S (plM S) w)) 18 (pf18 S (plM S) w)) u_13) := by rw [← eS18_161]; exact hD
    have eS9_164 : S 9 = pf9 S (plM S) := by rw [pf9, if_pos c_19]
    have hP : va_P D vwCl (wC cy h (va_up (va_up (va_up S 17 (pf17 S (plM S) w)) 18 (pf18 S (plM S) w)) 9 (pf9 S (plM S))) u_13) H := by rw [← eS9_164]; exact hP
    have hD : va_D A (wC cy h (va_up (va_up (va_up S 17 (pf17 S (plM S) w)) 18 (pf18 S (plM S) w)) 9 (pf9 S (plM S))) u_13) := by rw [← eS9_164]; exact hD
    have eS11_167 : S 11 = pf11 S (plM S) := by rw [pf11, if_pos c_19]
    have hP : va_P D vwCl (wC cy h (va_up (va_up (va_up (va_up S 17 (pf17 S (plM S) w)) 18 (pf18 S (plM S) w)) 9 (pf9 S (plM S))) 11 (pf11 S (plM S))) u_13) H := by rw [← eS11_167]; exact hP
    have hD : va_D A (wC cy h (va_up (va_up (va_up (va_up S 17 (pf17 S (plM S) w)) 18 (pf18 S (plM S) w)) 9 (pf9 S (plM S))) 11 (pf11 S (plM S))) u_13) := by rw [← eS11_167]; exact hD
    refine lv_aload_n hx hb dX6_perform_92 rfl (lv_at hl 1 rfl) ?_
    refine lv_iload_n hx hb dX6_perform_93 rfl (lv_at hl 2 rfl) ?_
    refine lv_iload_n hx hb dX6_perform_94 rfl (lv_at hl 0 rfl) ?_
    have M_95 := c_X6_refundSeats l D cy h (va_up (va_up (va_up (va_up S 17 (pf17 S (plM S) w)) 18 (pf18 S (plM S) w)) 9 (pf9 S (plM S))) 11 (pf11 S (plM S))) u_13 (inv_pf4 hI hw) w (bcI S (plM S)) (bcI_nv hI (plM S)) H.size
    refine cd_fri (S := Unit) (W1 := fun u => (wC cy h (va_up (va_up (va_up (va_up (va_up (va_up S 17 (pf17 S (plM S) w)) 18 (pf18 S (plM S) w)) 9 (pf9 S (plM S))) 11 (pf11 S (plM S))) 25 (rfF (va_up (va_up (va_up (va_up S 17 (pf17 S (plM S) w)) 18 (pf18 S (plM S) w)) 9 (pf9 S (plM S))) 11 (pf11 S (plM S))) w (bcI S (plM S)) (nv ((va_up (va_up (va_up (va_up S 17 (pf17 S (plM S) w)) 18 (pf18 S (plM S) w)) 9 (pf9 S (plM S))) 11 (pf11 S (plM S))) 31 0)))) 32 (fun _ => rfM (va_up (va_up (va_up (va_up S 17 (pf17 S (plM S) w)) 18 (pf18 S (plM S) w)) 9 (pf9 S (plM S))) 11 (pf11 S (plM S))) w (bcI S (plM S)) (nv ((va_up (va_up (va_up (va_up S 17 (pf17 S (plM S) w)) 18 (pf18 S (plM S) w)) 9 (pf9 S (plM S))) 11 (pf11 S (plM S))) 31 0)))) u_13)) (ws' := fun u => (wC cy h (va_up (va_up (va_up (va_up (va_up (va_up S 17 (pf17 S (plM S) w)) 18 (pf18 S (plM S) w)) 9 (pf9 S (plM S))) 11 (pf11 S (plM S))) 25 (rfF (va_up (va_up (va_up (va_up S 17 (pf17 S (plM S) w)) 18 (pf18 S (plM S) w)) 9 (pf9 S (plM S))) 11 (pf11 S (plM S))) w (bcI S (plM S)) (nv (S 31 0)))) 32 (fun _ => rfM (va_up (va_up (va_up (va_up S 17 (pf17 S (plM S) w)) 18 (pf18 S (plM S) w)) 9 (pf9 S (plM S))) 11 (pf11 S (plM S))) w (bcI S (plM S)) (nv (S 31 0)))) u_13)) (wc := (wC cy h (va_up (va_up (va_up (va_up S 17 (pf17 S (plM S) w)) 18 (pf18 S (plM S) w)) 9 (pf9 S (plM S))) 11 (pf11 S (plM S))) u_13)) (wr := []) (va_runV (As := [.int (nI w), .int (bcI S (plM S))]) (rest := []) ⟨hx, hb, hml, hown, hts⟩ M_95 (cwV 2 hts gX6_perform_X6_refundSeats rfl rfl rfl (by decide +kernel) ⟨Nat.le_of_ble_eq_true rfl, Nat.le_of_ble_eq_true rfl⟩) ⟨wrB.bl, va_recv hK hP (ci := 6) (q0 := 0) rfl rfl, fun U hU hW => ⟨rfl, by rw [hU], by rw [hU]; exact hP, hG.warm hW, hD.weaken (fun _ _ _ _ => trivial)⟩⟩ rfl rfl hl.1 rfl (lv_room (Nat.le_of_ble_eq_true rfl)) dX6_perform_95 (by exact ⟨Nat.zero_le _, Nat.zero_le _⟩)) hP hD hS hA [0, 1, 2, 3, 4, 5, 6, 7, 8, 9, 10, 11, 12, 13, 14, 15, 16, 17, 18, 19, 20, 21, 22, 23, 24, 25, 26] [] [0, 1, 2, 3, 4, 5, 6, 7, 8, 9, 10, 11, 12, 13, 14, 15, 16, 17, 18, 19, 20, 21, 22, 23, 24, 25, 26] rfl rfl (by decide) (by decide) (by decide) (fun _ => rfl) (fun r_95 _ H locs hw_95 hP hD hS => ?_)
    subst hw_95
    refine cd_tp (y := rfS (va_up (va_up (va_up (va_up S 17 (pf17 S (plM S) w)) 18 (pf18 S (plM S) w)) 9 (pf9 S (plM S))) 11 (pf11 S (plM S))) w (bcI S (plM S)) (nv (S 31 0))) rfl ?_
    have hP : va_P D vwCl (wC cy h (va_up (va_up (va_up (va_up (va_up (va_up S 17 (pf17 S (plM S) w)) 18 (pf18 S (plM S) w)) 9 (pf9 S (plM S))) 11 (pf11 S (plM S))) 25 (rfF (va_up (va_up (va_up (va_up S 17 (pf17 S (plM S) w)) 18 (pf18 S (plM S) w)) 9 (pf9 S (plM S))) 11 (pf11 S (plM S))) w (bcI S (plM S)) (nv (S 31 0)))) 32 (fun _ => rfM (va_up (va_up (va_up (va_up S 17 (pf17 S (plM S) w)) 18 (pf18 S (plM S) w)) 9 (pf9 S (plM S))) 11 (pf11 S (plM S))) w (bcI S (plM S)) (nv (S 31 0)))) u_13) H := hP
    have hD : va_D A (wC cy h (va_up (va_up (va_up (va_up (va_up (va_up S 17 (pf17 S (plM S) w)) 18 (pf18 S (plM S) w)) 9 (pf9 S (plM S))) 11 (pf11 S (plM S))) 25 (rfF (va_up (va_up (va_up (va_up S 17 (pf17 S (plM S) w)) 18 (pf18 S (plM S) w)) 9 (pf9 S (plM S))) 11 (pf11 S (plM S))) w (bcI S (plM S)) (nv (S 31 0)))) 32 (fun _ => rfM (va_up (va_up (va_up (va_up S 17 (pf17 S (plM S) w)) 18 (pf18 S (plM S) w)) 9 (pf9 S (plM S))) 11 (pf11 S (plM S))) w (bcI S (plM S)) (nv (S 31 0)))) u_13) := hD
    refine cd_tp (y := rfS S w (bcI S (plM S)) (nv (S 31 0))) (rfS_cg _ _ _ _ _ _ _ _) ?_
    rw [show (rfF (va_up (va_up (va_up (va_up S 17 (pf17 S (plM S) w)) 18 (pf18 S (plM S) w)) 9 (pf9 S (plM S))) 11 (pf11 S (plM S))) w (bcI S (plM S)) (nv (S 31 0))) = (rfF S w (bcI S (plM S)) (nv (S 31 0))) from rfF_cg _ _ _ _ _ _ _ _] at hP hD
    have hP : va_P D vwCl (wC cy h (va_up (va_up (va_up (va_up (va_up (va_up S 17 (pf17 S (plM S) w)) 18 (pf18 S (plM S) w)) 9 (pf9 S (plM S))) 11 (pf11 S (plM S))) 25 (rfF S w (bcI S (plM S)) (nv (S 31 0)))) 32 (fun _ => rfM (va_up (va_up (va_up (va_up S 17 (pf17 S (plM S) w)) 18 (pf18 S (plM S) w)) 9 (pf9 S (plM S))) 11 (pf11 S (plM S))) w (bcI S (plM S)) (nv (S 31 0)))) u_13) H := hP
    have hD : va_D A (wC cy h (va_up (va_up (va_up (va_up (va_up (va_up S 17 (pf17 S (plM S) w)) 18 (pf18 S (plM S) w)) 9 (pf9 S (plM S))) 11 (pf11 S (plM S))) 25 (rfF S w (bcI S (plM S)) (nv (S 31 0)))) 32 (fun _ => rfM (va_up (va_up (va_up (va_up S 17 (pf17 S (plM S) w)) 18 (pf18 S (plM S) w)) 9 (pf9 S (plM S))) 11 (pf11 S (plM S))) w (bcI S (plM S)) (nv (S 31 0)))) u_13) := hD
    rw [show ((fun _ => rfM (va_up (va_up (va_up (va_up S 17 (pf17 S (plM S) w)) 18 (pf18 S (plM S) w)) 9 (pf9 S (plM S))) 11 (pf11 S (plM S))) w (bcI S (plM S)) (nv (S 31 0)) : Nat → Int32)) = ((fun _ => rfM S w (bcI S (plM S)) (nv (S 31 0)) : Nat → Int32)) from congrArg (fun (z : Int32) (_ : Nat) => z) (rfM_cg _ _ _ _ _ _ _ _)] at hP hD
    have hP : va_P D vwCl (wC cy h (va_up (va_up (va_up (va_up (va_up (va_up S 17 (pf17 S (plM S) w)) 18 (pf18 S (plM S) w)) 9 (pf9 S (plM S))) 11 (pf11 S (plM S))) 25 (rfF S w (bcI S (plM S)) (nv (S 31 0)))) 32 (fun _ => rfM S w (bcI S (plM S)) (nv (S 31 0)))) u_13) H := hP
    have hD : va_D A (wC cy h (va_up (va_up (va_up (va_up (va_up (va_up S 17 (pf17 S (plM S) w)) 18 (pf18 S (plM S) w)) 9 (pf9 S (plM S))) 11 (pf11 S (plM S))) 25 (rfF S w (bcI S (plM S)) (nv (S 31 0)))) 32 (fun _ => rfM S w (bcI S (plM S)) (nv (S 31 0)))) u_13) := hD
    exact W.iret (v := rfS S w (bcI S (plM S)) (nv (S 31 0))) hx hb hr (fun t ht hW => ⟨⟨_, u_13, rfl, (⟨rfl, hw_13⟩), by rw [ht]; exact hP, hD⟩, hS.F ht⟩) hS.2.2 dX6_perform_98
