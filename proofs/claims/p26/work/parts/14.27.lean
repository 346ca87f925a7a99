set_option maxHeartbeats 4000000 in
set_option maxRecDepth 100000 in
theorem c_X6_strainByAll (l : Launch) (D : va_G) (cy : qT) (h : Nat → Nat) (S : qS) (J : qS) (hI : Inv S) (d : Nat) (hd1 : d ≤ 1000) (hJ : jk J) (sz : Nat) : Met l yX6_strainByAll wsX6_strainByAll ({ frames := 11, cells := 0, slots := 0, locals := 285 }) (va_Pc [.ref (h 0), .int (nI d)] (wrB D cy (wC cy h S J) sz)) (va_Qi (fun (r9 : Int32) (u : qS) => r9 = bcS S (nv (S 4 d)) ∧ jk u) (wrQ D (va_A (wC cy h S J) sz) (fun u : qS => (wC cy h S u))) (va_A (wC cy h S J) sz)) 0 0 (va_A (wC cy h S J) sz) := by
  refine Met.ofW (cc := cX6_strainByAll) (maxL := 2) (ret := (some .int)) (by decide) rfl ?_
  intro pp e9 s m9 args9 bl9 meth9 c9 s9 B hml hv
  obtain ⟨rfl, hsz, hP, hG, hD0⟩ := hv
  have hx := B.exec
  have hb := B.bytes
  have hr := B.returns
  have hts := atoms_spec (ws := wsX6_strainByAll) B.pre
  have hown : s.vm.findClass RX6 = some m9.cls := findClass_of_methodNamed B.named
  have hlocks := B.notSynchronized
  have hK := hG.K
  subst hsz
  have hD := hD0.self (sz := s.heap.size)
  generalize hAe : (va_A (wC cy h S J) s.heap.size) = A at hD ⊢
  have hA : ∀ q : Nat, s.heap.size ≤ q → A q := fun q h9 => by rw [← hAe]; exact Or.inr h9
  have hS : va_S A s.heap s.heap [] := va_S.rf
  have hP : va_P D vwCl (wC cy h S J) s.heap := hP
  have f_10 := hts (.fieldLink RX6 10 "CastDesk" "troupe" "LCastDesk$Troupe;") (by decide +kernel)
  have f_139 := hts (.fieldLink RX6 139 "CastDesk$Troupe" "ill" "[I") (by decide +kernel)
  have f_33 := hts (.fieldLink RX6 33 "CastDesk" "casting" "LCastDesk$Casting;") (by decide +kernel)
  have f_51 := hts (.fieldLink RX6 51 "CastDesk" "partCount" "I") (by decide +kernel)
  have iX4 : ∀ w ∈ wsX40, w ∈ wsX6_strainByAll := by decide +kernel
  have iX6 : ∀ w ∈ wsX60, w ∈ wsX6_strainByAll := by decide +kernel
  have hl := lv_entry ([.ref (h 0), .int (nI d)]) (n := 2) (Nat.le_of_ble_eq_true rfl)
  rw [lg_entry_eq]
  generalize (lg_sl ([.ref (h 0), .int (nI d)]) ++ List.replicate (2 - (lg_sl ([.ref (h 0), .int (nI d)])).length) Slot.unset).toArray = ls at hl ⊢
  have hl : lv_has ls 2 [(0, .ref (h 0)), (1, .int (nI d))] := hl
  have hn8 : nv (S 27 0) ≤ 8 := by have := (iv_27 hI).1.2; omega
  refine lv_iload_n hx hb dX6_strainByAll_0 rfl (lv_at hl 1 rfl) ?_
  refine lv_iconst (v := nI 0) hx hb dX6_strainByAll_1 (by decide) ?_
  have M_2 := c_X6_needDay l d 0 (by omega) (by omega)
  refine cd_rov (va_runS (As := [.int (nI d), .int (nI 0)]) (rest := []) ⟨hx, hb, hml, hown, hts⟩ M_2 (va_cwS 2 hts gX6_strainByAll_X6_needDay rfl rfl rfl (by decide +kernel) ⟨Nat.le_of_ble_eq_true rfl, Nat.le_of_ble_eq_true rfl⟩) ⟨nuB.bl, fun U hU hW => ⟨rfl, trivial⟩⟩ rfl rfl hl.1 rfl (lv_room (Nat.le_of_ble_eq_true rfl)) dX6_strainByAll_2 (by exact ⟨Nat.zero_le _, Nat.zero_le _⟩)) ?_
  refine lv_aload_n hx hb dX6_strainByAll_5 rfl (lv_at hl 0 rfl) ?_
  refine lv_aload_n hx hb dX6_strainByAll_6 rfl (lv_at hl 0 rfl) ?_
  refine va_get (D := D) (ci := 6) (v := .ref (h 1)) (C := RX6) (T := TX6) (N := 8) hx hb hts iX6 hown hK hP 0 rfl rfl 0 (by decide) f_10 (fun _ h9 => h9) rfl dX6_strainByAll_7 ?_
  refine va_get (D := D) (ci := 4) (v := .ref (h 4)) (C := RX4) (T := TX4) (N := 3) hx hb hts iX4 hown hK hP 1 rfl rfl 2 (by decide) f_139 (fun _ h9 => h9) rfl dX6_strainByAll_10 ?_
  refine lv_iload_n hx hb dX6_strainByAll_13 rfl (lv_at hl 1 rfl) ?_
  refine cd_iald (f := S 4) hx hb hK hP 4 rfl (by omega) (by decide) dX6_strainByAll_14 ?_
  have b_14 := iv_4 hI d (by omega)
  refine cd_tp (y := nI (nv (S 4 d))) b_14.1 ?_
  have b_14 := b_14.2
  have M_15 := c_X6_offerActors l D cy h S J hI (nv (S 4 d)) (by omega) s.heap.size
  refine cd_frv (S := Unit) (W1 := fun u => (wC cy h S (va_up (va_up (va_up J 13 (ofA S (nv (S 4 d)) (clF (J 13) 32) (nv (S 27 0) * 4))) 12 (fun _ => nI (ofB S (nv (S 4 d)) (nv (S 27 0) * 4)))) 14 (ofK S (nv (S 4 d)) (J 14) (nv (S 27 0) * 4))))) (ws' := fun u => (wC cy h S (va_up (va_up (va_up J 13 (ofA S (nv (S 4 d)) (clF ((J 13)) 32) (nv (S 27 0) * 4))) 12 (fun _ => nI (ofB S (nv (S 4 d)) (nv (S 27 0) * 4)))) 14 (ofK S (nv (S 4 d)) ((J 14)) (nv (S 27 0) * 4))))) (wc := (wC cy h S J)) (wr := []) (va_runV (As := [.int (nI (nv (S 4 d)))]) (rest := []) ⟨hx, hb, hml, hown, hts⟩ M_15 (cwV 1 hts gX6_strainByAll_X6_offerActors rfl rfl rfl (by decide +kernel) ⟨Nat.le_of_ble_eq_true rfl, Nat.le_of_ble_eq_true rfl⟩) ⟨wrB.bl, va_recv hK hP (ci := 6) (q0 := 0) rfl rfl, fun U hU hW => ⟨rfl, by rw [hU], by rw [hU]; exact hP, hG.warm hW, hD.weaken (fun _ _ _ _ => trivial)⟩⟩ rfl rfl hl.1 rfl (lv_room (Nat.le_of_ble_eq_true rfl)) dX6_strainByAll_15 (by exact ⟨Nat.zero_le _, Nat.zero_le _⟩)) hP hD hS hA [0, 1, 2, 3, 4, 5, 6, 7, 8, 9, 10, 11, 12, 13, 14, 15, 16, 17, 18, 19, 20, 21, 22, 23, 24, 25, 26] [] [0, 1, 2, 3, 4, 5, 6, 7, 8, 9, 10, 11, 12, 13, 14, 15, 16, 17, 18, 19, 20, 21, 22, 23, 24, 25, 26] rfl rfl (by decide) (by decide) (by decide) (fun _ => rfl) (fun _ H locs hw_15 hP hD hS => ?_)
  have hP : va_P D vwCl (wC cy h S (va_up (va_up (va_up J 13 (ofA S (nv (S 4 d)) (clF ((J 13)) 32) (nv (S 27 0) * 4))) 12 (fun _ => nI (ofB S (nv (S 4 d)) (nv (S 27 0) * 4)))) 14 (ofK S (nv (S 4 d)) ((J 14)) (nv (S 27 0) * 4)))) H := hP
  have hD : va_D A (wC cy h S (va_up (va_up (va_up J 13 (ofA S (nv (S 4 d)) (clF ((J 13)) 32) (nv (S 27 0) * 4))) 12 (fun _ => nI (ofB S (nv (S 4 d)) (nv (S 27 0) * 4)))) 14 (ofK S (nv (S 4 d)) ((J 14)) (nv (S 27 0) * 4)))) := hD
  refine lv_aload_n hx hb dX6_strainByAll_18 rfl (lv_at hl 0 rfl) ?_
  refine va_get (D := D) (ci := 6) (v := .ref (h 12)) (C := RX6) (T := TX6) (N := 8) hx hb hts iX6 hown hK hP 0 rfl rfl 3 (by decide) f_33 (fun _ h9 => h9) rfl dX6_strainByAll_19 ?_
  refine lv_aload_n hx hb dX6_strainByAll_22 rfl (lv_at hl 0 rfl) ?_
  refine va_get (D := D) (ci := 6) (v := .int (S 27 0)) (C := RX6) (T := TX6) (N := 8) hx hb hts iX6 hown hK hP 0 rfl rfl 6 (by decide) f_51 (fun _ h9 => h9) rfl dX6_strainByAll_23 ?_
  have b_23 := (iv_27 hI).1
  refine cd_tp (y := nI (nv (S 27 0))) b_23.1 ?_
  have b_23 := b_23.2
  have M_26 := c_X1_leastStrain l D cy h (va_up (va_up (va_up J 13 (ofA S (nv (S 4 d)) (clF ((J 13)) 32) (nv (S 27 0) * 4))) 12 (fun _ => nI (ofB S (nv (S 4 d)) (nv (S 27 0) * 4)))) 14 (ofK S (nv (S 4 d)) ((J 14)) (nv (S 27 0) * 4))) (nv (S 27 0)) hn8 (ofA_ok hI _ _ (fun i h9 => if_pos h9) _)
  have hPc := hP.sub (ws' := (wX1 cy h (va_up (va_up (va_up J 13 (ofA S (nv (S 4 d)) (clF ((J 13)) 32) (nv (S 27 0) * 4))) 12 (fun _ => nI (ofB S (nv (S 4 d)) (nv (S 27 0) * 4)))) 14 (ofK S (nv (S 4 d)) ((J 14)) (nv (S 27 0) * 4))))) [12, 13, 14, 15] rfl
  refine cd_roi (va_runV (As := [.int (nI (nv (S 27 0)))]) (rest := []) ⟨hx, hb, hml, hown, hts⟩ M_26 (cwV 1 hts gX6_strainByAll_X1_leastStrain rfl rfl rfl (by decide +kernel) ⟨Nat.le_of_ble_eq_true rfl, Nat.le_of_ble_eq_true rfl⟩) ⟨roB.bl, va_recv hK hP (ci := 1) (q0 := 12) rfl rfl, fun U hU hW => ⟨rfl, by rw [hU]; exact hPc, hG.warm hW⟩⟩ rfl rfl hl.1 rfl (lv_room (Nat.le_of_ble_eq_true rfl)) dX6_strainByAll_26 (by exact ⟨Nat.zero_le _, Nat.zero_le _⟩)) (fun r_26 hr_26 => ?_)
  subst hr_26
  refine cd_tp (y := lfF ((ofA S (nv (S 4 d)) (clF ((J 13)) 32) (nv (S 27 0) * 4))) (nv (S 27 0)) 8 0 0) rfl ?_
  exact W.iret (v := lfF ((ofA S (nv (S 4 d)) (clF ((J 13)) 32) (nv (S 27 0) * 4))) (nv (S 27 0)) 8 0 0) hx hb hr (fun t ht hW => ⟨⟨_, (va_up (va_up (va_up J 13 (ofA S (nv (S 4 d)) (clF ((J 13)) 32) (nv (S 27 0) * 4))) 12 (fun _ => nI (ofB S (nv (S 4 d)) (nv (S 27 0) * 4)))) 14 (ofK S (nv (S 4 d)) ((J 14)) (nv (S 27 0) * 4))), rfl, (⟨bc_3 hI _ (fun i h9 => if_pos h9), hJ⟩), by rw [ht]; exact hP, hD⟩, hS.F ht⟩) hS.2.2 dX6_strainByAll_29
