set_option maxHeartbeats 4000000 in
set_option maxRecDepth 100000 in
theorem c_X6_strain (l : Launch) (D : va_G) (cy : qT) (h : Nat → Nat) (S : qS) (J : qS) (hI : Inv S) (d : Nat) (hd1 : d ≤ 1000) (hJ : jk J) (sz : Nat) : Met l yX6_strain wsX6_strain ({ frames := 4, cells := 0, slots := 0, locals := 95 }) (va_Pc [.ref (h 0), .int (nI d)] (wrB D cy (wC cy h S J) sz)) (va_Qi (fun (r9 : Int32) (u : qS) => r9 = bcS S (nv (S 4 d)) ∧ jk u) (wrQ D (va_A (wC cy h S J) sz) (fun u : qS => (wC cy h S u))) (va_A (wC cy h S J) sz)) 0 0 (va_A (wC cy h S J) sz) := by
  refine Met.ofW (cc := cX6_strain) (maxL := 3) (ret := (some .int)) (by decide) rfl ?_
  intro pp e9 s m9 args9 bl9 meth9 c9 s9 B hml hv
  obtain ⟨rfl, hsz, hP, hG, hD0⟩ := hv
  have hx := B.exec
  have hb := B.bytes
  have hr := B.returns
  have hts := atoms_spec (ws := wsX6_strain) B.pre
  have hown : s.vm.findClass RX6 = some m9.cls := findClass_of_methodNamed B.named
  have hlocks := B.notSynchronized
  have hK := hG.K
  subst hsz
  have hD := hD0.self (sz := s.heap.size)
  generalize hAe : (va_A (wC cy h S J) s.heap.size) = A at hD ⊢
  have hA : ∀ q : Nat, s.heap.size ≤ q → A q := fun q h9 => by rw [← hAe]; exact Or.inr h9
  have hS : va_S A s.heap s.heap [] := va_S.rf
  have hP : va_P D vwCl (wC cy h S J) s.heap := hP
  have f_10 := hts (.fieldLink RX6 10 "CastDesk" "troupe" "LCastDesk$Troupe;") (by decide +kernel)
  have f_139 := hts (.fieldLink RX6 139 "CastDesk$Troupe" "ill" "[I") (by decide +kernel)
  have iX4 : ∀ w ∈ wsX40, w ∈ wsX6_strain := by decide +kernel
  have iX6 : ∀ w ∈ wsX60, w ∈ wsX6_strain := by decide +kernel
  have hl := lv_entry ([.ref (h 0), .int (nI d)]) (n := 3) (Nat.le_of_ble_eq_true rfl)
  rw [lg_entry_eq]
  generalize (lg_sl ([.ref (h 0), .int (nI d)]) ++ List.replicate (3 - (lg_sl ([.ref (h 0), .int (nI d)])).length) Slot.unset).toArray = ls at hl ⊢
  have hl : lv_has ls 3 [(0, .ref (h 0)), (1, .int (nI d))] := hl
  have hn8 : nv (S 27 0) ≤ 8 := by have := (iv_27 hI).1.2; omega
  refine lv_iload_n hx hb dX6_strain_0 rfl (lv_at hl 1 rfl) ?_
  refine lv_iconst (v := nI 0) hx hb dX6_strain_1 (by decide) ?_
  have M_2 := c_X6_needDay l d 0 (by omega) (by omega)
  refine cd_rov (va_runS (As := [.int (nI d), .int (nI 0)]) (rest := []) ⟨hx, hb, hml, hown, hts⟩ M_2 (va_cwS 2 hts gX6_strain_X6_needDay rfl rfl rfl (by decide +kernel) ⟨Nat.le_of_ble_eq_true rfl, Nat.le_of_ble_eq_true rfl⟩) ⟨nuB.bl, fun U hU hW => ⟨rfl, trivial⟩⟩ rfl rfl hl.1 rfl (lv_room (Nat.le_of_ble_eq_true rfl)) dX6_strain_2 (by exact ⟨Nat.zero_le _, Nat.zero_le _⟩)) ?_
  refine lv_aload_n hx hb dX6_strain_5 rfl (lv_at hl 0 rfl) ?_
  refine lv_aload_n hx hb dX6_strain_6 rfl (lv_at hl 0 rfl) ?_
  refine va_get (D := D) (ci := 6) (v := .ref (h 1)) (C := RX6) (T := TX6) (N := 8) hx hb hts iX6 hown hK hP 0 rfl rfl 0 (by decide) f_10 (fun _ h9 => h9) rfl dX6_strain_7 ?_
  refine va_get (D := D) (ci := 4) (v := .ref (h 4)) (C := RX4) (T := TX4) (N := 3) hx hb hts iX4 hown hK hP 1 rfl rfl 2 (by decide) f_139 (fun _ h9 => h9) rfl dX6_strain_10 ?_
  refine lv_iload_n hx hb dX6_strain_13 rfl (lv_at hl 1 rfl) ?_
  refine cd_iald (f := S 4) hx hb hK hP 4 rfl (by omega) (by decide) dX6_strain_14 ?_
  have b_14 := iv_4 hI d (by omega)
  refine cd_tp (y := nI (nv (S 4 d))) b_14.1 ?_
  have b_14 := b_14.2
  have M_15 := c_X6_bestCast l D cy h S J hI (nv (S 4 d)) (by omega) hJ s.heap.size
  refine cd_fri (S := qS) (W1 := fun u_15 => (wC cy h S u_15)) (ws' := fun u_15 => (wC cy h S u_15)) (wc := (wC cy h S J)) (wr := []) (va_runV (As := [.int (nI (nv (S 4 d)))]) (rest := []) ⟨hx, hb, hml, hown, hts⟩ M_15 (cwV 1 hts gX6_strain_X6_bestCast rfl rfl rfl (by decide +kernel) ⟨Nat.le_of_ble_eq_true rfl, Nat.le_of_ble_eq_true rfl⟩) ⟨wrB.bl, va_recv hK hP (ci := 6) (q0 := 0) rfl rfl, fun U hU hW => ⟨rfl, by rw [hU], by rw [hU]; exact hP, hG.warm hW, hD.weaken (fun _ _ _ _ => trivial)⟩⟩ rfl rfl hl.1 rfl (lv_room (Nat.le_of_ble_eq_true rfl)) dX6_strain_15 (by exact ⟨Nat.zero_le _, Nat.zero_le _⟩)) hP hD hS hA [0, 1, 2, 3, 4, 5, 6, 7, 8, 9, 10, 11, 12, 13, 14, 15, 16, 17, 18, 19, 20, 21, 22, 23, 24, 25, 26] [] [0, 1, 2, 3, 4, 5, 6, 7, 8, 9, 10, 11, 12, 13, 14, 15, 16, 17, 18, 19, 20, 21, 22, 23, 24, 25, 26] rfl rfl (by decide) (by decide) (by decide) (fun _ => rfl) (fun r_15 u_15 H locs hw_15 hP hD hS => ?_)
  obtain ⟨hr_15, hw_15⟩ := hw_15
  subst hr_15
  have hP : va_P D vwCl (wC cy h S u_15) H := hP
  have hD : va_D A (wC cy h S u_15) := hD
  refine lv_istore_n (lv' := [(2, .int (bcI S (nv (S 4 d)))), (0, .ref (h 0)), (1, .int (nI d))]) hx hb dX6_strain_18 rfl hl (by decide) rfl (fun ls hl => ?_)
  refine lv_iload_n hx hb dX6_strain_19 rfl (lv_at hl 0 rfl) ?_
  refine lv_iconst (v := (-1)) hx hb dX6_strain_20 (by decide) ?_
  refine lv_icmp_ne (tgt := 28) hx hb dX6_strain_21 (by decide) (fun c_21 => ?_) (fun c_21 => ?_)
  · obtain ⟨b, hb0, hb4, hbe, hbk⟩ := bcI_rng hI c_21
    have hl : lv_has ls 3 [(2, .int (nI (kk S (dg (nv (S 27 0)) b) (nv (S 27 0))))), (0, .ref (h 0)), (1, .int (nI d))] := Eq.mp (congrArg (fun z9 : Int32 => lv_has ls 3 [(2, .int z9), (0, .ref (h 0)), (1, .int (nI d))]) (show (bcI S (nv (S 4 d)) : Int32) = nI (kk S (dg (nv (S 27 0)) b) (nv (S 27 0))) from hbe)) hl
    refine lv_iload_n hx hb dX6_strain_28 rfl (lv_at hl 0 rfl) ?_
    have M_29 := c_X1_strainOf l (kk S (dg (nv (S 27 0)) b) (nv (S 27 0))) (by omega)
    refine cd_roi (va_runS (As := [.int (nI (kk S (dg (nv (S 27 0)) b) (nv (S 27 0))))]) (rest := []) ⟨hx, hb, hml, hown, hts⟩ M_29 (va_cwS 1 hts gX6_strain_X1_strainOf rfl rfl rfl (by decide +kernel) ⟨Nat.le_of_ble_eq_true rfl, Nat.le_of_ble_eq_true rfl⟩) ⟨nuB.bl, fun U hU hW => ⟨rfl, trivial⟩⟩ rfl rfl hl.1 rfl (lv_room (Nat.le_of_ble_eq_true rfl)) dX6_strain_29 (by exact ⟨Nat.zero_le _, Nat.zero_le _⟩)) (fun r_29 hr_29 => ?_)
    subst hr_29
    exact W.iret (v := nI ((kk S (dg (nv (S 27 0)) b) (nv (S 27 0))) / 2 ^ 20)) hx hb hr (fun t ht hW => ⟨⟨_, u_15, rfl, (⟨by rw [key_s hn8 hb4]; unfold bcS; rw [hb0], hw_15⟩), by rw [ht]; exact hP, hD⟩, hS.F ht⟩) hS.2.2 dX6_strain_32
  · refine lv_iconst (v := (-1)) hx hb dX6_strain_24 (by decide) ?_
    refine lv_goto (tgt := 32) hx hb dX6_strain_25 (by decide) ?_
    exact W.iret (v := (-1)) hx hb hr (fun t ht hW => ⟨⟨_, u_15, rfl, (⟨by unfold bcS; rw [bcI_no hI c_21], hw_15⟩), by rw [ht]; exact hP, hD⟩, hS.F ht⟩) hS.2.2 dX6_strain_32
