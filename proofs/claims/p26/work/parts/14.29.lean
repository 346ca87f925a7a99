set_option maxHeartbeats 4000000 in
set_option maxRecDepth 100000 in
theorem c_X6_chain (l : Launch) (D : va_G) (cy : qT) (h : Nat → Nat) (S : qS) (J : qS) (hI : Inv S) (a : Nat) (d : Nat) (ha1 : a < 12) (hd1 : d ≤ 1000) (hJ : jk J) (sz : Nat) : Met l yX6_chain wsX6_chain ({ frames := 4, cells := 0, slots := 0, locals := 95 }) (va_Pc [.ref (h 0), .int (nI a), .int (nI d)] (wrB D cy (wC cy h S J) sz)) (va_Qi (fun (r9 : Int32) (u : qS) => r9 = chI S (nv (S 4 d)) a ∧ jk u) (wrQ D (va_A (wC cy h S J) sz) (fun u : qS => (wC cy h S u))) (va_A (wC cy h S J) sz)) 0 0 (va_A (wC cy h S J) sz) := by
  refine Met.ofW (cc := cX6_chain) (maxL := 5) (ret := (some .int)) (by decide) rfl ?_
  intro pp e9 s m9 args9 bl9 meth9 c9 s9 B hml hv
  obtain ⟨rfl, hsz, hP, hG, hD0⟩ := hv
  have hx := B.exec
  have hb := B.bytes
  have hr := B.returns
  have hts := atoms_spec (ws := wsX6_chain) B.pre
  have hown : s.vm.findClass RX6 = some m9.cls := findClass_of_methodNamed B.named
  have hlocks := B.notSynchronized
  have hK := hG.K
  subst hsz
  have hD := hD0.self (sz := s.heap.size)
  generalize hAe : (va_A (wC cy h S J) s.heap.size) = A at hD ⊢
  have hA : ∀ q : Nat, s.heap.size ≤ q → A q := fun q h9 => by rw [← hAe]; exact Or.inr h9
  have hS : va_S A s.heap s.heap [] := va_S.rf
  have hP : va_P D vwCl (wC cy h S J) s.heap := hP
  have f_10 := hts (.fieldLink RX6 10 "CastDesk" "troupe" "LCastDesk$Troupe;") (by decide +kernel)
  have f_139 := hts (.fieldLink RX6 139 "CastDesk$Troupe" "ill" "[I") (by decide +kernel)
  have iX4 : ∀ w ∈ wsX40, w ∈ wsX6_chain := by decide +kernel
  have iX6 : ∀ w ∈ wsX60, w ∈ wsX6_chain := by decide +kernel
  have hl := lv_entry ([.ref (h 0), .int (nI a), .int (nI d)]) (n := 5) (Nat.le_of_ble_eq_true rfl)
  rw [lg_entry_eq]
  generalize (lg_sl ([.ref (h 0), .int (nI a), .int (nI d)]) ++ List.replicate (5 - (lg_sl ([.ref (h 0), .int (nI a), .int (nI d)])).length) Slot.unset).toArray = ls at hl ⊢
  have hl : lv_has ls 5 [(0, .ref (h 0)), (1, .int (nI a)), (2, .int (nI d))] := hl
  refine lv_iload_n hx hb dX6_chain_0 rfl (lv_at hl 1 rfl) ?_
  have M_1 := c_X6_needActor l a (by omega)
  refine cd_rov (va_runS (As := [.int (nI a)]) (rest := []) ⟨hx, hb, hml, hown, hts⟩ M_1 (va_cwS 1 hts gX6_chain_X6_needActor rfl rfl rfl (by decide +kernel) ⟨Nat.le_of_ble_eq_true rfl, Nat.le_of_ble_eq_true rfl⟩) ⟨nuB.bl, fun U hU hW => ⟨rfl, trivial⟩⟩ rfl rfl hl.1 rfl (lv_room (Nat.le_of_ble_eq_true rfl)) dX6_chain_1 (by exact ⟨Nat.zero_le _, Nat.zero_le _⟩)) ?_
  refine lv_iload_n hx hb dX6_chain_4 rfl (lv_at hl 2 rfl) ?_
  refine lv_iconst (v := nI 0) hx hb dX6_chain_5 (by decide) ?_
  have M_6 := c_X6_needDay l d 0 (by omega) (by omega)
  refine cd_rov (va_runS (As := [.int (nI d), .int (nI 0)]) (rest := []) ⟨hx, hb, hml, hown, hts⟩ M_6 (va_cwS 2 hts gX6_chain_X6_needDay rfl rfl rfl (by decide +kernel) ⟨Nat.le_of_ble_eq_true rfl, Nat.le_of_ble_eq_true rfl⟩) ⟨nuB.bl, fun U hU hW => ⟨rfl, trivial⟩⟩ rfl rfl hl.1 rfl (lv_room (Nat.le_of_ble_eq_true rfl)) dX6_chain_6 (by exact ⟨Nat.zero_le _, Nat.zero_le _⟩)) ?_
  refine lv_aload_n hx hb dX6_chain_9 rfl (lv_at hl 0 rfl) ?_
  refine lv_aload_n hx hb dX6_chain_10 rfl (lv_at hl 0 rfl) ?_
  refine va_get (D := D) (ci := 6) (v := .ref (h 1)) (C := RX6) (T := TX6) (N := 8) hx hb hts iX6 hown hK hP 0 rfl rfl 0 (by decide) f_10 (fun _ h9 => h9) rfl dX6_chain_11 ?_
  refine va_get (D := D) (ci := 4) (v := .ref (h 4)) (C := RX4) (T := TX4) (N := 3) hx hb hts iX4 hown hK hP 1 rfl rfl 2 (by decide) f_139 (fun _ h9 => h9) rfl dX6_chain_14 ?_
  refine lv_iload_n hx hb dX6_chain_17 rfl (lv_at hl 2 rfl) ?_
  refine cd_iald (f := S 4) hx hb hK hP 4 rfl (by omega) (by decide) dX6_chain_18 ?_
  have b_18 := iv_4 hI d (by omega)
  refine cd_tp (y := nI (nv (S 4 d))) b_18.1 ?_
  have b_18 := b_18.2
  have M_19 := c_X6_bestCast l D cy h S J hI (nv (S 4 d)) (by omega) hJ s.heap.size
  refine cd_fri (S := qS) (W1 := fun u_19 => (wC cy h S u_19)) (ws' := fun u_19 => (wC cy h S u_19)) (wc := (wC cy h S J)) (wr := []) (va_runV (As := [.int (nI (nv (S 4 d)))]) (rest := []) ⟨hx, hb, hml, hown, hts⟩ M_19 (cwV 1 hts gX6_chain_X6_bestCast rfl rfl rfl (by decide +kernel) ⟨Nat.le_of_ble_eq_true rfl, Nat.le_of_ble_eq_true rfl⟩) ⟨wrB.bl, va_recv hK hP (ci := 6) (q0 := 0) rfl rfl, fun U hU hW => ⟨rfl, by rw [hU], by rw [hU]; exact hP, hG.warm hW, hD.weaken (fun _ _ _ _ => trivial)⟩⟩ rfl rfl hl.1 rfl (lv_room (Nat.le_of_ble_eq_true rfl)) dX6_chain_19 (by exact ⟨Nat.zero_le _, Nat.zero_le _⟩)) hP hD hS hA [0, 1, 2, 3, 4, 5, 6, 7, 8, 9, 10, 11, 12, 13, 14, 15, 16, 17, 18, 19, 20, 21, 22, 23, 24, 25, 26] [] [0, 1, 2, 3, 4, 5, 6, 7, 8, 9, 10, 11, 12, 13, 14, 15, 16, 17, 18, 19, 20, 21, 22, 23, 24, 25, 26] rfl rfl (by decide) (by decide) (by decide) (fun _ => rfl) (fun r_19 u_19 H locs hw_19 hP hD hS => ?_)
  obtain ⟨hr_19, hw_19⟩ := hw_19
  subst hr_19
  have hP : va_P D vwCl (wC cy h S u_19) H := hP
  have hD : va_D A (wC cy h S u_19) := hD
  refine lv_istore_n (lv' := [(3, .int (bcI S (nv (S 4 d)))), (0, .ref (h 0)), (1, .int (nI a)), (2, .int (nI d))]) hx hb dX6_chain_22 rfl hl (by decide) rfl (fun ls hl => ?_)
  refine lv_aload_n hx hb dX6_chain_23 rfl (lv_at hl 1 rfl) ?_
  refine lv_aload_n hx hb dX6_chain_24 rfl (lv_at hl 1 rfl) ?_
  refine va_get (D := D) (ci := 6) (v := .ref (h 1)) (C := RX6) (T := TX6) (N := 8) hx hb hts iX6 hown hK hP 0 rfl rfl 0 (by decide) f_10 (fun _ h9 => h9) rfl dX6_chain_25 ?_
  refine va_get (D := D) (ci := 4) (v := .ref (h 4)) (C := RX4) (T := TX4) (N := 3) hx hb hts iX4 hown hK hP 1 rfl rfl 2 (by decide) f_139 (fun _ h9 => h9) rfl dX6_chain_28 ?_
  refine lv_iload_n hx hb dX6_chain_31 rfl (lv_at hl 3 rfl) ?_
  refine cd_iald (f := S 4) hx hb hK hP 4 rfl (by omega) (by decide) dX6_chain_32 ?_
  have b_32 := iv_4 hI d (by omega)
  refine cd_tp (y := nI (nv (S 4 d))) b_32.1 ?_
  have b_32 := b_32.2
  refine lv_iload_n hx hb dX6_chain_33 rfl (lv_at hl 2 rfl) ?_
  have M_34 := c_X6_with l (nv (S 4 d)) a (by omega)
  refine cd_roi (va_runS (As := [.int (nI (nv (S 4 d))), .int (nI a)]) (rest := [.ref (h 0)]) ⟨hx, hb, hml, hown, hts⟩ M_34 (va_cwS 2 hts gX6_chain_X6_with rfl rfl rfl (by decide +kernel) ⟨Nat.le_of_ble_eq_true rfl, Nat.le_of_ble_eq_true rfl⟩) ⟨nuB.bl, fun U hU hW => ⟨rfl, trivial⟩⟩ rfl rfl hl.1 rfl (lv_room (Nat.le_of_ble_eq_true rfl)) dX6_chain_34 (by exact ⟨Nat.zero_le _, Nat.zero_le _⟩)) (fun r_34 hr_34 => ?_)
  subst hr_34
  have M_37 := c_X6_bestCast l D cy h S u_19 hI ((nv (S 4 d)) ||| 2 ^ a) (or_lt (n := 12) (by omega) (by omega)) hw_19 H.size
  refine cd_fri (S := qS) (W1 := fun u_37 => (wC cy h S u_37)) (ws' := fun u_37 => (wC cy h S u_37)) (wc := (wC cy h S u_19)) (wr := []) (va_runV (As := [.int (nI ((nv (S 4 d)) ||| 2 ^ a))]) (rest := []) ⟨hx, hb, hml, hown, hts⟩ M_37 (cwV 1 hts gX6_chain_X6_bestCast rfl rfl rfl (by decide +kernel) ⟨Nat.le_of_ble_eq_true rfl, Nat.le_of_ble_eq_true rfl⟩) ⟨wrB.bl, va_recv hK hP (ci := 6) (q0 := 0) rfl rfl, fun U hU hW => ⟨rfl, by rw [hU], by rw [hU]; exact hP, hG.warm hW, hD.weaken (fun _ _ _ _ => trivial)⟩⟩ rfl rfl hl.1 rfl (lv_room (Nat.le_of_ble_eq_true rfl)) dX6_chain_37 (by exact ⟨Nat.zero_le _, Nat.zero_le _⟩)) hP hD hS hA [0, 1, 2, 3, 4, 5, 6, 7, 8, 9, 10, 11, 12, 13, 14, 15, 16, 17, 18, 19, 20, 21, 22, 23, 24, 25, 26] [] [0, 1, 2, 3, 4, 5, 6, 7, 8, 9, 10, 11, 12, 13, 14, 15, 16, 17, 18, 19, 20, 21, 22, 23, 24, 25, 26] rfl rfl (by decide) (by decide) (by decide) (fun _ => rfl) (fun r_37 u_37 H locs hw_37 hP hD hS => ?_)
  obtain ⟨hr_37, hw_37⟩ := hw_37
  subst hr_37
  have hP : va_P D vwCl (wC cy h S u_37) H := hP
  have hD : va_D A (wC cy h S u_37) := hD
  refine lv_istore (lv' := [(4, .int (bcI S ((nv (S 4 d)) ||| 2 ^ a))), (3, .int (bcI S (nv (S 4 d)))), (0, .ref (h 0)), (1, .int (nI a)), (2, .int (nI d))]) hx hb dX6_chain_40 hl (by decide) rfl (fun ls hl => ?_)
  refine lv_iload_n hx hb dX6_chain_42 rfl (lv_at hl 1 rfl) ?_
  refine lv_iconst (v := (-1)) hx hb dX6_chain_43 (by decide) ?_
  refine lv_icmp_eq (tgt := 53) hx hb dX6_chain_44 (by decide) (fun c_44 => ?_) (fun c_44 => ?_)
  · refine lv_iconst (v := (-1)) hx hb dX6_chain_53 (by decide) ?_
    refine lv_goto (tgt := 64) hx hb dX6_chain_54 (by decide) ?_
    exact W.iret (v := (-1)) hx hb hr (fun t ht hW => ⟨⟨_, u_37, rfl, (⟨by unfold chI; rw [bcI_no hI c_44], hw_37⟩), by rw [ht]; exact hP, hD⟩, hS.F ht⟩) hS.2.2 dX6_chain_64
  · obtain ⟨b, hb0, hb4, hbe, hbk⟩ := bcI_rng hI c_44
    have hl : lv_has ls 5 [(4, .int (bcI S ((nv (S 4 d)) ||| 2 ^ a))), (3, .int (nI (kk S (dg (nv (S 27 0)) b) (nv (S 27 0))))), (0, .ref (h 0)), (1, .int (nI a)), (2, .int (nI d))] := Eq.mp (congrArg (fun z9 : Int32 => lv_has ls 5 [(4, .int (bcI S ((nv (S 4 d)) ||| 2 ^ a))), (3, .int z9), (0, .ref (h 0)), (1, .int (nI a)), (2, .int (nI d))]) (show (bcI S (nv (S 4 d)) : Int32) = nI (kk S (dg (nv (S 27 0)) b) (nv (S 27 0))) from hbe)) hl
    refine lv_iload hx hb dX6_chain_47 (lv_at hl 0 rfl) ?_
    refine lv_iconst (v := (-1)) hx hb dX6_chain_49 (by decide) ?_
    refine lv_icmp_ne (tgt := 57) hx hb dX6_chain_50 (by decide) (fun c_50 => ?_) (fun c_50 => ?_)
    · obtain ⟨z, hz0, hz4, hze, hzk⟩ := bcI_rng hI c_50
      have hl : lv_has ls 5 [(4, .int (nI (kk S (dg (nv (S 27 0)) z) (nv (S 27 0))))), (3, .int (nI (kk S (dg (nv (S 27 0)) b) (nv (S 27 0))))), (0, .ref (h 0)), (1, .int (nI a)), (2, .int (nI d))] := Eq.mp (congrArg (fun z9 : Int32 => lv_has ls 5 [(4, .int z9), (3, .int (nI (kk S (dg (nv (S 27 0)) b) (nv (S 27 0))))), (0, .ref (h 0)), (1, .int (nI a)), (2, .int (nI d))]) (show (bcI S ((nv (S 4 d)) ||| 2 ^ a) : Int32) = nI (kk S (dg (nv (S 27 0)) z) (nv (S 27 0))) from hze)) hl
      refine lv_aload_n hx hb dX6_chain_57 rfl (lv_at hl 2 rfl) ?_
      refine lv_iload_n hx hb dX6_chain_58 rfl (lv_at hl 1 rfl) ?_
      refine lv_iload hx hb dX6_chain_59 (lv_at hl 0 rfl) ?_
      have M_61 := c_X6_countOthers l D cy h S u_37 hI (kk S (dg (nv (S 27 0)) b) (nv (S 27 0))) (kk S (dg (nv (S 27 0)) z) (nv (S 27 0))) (by omega) (by omega)
      refine cd_roi (va_runV (As := [.int (nI (kk S (dg (nv (S 27 0)) b) (nv (S 27 0)))), .int (nI (kk S (dg (nv (S 27 0)) z) (nv (S 27 0))))]) (rest := []) ⟨hx, hb, hml, hown, hts⟩ M_61 (cwV 2 hts gX6_chain_X6_countOthers rfl rfl rfl (by decide +kernel) ⟨Nat.le_of_ble_eq_true rfl, Nat.le_of_ble_eq_true rfl⟩) ⟨roB.bl, va_recv hK hP (ci := 6) (q0 := 0) rfl rfl, fun U hU hW => ⟨rfl, by rw [hU]; exact hP, hG.warm hW⟩⟩ rfl rfl hl.1 rfl (lv_room (Nat.le_of_ble_eq_true rfl)) dX6_chain_61 (by exact ⟨Nat.zero_le _, Nat.zero_le _⟩)) (fun r_61 hr_61 => ?_)
      subst hr_61
      exact W.iret (v := nI (coN S (kk S (dg (nv (S 27 0)) b) (nv (S 27 0))) (kk S (dg (nv (S 27 0)) z) (nv (S 27 0))) (nv (S 27 0)))) hx hb hr (fun t ht hW => ⟨⟨_, u_37, rfl, (⟨by rw [coN_ch hI hb0 hz0 _ (Nat.le_refl _)]; unfold chI; rw [hb0, hz0], hw_37⟩), by rw [ht]; exact hP, hD⟩, hS.F ht⟩) hS.2.2 dX6_chain_64
    · refine lv_iconst (v := (-1)) hx hb dX6_chain_53 (by decide) ?_
      refine lv_goto (tgt := 64) hx hb dX6_chain_54 (by decide) ?_
      exact W.iret (v := (-1)) hx hb hr (fun t ht hW => ⟨⟨_, u_37, rfl, (⟨by unfold chI; rw [hb0, bcI_no hI c_50], hw_37⟩), by rw [ht]; exact hP, hD⟩, hS.F ht⟩) hS.2.2 dX6_chain_64
