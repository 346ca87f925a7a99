set_option maxHeartbeats 4000000 in
set_option maxRecDepth 100000 in
theorem c_X6_actorFor (l : Launch) (D : va_G) (cy : qT) (h : Nat → Nat) (S : qS) (J : qS) (hI : Inv S) (d : Nat) (p : Nat) (hd1 : d ≤ 1000) (hp1 : p < 8) (hJ : jk J) (sz : Nat) : Met l yX6_actorFor wsX6_actorFor ({ frames := 4, cells := 0, slots := 0, locals := 95 }) (va_Pc [.ref (h 0), .int (nI d), .int (nI p)] (wrB D cy (wC cy h S J) sz)) (va_Qi (fun (r9 : Int32) (u : qS) => r9 = bcA S (nv (S 4 d)) p ∧ jk u) (wrQ D (va_A (wC cy h S J) sz) (fun u : qS => (wC cy h S u))) (va_A (wC cy h S J) sz)) 0 0 (va_A (wC cy h S J) sz) := by
  refine Met.ofW (cc := cX6_actorFor) (maxL := 4) (ret := (some .int)) (by decide) rfl ?_
  intro pp e9 s m9 args9 bl9 meth9 c9 s9 B hml hv
  obtain ⟨rfl, hsz, hP, hG, hD0⟩ := hv
  have hx := B.exec
  have hb := B.bytes
  have hr := B.returns
  have hts := atoms_spec (ws := wsX6_actorFor) B.pre
  have hown : s.vm.findClass RX6 = some m9.cls := findClass_of_methodNamed B.named
  have hlocks := B.notSynchronized
  have hK := hG.K
  subst hsz
  have hD := hD0.self (sz := s.heap.size)
  generalize hAe : (va_A (wC cy h S J) s.heap.size) = A at hD ⊢
  have hA : ∀ q : Nat, s.heap.size ≤ q → A q := fun q h9 => by rw [← hAe]; exact Or.inr h9
  have hS : va_S A s.heap s.heap [] := va_S.rf
  have hP : va_P D vwCl (wC cy h S J) s.heap := hP
  have f_10 := hts (.fieldLink RX6 10 "CastDesk" "troupe" "LCastDesk$Troupe;") (by decide +kernel)
  have f_139 := hts (.fieldLink RX6 139 "CastDesk$Troupe" "ill" "[I") (by decide +kernel)
  have f_51 := hts (.fieldLink RX6 51 "CastDesk" "partCount" "I") (by decide +kernel)
  have iX4 : ∀ w ∈ wsX40, w ∈ wsX6_actorFor := by decide +kernel
  have iX6 : ∀ w ∈ wsX60, w ∈ wsX6_actorFor := by decide +kernel
  have hl := lv_entry ([.ref (h 0), .int (nI d), .int (nI p)]) (n := 4) (Nat.le_of_ble_eq_true rfl)
  rw [lg_entry_eq]
  generalize (lg_sl ([.ref (h 0), .int (nI d), .int (nI p)]) ++ List.replicate (4 - (lg_sl ([.ref (h 0), .int (nI d), .int (nI p)])).length) Slot.unset).toArray = ls at hl ⊢
  have hl : lv_has ls 4 [(0, .ref (h 0)), (1, .int (nI d)), (2, .int (nI p))] := hl
  have hn8 : nv (S 27 0) ≤ 8 := by have := (iv_27 hI).1.2; omega
  refine lv_iload_n hx hb dX6_actorFor_0 rfl (lv_at hl 2 rfl) ?_
  have M_1 := c_X6_needPart l p (by omega)
  refine cd_rov (va_runS (As := [.int (nI p)]) (rest := []) ⟨hx, hb, hml, hown, hts⟩ M_1 (va_cwS 1 hts gX6_actorFor_X6_needPart rfl rfl rfl (by decide +kernel) ⟨Nat.le_of_ble_eq_true rfl, Nat.le_of_ble_eq_true rfl⟩) ⟨nuB.bl, fun U hU hW => ⟨rfl, trivial⟩⟩ rfl rfl hl.1 rfl (lv_room (Nat.le_of_ble_eq_true rfl)) dX6_actorFor_1 (by exact ⟨Nat.zero_le _, Nat.zero_le _⟩)) ?_
  refine lv_iload_n hx hb dX6_actorFor_4 rfl (lv_at hl 1 rfl) ?_
  refine lv_iconst (v := nI 0) hx hb dX6_actorFor_5 (by decide) ?_
  have M_6 := c_X6_needDay l d 0 (by omega) (by omega)
  refine cd_rov (va_runS (As := [.int (nI d), .int (nI 0)]) (rest := []) ⟨hx, hb, hml, hown, hts⟩ M_6 (va_cwS 2 hts gX6_actorFor_X6_needDay rfl rfl rfl (by decide +kernel) ⟨Nat.le_of_ble_eq_true rfl, Nat.le_of_ble_eq_true rfl⟩) ⟨nuB.bl, fun U hU hW => ⟨rfl, trivial⟩⟩ rfl rfl hl.1 rfl (lv_room (Nat.le_of_ble_eq_true rfl)) dX6_actorFor_6 (by exact ⟨Nat.zero_le _, Nat.zero_le _⟩)) ?_
  refine lv_aload_n hx hb dX6_actorFor_9 rfl (lv_at hl 0 rfl) ?_
  refine lv_aload_n hx hb dX6_actorFor_10 rfl (lv_at hl 0 rfl) ?_
  refine va_get (D := D) (ci := 6) (v := .ref (h 1)) (C := RX6) (T := TX6) (N := 8) hx hb hts iX6 hown hK hP 0 rfl rfl 0 (by decide) f_10 (fun _ h9 => h9) rfl dX6_actorFor_11 ?_
  refine va_get (D := D) (ci := 4) (v := .ref (h 4)) (C := RX4) (T := TX4) (N := 3) hx hb hts iX4 hown hK hP 1 rfl rfl 2 (by decide) f_139 (fun _ h9 => h9) rfl dX6_actorFor_14 ?_
  refine lv_iload_n hx hb dX6_actorFor_17 rfl (lv_at hl 1 rfl) ?_
  refine cd_iald (f := S 4) hx hb hK hP 4 rfl (by omega) (by decide) dX6_actorFor_18 ?_
  have b_18 := iv_4 hI d (by omega)
  refine cd_tp (y := nI (nv (S 4 d))) b_18.1 ?_
  have b_18 := b_18.2
  have M_19 := c_X6_bestCast l D cy h S J hI (nv (S 4 d)) (by omega) hJ s.heap.size
  refine cd_fri (S := qS) (W1 := fun u_19 => (wC cy h S u_19)) (ws' := fun u_19 => (wC cy h S u_19)) (wc := (wC cy h S J)) (wr := []) (va_runV (As := [.int (nI (nv (S 4 d)))]) (rest := []) ⟨hx, hb, hml, hown, hts⟩ M_19 (cwV 1 hts gX6_actorFor_X6_bestCast rfl rfl rfl (by decide +kernel) ⟨Nat.le_of_ble_eq_true rfl, Nat.le_of_ble_eq_true rfl⟩) ⟨wrB.bl, va_recv hK hP (ci := 6) (q0 := 0) rfl rfl, fun U hU hW => ⟨rfl, by rw [hU], by rw [hU]; exact hP, hG.warm hW, hD.weaken (fun _ _ _ _ => trivial)⟩⟩ rfl rfl hl.1 rfl (lv_room (Nat.le_of_ble_eq_true rfl)) dX6_actorFor_19 (by exact ⟨Nat.zero_le _, Nat.zero_le _⟩)) hP hD hS hA [0, 1, 2, 3, 4, 5, 6, 7, 8, 9, 10, 11, 12, 13, 14, 15, 16, 17, 18, 19, 20, 21, 22, 23, 24, 25, 26] [] [0, 1, 2, 3, 4, 5, 6, 7, 8, 9, 10, 11, 12, 13, 14, 15, 16, 17, 18, 19, 20, 21, 22, 23, 24, 25, 26] rfl rfl (by decide) (by decide) (by decide) (fun _ => rfl) (fun r_19 u_19 H locs hw_19 hP hD hS => ?_)
  obtain ⟨hr_19, hw_19⟩ := hw_19
  subst hr_19
  have hP : va_P D vwCl (wC cy h S u_19) H := hP
  have hD : va_D A (wC cy h S u_19) := hD
  refine lv_istore_n (lv' := [(3, .int (bcI S (nv (S 4 d)))), (0, .ref (h 0)), (1, .int (nI d)), (2, .int (nI p))]) hx hb dX6_actorFor_22 rfl hl (by decide) rfl (fun ls hl => ?_)
  refine lv_iload_n hx hb dX6_actorFor_23 rfl (lv_at hl 0 rfl) ?_
  refine lv_iconst (v := (-1)) hx hb dX6_actorFor_24 (by decide) ?_
  refine lv_icmp_eq (tgt := 36) hx hb dX6_actorFor_25 (by decide) (fun c_25 => ?_) (fun c_25 => ?_)
  · refine lv_iconst (v := (-1)) hx hb dX6_actorFor_36 (by decide) ?_
    refine lv_goto (tgt := 46) hx hb dX6_actorFor_37 (by decide) ?_
    exact W.iret (v := (-1)) hx hb hr (fun t ht hW => ⟨⟨_, u_19, rfl, (⟨by unfold bcA; rw [bcI_no hI c_25], hw_19⟩), by rw [ht]; exact hP, hD⟩, hS.F ht⟩) hS.2.2 dX6_actorFor_46
  · obtain ⟨b, hb0, hb4, hbe, hbk⟩ := bcI_rng hI c_25
    have hl : lv_has ls 4 [(3, .int (nI (kk S (dg (nv (S 27 0)) b) (nv (S 27 0))))), (0, .ref (h 0)), (1, .int (nI d)), (2, .int (nI p))] := Eq.mp (congrArg (fun z9 : Int32 => lv_has ls 4 [(3, .int z9), (0, .ref (h 0)), (1, .int (nI d)), (2, .int (nI p))]) (show (bcI S (nv (S 4 d)) : Int32) = nI (kk S (dg (nv (S 27 0)) b) (nv (S 27 0))) from hbe)) hl
    refine lv_iload_n hx hb dX6_actorFor_28 rfl (lv_at hl 3 rfl) ?_
    refine lv_aload_n hx hb dX6_actorFor_29 rfl (lv_at hl 1 rfl) ?_
    refine va_get (D := D) (ci := 6) (v := .int (S 27 0)) (C := RX6) (T := TX6) (N := 8) hx hb hts iX6 hown hK hP 0 rfl rfl 6 (by decide) f_51 (fun _ h9 => h9) rfl dX6_actorFor_30 ?_
    have b_30 := (iv_27 hI).1
    refine cd_tp (y := nI (nv (S 27 0))) b_30.1 ?_
    have b_30 := b_30.2
    refine cd_icmp_lt (tgt := 40) hx hb dX6_actorFor_33 (by decide) (by omega) (by omega) (fun c_33 => ?_) (fun c_33 => ?_)
    · refine lv_aload_n hx hb dX6_actorFor_40 rfl (lv_at hl 1 rfl) ?_
      refine lv_iload_n hx hb dX6_actorFor_41 rfl (lv_at hl 0 rfl) ?_
      refine lv_iload_n hx hb dX6_actorFor_42 rfl (lv_at hl 3 rfl) ?_
      have M_43 := c_X6_actorIn l D cy h S u_19 hI (kk S (dg (nv (S 27 0)) b) (nv (S 27 0))) p (by omega) (by omega)
      refine cd_roi (va_runV (As := [.int (nI (kk S (dg (nv (S 27 0)) b) (nv (S 27 0)))), .int (nI p)]) (rest := []) ⟨hx, hb, hml, hown, hts⟩ M_43 (cwV 2 hts gX6_actorFor_X6_actorIn rfl rfl rfl (by decide +kernel) ⟨Nat.le_of_ble_eq_true rfl, Nat.le_of_ble_eq_true rfl⟩) ⟨roB.bl, va_recv hK hP (ci := 6) (q0 := 0) rfl rfl, fun U hU hW => ⟨rfl, by rw [hU]; exact hP, hG.warm hW⟩⟩ rfl rfl hl.1 rfl (lv_room (Nat.le_of_ble_eq_true rfl)) dX6_actorFor_43 (by exact ⟨Nat.zero_le _, Nat.zero_le _⟩)) (fun r_43 hr_43 => ?_)
      subst hr_43
      exact W.iret (v := acI S p ((kk S (dg (nv (S 27 0)) b) (nv (S 27 0))) / 2 ^ ((7 - p) * 2) &&& 3)) hx hb hr (fun t ht hW => ⟨⟨_, u_19, rfl, (⟨(bcA_at hI hb0 (by omega)).1, hw_19⟩), by rw [ht]; exact hP, hD⟩, hS.F ht⟩) hS.2.2 dX6_actorFor_46
    · refine lv_iconst (v := (-1)) hx hb dX6_actorFor_36 (by decide) ?_
      refine lv_goto (tgt := 46) hx hb dX6_actorFor_37 (by decide) ?_
      exact W.iret (v := (-1)) hx hb hr (fun t ht hW => ⟨⟨_, u_19, rfl, (⟨by unfold bcA; rw [hb0]; exact (if_neg (show ¬ p < nv (S 27 0) by omega)).symm, hw_19⟩), by rw [ht]; exact hP, hD⟩, hS.F ht⟩) hS.2.2 dX6_actorFor_46
