set_option maxHeartbeats 4000000 in
set_option maxRecDepth 100000 in
theorem c_X6_chain (l : Launch) (D : va_G) (cy : qT) (hfl : l.stackTraces = false) (h : Nat → Nat) (S : qS) (J : qS) (hI : Inv S) (a : Int32) (d : Int32) (hJ : jk J) (sz : Nat) : vx_Met l yX6_chain wsX6_chain ({ frames := 7, cells := 4, slots := 24, locals := 113 }) (va_Pc [.ref (h 0), .int a, .int d] (thB D cy (wC cy h S J) sz)) (va_Qi (fun (r9 : Int32) (u : qS) => r9 = chI S (nv (S 4 (nv d))) (nv a) ∧ th2 (inI a (nI 0) (nI 11)) (inI d (nI 0) (nI 1000)) = nI 0 ∧ jk u) (wrQ D (va_A (wC cy h S J) sz) (fun u : qS => (wC cy h S u))) (va_A (wC cy h S J) sz)) (nX (fun E => (E = xIO ∧ th2 (inI a (nI 0) (nI 11)) (inI d (nI 0) (nI 1000)) = nI 1) ∨ (E = xIA ∧ th2 (inI a (nI 0) (nI 11)) (inI d (nI 0) (nI 1000)) = nI 2))) 4 24 (va_A (wC cy h S J) sz) := by
  refine vx_ofW (cc := cX6_chain) (maxL := 5) (ret := (some .int)) (by decide) rfl ?_
  intro pp e9 s m9 args9 bl9 meth9 c9 s9 B hml htab hv
  obtain ⟨rfl, ⟨hsz, hP, hG, hD0⟩, hTz⟩ := hv
  have hx := B.exec
  have hb := B.bytes
  have hr := B.returns
  have hts := atoms_spec (ws := wsX6_chain) B.pre
  have hown : s.vm.findClass RX6 = some m9.cls := findClass_of_methodNamed B.named
  have hlocks := B.notSynchronized
  have hK := hG.K
  subst hsz
  have hD := hD0.self (sz := s.heap.size)
  generalize hAe : (va_A (wC cy h S J) s.heap.size) = A at hD hTz ⊢
  have hA : ∀ q : Nat, s.heap.size ≤ q → A q := fun q h9 => by rw [← hAe]; exact Or.inr h9
  have hS : va_S A s.heap s.heap [] := va_S.rf
  have hP : va_P D vwCl (wC cy h S J) s.heap := hP
  have f_10 := hts (.fieldLink RX6 10 "CastDesk" "troupe" "LCastDesk$Troupe;") (by decide +kernel)
  have f_139 := hts (.fieldLink RX6 139 "CastDesk$Troupe" "ill" "[I") (by decide +kernel)
  have iX4 : ∀ w ∈ wsX40, w ∈ wsX6_chain := by decide +kernel
  have iX6 : ∀ w ∈ wsX60, w ∈ wsX6_chain := by decide +kernel
  have hl := lv_entry ([.ref (h 0), .int a, .int d]) (n := 5) (Nat.le_of_ble_eq_true rfl)
  rw [lg_entry_eq]
  generalize (lg_sl ([.ref (h 0), .int a, .int d]) ++ List.replicate (5 - (lg_sl ([.ref (h 0), .int a, .int d])).length) Slot.unset).toArray = ls at hl ⊢
  have hl : lv_has ls 5 [(0, .ref (h 0)), (1, .int a), (2, .int d)] := hl
  refine lv_iload_n hx hb dX6_chain_0 rfl (lv_at hl 1 rfl) ?_
  have M_1 := c_X6_needActor l D cy hfl a s.heap.size
  have hPc : va_P D vwCl [] s.heap := fun k q h9 => by simp at h9
  have hDc : va_D A [] := ⟨fun i j x9 y9 h9 => by simp at h9, fun k q h9 => by simp at h9⟩
  refine cd_xrv (vx_runS (As := [.int a]) (rest := []) ⟨hx, hb, hml, hown, hts⟩ M_1 (va_cwS 1 hts gX6_chain_X6_needActor rfl rfl rfl (by decide +kernel) ⟨Nat.le_of_ble_eq_true rfl, Nat.le_of_ble_eq_true rfl⟩) ⟨thB.bl, fun U hU hW => ⟨rfl, ⟨by rw [hU], by rw [hU]; exact hPc, hG.warm hW, hDc.weaken (fun _ _ _ _ => trivial)⟩, hTz.down hS (vaA_nil (fun q h9 => hA q (Nat.le_trans hS.1 h9))) hU hW⟩⟩ rfl rfl hl.1 rfl (lv_room (Nat.le_of_ble_eq_true rfl)) dX6_chain_1 (by exact ⟨Nat.le_of_ble_eq_true rfl, Nat.le_of_ble_eq_true rfl⟩)) hS (vaA_nil (fun q h9 => hA q (Nat.le_trans hS.1 h9))) (fun E9 ce9 q9 H1 locs1 hw_1 hS1 hz1 hk1 hce hcv hcl => ?_) (fun hw_1 locs hS => ?_)
  · exact vx_out (fun x h9 => (htab x h9).elim) hlocks hce hcv hcl (fun t ht hv9 => ⟨Or.inl (⟨hw_1.1, by rw [hw_1.2]; rfl⟩), by rw [ht]; exact hz1, fun q h9 => by rw [ht]; exact hk1 q h9⟩) hS1.2.2 (by decide) (by decide)
  · obtain ⟨ja, hja, rfl⟩ := inI_nat (by decide) hw_1
    try rw [nv_nI (show ja < 2147483648 by omega)]
    refine lv_iload_n hx hb dX6_chain_4 rfl (lv_at hl 2 rfl) ?_
    refine lv_iconst (v := nI 0) hx hb dX6_chain_5 (by decide) ?_
    have M_6 := c_X6_needDay l D cy hfl d (nI 0) s.heap.size
    have hPc : va_P D vwCl [] s.heap := fun k q h9 => by simp at h9
    have hDc : va_D A [] := ⟨fun i j x9 y9 h9 => by simp at h9, fun k q h9 => by simp at h9⟩
    refine cd_xrv (vx_runS (As := [.int d, .int (nI 0)]) (rest := []) ⟨hx, hb, hml, hown, hts⟩ M_6 (va_cwS 2 hts gX6_chain_X6_needDay rfl rfl rfl (by decide +kernel) ⟨Nat.le_of_ble_eq_true rfl, Nat.le_of_ble_eq_true rfl⟩) ⟨thB.bl, fun U hU hW => ⟨rfl, ⟨by rw [hU], by rw [hU]; exact hPc, hG.warm hW, hDc.weaken (fun _ _ _ _ => trivial)⟩, hTz.down hS (vaA_nil (fun q h9 => hA q (Nat.le_trans hS.1 h9))) hU hW⟩⟩ rfl rfl hl.1 rfl (lv_room (Nat.le_of_ble_eq_true rfl)) dX6_chain_6 (by exact ⟨Nat.le_of_ble_eq_true rfl, Nat.le_of_ble_eq_true rfl⟩)) hS (vaA_nil (fun q h9 => hA q (Nat.le_trans hS.1 h9))) (fun E9 ce9 q9 H1 locs1 hw_6 hS1 hz1 hk1 hce hcv hcl => ?_) (fun hw_6 locs hS => ?_)
    · exact vx_out (fun x h9 => (htab x h9).elim) hlocks hce hcv hcl (fun t ht hv9 => ⟨Or.inr (⟨hw_6.1, by rw [hw_1, hw_6.2]; rfl⟩), by rw [ht]; exact hz1, fun q h9 => by rw [ht]; exact hk1 q h9⟩) hS1.2.2 (by decide) (by decide)
    · obtain ⟨jd, hjd, rfl⟩ := inI_nat (by decide) hw_6
      try rw [nv_nI (show jd < 2147483648 by omega)]
      refine lv_aload_n hx hb dX6_chain_9 rfl (lv_at hl 0 rfl) ?_
      refine lv_aload_n hx hb dX6_chain_10 rfl (lv_at hl 0 rfl) ?_
      refine va_get (D := D) (ci := 6) (v := .ref (h 1)) (C := RX6) (T := TX6) (N := 8) hx hb hts iX6 hown hK hP 0 rfl rfl 0 (by decide) f_10 (fun _ h9 => h9) rfl dX6_chain_11 ?_
      refine va_get (D := D) (ci := 4) (v := .ref (h 4)) (C := RX4) (T := TX4) (N := 3) hx hb hts iX4 hown hK hP 1 rfl rfl 2 (by decide) f_139 (fun _ h9 => h9) rfl dX6_chain_14 ?_
      refine lv_iload_n hx hb dX6_chain_17 rfl (lv_at hl 2 rfl) ?_
      refine cd_iald (f := S 4) hx hb hK hP 4 rfl (by omega) (by decide) dX6_chain_18 ?_
      have b_18 := iv_4 hI jd (by omega)
      refine cd_tp (y := nI (nv (S 4 jd))) b_18.1 ?_
      have b_18 := b_18.2
      have M_19 := c_X6_bestCast l D cy h S J hI (nv (S 4 jd)) (by omega) hJ s.heap.size
      refine cd_fri (S := qS) (W1 := fun u_19 => (wC cy h S u_19)) (ws' := fun u_19 => (wC cy h S u_19)) (wc := (wC cy h S J)) (wr := []) (va_runV (As := [.int (nI (nv (S 4 jd)))]) (rest := []) ⟨hx, hb, hml, hown, hts⟩ M_19 (cwV 1 hts gX6_chain_X6_bestCast rfl rfl rfl (by decide +kernel) ⟨Nat.le_of_ble_eq_true rfl, Nat.le_of_ble_eq_true rfl⟩) ⟨wrB.bl, va_recv hK hP (ci := 6) (q0 := 0) rfl rfl, fun U hU hW => ⟨rfl, by rw [hU], by rw [hU]; exact hP, hG.warm hW, hD.weaken (fun _ _ _ _ => trivial)⟩⟩ rfl rfl hl.1 rfl (lv_room (Nat.le_of_ble_eq_true rfl)) dX6_chain_19 (by exact ⟨Nat.le_of_ble_eq_true rfl, Nat.le_of_ble_eq_true rfl⟩)) hP hD hS hA [0, 1, 2, 3, 4, 5, 6, 7, 8, 9, 10, 11, 12, 13, 14, 15, 16, 17, 18, 19, 20, 21, 22, 23, 24, 25, 26] [] [0, 1, 2, 3, 4, 5, 6, 7, 8, 9, 10, 11, 12, 13, 14, 15, 16, 17, 18, 19, 20, 21, 22, 23, 24, 25, 26] rfl rfl (by decide) (by decide) (by decide) (fun _ => rfl) (fun r_19 u_19 H locs hw_19 hP hD hS => ?_)
      obtain ⟨hr_19, hw_19⟩ := hw_19
      subst hr_19
      have hP : va_P D vwCl (wC cy h S u_19) H := hP
      have hD : va_D A (wC cy h S u_19) := hD
      refine lv_istore_n (lv' := [(3, .int (bcI S (nv (S 4 jd)))), (0, .ref (h 0)), (1, .int (nI ja)), (2, .int (nI jd))]) hx hb dX6_chain_22 rfl hl (by decide) rfl (fun ls hl => ?_)
      refine lv_aload_n hx hb dX6_chain_23 rfl (lv_at hl 1 rfl) ?_
      refine lv_aload_n hx hb dX6_chain_24 rfl (lv_at hl 1 rfl) ?_
      refine va_get (D := D) (ci := 6) (v := .ref (h 1)) (C := RX6) (T := TX6) (N := 8) hx hb hts iX6 hown hK hP 0 rfl rfl 0 (by decide) f_10 (fun _ h9 => h9) rfl dX6_chain_25 ?_
      refine va_get (D := D) (ci := 4) (v := .ref (h 4)) (C := RX4) (T := TX4) (N := 3) hx hb hts iX4 hown hK hP 1 rfl rfl 2 (by decide) f_139 (fun _ h9 => h9) rfl dX6_chain_28 ?_
      refine lv_iload_n hx hb dX6_chain_31 rfl (lv_at hl 3 rfl) ?_
      refine cd_iald (f := S 4) hx hb hK hP 4 rfl (by omega) (by decide) dX6_chain_32 ?_
      have b_32 := iv_4 hI jd (by omega)
      refine cd_tp (y := nI (nv (S 4 jd))) b_32.1 ?_
      have b_32 := b_32.2
      refine lv_iload_n hx hb dX6_chain_33 rfl (lv_at hl 2 rfl) ?_
      have M_34 := c_X6_with l (nv (S 4 jd)) ja (by omega)
      refine cd_roi (va_runS (As := [.int (nI (nv (S 4 jd))), .int (nI ja)]) (rest := [.ref (h 0)]) ⟨hx, hb, hml, hown, hts⟩ M_34 (va_cwS 2 hts gX6_chain_X6_with rfl rfl rfl (by decide +kernel) ⟨Nat.le_of_ble_eq_true rfl, Nat.le_of_ble_eq_true rfl⟩) ⟨nuB.bl, fun U hU hW => ⟨rfl, trivial⟩⟩ rfl rfl hl.1 rfl (lv_room (Nat.le_of_ble_eq_true rfl)) dX6_chain_34 (by exact ⟨Nat.le_of_ble_eq_true rfl, Nat.le_of_ble_eq_true rfl⟩)) (fun r_34 hr_34 => ?_)
      subst hr_34
      have M_37 := c_X6_bestCast l D cy h S u_19 hI ((nv (S 4 jd)) ||| 2 ^ ja) (or_lt (n := 12) (by omega) (by omega)) hw_19 H.size
      refine cd_fri (S := qS) (W1 := fun u_37 => (wC cy h S u_37)) (ws' := fun u_37 => (wC cy h S u_37)) (wc := (wC cy h S u_19)) (wr := []) (va_runV (As := [.int (nI ((nv (S 4 jd)) ||| 2 ^ ja))]) (rest := []) ⟨hx, hb, hml, hown, hts⟩ M_37 (cwV 1 hts gX6_chain_X6_bestCast rfl rfl rfl (by decide +kernel) ⟨Nat.le_of_ble_eq_true rfl, Nat.le_of_ble_eq_true rfl⟩) ⟨wrB.bl, va_recv hK hP (ci := 6) (q0 := 0) rfl rfl, fun U hU hW => ⟨rfl, by rw [hU], by rw [hU]; exact hP, hG.warm hW, hD.weaken (fun _ _ _ _ => trivial)⟩⟩ rfl rfl hl.1 rfl (lv_room (Nat.le_of_ble_eq_true rfl)) dX6_chain_37 (by exact ⟨Nat.le_of_ble_eq_true rfl, Nat.le_of_ble_eq_true rfl⟩)) hP hD hS hA [0, 1, 2, 3, 4, 5, 6, 7, 8, 9, 10, 11, 12, 13, 14, 15, 16, 17, 18, 19, 20, 21, 22, 23, 24, 25, 26] [] [0, 1, 2, 3, 4, 5, 6, 7, 8, 9, 10, 11, 12, 13, 14, 15, 16, 17, 18, 19, 20, 21, 22, 23, 24, 25, 26] rfl rfl (by decide) (by decide) (by decide) (fun _ => rfl) (fun r_37 u_37 H locs hw_37 hP hD hS => ?_)
      obtain ⟨hr_37, hw_37⟩ := hw_37
      subst hr_37
      have hP : va_P D vwCl (wC cy h S u_37) H := hP
      have hD : va_D A (wC cy h S u_37) := hD
      refine lv_istore (lv' := [(4, .int (bcI S ((nv (S 4 jd)) ||| 2 ^ ja))), (3, .int (bcI S (nv (S 4 jd)))), (0, .ref (h 0)), (1, .int (nI ja)), (2, .int (nI jd))]) hx hb dX6_chain_40 hl (by decide) rfl (fun ls hl => ?_)
      refine lv_iload_n hx hb dX6_chain_42 rfl (lv_at hl 1 rfl) ?_
      refine lv_iconst (v := (-1)) hx hb dX6_chain_43 (by decide) ?_
      refine lv_icmp_eq (tgt := 53) hx hb dX6_chain_44 (by decide) (fun c_44 => ?_) (fun c_44 => ?_)
      · refine lv_iconst (v := (-1)) hx hb dX6_chain_53 (by decide) ?_
        refine lv_goto (tgt := 64) hx hb dX6_chain_54 (by decide) ?_
        refine vx_ret ?_
        refine W.widen (k := 4) (n := 24) (by decide) (by decide) ?_
        exact W.iret (v := (-1)) hx hb hr (fun t ht hW => ⟨⟨_, u_37, rfl, (⟨by unfold chI; rw [bcI_no hI c_44], by rw [hw_1, hw_6]; rfl, hw_37⟩), by rw [ht]; exact hP, hD⟩, hS.F ht⟩) hS.2.2 dX6_chain_64
      · obtain ⟨b, hb0, hb4, hbe, hbk⟩ := bcI_rng hI c_44
        have hl : lv_has ls 5 [(4, .int (bcI S ((nv (S 4 jd)) ||| 2 ^ ja))), (3, .int (nI (kk S (dg (nv (S 27 0)) b) (nv (S 27 0))))), (0, .ref (h 0)), (1, .int (nI ja)), (2, .int (nI jd))] := Eq.mp (congrArg (fun z9 : Int32 => lv_has ls 5 [(4, .int (bcI S ((nv (S 4 jd)) ||| 2 ^ ja))), (3, .int z9), (0, .ref (h 0)), (1, .int (nI ja)), (2, .int (nI jd))]) (show (bcI S (nv (S 4 jd)) : Int32) = nI (kk S (dg (nv (S 27 0)) b) (nv (S 27 0))) from hbe)) hl
        refine lv_iload hx hb dX6_chain_47 (lv_at hl 0 rfl) ?_
        refine lv_iconst (v := (-1)) hx hb dX6_chain_49 (by decide) ?_
        refine lv_icmp_ne (tgt := 57) hx hb dX6_chain_50 (by decide) (fun c_50 => ?_) (fun c_50 => ?_)
        · obtain ⟨z, hz0, hz4, hze, hzk⟩ := bcI_rng hI c_50
          have hl : lv_has ls 5 [(4, .int (nI (kk S (dg (nv (S 27 0)) z) (nv (S 27 0))))), (3, .int (nI (kk S (dg (nv (S 27 0)) b) (nv (S 27 0))))), (0, .ref (h 0)), (1, .int (nI ja)), (2, .int (nI jd))] := Eq.mp (congrArg (fun z9 : Int32 => lv_has ls 5 [(4, .int z9), (3, .int (nI (kk S (dg (nv (S 27 0)) b) (nv (S 27 0))))), (0, .ref (h 0)), (1, .int (nI ja)), (2, .int (nI jd))]) (show (bcI S ((nv (S 4 jd)) ||| 2 ^ ja) : Int32) = nI (kk S (dg (nv (S 27 0)) z) (nv (S 27 0))) from hze)) hl
          refine lv_aload_n hx hb dX6_chain_57 rfl (lv_at hl 2 rfl) ?_
          refine lv_iload_n hx hb dX6_chain_58 rfl (lv_at hl 1 rfl) ?_
          refine lv_iload hx hb dX6_chain_59 (lv_at hl 0 rfl) ?_
          have M_61 := c_X6_countOthers l D cy h S u_37 hI (kk S (dg (nv (S 27 0)) b) (nv (S 27 0))) (kk S (dg (nv (S 27 0)) z) (nv (S 27 0))) (by omega) (by omega)
          refine cd_roi (va_runV (As := [.int (nI (kk S (dg (nv (S 27 0)) b) (nv (S 27 0)))), .int (nI (kk S (dg (nv (S 27 0)) z) (nv (S 27 0))))]) (rest := []) ⟨hx, hb, hml, hown, hts⟩ M_61 (cwV 2 hts gX6_chain_X6_countOthers rfl rfl rfl (by decide +kernel) ⟨Nat.le_of_ble_eq_true rfl, Nat.le_of_ble_eq_true rfl⟩) ⟨roB.bl, va_recv hK hP (ci := 6) (q0 := 0) rfl rfl, fun U hU hW => ⟨rfl, by rw [hU]; exact hP, hG.warm hW⟩⟩ rfl rfl hl.1 rfl (lv_room (Nat.le_of_ble_eq_true rfl)) dX6_chain_61 (by exact ⟨Nat.le_of_ble_eq_true rfl, Nat.le_of_ble_eq_true rfl⟩)) (fun r_61 hr_61 => ?_)
          subst hr_61
          refine vx_ret ?_
          refine W.widen (k := 4) (n := 24) (by decide) (by decide) ?_
          exact W.iret (v := nI (coN S (kk S (dg (nv (S 27 0)) b) (nv (S 27 0))) (kk S (dg (nv (S 27 0)) z) (nv (S 27 0))) (nv (S 27 0)))) hx hb hr (fun t ht hW => ⟨⟨_, u_37, rfl, (⟨by rw [coN_ch hI hb0 hz0 _ (Nat.le_refl _)]; unfold chI; rw [hb0, hz0], by rw [hw_1, hw_6]; rfl, hw_37⟩), by rw [ht]; exact hP, hD⟩, hS.F ht⟩) hS.2.2 dX6_chain_64
        · refine lv_iconst (v := (-1)) hx hb dX6_chain_53 (by decide) ?_
          refine lv_goto (tgt := 64) hx hb dX6_chain_54 (by decide) ?_
          refine vx_ret ?_
          refine W.widen (k := 4) (n := 24) (by decide) (by decide) ?_
          exact W.iret (v := (-1)) hx hb hr (fun t ht hW => ⟨⟨_, u_37, rfl, (⟨by unfold chI; rw [hb0, bcI_no hI c_50], by rw [hw_1, hw_6]; rfl, hw_37⟩), by rw [ht]; exact hP, hD⟩, hS.F ht⟩) hS.2.2 dX6_chain_64
