set_option maxHeartbeats 4000000 in
set_option maxRecDepth 100000 in
theorem c_X6_canPlay (l : Launch) (D : va_G) (cy : qT) (hfl : l.stackTraces = false) (h : Nat → Nat) (S : qS) (J : qS) (hI : Inv S) (a : Int32) (p : Int32) (d : Int32) (hJ : jk J) (sz : Nat) : vx_Met l yX6_canPlay wsX6_canPlay ({ frames := 7, cells := 4, slots := 24, locals := 113 }) (va_Pc [.ref (h 0), .int a, .int p, .int d] (thB D cy (wC cy h S J) sz)) (va_Qi (fun (r9 : Int32) (u : qS) => r9 = bI (rkB S (nv p) a && rdy S (nv a) (nv p) (nv (S 4 (nv d)))) ∧ th2 (inI a (nI 0) (nI 11) && inI p (nI 0) (nI 7)) (inI d (nI 0) (nI 1000)) = nI 0 ∧ jk u) (wrQ D (va_A (wC cy h S J) sz) (fun u : qS => (wC cy h S u))) (va_A (wC cy h S J) sz)) (nX (fun E => (E = xIO ∧ th2 (inI a (nI 0) (nI 11) && inI p (nI 0) (nI 7)) (inI d (nI 0) (nI 1000)) = nI 1) ∨ (E = xIA ∧ th2 (inI a (nI 0) (nI 11) && inI p (nI 0) (nI 7)) (inI d (nI 0) (nI 1000)) = nI 2))) 4 24 (va_A (wC cy h S J) sz) := by
  refine vx_ofW (cc := cX6_canPlay) (maxL := 4) (ret := (some .boolean)) (by decide) rfl ?_
  intro pp e9 s m9 args9 bl9 meth9 c9 s9 B hml htab hv
  obtain ⟨rfl, ⟨hsz, hP, hG, hD0⟩, hTz⟩ := hv
  have hx := B.exec
  have hb := B.bytes
  have hr := B.returns
  have hts := atoms_spec (ws := wsX6_canPlay) B.pre
  have hown : s.vm.findClass RX6 = some m9.cls := findClass_of_methodNamed B.named
  have hlocks := B.notSynchronized
  have hK := hG.K
  subst hsz
  have hD := hD0.self (sz := s.heap.size)
  generalize hAe : (va_A (wC cy h S J) s.heap.size) = A at hD hTz ⊢
  have hA : ∀ q : Nat, s.heap.size ≤ q → A q := fun q h9 => by rw [← hAe]; exact Or.inr h9
  have hS : va_S A s.heap s.heap [] := va_S.rf
  have hP : va_P D vwCl (wC cy h S J) s.heap := hP
  have f_19 := hts (.fieldLink RX6 19 "CastDesk" "rows" "LCastDesk$Rows;") (by decide +kernel)
  have f_10 := hts (.fieldLink RX6 10 "CastDesk" "troupe" "LCastDesk$Troupe;") (by decide +kernel)
  have f_139 := hts (.fieldLink RX6 139 "CastDesk$Troupe" "ill" "[I") (by decide +kernel)
  have iX4 : ∀ w ∈ wsX40, w ∈ wsX6_canPlay := by decide +kernel
  have iX6 : ∀ w ∈ wsX60, w ∈ wsX6_canPlay := by decide +kernel
  have hl := lv_entry ([.ref (h 0), .int a, .int p, .int d]) (n := 4) (Nat.le_of_ble_eq_true rfl)
  rw [lg_entry_eq]
  generalize (lg_sl ([.ref (h 0), .int a, .int p, .int d]) ++ List.replicate (4 - (lg_sl ([.ref (h 0), .int a, .int p, .int d])).length) Slot.unset).toArray = ls at hl ⊢
  have hl : lv_has ls 4 [(0, .ref (h 0)), (1, .int a), (2, .int p), (3, .int d)] := hl
  refine lv_iload_n hx hb dX6_canPlay_0 rfl (lv_at hl 1 rfl) ?_
  have M_1 := c_X6_needActor l D cy hfl a s.heap.size
  have hPc : va_P D vwCl [] s.heap := fun k q h9 => by simp at h9
  have hDc : va_D A [] := ⟨fun i j x9 y9 h9 => by simp at h9, fun k q h9 => by simp at h9⟩
  refine cd_xrv (vx_runS (As := [.int a]) (rest := []) ⟨hx, hb, hml, hown, hts⟩ M_1 (va_cwS 1 hts gX6_canPlay_X6_needActor rfl rfl rfl (by decide +kernel) ⟨Nat.le_of_ble_eq_true rfl, Nat.le_of_ble_eq_true rfl⟩) ⟨thB.bl, fun U hU hW => ⟨rfl, ⟨by rw [hU], by rw [hU]; exact hPc, hG.warm hW, hDc.weaken (fun _ _ _ _ => trivial)⟩, hTz.down hS (vaA_nil (fun q h9 => hA q (Nat.le_trans hS.1 h9))) hU hW⟩⟩ rfl rfl hl.1 rfl (lv_room (Nat.le_of_ble_eq_true rfl)) dX6_canPlay_1 (by exact ⟨Nat.le_of_ble_eq_true rfl, Nat.le_of_ble_eq_true rfl⟩)) hS (vaA_nil (fun q h9 => hA q (Nat.le_trans hS.1 h9))) (fun E9 ce9 q9 H1 locs1 hw_1 hS1 hz1 hk1 hce hcv hcl => ?_) (fun hw_1 locs hS => ?_)
  · exact vx_out (fun x h9 => (htab x h9).elim) hlocks hce hcv hcl (fun t ht hv9 => ⟨Or.inl (⟨hw_1.1, by rw [hw_1.2]; rfl⟩), by rw [ht]; exact hz1, fun q h9 => by rw [ht]; exact hk1 q h9⟩) hS1.2.2 (by decide) (by decide)
  · obtain ⟨ja, hja, rfl⟩ := inI_nat (by decide) hw_1
    try rw [nv_nI (show ja < 2147483648 by omega)]
    refine lv_iload_n hx hb dX6_canPlay_4 rfl (lv_at hl 2 rfl) ?_
    have M_5 := c_X6_needPart l D cy hfl p s.heap.size
    have hPc : va_P D vwCl [] s.heap := fun k q h9 => by simp at h9
    have hDc : va_D A [] := ⟨fun i j x9 y9 h9 => by simp at h9, fun k q h9 => by simp at h9⟩
    refine cd_xrv (vx_runS (As := [.int p]) (rest := []) ⟨hx, hb, hml, hown, hts⟩ M_5 (va_cwS 1 hts gX6_canPlay_X6_needPart rfl rfl rfl (by decide +kernel) ⟨Nat.le_of_ble_eq_true rfl, Nat.le_of_ble_eq_true rfl⟩) ⟨thB.bl, fun U hU hW => ⟨rfl, ⟨by rw [hU], by rw [hU]; exact hPc, hG.warm hW, hDc.weaken (fun _ _ _ _ => trivial)⟩, hTz.down hS (vaA_nil (fun q h9 => hA q (Nat.le_trans hS.1 h9))) hU hW⟩⟩ rfl rfl hl.1 rfl (lv_room (Nat.le_of_ble_eq_true rfl)) dX6_canPlay_5 (by exact ⟨Nat.le_of_ble_eq_true rfl, Nat.le_of_ble_eq_true rfl⟩)) hS (vaA_nil (fun q h9 => hA q (Nat.le_trans hS.1 h9))) (fun E9 ce9 q9 H1 locs1 hw_5 hS1 hz1 hk1 hce hcv hcl => ?_) (fun hw_5 locs hS => ?_)
    · exact vx_out (fun x h9 => (htab x h9).elim) hlocks hce hcv hcl (fun t ht hv9 => ⟨Or.inl (⟨hw_5.1, by rw [hw_1, hw_5.2]; rfl⟩), by rw [ht]; exact hz1, fun q h9 => by rw [ht]; exact hk1 q h9⟩) hS1.2.2 (by decide) (by decide)
    · obtain ⟨jp, hjp, rfl⟩ := inI_nat (by decide) hw_5
      try rw [nv_nI (show jp < 2147483648 by omega)]
      refine lv_iload_n hx hb dX6_canPlay_8 rfl (lv_at hl 3 rfl) ?_
      refine lv_iconst (v := nI 0) hx hb dX6_canPlay_9 (by decide) ?_
      have M_10 := c_X6_needDay l D cy hfl d (nI 0) s.heap.size
      have hPc : va_P D vwCl [] s.heap := fun k q h9 => by simp at h9
      have hDc : va_D A [] := ⟨fun i j x9 y9 h9 => by simp at h9, fun k q h9 => by simp at h9⟩
      refine cd_xrv (vx_runS (As := [.int d, .int (nI 0)]) (rest := []) ⟨hx, hb, hml, hown, hts⟩ M_10 (va_cwS 2 hts gX6_canPlay_X6_needDay rfl rfl rfl (by decide +kernel) ⟨Nat.le_of_ble_eq_true rfl, Nat.le_of_ble_eq_true rfl⟩) ⟨thB.bl, fun U hU hW => ⟨rfl, ⟨by rw [hU], by rw [hU]; exact hPc, hG.warm hW, hDc.weaken (fun _ _ _ _ => trivial)⟩, hTz.down hS (vaA_nil (fun q h9 => hA q (Nat.le_trans hS.1 h9))) hU hW⟩⟩ rfl rfl hl.1 rfl (lv_room (Nat.le_of_ble_eq_true rfl)) dX6_canPlay_10 (by exact ⟨Nat.le_of_ble_eq_true rfl, Nat.le_of_ble_eq_true rfl⟩)) hS (vaA_nil (fun q h9 => hA q (Nat.le_trans hS.1 h9))) (fun E9 ce9 q9 H1 locs1 hw_10 hS1 hz1 hk1 hce hcv hcl => ?_) (fun hw_10 locs hS => ?_)
      · exact vx_out (fun x h9 => (htab x h9).elim) hlocks hce hcv hcl (fun t ht hv9 => ⟨Or.inr (⟨hw_10.1, by rw [hw_1, hw_5, hw_10.2]; rfl⟩), by rw [ht]; exact hz1, fun q h9 => by rw [ht]; exact hk1 q h9⟩) hS1.2.2 (by decide) (by decide)
      · obtain ⟨jd, hjd, rfl⟩ := inI_nat (by decide) hw_10
        try rw [nv_nI (show jd < 2147483648 by omega)]
        refine lv_aload_n hx hb dX6_canPlay_13 rfl (lv_at hl 0 rfl) ?_
        refine va_get (D := D) (ci := 6) (v := .ref (h 5)) (C := RX6) (T := TX6) (N := 8) hx hb hts iX6 hown hK hP 0 rfl rfl 1 (by decide) f_19 (fun _ h9 => h9) rfl dX6_canPlay_14 ?_
        refine lv_iload_n hx hb dX6_canPlay_17 rfl (lv_at hl 2 rfl) ?_
        refine lv_iload_n hx hb dX6_canPlay_18 rfl (lv_at hl 1 rfl) ?_
        have M_19 := c_X3_rankIn l D cy h S hI jp (nI ja) (by omega)
        have hPc := hP.sub (ws' := (wX3 cy h S)) [5, 6, 7] rfl
        refine cd_roi (va_runV (As := [.int (nI jp), .int (nI ja)]) (rest := []) ⟨hx, hb, hml, hown, hts⟩ M_19 (cwV 2 hts gX6_canPlay_X3_rankIn rfl rfl rfl (by decide +kernel) ⟨Nat.le_of_ble_eq_true rfl, Nat.le_of_ble_eq_true rfl⟩) ⟨roB.bl, va_recv hK hP (ci := 3) (q0 := 5) rfl rfl, fun U hU hW => ⟨rfl, by rw [hU]; exact hPc, hG.warm hW⟩⟩ rfl rfl hl.1 rfl (lv_room (Nat.le_of_ble_eq_true rfl)) dX6_canPlay_19 (by exact ⟨Nat.le_of_ble_eq_true rfl, Nat.le_of_ble_eq_true rfl⟩)) (fun r_19 hr_19 => ?_)
        subst hr_19
        refine lv_iconst (v := (-1)) hx hb dX6_canPlay_22 (by decide) ?_
        refine lv_icmp_eq (tgt := 48) hx hb dX6_canPlay_23 (by decide) (fun c_23 => ?_) (fun c_23 => ?_)
        · refine lv_iconst (v := nI 0) hx hb dX6_canPlay_48 (by decide) ?_
          refine vx_ret ?_
          refine W.widen (k := 4) (n := 24) (by decide) (by decide) ?_
          exact W.zret (v := nI 0) hx hb hr rfl (fun t ht hW => ⟨⟨_, J, rfl, (⟨by rw [rk_f c_23]; rfl, by rw [hw_1, hw_5, hw_10]; rfl, hJ⟩), by rw [ht]; exact hP, hD⟩, hS.F ht⟩) hS.2.2 dX6_canPlay_49
        · refine lv_aload_n hx hb dX6_canPlay_26 rfl (lv_at hl 0 rfl) ?_
          refine lv_iload_n hx hb dX6_canPlay_27 rfl (lv_at hl 1 rfl) ?_
          refine lv_iload_n hx hb dX6_canPlay_28 rfl (lv_at hl 2 rfl) ?_
          refine lv_aload_n hx hb dX6_canPlay_29 rfl (lv_at hl 0 rfl) ?_
          refine va_get (D := D) (ci := 6) (v := .ref (h 1)) (C := RX6) (T := TX6) (N := 8) hx hb hts iX6 hown hK hP 0 rfl rfl 0 (by decide) f_10 (fun _ h9 => h9) rfl dX6_canPlay_30 ?_
          refine va_get (D := D) (ci := 4) (v := .ref (h 4)) (C := RX4) (T := TX4) (N := 3) hx hb hts iX4 hown hK hP 1 rfl rfl 2 (by decide) f_139 (fun _ h9 => h9) rfl dX6_canPlay_33 ?_
          refine lv_iload_n hx hb dX6_canPlay_36 rfl (lv_at hl 3 rfl) ?_
          refine cd_iald (f := S 4) hx hb hK hP 4 rfl (by omega) (by decide) dX6_canPlay_37 ?_
          have b_37 := iv_4 hI jd (by omega)
          refine cd_tp (y := nI (nv (S 4 jd))) b_37.1 ?_
          have b_37 := b_37.2
          have M_38 := c_X6_isReady l D cy h S J hI ja jp (nv (S 4 jd)) (by omega) (by omega) (by omega)
          refine cd_roi (va_runV (As := [.int (nI ja), .int (nI jp), .int (nI (nv (S 4 jd)))]) (rest := []) ⟨hx, hb, hml, hown, hts⟩ M_38 (cwV 3 hts gX6_canPlay_X6_isReady rfl rfl rfl (by decide +kernel) ⟨Nat.le_of_ble_eq_true rfl, Nat.le_of_ble_eq_true rfl⟩) ⟨roB.bl, va_recv hK hP (ci := 6) (q0 := 0) rfl rfl, fun U hU hW => ⟨rfl, by rw [hU]; exact hP, hG.warm hW⟩⟩ rfl rfl hl.1 rfl (lv_room (Nat.le_of_ble_eq_true rfl)) dX6_canPlay_38 (by exact ⟨Nat.le_of_ble_eq_true rfl, Nat.le_of_ble_eq_true rfl⟩)) (fun r_38 hr_38 => ?_)
          subst hr_38
          refine cd_ifB_eq (tgt := 48) hx hb dX6_canPlay_41 (by decide) (fun c_41 => ?_) (fun c_41 => ?_)
          · refine lv_iconst (v := nI 0) hx hb dX6_canPlay_48 (by decide) ?_
            refine vx_ret ?_
            refine W.widen (k := 4) (n := 24) (by decide) (by decide) ?_
            exact W.zret (v := nI 0) hx hb hr rfl (fun t ht hW => ⟨⟨_, J, rfl, (⟨by rw [c_41, Bool.and_false]; rfl, by rw [hw_1, hw_5, hw_10]; rfl, hJ⟩), by rw [ht]; exact hP, hD⟩, hS.F ht⟩) hS.2.2 dX6_canPlay_49
          · refine lv_iconst (v := nI 1) hx hb dX6_canPlay_44 (by decide) ?_
            refine lv_goto (tgt := 49) hx hb dX6_canPlay_45 (by decide) ?_
            refine vx_ret ?_
            refine W.widen (k := 4) (n := 24) (by decide) (by decide) ?_
            exact W.zret (v := nI 1) hx hb hr rfl (fun t ht hW => ⟨⟨_, J, rfl, (⟨by rw [rk_t c_23, c_41]; rfl, by rw [hw_1, hw_5, hw_10]; rfl, hJ⟩), by rw [ht]; exact hP, hD⟩, hS.F ht⟩) hS.2.2 dX6_canPlay_49
