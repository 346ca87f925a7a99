set_option maxHeartbeats 4000000 in
set_option maxRecDepth 100000 in
theorem c_X6_show (l : Launch) (D : va_G) (cy : qT) (hfl : l.stackTraces = false) (h : Nat → Nat) (S : qS) (J : qS) (hI : Inv S) (d : Int32) (hJ : jk J) (sz : Nat) : vx_Met l yX6_show wsX6_show ({ frames := 7, cells := 4, slots := 24, locals := 113 }) (va_Pc [.ref (h 0), .int d] (thB D cy (wC cy h S J) sz)) (va_Qi (fun (r9 : Int32) (u : qS) => r9 = nI (nv (S 30 0)) ∧ th2 (inI d (nI (nv (S 28 0))) (nI 1000)) (!shB S d && decide (nv (S 30 0) < 40)) = nI 0 ∧ jk u) (wrQ D (va_A (wC cy h S J) sz) (fun u : qS => (wC cy h (va_up (va_up S 19 (upd (S 19) (nv (S 30 0)) d)) 30 (fun _ => nI (nv (S 30 0) + 1))) u))) (va_A (wC cy h S J) sz)) (nX (fun E => (E = xIA ∧ th2 (inI d (nI (nv (S 28 0))) (nI 1000)) (!shB S d && decide (nv (S 30 0) < 40)) = nI 1) ∨ (E = xIS ∧ th2 (inI d (nI (nv (S 28 0))) (nI 1000)) (!shB S d && decide (nv (S 30 0) < 40)) = nI 2))) 4 24 (va_A (wC cy h S J) sz) := by
  refine vx_ofW (cc := cX6_show) (maxL := 2) (ret := (some .int)) (by decide) rfl ?_
  intro pp e9 s m9 args9 bl9 meth9 c9 s9 B hml htab hv
  obtain ⟨rfl, ⟨hsz, hP, hG, hD0⟩, hTz⟩ := hv
  have hx := B.exec
  have hb := B.bytes
  have hr := B.returns
  have hts := atoms_spec (ws := wsX6_show) B.pre
  have hown : s.vm.findClass RX6 = some m9.cls := findClass_of_methodNamed B.named
  have hlocks := B.notSynchronized
  have hK := hG.K
  subst hsz
  have hD := hD0.self (sz := s.heap.size)
  generalize hAe : (va_A (wC cy h S J) s.heap.size) = A at hD hTz ⊢
  have hA : ∀ q : Nat, s.heap.size ≤ q → A q := fun q h9 => by rw [← hAe]; exact Or.inr h9
  have hS : va_S A s.heap s.heap [] := va_S.rf
  have hP : va_P D vwCl (wC cy h S J) s.heap := hP
  have f_55 := hts (.fieldLink RX6 55 "CastDesk" "today" "I") (by decide +kernel)
  have f_40 := hts (.fieldLink RX6 40 "CastDesk" "programme" "LCastDesk$Programme;") (by decide +kernel)
  have f_176 := hts (.fieldLink RX6 176 "CastDesk$Programme" "count" "I") (by decide +kernel)
  have tk_95 := hts (.classLink RX6 95 "java/lang/IllegalStateException") (by decide +kernel)
  have ti_IS := hts (.initialized "java/lang/IllegalStateException") (by decide +kernel)
  have iX2 : ∀ w ∈ wsX20, w ∈ wsX6_show := by decide +kernel
  have iX6 : ∀ w ∈ wsX60, w ∈ wsX6_show := by decide +kernel
  have hl := lv_entry ([.ref (h 0), .int d]) (n := 2) (Nat.le_of_ble_eq_true rfl)
  rw [lg_entry_eq]
  generalize (lg_sl ([.ref (h 0), .int d]) ++ List.replicate (2 - (lg_sl ([.ref (h 0), .int d])).length) Slot.unset).toArray = ls at hl ⊢
  have hl : lv_has ls 2 [(0, .ref (h 0)), (1, .int d)] := hl
  have h28 := (iv_28 hI).2
  have h30 := (iv_30 hI).2
  refine lv_iload_n hx hb dX6_show_0 rfl (lv_at hl 1 rfl) ?_
  refine lv_aload_n hx hb dX6_show_1 rfl (lv_at hl 0 rfl) ?_
  refine va_get (D := D) (ci := 6) (v := .int (S 28 0)) (C := RX6) (T := TX6) (N := 8) hx hb hts iX6 hown hK hP 0 rfl rfl 7 (by decide) f_55 (fun _ h9 => h9) rfl dX6_show_2 ?_
  have b_2 := iv_28 hI
  refine cd_tp (y := nI (nv (S 28 0))) b_2.1 ?_
  have b_2 := b_2.2
  have M_5 := c_X6_needDay l D cy hfl d (nI (nv (S 28 0))) s.heap.size
  have hPc : va_P D vwCl [] s.heap := fun k q h9 => by simp at h9
  have hDc : va_D A [] := ⟨fun i j x9 y9 h9 => by simp at h9, fun k q h9 => by simp at h9⟩
  refine cd_xrv (vx_runS (As := [.int d, .int (nI (nv (S 28 0)))]) (rest := []) ⟨hx, hb, hml, hown, hts⟩ M_5 (va_cwS 2 hts gX6_show_X6_needDay rfl rfl rfl (by decide +kernel) ⟨Nat.le_of_ble_eq_true rfl, Nat.le_of_ble_eq_true rfl⟩) ⟨thB.bl, fun U hU hW => ⟨rfl, ⟨by rw [hU], by rw [hU]; exact hPc, hG.warm hW, hDc.weaken (fun _ _ _ _ => trivial)⟩, hTz.down hS (vaA_nil (fun q h9 => hA q (Nat.le_trans hS.1 h9))) hU hW⟩⟩ rfl rfl hl.1 rfl (lv_room (Nat.le_of_ble_eq_true rfl)) dX6_show_5 (by exact ⟨Nat.le_of_ble_eq_true rfl, Nat.le_of_ble_eq_true rfl⟩)) hS (vaA_nil (fun q h9 => hA q (Nat.le_trans hS.1 h9))) (fun E9 ce9 q9 H1 locs1 hw_5 hS1 hz1 hk1 hce hcv hcl => ?_) (fun hw_5 locs hS => ?_)
  · exact vx_out (fun x h9 => (htab x h9).elim) hlocks hce hcv hcl (fun t ht hv9 => ⟨Or.inl (⟨hw_5.1, by rw [hw_5.2]; rfl⟩), by rw [ht]; exact hz1, fun q h9 => by rw [ht]; exact hk1 q h9⟩) hS1.2.2 (by decide) (by decide)
  · refine lv_aload_n hx hb dX6_show_8 rfl (lv_at hl 0 rfl) ?_
    refine va_get (D := D) (ci := 6) (v := .ref (h 16)) (C := RX6) (T := TX6) (N := 8) hx hb hts iX6 hown hK hP 0 rfl rfl 4 (by decide) f_40 (fun _ h9 => h9) rfl dX6_show_9 ?_
    refine lv_iload_n hx hb dX6_show_12 rfl (lv_at hl 1 rfl) ?_
    have M_13 := c_X2_showOn l D cy h S hI d
    have hPc := hP.sub (ws' := (wX2 cy h S)) [16, 17, 18, 19] rfl
    refine cd_roi (va_runV (As := [.int d]) (rest := []) ⟨hx, hb, hml, hown, hts⟩ M_13 (cwV 1 hts gX6_show_X2_showOn rfl rfl rfl (by decide +kernel) ⟨Nat.le_of_ble_eq_true rfl, Nat.le_of_ble_eq_true rfl⟩) ⟨roB.bl, va_recv hK hP (ci := 2) (q0 := 16) rfl rfl, fun U hU hW => ⟨rfl, by rw [hU]; exact hPc, hG.warm hW⟩⟩ rfl rfl hl.1 rfl (lv_room (Nat.le_of_ble_eq_true rfl)) dX6_show_13 (by exact ⟨Nat.le_of_ble_eq_true rfl, Nat.le_of_ble_eq_true rfl⟩)) (fun r_13 hr_13 => ?_)
    subst hr_13
    refine lv_iconst (v := (-1)) hx hb dX6_show_16 (by decide) ?_
    refine lv_icmp_eq (tgt := 30) hx hb dX6_show_17 (by decide) (fun c_17 => ?_) (fun c_17 => ?_)
    · refine lv_aload_n hx hb dX6_show_30 rfl (lv_at hl 0 rfl) ?_
      refine va_get (D := D) (ci := 6) (v := .ref (h 16)) (C := RX6) (T := TX6) (N := 8) hx hb hts iX6 hown hK hP 0 rfl rfl 4 (by decide) f_40 (fun _ h9 => h9) rfl dX6_show_31 ?_
      refine va_get (D := D) (ci := 2) (v := .int (S 30 0)) (C := RX2) (T := TX2) (N := 4) hx hb hts iX2 hown hK hP 16 rfl rfl 3 (by decide) f_176 (fun _ h9 => h9) rfl dX6_show_34 ?_
      have b_34 := iv_30 hI
      refine cd_tp (y := nI (nv (S 30 0))) b_34.1 ?_
      have b_34 := b_34.2
      refine lv_bipush (v := nI 40) hx hb dX6_show_37 (by decide) ?_
      refine cd_icmp_lt (tgt := 52) hx hb dX6_show_39 (by decide) (by omega) (by omega) (fun c_39 => ?_) (fun c_39 => ?_)
      · refine lv_aload_n hx hb dX6_show_52 rfl (lv_at hl 0 rfl) ?_
        refine va_get (D := D) (ci := 6) (v := .ref (h 16)) (C := RX6) (T := TX6) (N := 8) hx hb hts iX6 hown hK hP 0 rfl rfl 4 (by decide) f_40 (fun _ h9 => h9) rfl dX6_show_53 ?_
        refine lv_iload_n hx hb dX6_show_56 rfl (lv_at hl 1 rfl) ?_
        have M_57 := c_X2_add l D cy h S hI d (by omega) s.heap.size
        have hPc := hP.sub (ws' := (wX2 cy h S)) [16, 17, 18, 19] rfl
        have hDc := hD.sub (ws' := (wX2 cy h S)) [16, 17, 18, 19] (by decide) rfl
        refine cd_fri (S := Unit) (W1 := fun u => (wX2 cy h (va_up (va_up (va_up S 19 (upd (S 19) (nv (S 30 0)) d)) 17 (upd (S 17) (nv (S 30 0)) (nI 0))) 30 (fun _ => nI (nv (S 30 0) + 1))))) (ws' := fun u => (wC cy h (va_up (va_up (va_up S 19 (upd ((S 19)) (nv (S 30 0)) d)) 17 (upd ((S 17)) (nv (S 30 0)) (nI 0))) 30 (fun _ => nI (nv (S 30 0) + 1))) J)) (wc := (wX2 cy h S)) (wr := [(h 0, .inr (6, [.ref (h 1), .ref (h 5), .ref (h 8), .ref (h 12), .ref (h 16), .ref (h 20), .int (S 27 0), .int (S 28 0)])), (h 1, .inr (4, [.ref (h 2), .ref (h 3), .ref (h 4)])), (h 2, aI cy 12 (S 2)), (h 3, aI cy 12 (S 3)), (h 4, aI cy 1001 (S 4)), (h 5, .inr (3, [.ref (h 6), .ref (h 7)])), (h 6, aI cy 32 (S 6)), (h 7, aI cy 8 (S 7)), (h 8, .inr (5, [.ref (h 9), .ref (h 10), .ref (h 11), .int (S 29 0)])), (h 9, aI cy 40 (S 9)), (h 10, aI cy 40 (S 10)), (h 11, aZ cy 40 (S 11)), (h 12, .inr (1, [.ref (h 13), .ref (h 14), .ref (h 15), .int (J 12 0)])), (h 13, aI cy 32 (J 13)), (h 14, aI cy 32 (J 14)), (h 15, aI cy 4096 (J 15)), (h 20, .inr (0, [.ref (h 21), .ref (h 22), .ref (h 23), .ref (h 24), .ref (h 25), .ref (h 26), .int (S 31 0), .int (S 32 0)])), (h 21, aI cy 100 (S 21)), (h 22, aI cy 100 (S 22)), (h 23, aI cy 100 (S 23)), (h 24, aI cy 100 (S 24)), (h 25, aI cy 100 (S 25)), (h 26, aI cy 100 (S 26))]) (va_runV (As := [.int d]) (rest := []) ⟨hx, hb, hml, hown, hts⟩ M_57 (cwV 1 hts gX6_show_X2_add rfl rfl rfl (by decide +kernel) ⟨Nat.le_of_ble_eq_true rfl, Nat.le_of_ble_eq_true rfl⟩) ⟨wrB.bl, va_recv hK hP (ci := 2) (q0 := 16) rfl rfl, fun U hU hW => ⟨rfl, by rw [hU], by rw [hU]; exact hPc, hG.warm hW, hDc.weaken (fun _ _ _ _ => trivial)⟩⟩ rfl rfl hl.1 rfl (lv_room (Nat.le_of_ble_eq_true rfl)) dX6_show_57 (by exact ⟨Nat.le_of_ble_eq_true rfl, Nat.le_of_ble_eq_true rfl⟩)) hP hD hS hA [16, 17, 18, 19] [0, 1, 2, 3, 4, 5, 6, 7, 8, 9, 10, 11, 12, 13, 14, 15, 20, 21, 22, 23, 24, 25, 26] [0, 1, 2, 3, 4, 5, 6, 7, 8, 9, 10, 11, 12, 13, 14, 15, 23, 24, 25, 26, 16, 17, 18, 19, 20, 21, 22] rfl rfl (by decide) (by decide) (by decide) (fun _ => rfl) (fun r_57 _ H locs hw_57 hP hD hS => ?_)
        subst hw_57
        have hP : va_P D vwCl (wC cy h (va_up (va_up (va_up S 19 (upd ((S 19)) (nv (S 30 0)) d)) 17 (upd ((S 17)) (nv (S 30 0)) (nI 0))) 30 (fun _ => nI (nv (S 30 0) + 1))) J) H := hP
        have hD : va_D A (wC cy h (va_up (va_up (va_up S 19 (upd ((S 19)) (nv (S 30 0)) d)) 17 (upd ((S 17)) (nv (S 30 0)) (nI 0))) 30 (fun _ => nI (nv (S 30 0) + 1))) J) := hD
        rw [(upd_eq (iv_17 hI _ (Nat.le_refl _)) : (upd (S 17) (nv (S 30 0)) (nI 0)) = (S 17)) ] at hP hD
        have hP : va_P D vwCl (wC cy h (va_up (va_up S 19 (upd ((S 19)) (nv (S 30 0)) d)) 30 (fun _ => nI (nv (S 30 0) + 1))) J) H := hP
        have hD : va_D A (wC cy h (va_up (va_up S 19 (upd ((S 19)) (nv (S 30 0)) d)) 30 (fun _ => nI (nv (S 30 0) + 1))) J) := hD
        refine vx_ret ?_
        refine W.widen (k := 4) (n := 24) (by decide) (by decide) ?_
        exact W.iret (v := nI (nv (S 30 0))) hx hb hr (fun t ht hW => ⟨⟨_, J, rfl, (⟨rfl, by rw [hw_5, sh_no c_17, decide_eq_true (by omega)]; rfl, hJ⟩), by rw [ht]; exact hP, hD⟩, hS.F ht⟩) hS.2.2 dX6_show_60
      · exact cd_thr tf_IS tg_IS tn_IS (hG.2.2.2.ws hG.2.2.2.2.2.2.2.2.1) hx hb hfl hown tk_95 ti_IS hG.2.2.1.2.2.2.2.2.2.2.1 (fun w hw9 => hts w ((by decide +kernel : ∀ w ∈ (vx_atS RX6 99 xIS nm2).filter goodWord, w ∈ wsX6_show) w hw9)) hTz hS rfl hl.1 hml dX6_show_42 dX6_show_45 dX6_show_46 dX6_show_48 dX6_show_51 (fun x h9 => (htab x h9).elim) (Nat.le_of_ble_eq_true rfl) (Nat.le_of_ble_eq_true rfl) (Nat.le_of_ble_eq_true rfl) (Nat.le_of_ble_eq_true rfl) hlocks (Or.inr (⟨rfl, by rw [hw_5, sh_no c_17, decide_eq_false (by omega)]; rfl⟩)) (by decide) (by decide)
    · exact cd_thr tf_IS tg_IS tn_IS (hG.2.2.2.ws hG.2.2.2.2.2.2.2.2.1) hx hb hfl hown tk_95 ti_IS hG.2.2.1.2.2.2.2.2.2.1 (fun w hw9 => hts w ((by decide +kernel : ∀ w ∈ (vx_atS RX6 99 xIS nm2).filter goodWord, w ∈ wsX6_show) w hw9)) hTz hS rfl hl.1 hml dX6_show_20 dX6_show_23 dX6_show_24 dX6_show_26 dX6_show_29 (fun x h9 => (htab x h9).elim) (Nat.le_of_ble_eq_true rfl) (Nat.le_of_ble_eq_true rfl) (Nat.le_of_ble_eq_true rfl) (Nat.le_of_ble_eq_true rfl) hlocks (Or.inr (⟨rfl, by rw [hw_5, (sh_rng c_17).1]; rfl⟩)) (by decide) (by decide)
