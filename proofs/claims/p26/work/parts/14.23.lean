set_option maxHeartbeats 4000000 in
set_option maxRecDepth 100000 in
theorem c_X6_put (l : Launch) (D : va_G) (cy : qT) (hfl : l.stackTraces = false) (h : Nat → Nat) (S : qS) (J : qS) (hI : Inv S) (p : Int32) (a : Int32) (hJ : jk J) (sz : Nat) : vx_Met l yX6_put wsX6_put ({ frames := 7, cells := 4, slots := 24, locals := 112 }) (va_Pc [.ref (h 0), .int p, .int a] (thB D cy (wC cy h S J) sz)) (va_Qi (fun (r9 : Int32) (u : qS) => r9 = nI (nv (S 7 (nv p))) ∧ th2 (inI p (nI 0) (nI 7) && inI a (nI 0) (nI 11)) (!rkB S (nv p) a && !decide (4 ≤ nv (S 7 (nv p)))) = nI 0 ∧ jk u) (wrQ D (va_A (wC cy h S J) sz) (fun u : qS => (wC cy h (va_up (va_up S 6 (upd (S 6) (nv p * 4 + nv (S 7 (nv p))) a)) 7 (upd (S 7) (nv p) (nI (nv (S 7 (nv p)) + 1)))) u))) (va_A (wC cy h S J) sz)) (nX (fun E => (E = xIO ∧ th2 (inI p (nI 0) (nI 7) && inI a (nI 0) (nI 11)) (!rkB S (nv p) a && !decide (4 ≤ nv (S 7 (nv p)))) = nI 1) ∨ (E = xIS ∧ th2 (inI p (nI 0) (nI 7) && inI a (nI 0) (nI 11)) (!rkB S (nv p) a && !decide (4 ≤ nv (S 7 (nv p)))) = nI 2))) 4 24 (va_A (wC cy h S J) sz) := by
  refine vx_ofW (cc := cX6_put) (maxL := 3) (ret := (some .int)) (by decide) rfl ?_
  intro pp e9 s m9 args9 bl9 meth9 c9 s9 B hml htab hv
  obtain ⟨rfl, ⟨hsz, hP, hG, hD0⟩, hTz⟩ := hv
  have hx := B.exec
  have hb := B.bytes
  have hr := B.returns
  have hts := atoms_spec (ws := wsX6_put) B.pre
  have hown : s.vm.findClass RX6 = some m9.cls := findClass_of_methodNamed B.named
  have hlocks := B.notSynchronized
  have hK := hG.K
  subst hsz
  have hD := hD0.self (sz := s.heap.size)
  generalize hAe : (va_A (wC cy h S J) s.heap.size) = A at hD hTz ⊢
  have hA : ∀ q : Nat, s.heap.size ≤ q → A q := fun q h9 => by rw [← hAe]; exact Or.inr h9
  have hS : va_S A s.heap s.heap [] := va_S.rf
  have hP : va_P D vwCl (wC cy h S J) s.heap := hP
  have f_19 := hts (.fieldLink RX6 19 "CastDesk" "rows" "LCastDesk$Rows;") (by decide +kernel)
  have tk_95 := hts (.classLink RX6 95 "java/lang/IllegalStateException") (by decide +kernel)
  have ti_IS := hts (.initialized "java/lang/IllegalStateException") (by decide +kernel)
  have iX6 : ∀ w ∈ wsX60, w ∈ wsX6_put := by decide +kernel
  have hl := lv_entry ([.ref (h 0), .int p, .int a]) (n := 3) (Nat.le_of_ble_eq_true rfl)
  rw [lg_entry_eq]
  generalize (lg_sl ([.ref (h 0), .int p, .int a]) ++ List.replicate (3 - (lg_sl ([.ref (h 0), .int p, .int a])).length) Slot.unset).toArray = ls at hl ⊢
  have hl : lv_has ls 3 [(0, .ref (h 0)), (1, .int p), (2, .int a)] := hl
  refine lv_iload_n hx hb dX6_put_0 rfl (lv_at hl 1 rfl) ?_
  have M_1 := c_X6_needPart l D cy hfl p s.heap.size
  have hPc : va_P D vwCl [] s.heap := fun k q h9 => by simp at h9
  have hDc : va_D A [] := ⟨fun i j x9 y9 h9 => by simp at h9, fun k q h9 => by simp at h9⟩
  refine cd_xrv (vx_runS (As := [.int p]) (rest := []) ⟨hx, hb, hml, hown, hts⟩ M_1 (va_cwS 1 hts gX6_put_X6_needPart rfl rfl rfl (by decide +kernel) ⟨Nat.le_of_ble_eq_true rfl, Nat.le_of_ble_eq_true rfl⟩) ⟨thB.bl, fun U hU hW => ⟨rfl, ⟨by rw [hU], by rw [hU]; exact hPc, hG.warm hW, hDc.weaken (fun _ _ _ _ => trivial)⟩, hTz.down hS (vaA_nil (fun q h9 => hA q (Nat.le_trans hS.1 h9))) hU hW⟩⟩ rfl rfl hl.1 rfl (lv_room (Nat.le_of_ble_eq_true rfl)) dX6_put_1 (by exact ⟨Nat.le_of_ble_eq_true rfl, Nat.le_of_ble_eq_true rfl⟩)) hS (vaA_nil (fun q h9 => hA q (Nat.le_trans hS.1 h9))) (fun E9 ce9 q9 H1 locs1 hw_1 hS1 hz1 hk1 hce hcv hcl => ?_) (fun hw_1 locs hS => ?_)
  · exact vx_out (fun x h9 => (htab x h9).elim) hlocks hce hcv hcl (fun t ht hv9 => ⟨Or.inl (⟨hw_1.1, by rw [hw_1.2]; rfl⟩), by rw [ht]; exact hz1, fun q h9 => by rw [ht]; exact hk1 q h9⟩) hS1.2.2 (by decide) (by decide)
  · obtain ⟨jp, hjp, rfl⟩ := inI_nat (by decide) hw_1
    try rw [nv_nI (show jp < 2147483648 by omega)]
    refine lv_iload_n hx hb dX6_put_4 rfl (lv_at hl 2 rfl) ?_
    have M_5 := c_X6_needActor l D cy hfl a s.heap.size
    have hPc : va_P D vwCl [] s.heap := fun k q h9 => by simp at h9
    have hDc : va_D A [] := ⟨fun i j x9 y9 h9 => by simp at h9, fun k q h9 => by simp at h9⟩
    refine cd_xrv (vx_runS (As := [.int a]) (rest := []) ⟨hx, hb, hml, hown, hts⟩ M_5 (va_cwS 1 hts gX6_put_X6_needActor rfl rfl rfl (by decide +kernel) ⟨Nat.le_of_ble_eq_true rfl, Nat.le_of_ble_eq_true rfl⟩) ⟨thB.bl, fun U hU hW => ⟨rfl, ⟨by rw [hU], by rw [hU]; exact hPc, hG.warm hW, hDc.weaken (fun _ _ _ _ => trivial)⟩, hTz.down hS (vaA_nil (fun q h9 => hA q (Nat.le_trans hS.1 h9))) hU hW⟩⟩ rfl rfl hl.1 rfl (lv_room (Nat.le_of_ble_eq_true rfl)) dX6_put_5 (by exact ⟨Nat.le_of_ble_eq_true rfl, Nat.le_of_ble_eq_true rfl⟩)) hS (vaA_nil (fun q h9 => hA q (Nat.le_trans hS.1 h9))) (fun E9 ce9 q9 H1 locs1 hw_5 hS1 hz1 hk1 hce hcv hcl => ?_) (fun hw_5 locs hS => ?_)
    · exact vx_out (fun x h9 => (htab x h9).elim) hlocks hce hcv hcl (fun t ht hv9 => ⟨Or.inl (⟨hw_5.1, by rw [hw_1, hw_5.2]; rfl⟩), by rw [ht]; exact hz1, fun q h9 => by rw [ht]; exact hk1 q h9⟩) hS1.2.2 (by decide) (by decide)
    · obtain ⟨ja, hja, rfl⟩ := inI_nat (by decide) hw_5
      try rw [nv_nI (show ja < 2147483648 by omega)]
      refine lv_aload_n hx hb dX6_put_8 rfl (lv_at hl 0 rfl) ?_
      refine va_get (D := D) (ci := 6) (v := .ref (h 5)) (C := RX6) (T := TX6) (N := 8) hx hb hts iX6 hown hK hP 0 rfl rfl 1 (by decide) f_19 (fun _ h9 => h9) rfl dX6_put_9 ?_
      refine lv_iload_n hx hb dX6_put_12 rfl (lv_at hl 1 rfl) ?_
      refine lv_iload_n hx hb dX6_put_13 rfl (lv_at hl 2 rfl) ?_
      have M_14 := c_X3_rankIn l D cy h S hI jp (nI ja) (by omega)
      have hPc := hP.sub (ws' := (wX3 cy h S)) [5, 6, 7] rfl
      refine cd_roi (va_runV (As := [.int (nI jp), .int (nI ja)]) (rest := []) ⟨hx, hb, hml, hown, hts⟩ M_14 (cwV 2 hts gX6_put_X3_rankIn rfl rfl rfl (by decide +kernel) ⟨Nat.le_of_ble_eq_true rfl, Nat.le_of_ble_eq_true rfl⟩) ⟨roB.bl, va_recv hK hP (ci := 3) (q0 := 5) rfl rfl, fun U hU hW => ⟨rfl, by rw [hU]; exact hPc, hG.warm hW⟩⟩ rfl rfl hl.1 rfl (lv_room (Nat.le_of_ble_eq_true rfl)) dX6_put_14 (by exact ⟨Nat.le_of_ble_eq_true rfl, Nat.le_of_ble_eq_true rfl⟩)) (fun r_14 hr_14 => ?_)
      subst hr_14
      refine lv_iconst (v := (-1)) hx hb dX6_put_17 (by decide) ?_
      refine lv_icmp_eq (tgt := 31) hx hb dX6_put_18 (by decide) (fun c_18 => ?_) (fun c_18 => ?_)
      · refine lv_aload_n hx hb dX6_put_31 rfl (lv_at hl 0 rfl) ?_
        refine va_get (D := D) (ci := 6) (v := .ref (h 5)) (C := RX6) (T := TX6) (N := 8) hx hb hts iX6 hown hK hP 0 rfl rfl 1 (by decide) f_19 (fun _ h9 => h9) rfl dX6_put_32 ?_
        refine lv_iload_n hx hb dX6_put_35 rfl (lv_at hl 1 rfl) ?_
        have M_36 := c_X3_isFull l D cy h S hI jp (by omega)
        have hPc := hP.sub (ws' := (wX3 cy h S)) [5, 6, 7] rfl
        refine cd_roi (va_runV (As := [.int (nI jp)]) (rest := []) ⟨hx, hb, hml, hown, hts⟩ M_36 (cwV 1 hts gX6_put_X3_isFull rfl rfl rfl (by decide +kernel) ⟨Nat.le_of_ble_eq_true rfl, Nat.le_of_ble_eq_true rfl⟩) ⟨roB.bl, va_recv hK hP (ci := 3) (q0 := 5) rfl rfl, fun U hU hW => ⟨rfl, by rw [hU]; exact hPc, hG.warm hW⟩⟩ rfl rfl hl.1 rfl (lv_room (Nat.le_of_ble_eq_true rfl)) dX6_put_36 (by exact ⟨Nat.le_of_ble_eq_true rfl, Nat.le_of_ble_eq_true rfl⟩)) (fun r_36 hr_36 => ?_)
        subst hr_36
        refine cd_tp (y := bI (decide (4 ≤ nv ((S 7) jp)))) rfl ?_
        refine cd_ifB_eq (tgt := 52) hx hb dX6_put_39 (by decide) (fun c_39 => ?_) (fun c_39 => ?_)
        · refine lv_aload_n hx hb dX6_put_52 rfl (lv_at hl 0 rfl) ?_
          refine va_get (D := D) (ci := 6) (v := .ref (h 5)) (C := RX6) (T := TX6) (N := 8) hx hb hts iX6 hown hK hP 0 rfl rfl 1 (by decide) f_19 (fun _ h9 => h9) rfl dX6_put_53 ?_
          refine lv_iload_n hx hb dX6_put_56 rfl (lv_at hl 1 rfl) ?_
          refine lv_iload_n hx hb dX6_put_57 rfl (lv_at hl 2 rfl) ?_
          have M_58 := c_X3_append l D cy h S hI jp (nI ja) (by omega) (by have := of_decide_eq_false c_39; omega) s.heap.size
          have hPc := hP.sub (ws' := (wX3 cy h S)) [5, 6, 7] rfl
          have hDc := hD.sub (ws' := (wX3 cy h S)) [5, 6, 7] (by decide) rfl
          refine cd_fri (S := Unit) (W1 := fun u => (wX3 cy h (va_up (va_up S 6 (upd (S 6) (jp * 4 + nv (S 7 jp)) (nI ja))) 7 (upd (S 7) jp (nI (nv (S 7 jp) + 1)))))) (ws' := fun u => (wC cy h (va_up (va_up S 6 (upd ((S 6)) (jp * 4 + nv ((S 7) jp)) (nI ja))) 7 (upd ((S 7)) jp (nI (nv ((S 7) jp) + 1)))) J)) (wc := (wX3 cy h S)) (wr := [(h 0, .inr (6, [.ref (h 1), .ref (h 5), .ref (h 8), .ref (h 12), .ref (h 16), .ref (h 20), .int (S 27 0), .int (S 28 0)])), (h 1, .inr (4, [.ref (h 2), .ref (h 3), .ref (h 4)])), (h 2, aI cy 12 (S 2)), (h 3, aI cy 12 (S 3)), (h 4, aI cy 1001 (S 4)), (h 8, .inr (5, [.ref (h 9), .ref (h 10), .ref (h 11), .int (S 29 0)])), (h 9, aI cy 40 (S 9)), (h 10, aI cy 40 (S 10)), (h 11, aZ cy 40 (S 11)), (h 12, .inr (1, [.ref (h 13), .ref (h 14), .ref (h 15), .int (J 12 0)])), (h 13, aI cy 32 (J 13)), (h 14, aI cy 32 (J 14)), (h 15, aI cy 4096 (J 15)), (h 16, .inr (2, [.ref (h 17), .ref (h 18), .ref (h 19), .int (S 30 0)])), (h 17, aI cy 40 (S 17)), (h 18, aI cy 320 (S 18)), (h 19, aI cy 40 (S 19)), (h 20, .inr (0, [.ref (h 21), .ref (h 22), .ref (h 23), .ref (h 24), .ref (h 25), .ref (h 26), .int (S 31 0), .int (S 32 0)])), (h 21, aI cy 100 (S 21)), (h 22, aI cy 100 (S 22)), (h 23, aI cy 100 (S 23)), (h 24, aI cy 100 (S 24)), (h 25, aI cy 100 (S 25)), (h 26, aI cy 100 (S 26))]) (va_runV (As := [.int (nI jp), .int (nI ja)]) (rest := []) ⟨hx, hb, hml, hown, hts⟩ M_58 (cwV 2 hts gX6_put_X3_append rfl rfl rfl (by decide +kernel) ⟨Nat.le_of_ble_eq_true rfl, Nat.le_of_ble_eq_true rfl⟩) ⟨wrB.bl, va_recv hK hP (ci := 3) (q0 := 5) rfl rfl, fun U hU hW => ⟨rfl, by rw [hU], by rw [hU]; exact hPc, hG.warm hW, hDc.weaken (fun _ _ _ _ => trivial)⟩⟩ rfl rfl hl.1 rfl (lv_room (Nat.le_of_ble_eq_true rfl)) dX6_put_58 (by exact ⟨Nat.le_of_ble_eq_true rfl, Nat.le_of_ble_eq_true rfl⟩)) hP hD hS hA [5, 6, 7] [0, 1, 2, 3, 4, 8, 9, 10, 11, 12, 13, 14, 15, 16, 17, 18, 19, 20, 21, 22, 23, 24, 25, 26] [0, 1, 2, 3, 4, 24, 25, 26, 5, 6, 7, 8, 9, 10, 11, 12, 13, 14, 15, 16, 17, 18, 19, 20, 21, 22, 23] rfl rfl (by decide) (by decide) (by decide) (fun _ => rfl) (fun r_58 _ H locs hw_58 hP hD hS => ?_)
          subst hw_58
          refine cd_tp (y := nI (nv ((S 7) jp))) rfl ?_
          have hP : va_P D vwCl (wC cy h (va_up (va_up S 6 (upd ((S 6)) (jp * 4 + nv ((S 7) jp)) (nI ja))) 7 (upd ((S 7)) jp (nI (nv ((S 7) jp) + 1)))) J) H := hP
          have hD : va_D A (wC cy h (va_up (va_up S 6 (upd ((S 6)) (jp * 4 + nv ((S 7) jp)) (nI ja))) 7 (upd ((S 7)) jp (nI (nv ((S 7) jp) + 1)))) J) := hD
          refine vx_ret ?_
          refine W.widen (k := 4) (n := 24) (by decide) (by decide) ?_
          exact W.iret (v := nI (nv ((S 7) jp))) hx hb hr (fun t ht hW => ⟨⟨_, J, rfl, (⟨rfl, by rw [hw_1, hw_5, rk_f c_18, c_39]; rfl, hJ⟩), by rw [ht]; exact hP, hD⟩, hS.F ht⟩) hS.2.2 dX6_put_61
        · exact cd_thr tf_IS tg_IS tn_IS (hG.2.2.2.ws hG.2.2.2.2.2.2.2.2.1) hx hb hfl hown tk_95 ti_IS hG.2.2.1.2.2.2.1 (fun w hw9 => hts w ((by decide +kernel : ∀ w ∈ (vx_atS RX6 99 xIS nm2).filter goodWord, w ∈ wsX6_put) w hw9)) hTz hS rfl hl.1 hml dX6_put_42 dX6_put_45 dX6_put_46 dX6_put_48 dX6_put_51 (fun x h9 => (htab x h9).elim) (Nat.le_of_ble_eq_true rfl) (Nat.le_of_ble_eq_true rfl) (Nat.le_of_ble_eq_true rfl) (Nat.le_of_ble_eq_true rfl) hlocks (Or.inr (⟨rfl, by rw [hw_1, hw_5, rk_f c_18, c_39]; rfl⟩)) (by decide) (by decide)
      · exact cd_thr tf_IS tg_IS tn_IS (hG.2.2.2.ws hG.2.2.2.2.2.2.2.2.1) hx hb hfl hown tk_95 ti_IS hG.2.2.1.2.2.1 (fun w hw9 => hts w ((by decide +kernel : ∀ w ∈ (vx_atS RX6 99 xIS nm2).filter goodWord, w ∈ wsX6_put) w hw9)) hTz hS rfl hl.1 hml dX6_put_21 dX6_put_24 dX6_put_25 dX6_put_27 dX6_put_30 (fun x h9 => (htab x h9).elim) (Nat.le_of_ble_eq_true rfl) (Nat.le_of_ble_eq_true rfl) (Nat.le_of_ble_eq_true rfl) (Nat.le_of_ble_eq_true rfl) hlocks (Or.inr (⟨rfl, by rw [hw_1, hw_5, rk_t c_18]; rfl⟩)) (by decide) (by decide)
