set_option maxHeartbeats 4000000 in
set_option maxRecDepth 100000 in
theorem c_X6_learn (l : Launch) (D : va_G) (cy : qT) (hfl : l.stackTraces = false) (h : Nat → Nat) (S : qS) (J : qS) (hI : Inv S) (a : Int32) (p : Int32) (kb : Bool) (hJ : jk J) (sz : Nat) : vx_Met l yX6_learn wsX6_learn ({ frames := 7, cells := 4, slots := 24, locals := 112 }) (va_Pc [.ref (h 0), .int a, .int p, .int (bI kb)] (thB D cy (wC cy h S J) sz)) (va_Qi (fun (r9 : Int32) (u : qS) => r9 = nI (pcn 12 (knF kb (nv (S 3 (nv a))) (nv p))) ∧ th2 (inI a (nI 0) (nI 11) && inI p (nI 0) (nI 7)) (decide (pcn 12 (knF kb (nv (S 3 (nv a))) (nv p)) ≤ 4)) = nI 0 ∧ jk u) (wrQ D (va_A (wC cy h S J) sz) (fun u : qS => (wC cy h (va_up S 3 (upd (S 3) (nv a) (nI (knF kb (nv (S 3 (nv a))) (nv p))))) u))) (va_A (wC cy h S J) sz)) (nX (fun E => (E = xIO ∧ th2 (inI a (nI 0) (nI 11) && inI p (nI 0) (nI 7)) (decide (pcn 12 (knF kb (nv (S 3 (nv a))) (nv p)) ≤ 4)) = nI 1) ∨ (E = xIS ∧ th2 (inI a (nI 0) (nI 11) && inI p (nI 0) (nI 7)) (decide (pcn 12 (knF kb (nv (S 3 (nv a))) (nv p)) ≤ 4)) = nI 2))) 4 24 (va_A (wC cy h S J) sz) := by
  refine vx_ofW (cc := cX6_learn) (maxL := 6) (ret := (some .int)) (by decide) rfl ?_
  intro pp e9 s m9 args9 bl9 meth9 c9 s9 B hml htab hv
  obtain ⟨rfl, ⟨hsz, hP, hG, hD0⟩, hTz⟩ := hv
  have hx := B.exec
  have hb := B.bytes
  have hr := B.returns
  have hts := atoms_spec (ws := wsX6_learn) B.pre
  have hown : s.vm.findClass RX6 = some m9.cls := findClass_of_methodNamed B.named
  have hlocks := B.notSynchronized
  have hK := hG.K
  subst hsz
  have hD := hD0.self (sz := s.heap.size)
  generalize hAe : (va_A (wC cy h S J) s.heap.size) = A at hD hTz ⊢
  have hA : ∀ q : Nat, s.heap.size ≤ q → A q := fun q h9 => by rw [← hAe]; exact Or.inr h9
  have hS : va_S A s.heap s.heap [] := va_S.rf
  have hP : va_P D vwCl (wC cy h S J) s.heap := hP
  have f_10 := hts (.fieldLink RX6 10 "CastDesk" "troupe" "LCastDesk$Troupe;") (by decide +kernel)
  have f_79 := hts (.fieldLink RX6 79 "CastDesk$Troupe" "known" "[I") (by decide +kernel)
  have tk_95 := hts (.classLink RX6 95 "java/lang/IllegalStateException") (by decide +kernel)
  have ti_IS := hts (.initialized "java/lang/IllegalStateException") (by decide +kernel)
  have iX4 : ∀ w ∈ wsX40, w ∈ wsX6_learn := by decide +kernel
  have iX6 : ∀ w ∈ wsX60, w ∈ wsX6_learn := by decide +kernel
  have hl := lv_entry ([.ref (h 0), .int a, .int p, .int (bI kb)]) (n := 6) (Nat.le_of_ble_eq_true rfl)
  rw [lg_entry_eq]
  generalize (lg_sl ([.ref (h 0), .int a, .int p, .int (bI kb)]) ++ List.replicate (6 - (lg_sl ([.ref (h 0), .int a, .int p, .int (bI kb)])).length) Slot.unset).toArray = ls at hl ⊢
  have hl : lv_has ls 6 [(0, .ref (h 0)), (1, .int a), (2, .int p), (3, .int (bI kb))] := hl
  refine lv_iload_n hx hb dX6_learn_0 rfl (lv_at hl 1 rfl) ?_
  have M_1 := c_X6_needActor l D cy hfl a s.heap.size
  have hPc : va_P D vwCl [] s.heap := fun k q h9 => by simp at h9
  have hDc : va_D A [] := ⟨fun i j x9 y9 h9 => by simp at h9, fun k q h9 => by simp at h9⟩
  refine cd_xrv (vx_runS (As := [.int a]) (rest := []) ⟨hx, hb, hml, hown, hts⟩ M_1 (va_cwS 1 hts gX6_learn_X6_needActor rfl rfl rfl (by decide +kernel) ⟨Nat.le_of_ble_eq_true rfl, Nat.le_of_ble_eq_true rfl⟩) ⟨thB.bl, fun U hU hW => ⟨rfl, ⟨by rw [hU], by rw [hU]; exact hPc, hG.warm hW, hDc.weaken (fun _ _ _ _ => trivial)⟩, hTz.down hS (vaA_nil (fun q h9 => hA q (Nat.le_trans hS.1 h9))) hU hW⟩⟩ rfl rfl hl.1 rfl (lv_room (Nat.le_of_ble_eq_true rfl)) dX6_learn_1 (by exact ⟨Nat.le_of_ble_eq_true rfl, Nat.le_of_ble_eq_true rfl⟩)) hS (vaA_nil (fun q h9 => hA q (Nat.le_trans hS.1 h9))) (fun E9 ce9 q9 H1 locs1 hw_1 hS1 hz1 hk1 hce hcv hcl => ?_) (fun hw_1 locs hS => ?_)
  · exact vx_out (fun x h9 => (htab x h9).elim) hlocks hce hcv hcl (fun t ht hv9 => ⟨Or.inl (⟨hw_1.1, by rw [hw_1.2]; rfl⟩), by rw [ht]; exact hz1, fun q h9 => by rw [ht]; exact hk1 q h9⟩) hS1.2.2 (by decide) (by decide)
  · obtain ⟨ja, hja, rfl⟩ := inI_nat (by decide) hw_1
    try rw [nv_nI (show ja < 2147483648 by omega)]
    refine lv_iload_n hx hb dX6_learn_4 rfl (lv_at hl 2 rfl) ?_
    have M_5 := c_X6_needPart l D cy hfl p s.heap.size
    have hPc : va_P D vwCl [] s.heap := fun k q h9 => by simp at h9
    have hDc : va_D A [] := ⟨fun i j x9 y9 h9 => by simp at h9, fun k q h9 => by simp at h9⟩
    refine cd_xrv (vx_runS (As := [.int p]) (rest := []) ⟨hx, hb, hml, hown, hts⟩ M_5 (va_cwS 1 hts gX6_learn_X6_needPart rfl rfl rfl (by decide +kernel) ⟨Nat.le_of_ble_eq_true rfl, Nat.le_of_ble_eq_true rfl⟩) ⟨thB.bl, fun U hU hW => ⟨rfl, ⟨by rw [hU], by rw [hU]; exact hPc, hG.warm hW, hDc.weaken (fun _ _ _ _ => trivial)⟩, hTz.down hS (vaA_nil (fun q h9 => hA q (Nat.le_trans hS.1 h9))) hU hW⟩⟩ rfl rfl hl.1 rfl (lv_room (Nat.le_of_ble_eq_true rfl)) dX6_learn_5 (by exact ⟨Nat.le_of_ble_eq_true rfl, Nat.le_of_ble_eq_true rfl⟩)) hS (vaA_nil (fun q h9 => hA q (Nat.le_trans hS.1 h9))) (fun E9 ce9 q9 H1 locs1 hw_5 hS1 hz1 hk1 hce hcv hcl => ?_) (fun hw_5 locs hS => ?_)
    · exact vx_out (fun x h9 => (htab x h9).elim) hlocks hce hcv hcl (fun t ht hv9 => ⟨Or.inl (⟨hw_5.1, by rw [hw_1, hw_5.2]; rfl⟩), by rw [ht]; exact hz1, fun q h9 => by rw [ht]; exact hk1 q h9⟩) hS1.2.2 (by decide) (by decide)
    · obtain ⟨jp, hjp, rfl⟩ := inI_nat (by decide) hw_5
      try rw [nv_nI (show jp < 2147483648 by omega)]
      have hk3 := iv_3 hI ja (by omega)
      have hk3b := hk3.1.2
      have hk3p := hk3.2
      have hkn := knF_lt kb hk3b (show jp < 8 by omega)
      refine lv_iload_n hx hb dX6_learn_8 rfl (lv_at hl 3 rfl) ?_
      refine cd_ifB_eq (tgt := 28) hx hb dX6_learn_9 (by decide) (fun c_9 => ?_) (fun c_9 => ?_)
      · refine lv_aload_n hx hb dX6_learn_28 rfl (lv_at hl 0 rfl) ?_
        refine va_get (D := D) (ci := 6) (v := .ref (h 1)) (C := RX6) (T := TX6) (N := 8) hx hb hts iX6 hown hK hP 0 rfl rfl 0 (by decide) f_10 (fun _ h9 => h9) rfl dX6_learn_29 ?_
        refine va_get (D := D) (ci := 4) (v := .ref (h 3)) (C := RX4) (T := TX4) (N := 3) hx hb hts iX4 hown hK hP 1 rfl rfl 1 (by decide) f_79 (fun _ h9 => h9) rfl dX6_learn_32 ?_
        refine lv_iload_n hx hb dX6_learn_35 rfl (lv_at hl 1 rfl) ?_
        refine cd_iald (f := S 3) hx hb hK hP 3 rfl (by omega) (by decide) dX6_learn_36 ?_
        have b_36 := (iv_3 hI ja (by omega)).1
        refine cd_tp (y := nI (nv (S 3 ja))) b_36.1 ?_
        have b_36 := b_36.2
        refine lv_iload_n hx hb dX6_learn_37 rfl (lv_at hl 2 rfl) ?_
        have M_38 := c_X6_without l (nv (S 3 ja)) jp (by omega) (by omega)
        refine cd_roi (va_runS (As := [.int (nI (nv (S 3 ja))), .int (nI jp)]) (rest := []) ⟨hx, hb, hml, hown, hts⟩ M_38 (va_cwS 2 hts gX6_learn_X6_without rfl rfl rfl (by decide +kernel) ⟨Nat.le_of_ble_eq_true rfl, Nat.le_of_ble_eq_true rfl⟩) ⟨nuB.bl, fun U hU hW => ⟨rfl, trivial⟩⟩ rfl rfl hl.1 rfl (lv_room (Nat.le_of_ble_eq_true rfl)) dX6_learn_38 (by exact ⟨Nat.le_of_ble_eq_true rfl, Nat.le_of_ble_eq_true rfl⟩)) (fun r_38 hr_38 => ?_)
        subst hr_38
        refine cd_tp (y := nI (knF kb (nv (S 3 ja)) jp)) (by rw [knF, if_neg (by rw [c_9]; decide)]) ?_
        refine lv_istore (lv' := [(4, .int (nI (knF kb (nv (S 3 ja)) jp))), (0, .ref (h 0)), (1, .int (nI ja)), (2, .int (nI jp)), (3, .int (bI kb))]) hx hb dX6_learn_41 hl (by decide) rfl (fun ls hl => ?_)
        refine lv_iload hx hb dX6_learn_43 (lv_at hl 0 rfl) ?_
        have M_45 := c_J6_bitCount_0f7a4 l (knF kb (nv (S 3 ja)) jp) (by omega)
        refine cd_roi (va_runS (As := [.int (nI (knF kb (nv (S 3 ja)) jp))]) (rest := []) ⟨hx, hb, hml, hown, hts⟩ M_45 (va_cwS 1 hts gX6_learn_J6_bitCount_0f7a4 rfl rfl rfl (by decide +kernel) ⟨Nat.le_of_ble_eq_true rfl, Nat.le_of_ble_eq_true rfl⟩) ⟨nuB.bl, fun U hU hW => ⟨rfl, trivial⟩⟩ rfl rfl hl.1 rfl (lv_room (Nat.le_of_ble_eq_true rfl)) dX6_learn_45 (by exact ⟨Nat.le_of_ble_eq_true rfl, Nat.le_of_ble_eq_true rfl⟩)) (fun r_45 hr_45 => ?_)
        subst hr_45
        have hpc := pcn_le (knF kb (nv (S 3 ja)) jp) 12
        refine lv_istore (lv' := [(5, .int (nI (pcn 12 (knF kb (nv (S 3 ja)) jp)))), (4, .int (nI (knF kb (nv (S 3 ja)) jp))), (0, .ref (h 0)), (1, .int (nI ja)), (2, .int (nI jp)), (3, .int (bI kb))]) hx hb dX6_learn_48 hl (by decide) rfl (fun ls hl => ?_)
        refine lv_iload hx hb dX6_learn_50 (lv_at hl 0 rfl) ?_
        refine lv_iconst (v := nI 4) hx hb dX6_learn_52 (by decide) ?_
        refine cd_icmp_le (tgt := 66) hx hb dX6_learn_53 (by decide) (by omega) (by omega) (fun c_53 => ?_) (fun c_53 => ?_)
        · refine lv_aload_n hx hb dX6_learn_66 rfl (lv_at hl 2 rfl) ?_
          refine va_get (D := D) (ci := 6) (v := .ref (h 1)) (C := RX6) (T := TX6) (N := 8) hx hb hts iX6 hown hK hP 0 rfl rfl 0 (by decide) f_10 (fun _ h9 => h9) rfl dX6_learn_67 ?_
          refine va_get (D := D) (ci := 4) (v := .ref (h 3)) (C := RX4) (T := TX4) (N := 3) hx hb hts iX4 hown hK hP 1 rfl rfl 1 (by decide) f_79 (fun _ h9 => h9) rfl dX6_learn_70 ?_
          refine lv_iload_n hx hb dX6_learn_73 rfl (lv_at hl 3 rfl) ?_
          refine lv_iload hx hb dX6_learn_74 (lv_at hl 1 rfl) ?_
          refine cd_iast (f := S 3) hx hb hK hP hD hS 3 rfl (by omega) (by decide) dX6_learn_76 (fun H locs hP hD hS => ?_)
          have hP : va_P D vwCl (wC cy h (va_up S 3 (upd (S 3) ja (nI (knF kb (nv (S 3 ja)) jp)))) J) H := hP
          have hD : va_D A (wC cy h (va_up S 3 (upd (S 3) ja (nI (knF kb (nv (S 3 ja)) jp)))) J) := hD
          refine lv_iload hx hb dX6_learn_77 (lv_at hl 0 rfl) ?_
          refine vx_ret ?_
          refine W.widen (k := 4) (n := 24) (by decide) (by decide) ?_
          exact W.iret (v := nI (pcn 12 (knF kb (nv (S 3 ja)) jp))) hx hb hr (fun t ht hW => ⟨⟨_, J, rfl, (⟨rfl, by rw [hw_1, hw_5, decide_eq_true c_53]; rfl, hJ⟩), by rw [ht]; exact hP, hD⟩, hS.F ht⟩) hS.2.2 dX6_learn_79
        · exact cd_thr tf_IS tg_IS tn_IS (hG.2.2.2.ws hG.2.2.2.2.2.2.2.2.1) hx hb hfl hown tk_95 ti_IS hG.2.2.1.2.1 (fun w hw9 => hts w ((by decide +kernel : ∀ w ∈ (vx_atS RX6 99 xIS nm2).filter goodWord, w ∈ wsX6_learn) w hw9)) hTz hS rfl hl.1 hml dX6_learn_56 dX6_learn_59 dX6_learn_60 dX6_learn_62 dX6_learn_65 (fun x h9 => (htab x h9).elim) (Nat.le_of_ble_eq_true rfl) (Nat.le_of_ble_eq_true rfl) (Nat.le_of_ble_eq_true rfl) (Nat.le_of_ble_eq_true rfl) hlocks (Or.inr (⟨rfl, by rw [hw_1, hw_5, decide_eq_false (by omega)]; rfl⟩)) (by decide) (by decide)
      · refine lv_aload_n hx hb dX6_learn_12 rfl (lv_at hl 0 rfl) ?_
        refine va_get (D := D) (ci := 6) (v := .ref (h 1)) (C := RX6) (T := TX6) (N := 8) hx hb hts iX6 hown hK hP 0 rfl rfl 0 (by decide) f_10 (fun _ h9 => h9) rfl dX6_learn_13 ?_
        refine va_get (D := D) (ci := 4) (v := .ref (h 3)) (C := RX4) (T := TX4) (N := 3) hx hb hts iX4 hown hK hP 1 rfl rfl 1 (by decide) f_79 (fun _ h9 => h9) rfl dX6_learn_16 ?_
        refine lv_iload_n hx hb dX6_learn_19 rfl (lv_at hl 1 rfl) ?_
        refine cd_iald (f := S 3) hx hb hK hP 3 rfl (by omega) (by decide) dX6_learn_20 ?_
        have b_20 := (iv_3 hI ja (by omega)).1
        refine cd_tp (y := nI (nv (S 3 ja))) b_20.1 ?_
        have b_20 := b_20.2
        refine lv_iload_n hx hb dX6_learn_21 rfl (lv_at hl 2 rfl) ?_
        have M_22 := c_X6_with l (nv (S 3 ja)) jp (by omega)
        refine cd_roi (va_runS (As := [.int (nI (nv (S 3 ja))), .int (nI jp)]) (rest := []) ⟨hx, hb, hml, hown, hts⟩ M_22 (va_cwS 2 hts gX6_learn_X6_with rfl rfl rfl (by decide +kernel) ⟨Nat.le_of_ble_eq_true rfl, Nat.le_of_ble_eq_true rfl⟩) ⟨nuB.bl, fun U hU hW => ⟨rfl, trivial⟩⟩ rfl rfl hl.1 rfl (lv_room (Nat.le_of_ble_eq_true rfl)) dX6_learn_22 (by exact ⟨Nat.le_of_ble_eq_true rfl, Nat.le_of_ble_eq_true rfl⟩)) (fun r_22 hr_22 => ?_)
        subst hr_22
        refine cd_tp (y := nI (knF kb (nv (S 3 ja)) jp)) (by rw [knF, if_pos c_9]) ?_
        refine lv_goto (tgt := 41) hx hb dX6_learn_25 (by decide) ?_
        refine lv_istore (lv' := [(4, .int (nI (knF kb (nv (S 3 ja)) jp))), (0, .ref (h 0)), (1, .int (nI ja)), (2, .int (nI jp)), (3, .int (bI kb))]) hx hb dX6_learn_41 hl (by decide) rfl (fun ls hl => ?_)
        refine lv_iload hx hb dX6_learn_43 (lv_at hl 0 rfl) ?_
        have M_45 := c_J6_bitCount_0f7a4 l (knF kb (nv (S 3 ja)) jp) (by omega)
        refine cd_roi (va_runS (As := [.int (nI (knF kb (nv (S 3 ja)) jp))]) (rest := []) ⟨hx, hb, hml, hown, hts⟩ M_45 (va_cwS 1 hts gX6_learn_J6_bitCount_0f7a4 rfl rfl rfl (by decide +kernel) ⟨Nat.le_of_ble_eq_true rfl, Nat.le_of_ble_eq_true rfl⟩) ⟨nuB.bl, fun U hU hW => ⟨rfl, trivial⟩⟩ rfl rfl hl.1 rfl (lv_room (Nat.le_of_ble_eq_true rfl)) dX6_learn_45 (by exact ⟨Nat.le_of_ble_eq_true rfl, Nat.le_of_ble_eq_true rfl⟩)) (fun r_45 hr_45 => ?_)
        subst hr_45
        have hpc := pcn_le (knF kb (nv (S 3 ja)) jp) 12
        refine lv_istore (lv' := [(5, .int (nI (pcn 12 (knF kb (nv (S 3 ja)) jp)))), (4, .int (nI (knF kb (nv (S 3 ja)) jp))), (0, .ref (h 0)), (1, .int (nI ja)), (2, .int (nI jp)), (3, .int (bI kb))]) hx hb dX6_learn_48 hl (by decide) rfl (fun ls hl => ?_)
        refine lv_iload hx hb dX6_learn_50 (lv_at hl 0 rfl) ?_
        refine lv_iconst (v := nI 4) hx hb dX6_learn_52 (by decide) ?_
        refine cd_icmp_le (tgt := 66) hx hb dX6_learn_53 (by decide) (by omega) (by omega) (fun c_53 => ?_) (fun c_53 => ?_)
        · refine lv_aload_n hx hb dX6_learn_66 rfl (lv_at hl 2 rfl) ?_
          refine va_get (D := D) (ci := 6) (v := .ref (h 1)) (C := RX6) (T := TX6) (N := 8) hx hb hts iX6 hown hK hP 0 rfl rfl 0 (by decide) f_10 (fun _ h9 => h9) rfl dX6_learn_67 ?_
          refine va_get (D := D) (ci := 4) (v := .ref (h 3)) (C := RX4) (T := TX4) (N := 3) hx hb hts iX4 hown hK hP 1 rfl rfl 1 (by decide) f_79 (fun _ h9 => h9) rfl dX6_learn_70 ?_
          refine lv_iload_n hx hb dX6_learn_73 rfl (lv_at hl 3 rfl) ?_
          refine lv_iload hx hb dX6_learn_74 (lv_at hl 1 rfl) ?_
          refine cd_iast (f := S 3) hx hb hK hP hD hS 3 rfl (by omega) (by decide) dX6_learn_76 (fun H locs hP hD hS => ?_)
          have hP : va_P D vwCl (wC cy h (va_up S 3 (upd (S 3) ja (nI (knF kb (nv (S 3 ja)) jp)))) J) H := hP
          have hD : va_D A (wC cy h (va_up S 3 (upd (S 3) ja (nI (knF kb (nv (S 3 ja)) jp)))) J) := hD
          refine lv_iload hx hb dX6_learn_77 (lv_at hl 0 rfl) ?_
          refine vx_ret ?_
          refine W.widen (k := 4) (n := 24) (by decide) (by decide) ?_
          exact W.iret (v := nI (pcn 12 (knF kb (nv (S 3 ja)) jp))) hx hb hr (fun t ht hW => ⟨⟨_, J, rfl, (⟨rfl, by rw [hw_1, hw_5, decide_eq_true c_53]; rfl, hJ⟩), by rw [ht]; exact hP, hD⟩, hS.F ht⟩) hS.2.2 dX6_learn_79
        · exact cd_thr tf_IS tg_IS tn_IS (hG.2.2.2.ws hG.2.2.2.2.2.2.2.2.1) hx hb hfl hown tk_95 ti_IS hG.2.2.1.2.1 (fun w hw9 => hts w ((by decide +kernel : ∀ w ∈ (vx_atS RX6 99 xIS nm2).filter goodWord, w ∈ wsX6_learn) w hw9)) hTz hS rfl hl.1 hml dX6_learn_56 dX6_learn_59 dX6_learn_60 dX6_learn_62 dX6_learn_65 (fun x h9 => (htab x h9).elim) (Nat.le_of_ble_eq_true rfl) (Nat.le_of_ble_eq_true rfl) (Nat.le_of_ble_eq_true rfl) (Nat.le_of_ble_eq_true rfl) hlocks (Or.inr (⟨rfl, by rw [hw_1, hw_5, decide_eq_false (by omega)]; rfl⟩)) (by decide) (by decide)
