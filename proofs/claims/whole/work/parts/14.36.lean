set_option maxHeartbeats 4000000 in
set_option maxRecDepth 100000 in
theorem c_X6_sell (l : Launch) (D : va_G) (cy : qT) (hfl : l.stackTraces = false) (h : Nat → Nat) (S : qS) (J : qS) (hI : Inv S) (w : Int32) (pr : Int32) (q : Int32) (p : Int32) (hJ : jk J) (sz : Nat) : vx_Met l yX6_sell wsX6_sell ({ frames := 7, cells := 4, slots := 24, locals := 113 }) (va_Pc [.ref (h 0), .int w, .int pr, .int q, .int p] (thB D cy (wC cy h S J) sz)) (va_Qi (fun (r9 : Int32) (u : qS) => r9 = nI (nv (S 31 0)) ∧ th3 (inI w (nI 0) (nI (nv (S 30 0)) - nI 1) && inI p (nI 0) (nI 7)) (inI pr (nI 1) (nI 1000) && inI q (nI 0) (nI 3)) (decide (S 17 (nv w) = 0) && (decide (nv (S 31 0) < 100) && !(decide (q = nI 1) && decide (acI S (nv p) 0 = -1)))) = nI 0 ∧ jk u) (wrQ D (va_A (wC cy h S J) sz) (fun u : qS => (wC cy h (va_up (va_up (va_up (va_up (va_up (va_up (va_up S 21 (upd (S 21) (nv (S 31 0)) w)) 26 (upd (S 26) (nv (S 31 0)) pr)) 22 (upd (S 22) (nv (S 31 0)) q)) 23 (upd (S 23) (nv (S 31 0)) p)) 24 (upd (S 24) (nv (S 31 0)) (acI S (nv p) 0))) 32 (fun _ => S 32 0 + pr)) 31 (fun _ => nI (nv (S 31 0) + 1))) u))) (va_A (wC cy h S J) sz)) (nX (fun E => (E = xIO ∧ th3 (inI w (nI 0) (nI (nv (S 30 0)) - nI 1) && inI p (nI 0) (nI 7)) (inI pr (nI 1) (nI 1000) && inI q (nI 0) (nI 3)) (decide (S 17 (nv w) = 0) && (decide (nv (S 31 0) < 100) && !(decide (q = nI 1) && decide (acI S (nv p) 0 = -1)))) = nI 1) ∨ (E = xIA ∧ th3 (inI w (nI 0) (nI (nv (S 30 0)) - nI 1) && inI p (nI 0) (nI 7)) (inI pr (nI 1) (nI 1000) && inI q (nI 0) (nI 3)) (decide (S 17 (nv w) = 0) && (decide (nv (S 31 0) < 100) && !(decide (q = nI 1) && decide (acI S (nv p) 0 = -1)))) = nI 2) ∨ (E = xIS ∧ th3 (inI w (nI 0) (nI (nv (S 30 0)) - nI 1) && inI p (nI 0) (nI 7)) (inI pr (nI 1) (nI 1000) && inI q (nI 0) (nI 3)) (decide (S 17 (nv w) = 0) && (decide (nv (S 31 0) < 100) && !(decide (q = nI 1) && decide (acI S (nv p) 0 = -1)))) = nI 3))) 4 24 (va_A (wC cy h S J) sz) := by
  refine vx_ofW (cc := cX6_sell) (maxL := 6) (ret := (some .int)) (by decide) rfl ?_
  intro pp e9 s m9 args9 bl9 meth9 c9 s9 B hml htab hv
  obtain ⟨rfl, ⟨hsz, hP, hG, hD0⟩, hTz⟩ := hv
  have hx := B.exec
  have hb := B.bytes
  have hr := B.returns
  have hts := atoms_spec (ws := wsX6_sell) B.pre
  have hown : s.vm.findClass RX6 = some m9.cls := findClass_of_methodNamed B.named
  have hlocks := B.notSynchronized
  have hK := hG.K
  subst hsz
  have hD := hD0.self (sz := s.heap.size)
  generalize hAe : (va_A (wC cy h S J) s.heap.size) = A at hD hTz ⊢
  have hA : ∀ q : Nat, s.heap.size ≤ q → A q := fun q h9 => by rw [← hAe]; exact Or.inr h9
  have hS : va_S A s.heap s.heap [] := va_S.rf
  have hP : va_P D vwCl (wC cy h S J) s.heap := hP
  have f_40 := hts (.fieldLink RX6 40 "CastDesk" "programme" "LCastDesk$Programme;") (by decide +kernel)
  have f_176 := hts (.fieldLink RX6 176 "CastDesk$Programme" "count" "I") (by decide +kernel)
  have tk_58 := hts (.classLink RX6 58 "java/lang/IllegalArgumentException") (by decide +kernel)
  have ti_IA := hts (.initialized "java/lang/IllegalArgumentException") (by decide +kernel)
  have f_185 := hts (.fieldLink RX6 185 "CastDesk$Programme" "states" "[I") (by decide +kernel)
  have f_47 := hts (.fieldLink RX6 47 "CastDesk" "office" "LCastDesk$BoxOffice;") (by decide +kernel)
  have f_190 := hts (.fieldLink RX6 190 "CastDesk$BoxOffice" "count" "I") (by decide +kernel)
  have f_19 := hts (.fieldLink RX6 19 "CastDesk" "rows" "LCastDesk$Rows;") (by decide +kernel)
  have tk_95 := hts (.classLink RX6 95 "java/lang/IllegalStateException") (by decide +kernel)
  have ti_IS := hts (.initialized "java/lang/IllegalStateException") (by decide +kernel)
  have iX0 : ∀ w ∈ wsX00, w ∈ wsX6_sell := by decide +kernel
  have iX2 : ∀ w ∈ wsX20, w ∈ wsX6_sell := by decide +kernel
  have iX6 : ∀ w ∈ wsX60, w ∈ wsX6_sell := by decide +kernel
  have hl := lv_entry ([.ref (h 0), .int w, .int pr, .int q, .int p]) (n := 6) (Nat.le_of_ble_eq_true rfl)
  rw [lg_entry_eq]
  generalize (lg_sl ([.ref (h 0), .int w, .int pr, .int q, .int p]) ++ List.replicate (6 - (lg_sl ([.ref (h 0), .int w, .int pr, .int q, .int p])).length) Slot.unset).toArray = ls at hl ⊢
  have hl : lv_has ls 6 [(0, .ref (h 0)), (1, .int w), (2, .int pr), (3, .int q), (4, .int p)] := hl
  have h30 := (iv_30 hI).2
  have h31 := (iv_31 hI).2
  refine lv_iload_n hx hb dX6_sell_0 rfl (lv_at hl 1 rfl) ?_
  refine lv_aload_n hx hb dX6_sell_1 rfl (lv_at hl 0 rfl) ?_
  refine va_get (D := D) (ci := 6) (v := .ref (h 16)) (C := RX6) (T := TX6) (N := 8) hx hb hts iX6 hown hK hP 0 rfl rfl 4 (by decide) f_40 (fun _ h9 => h9) rfl dX6_sell_2 ?_
  refine va_get (D := D) (ci := 2) (v := .int (S 30 0)) (C := RX2) (T := TX2) (N := 4) hx hb hts iX2 hown hK hP 16 rfl rfl 3 (by decide) f_176 (fun _ h9 => h9) rfl dX6_sell_5 ?_
  have b_5 := iv_30 hI
  refine cd_tp (y := nI (nv (S 30 0))) b_5.1 ?_
  have b_5 := b_5.2
  have M_8 := c_X6_needOneOf l D cy hfl w (nv (S 30 0)) (by omega) s.heap.size
  have hPc : va_P D vwCl [] s.heap := fun k q h9 => by simp at h9
  have hDc : va_D A [] := ⟨fun i j x9 y9 h9 => by simp at h9, fun k q h9 => by simp at h9⟩
  refine cd_xrv (vx_runS (As := [.int w, .int (nI (nv (S 30 0)))]) (rest := []) ⟨hx, hb, hml, hown, hts⟩ M_8 (va_cwS 2 hts gX6_sell_X6_needOneOf rfl rfl rfl (by decide +kernel) ⟨Nat.le_of_ble_eq_true rfl, Nat.le_of_ble_eq_true rfl⟩) ⟨thB.bl, fun U hU hW => ⟨rfl, ⟨by rw [hU], by rw [hU]; exact hPc, hG.warm hW, hDc.weaken (fun _ _ _ _ => trivial)⟩, hTz.down hS (vaA_nil (fun q h9 => hA q (Nat.le_trans hS.1 h9))) hU hW⟩⟩ rfl rfl hl.1 rfl (lv_room (Nat.le_of_ble_eq_true rfl)) dX6_sell_8 (by exact ⟨Nat.le_of_ble_eq_true rfl, Nat.le_of_ble_eq_true rfl⟩)) hS (vaA_nil (fun q h9 => hA q (Nat.le_trans hS.1 h9))) (fun E9 ce9 q9 H1 locs1 hw_8 hS1 hz1 hk1 hce hcv hcl => ?_) (fun hw_8 locs hS => ?_)
  · exact vx_out (fun x h9 => (htab x h9).elim) hlocks hce hcv hcl (fun t ht hv9 => ⟨Or.inl (⟨hw_8.1, by rw [hw_8.2]; rfl⟩), by rw [ht]; exact hz1, fun q h9 => by rw [ht]; exact hk1 q h9⟩) hS1.2.2 (by decide) (by decide)
  · obtain ⟨jw, hjw, rfl⟩ := inI_cnt (by omega) hw_8
    try rw [nv_nI (show jw < 2147483648 by omega)]
    refine lv_iload hx hb dX6_sell_11 (lv_at hl 4 rfl) ?_
    have M_13 := c_X6_needPart l D cy hfl p s.heap.size
    have hPc : va_P D vwCl [] s.heap := fun k q h9 => by simp at h9
    have hDc : va_D A [] := ⟨fun i j x9 y9 h9 => by simp at h9, fun k q h9 => by simp at h9⟩
    refine cd_xrv (vx_runS (As := [.int p]) (rest := []) ⟨hx, hb, hml, hown, hts⟩ M_13 (va_cwS 1 hts gX6_sell_X6_needPart rfl rfl rfl (by decide +kernel) ⟨Nat.le_of_ble_eq_true rfl, Nat.le_of_ble_eq_true rfl⟩) ⟨thB.bl, fun U hU hW => ⟨rfl, ⟨by rw [hU], by rw [hU]; exact hPc, hG.warm hW, hDc.weaken (fun _ _ _ _ => trivial)⟩, hTz.down hS (vaA_nil (fun q h9 => hA q (Nat.le_trans hS.1 h9))) hU hW⟩⟩ rfl rfl hl.1 rfl (lv_room (Nat.le_of_ble_eq_true rfl)) dX6_sell_13 (by exact ⟨Nat.le_of_ble_eq_true rfl, Nat.le_of_ble_eq_true rfl⟩)) hS (vaA_nil (fun q h9 => hA q (Nat.le_trans hS.1 h9))) (fun E9 ce9 q9 H1 locs1 hw_13 hS1 hz1 hk1 hce hcv hcl => ?_) (fun hw_13 locs hS => ?_)
    · exact vx_out (fun x h9 => (htab x h9).elim) hlocks hce hcv hcl (fun t ht hv9 => ⟨Or.inl (⟨hw_13.1, by rw [hw_8, hw_13.2]; rfl⟩), by rw [ht]; exact hz1, fun q h9 => by rw [ht]; exact hk1 q h9⟩) hS1.2.2 (by decide) (by decide)
    · obtain ⟨jp, hjp, rfl⟩ := inI_nat (by decide) hw_13
      try rw [nv_nI (show jp < 2147483648 by omega)]
      refine lv_iload_n hx hb dX6_sell_16 rfl (lv_at hl 2 rfl) ?_
      refine lv_iconst (v := nI 1) hx hb dX6_sell_17 (by decide) ?_
      refine lv_icmp_lt (tgt := 28) hx hb dX6_sell_18 (by decide) (fun c_18 => ?_) (fun c_18 => ?_)
      · exact cd_thr tf_IA tg_IA tn_IA (hG.2.2.2.ws hG.2.2.2.2.2.2.2.1) hx hb hfl hown tk_58 ti_IA hG.2.2.1.2.2.2.2.2.2.2.2.1 (fun w hw9 => hts w ((by decide +kernel : ∀ w ∈ (vx_atS RX6 62 xIA nm2).filter goodWord, w ∈ wsX6_sell) w hw9)) hTz hS rfl hl.1 hml dX6_sell_28 dX6_sell_31 dX6_sell_32 dX6_sell_34 dX6_sell_37 (fun x h9 => (htab x h9).elim) (Nat.le_of_ble_eq_true rfl) (Nat.le_of_ble_eq_true rfl) (Nat.le_of_ble_eq_true rfl) (Nat.le_of_ble_eq_true rfl) hlocks (Or.inr (Or.inl (⟨rfl, by rw [hw_8, hw_13, inI_lo c_18]; rfl⟩))) (by decide) (by decide)
      · refine lv_iload_n hx hb dX6_sell_21 rfl (lv_at hl 2 rfl) ?_
        refine lv_sipush (v := nI 1000) hx hb dX6_sell_22 (by decide) ?_
        refine lv_icmp_le (tgt := 38) hx hb dX6_sell_25 (by decide) (fun c_25 => ?_) (fun c_25 => ?_)
        · refine lv_iload_n hx hb dX6_sell_38 rfl (lv_at hl 3 rfl) ?_
          refine lv_if_lt (tgt := 47) hx hb dX6_sell_39 (by decide) (fun c_39 => ?_) (fun c_39 => ?_)
          · exact cd_thr tf_IA tg_IA tn_IA (hG.2.2.2.ws hG.2.2.2.2.2.2.2.1) hx hb hfl hown tk_58 ti_IA hG.2.2.1.2.2.2.2.2.2.2.2.2.1 (fun w hw9 => hts w ((by decide +kernel : ∀ w ∈ (vx_atS RX6 62 xIA nm2).filter goodWord, w ∈ wsX6_sell) w hw9)) hTz hS rfl hl.1 hml dX6_sell_47 dX6_sell_50 dX6_sell_51 dX6_sell_53 dX6_sell_56 (fun x h9 => (htab x h9).elim) (Nat.le_of_ble_eq_true rfl) (Nat.le_of_ble_eq_true rfl) (Nat.le_of_ble_eq_true rfl) (Nat.le_of_ble_eq_true rfl) hlocks (Or.inr (Or.inl (⟨rfl, by rw [hw_8, hw_13, inI_t (Int32.not_lt.mp c_18) c_25, (show inI q (nI 0) (nI 3) = false from inI_lo c_39)]; rfl⟩))) (by decide) (by decide)
          · refine lv_iload_n hx hb dX6_sell_42 rfl (lv_at hl 3 rfl) ?_
            refine lv_iconst (v := nI 3) hx hb dX6_sell_43 (by decide) ?_
            refine lv_icmp_le (tgt := 57) hx hb dX6_sell_44 (by decide) (fun c_44 => ?_) (fun c_44 => ?_)
            · refine lv_aload_n hx hb dX6_sell_57 rfl (lv_at hl 0 rfl) ?_
              refine va_get (D := D) (ci := 6) (v := .ref (h 16)) (C := RX6) (T := TX6) (N := 8) hx hb hts iX6 hown hK hP 0 rfl rfl 4 (by decide) f_40 (fun _ h9 => h9) rfl dX6_sell_58 ?_
              refine va_get (D := D) (ci := 2) (v := .ref (h 17)) (C := RX2) (T := TX2) (N := 4) hx hb hts iX2 hown hK hP 16 rfl rfl 0 (by decide) f_185 (fun _ h9 => h9) rfl dX6_sell_61 ?_
              refine lv_iload_n hx hb dX6_sell_64 rfl (lv_at hl 1 rfl) ?_
              refine cd_iald (f := S 17) hx hb hK hP 17 rfl (by omega) (by decide) dX6_sell_65 ?_
              refine lv_if_eq (tgt := 79) hx hb dX6_sell_66 (by decide) (fun c_66 => ?_) (fun c_66 => ?_)
              · refine lv_aload_n hx hb dX6_sell_79 rfl (lv_at hl 0 rfl) ?_
                refine va_get (D := D) (ci := 6) (v := .ref (h 20)) (C := RX6) (T := TX6) (N := 8) hx hb hts iX6 hown hK hP 0 rfl rfl 5 (by decide) f_47 (fun _ h9 => h9) rfl dX6_sell_80 ?_
                refine va_get (D := D) (ci := 0) (v := .int (S 31 0)) (C := RX0) (T := TX0) (N := 8) hx hb hts iX0 hown hK hP 20 rfl rfl 6 (by decide) f_190 (fun _ h9 => h9) rfl dX6_sell_83 ?_
                have b_83 := iv_31 hI
                refine cd_tp (y := nI (nv (S 31 0))) b_83.1 ?_
                have b_83 := b_83.2
                refine lv_bipush (v := nI 100) hx hb dX6_sell_86 (by decide) ?_
                refine cd_icmp_lt (tgt := 101) hx hb dX6_sell_88 (by decide) (by omega) (by omega) (fun c_88 => ?_) (fun c_88 => ?_)
                · refine lv_aload_n hx hb dX6_sell_101 rfl (lv_at hl 0 rfl) ?_
                  refine va_get (D := D) (ci := 6) (v := .ref (h 5)) (C := RX6) (T := TX6) (N := 8) hx hb hts iX6 hown hK hP 0 rfl rfl 1 (by decide) f_19 (fun _ h9 => h9) rfl dX6_sell_102 ?_
                  refine lv_iload hx hb dX6_sell_105 (lv_at hl 4 rfl) ?_
                  refine lv_iconst (v := nI 0) hx hb dX6_sell_107 (by decide) ?_
                  have M_108 := c_X3_actorAt l D cy h S hI jp 0 (by omega) (by omega)
                  have hPc := hP.sub (ws' := (wX3 cy h S)) [5, 6, 7] rfl
                  refine cd_roi (va_runV (As := [.int (nI jp), .int (nI 0)]) (rest := []) ⟨hx, hb, hml, hown, hts⟩ M_108 (cwV 2 hts gX6_sell_X3_actorAt rfl rfl rfl (by decide +kernel) ⟨Nat.le_of_ble_eq_true rfl, Nat.le_of_ble_eq_true rfl⟩) ⟨roB.bl, va_recv hK hP (ci := 3) (q0 := 5) rfl rfl, fun U hU hW => ⟨rfl, by rw [hU]; exact hPc, hG.warm hW⟩⟩ rfl rfl hl.1 rfl (lv_room (Nat.le_of_ble_eq_true rfl)) dX6_sell_108 (by exact ⟨Nat.le_of_ble_eq_true rfl, Nat.le_of_ble_eq_true rfl⟩)) (fun r_108 hr_108 => ?_)
                  subst hr_108
                  refine lv_istore (lv' := [(5, .int (acI S jp 0)), (0, .ref (h 0)), (1, .int (nI jw)), (2, .int pr), (3, .int q), (4, .int (nI jp))]) hx hb dX6_sell_111 hl (by decide) rfl (fun ls hl => ?_)
                  refine lv_iload_n hx hb dX6_sell_113 rfl (lv_at hl 4 rfl) ?_
                  refine lv_iconst (v := nI 1) hx hb dX6_sell_114 (by decide) ?_
                  refine lv_icmp_ne (tgt := 134) hx hb dX6_sell_115 (by decide) (fun c_115 => ?_) (fun c_115 => ?_)
                  · refine lv_aload_n hx hb dX6_sell_134 rfl (lv_at hl 1 rfl) ?_
                    refine va_get (D := D) (ci := 6) (v := .ref (h 20)) (C := RX6) (T := TX6) (N := 8) hx hb hts iX6 hown hK hP 0 rfl rfl 5 (by decide) f_47 (fun _ h9 => h9) rfl dX6_sell_135 ?_
                    refine lv_iload_n hx hb dX6_sell_138 rfl (lv_at hl 2 rfl) ?_
                    refine lv_iload_n hx hb dX6_sell_139 rfl (lv_at hl 3 rfl) ?_
                    refine lv_iload_n hx hb dX6_sell_140 rfl (lv_at hl 4 rfl) ?_
                    refine lv_iload hx hb dX6_sell_141 (lv_at hl 5 rfl) ?_
                    refine lv_iload hx hb dX6_sell_143 (lv_at hl 0 rfl) ?_
                    have M_145 := c_X0_add l D cy h S hI (nI jw) pr q (nI jp) (acI S jp 0) (by omega) s.heap.size
                    have hPc := hP.sub (ws' := (wX0 cy h S)) [20, 21, 22, 23, 24, 25, 26] rfl
                    have hDc := hD.sub (ws' := (wX0 cy h S)) [20, 21, 22, 23, 24, 25, 26] (by decide) rfl
                    refine cd_fri (S := Unit) (W1 := fun u => (wX0 cy h (va_up (va_up (va_up (va_up (va_up (va_up (va_up S 21 (upd (S 21) (nv (S 31 0)) (nI jw))) 26 (upd (S 26) (nv (S 31 0)) pr)) 22 (upd (S 22) (nv (S 31 0)) q)) 23 (upd (S 23) (nv (S 31 0)) (nI jp))) 24 (upd (S 24) (nv (S 31 0)) (acI S jp 0))) 32 (fun _ => S 32 0 + pr)) 31 (fun _ => nI (nv (S 31 0) + 1))))) (ws' := fun u => (wC cy h (va_up (va_up (va_up (va_up (va_up (va_up (va_up S 21 (upd ((S 21)) (nv (S 31 0)) (nI jw))) 26 (upd ((S 26)) (nv (S 31 0)) pr)) 22 (upd ((S 22)) (nv (S 31 0)) q)) 23 (upd ((S 23)) (nv (S 31 0)) (nI jp))) 24 (upd ((S 24)) (nv (S 31 0)) (acI S jp 0))) 32 (fun _ => S 32 0 + pr)) 31 (fun _ => nI (nv (S 31 0) + 1))) J)) (wc := (wX0 cy h S)) (wr := [(h 0, .inr (6, [.ref (h 1), .ref (h 5), .ref (h 8), .ref (h 12), .ref (h 16), .ref (h 20), .int (S 27 0), .int (S 28 0)])), (h 1, .inr (4, [.ref (h 2), .ref (h 3), .ref (h 4)])), (h 2, aI cy 12 (S 2)), (h 3, aI cy 12 (S 3)), (h 4, aI cy 1001 (S 4)), (h 5, .inr (3, [.ref (h 6), .ref (h 7)])), (h 6, aI cy 32 (S 6)), (h 7, aI cy 8 (S 7)), (h 8, .inr (5, [.ref (h 9), .ref (h 10), .ref (h 11), .int (S 29 0)])), (h 9, aI cy 40 (S 9)), (h 10, aI cy 40 (S 10)), (h 11, aZ cy 40 (S 11)), (h 12, .inr (1, [.ref (h 13), .ref (h 14), .ref (h 15), .int (J 12 0)])), (h 13, aI cy 32 (J 13)), (h 14, aI cy 32 (J 14)), (h 15, aI cy 4096 (J 15)), (h 16, .inr (2, [.ref (h 17), .ref (h 18), .ref (h 19), .int (S 30 0)])), (h 17, aI cy 40 (S 17)), (h 18, aI cy 320 (S 18)), (h 19, aI cy 40 (S 19))]) (va_runV (As := [.int (nI jw), .int pr, .int q, .int (nI jp), .int (acI S jp 0)]) (rest := []) ⟨hx, hb, hml, hown, hts⟩ M_145 (cwV 5 hts gX6_sell_X0_add rfl rfl rfl (by decide +kernel) ⟨Nat.le_of_ble_eq_true rfl, Nat.le_of_ble_eq_true rfl⟩) ⟨wrB.bl, va_recv hK hP (ci := 0) (q0 := 20) rfl rfl, fun U hU hW => ⟨rfl, by rw [hU], by rw [hU]; exact hPc, hG.warm hW, hDc.weaken (fun _ _ _ _ => trivial)⟩⟩ rfl rfl hl.1 rfl (lv_room (Nat.le_of_ble_eq_true rfl)) dX6_sell_145 (by exact ⟨Nat.le_of_ble_eq_true rfl, Nat.le_of_ble_eq_true rfl⟩)) hP hD hS hA [20, 21, 22, 23, 24, 25, 26] [0, 1, 2, 3, 4, 5, 6, 7, 8, 9, 10, 11, 12, 13, 14, 15, 16, 17, 18, 19] [0, 1, 2, 3, 4, 5, 6, 7, 8, 9, 10, 11, 12, 13, 14, 15, 16, 17, 18, 19, 20, 21, 22, 23, 24, 25, 26] rfl rfl (by decide) (by decide) (by decide) (fun _ => rfl) (fun r_145 _ H locs hw_145 hP hD hS => ?_)
                    subst hw_145
                    have hP : va_P D vwCl (wC cy h (va_up (va_up (va_up (va_up (va_up (va_up (va_up S 21 (upd ((S 21)) (nv (S 31 0)) (nI jw))) 26 (upd ((S 26)) (nv (S 31 0)) pr)) 22 (upd ((S 22)) (nv (S 31 0)) q)) 23 (upd ((S 23)) (nv (S 31 0)) (nI jp))) 24 (upd ((S 24)) (nv (S 31 0)) (acI S jp 0))) 32 (fun _ => S 32 0 + pr)) 31 (fun _ => nI (nv (S 31 0) + 1))) J) H := hP
                    have hD : va_D A (wC cy h (va_up (va_up (va_up (va_up (va_up (va_up (va_up S 21 (upd ((S 21)) (nv (S 31 0)) (nI jw))) 26 (upd ((S 26)) (nv (S 31 0)) pr)) 22 (upd ((S 22)) (nv (S 31 0)) q)) 23 (upd ((S 23)) (nv (S 31 0)) (nI jp))) 24 (upd ((S 24)) (nv (S 31 0)) (acI S jp 0))) 32 (fun _ => S 32 0 + pr)) 31 (fun _ => nI (nv (S 31 0) + 1))) J) := hD
                    refine vx_ret ?_
                    refine W.widen (k := 4) (n := 24) (by decide) (by decide) ?_
                    exact W.iret (v := nI (nv (S 31 0))) hx hb hr (fun t ht hW => ⟨⟨_, J, rfl, (⟨rfl, by rw [hw_8, hw_13, inI_t (Int32.not_lt.mp c_18) c_25, (show inI q (nI 0) (nI 3) = true from inI_t (Int32.not_lt.mp c_39) c_44), decide_eq_true c_66, decide_eq_true (show nv (S 31 0) < 100 by omega), decide_eq_false c_115]; rfl, hJ⟩), by rw [ht]; exact hP, hD⟩, hS.F ht⟩) hS.2.2 dX6_sell_148
                  · refine lv_iload hx hb dX6_sell_118 (lv_at hl 0 rfl) ?_
                    refine lv_iconst (v := (-1)) hx hb dX6_sell_120 (by decide) ?_
                    refine lv_icmp_ne (tgt := 134) hx hb dX6_sell_121 (by decide) (fun c_121 => ?_) (fun c_121 => ?_)
                    · refine lv_aload_n hx hb dX6_sell_134 rfl (lv_at hl 1 rfl) ?_
                      refine va_get (D := D) (ci := 6) (v := .ref (h 20)) (C := RX6) (T := TX6) (N := 8) hx hb hts iX6 hown hK hP 0 rfl rfl 5 (by decide) f_47 (fun _ h9 => h9) rfl dX6_sell_135 ?_
                      refine lv_iload_n hx hb dX6_sell_138 rfl (lv_at hl 2 rfl) ?_
                      refine lv_iload_n hx hb dX6_sell_139 rfl (lv_at hl 3 rfl) ?_
                      refine lv_iload_n hx hb dX6_sell_140 rfl (lv_at hl 4 rfl) ?_
                      refine lv_iload hx hb dX6_sell_141 (lv_at hl 5 rfl) ?_
                      refine lv_iload hx hb dX6_sell_143 (lv_at hl 0 rfl) ?_
                      have M_145 := c_X0_add l D cy h S hI (nI jw) pr q (nI jp) (acI S jp 0) (by omega) s.heap.size
                      have hPc := hP.sub (ws' := (wX0 cy h S)) [20, 21, 22, 23, 24, 25, 26] rfl
                      have hDc := hD.sub (ws' := (wX0 cy h S)) [20, 21, 22, 23, 24, 25, 26] (by decide) rfl
                      refine cd_fri (S := Unit) (W1 := fun u => (wX0 cy h (va_up (va_up (va_up (va_up (va_up (va_up (va_up S 21 (upd (S 21) (nv (S 31 0)) (nI jw))) 26 (upd (S 26) (nv (S 31 0)) pr)) 22 (upd (S 22) (nv (S 31 0)) q)) 23 (upd (S 23) (nv (S 31 0)) (nI jp))) 24 (upd (S 24) (nv (S 31 0)) (acI S jp 0))) 32 (fun _ => S 32 0 + pr)) 31 (fun _ => nI (nv (S 31 0) + 1))))) (ws' := fun u => (wC cy h (va_up (va_up (va_up (va_up (va_up (va_up (va_up S 21 (upd ((S 21)) (nv (S 31 0)) (nI jw))) 26 (upd ((S 26)) (nv (S 31 0)) pr)) 22 (upd ((S 22)) (nv (S 31 0)) q)) 23 (upd ((S 23)) (nv (S 31 0)) (nI jp))) 24 (upd ((S 24)) (nv (S 31 0)) (acI S jp 0))) 32 (fun _ => S 32 0 + pr)) 31 (fun _ => nI (nv (S 31 0) + 1))) J)) (wc := (wX0 cy h S)) (wr := [(h 0, .inr (6, [.ref (h 1), .ref (h 5), .ref (h 8), .ref (h 12), .ref (h 16), .ref (h 20), .int (S 27 0), .int (S 28 0)])), (h 1, .inr (4, [.ref (h 2), .ref (h 3), .ref (h 4)])), (h 2, aI cy 12 (S 2)), (h 3, aI cy 12 (S 3)), (h 4, aI cy 1001 (S 4)), (h 5, .inr (3, [.ref (h 6), .ref (h 7)])), (h 6, aI cy 32 (S 6)), (h 7, aI cy 8 (S 7)), (h 8, .inr (5, [.ref (h 9), .ref (h 10), .ref (h 11), .int (S 29 0)])), (h 9, aI cy 40 (S 9)), (h 10, aI cy 40 (S 10)), (h 11, aZ cy 40 (S 11)), (h 12, .inr (1, [.ref (h 13), .ref (h 14), .ref (h 15), .int (J 12 0)])), (h 13, aI cy 32 (J 13)), (h 14, aI cy 32 (J 14)), (h 15, aI cy 4096 (J 15)), (h 16, .inr (2, [.ref (h 17), .ref (h 18), .ref (h 19), .int (S 30 0)])), (h 17, aI cy 40 (S 17)), (h 18, aI cy 320 (S 18)), (h 19, aI cy 40 (S 19))]) (va_runV (As := [.int (nI jw), .int pr, .int q, .int (nI jp), .int (acI S jp 0)]) (rest := []) ⟨hx, hb, hml, hown, hts⟩ M_145 (cwV 5 hts gX6_sell_X0_add rfl rfl rfl (by decide +kernel) ⟨Nat.le_of_ble_eq_true rfl, Nat.le_of_ble_eq_true rfl⟩) ⟨wrB.bl, va_recv hK hP (ci := 0) (q0 := 20) rfl rfl, fun U hU hW => ⟨rfl, by rw [hU], by rw [hU]; exact hPc, hG.warm hW, hDc.weaken (fun _ _ _ _ => trivial)⟩⟩ rfl rfl hl.1 rfl (lv_room (Nat.le_of_ble_eq_true rfl)) dX6_sell_145 (by exact ⟨Nat.le_of_ble_eq_true rfl, Nat.le_of_ble_eq_true rfl⟩)) hP hD hS hA [20, 21, 22, 23, 24, 25, 26] [0, 1, 2, 3, 4, 5, 6, 7, 8, 9, 10, 11, 12, 13, 14, 15, 16, 17, 18, 19] [0, 1, 2, 3, 4, 5, 6, 7, 8, 9, 10, 11, 12, 13, 14, 15, 16, 17, 18, 19, 20, 21, 22, 23, 24, 25, 26] rfl rfl (by decide) (by decide) (by decide) (fun _ => rfl) (fun r_145 _ H locs hw_145 hP hD hS => ?_)
                      subst hw_145
                      have hP : va_P D vwCl (wC cy h (va_up (va_up (va_up (va_up (va_up (va_up (va_up S 21 (upd ((S 21)) (nv (S 31 0)) (nI jw))) 26 (upd ((S 26)) (nv (S 31 0)) pr)) 22 (upd ((S 22)) (nv (S 31 0)) q)) 23 (upd ((S 23)) (nv (S 31 0)) (nI jp))) 24 (upd ((S 24)) (nv (S 31 0)) (acI S jp 0))) 32 (fun _ => S 32 0 + pr)) 31 (fun _ => nI (nv (S 31 0) + 1))) J) H := hP
                      have hD : va_D A (wC cy h (va_up (va_up (va_up (va_up (va_up (va_up (va_up S 21 (upd ((S 21)) (nv (S 31 0)) (nI jw))) 26 (upd ((S 26)) (nv (S 31 0)) pr)) 22 (upd ((S 22)) (nv (S 31 0)) q)) 23 (upd ((S 23)) (nv (S 31 0)) (nI jp))) 24 (upd ((S 24)) (nv (S 31 0)) (acI S jp 0))) 32 (fun _ => S 32 0 + pr)) 31 (fun _ => nI (nv (S 31 0) + 1))) J) := hD
                      refine vx_ret ?_
                      refine W.widen (k := 4) (n := 24) (by decide) (by decide) ?_
                      exact W.iret (v := nI (nv (S 31 0))) hx hb hr (fun t ht hW => ⟨⟨_, J, rfl, (⟨rfl, by rw [hw_8, hw_13, inI_t (Int32.not_lt.mp c_18) c_25, (show inI q (nI 0) (nI 3) = true from inI_t (Int32.not_lt.mp c_39) c_44), decide_eq_true c_66, decide_eq_true (show nv (S 31 0) < 100 by omega), decide_eq_false c_121, Bool.and_false]; rfl, hJ⟩), by rw [ht]; exact hP, hD⟩, hS.F ht⟩) hS.2.2 dX6_sell_148
                    · exact cd_thr tf_IS tg_IS tn_IS (hG.2.2.2.ws hG.2.2.2.2.2.2.2.2.1) hx hb hfl hown tk_95 ti_IS hG.2.2.1.2.2.2.2.2.2.2.2.2.2.2.2.1 (fun w hw9 => hts w ((by decide +kernel : ∀ w ∈ (vx_atS RX6 99 xIS nm2).filter goodWord, w ∈ wsX6_sell) w hw9)) hTz hS rfl hl.1 hml dX6_sell_124 dX6_sell_127 dX6_sell_128 dX6_sell_130 dX6_sell_133 (fun x h9 => (htab x h9).elim) (Nat.le_of_ble_eq_true rfl) (Nat.le_of_ble_eq_true rfl) (Nat.le_of_ble_eq_true rfl) (Nat.le_of_ble_eq_true rfl) hlocks (Or.inr (Or.inr (⟨rfl, by rw [hw_8, hw_13, inI_t (Int32.not_lt.mp c_18) c_25, (show inI q (nI 0) (nI 3) = true from inI_t (Int32.not_lt.mp c_39) c_44), decide_eq_true c_66, decide_eq_true (by omega), decide_eq_true c_115, decide_eq_true c_121]; rfl⟩))) (by decide) (by decide)
                · exact cd_thr tf_IS tg_IS tn_IS (hG.2.2.2.ws hG.2.2.2.2.2.2.2.2.1) hx hb hfl hown tk_95 ti_IS hG.2.2.1.2.2.2.2.2.2.2.2.2.2.2.1 (fun w hw9 => hts w ((by decide +kernel : ∀ w ∈ (vx_atS RX6 99 xIS nm2).filter goodWord, w ∈ wsX6_sell) w hw9)) hTz hS rfl hl.1 hml dX6_sell_91 dX6_sell_94 dX6_sell_95 dX6_sell_97 dX6_sell_100 (fun x h9 => (htab x h9).elim) (Nat.le_of_ble_eq_true rfl) (Nat.le_of_ble_eq_true rfl) (Nat.le_of_ble_eq_true rfl) (Nat.le_of_ble_eq_true rfl) hlocks (Or.inr (Or.inr (⟨rfl, by rw [hw_8, hw_13, inI_t (Int32.not_lt.mp c_18) c_25, (show inI q (nI 0) (nI 3) = true from inI_t (Int32.not_lt.mp c_39) c_44), decide_eq_true c_66, decide_eq_false (by omega)]; rfl⟩))) (by decide) (by decide)
              · exact cd_thr tf_IS tg_IS tn_IS (hG.2.2.2.ws hG.2.2.2.2.2.2.2.2.1) hx hb hfl hown tk_95 ti_IS hG.2.2.1.2.2.2.2.2.2.2.2.2.2.1 (fun w hw9 => hts w ((by decide +kernel : ∀ w ∈ (vx_atS RX6 99 xIS nm2).filter goodWord, w ∈ wsX6_sell) w hw9)) hTz hS rfl hl.1 hml dX6_sell_69 dX6_sell_72 dX6_sell_73 dX6_sell_75 dX6_sell_78 (fun x h9 => (htab x h9).elim) (Nat.le_of_ble_eq_true rfl) (Nat.le_of_ble_eq_true rfl) (Nat.le_of_ble_eq_true rfl) (Nat.le_of_ble_eq_true rfl) hlocks (Or.inr (Or.inr (⟨rfl, by rw [hw_8, hw_13, inI_t (Int32.not_lt.mp c_18) c_25, (show inI q (nI 0) (nI 3) = true from inI_t (Int32.not_lt.mp c_39) c_44), decide_eq_false c_66]; rfl⟩))) (by decide) (by decide)
            · exact cd_thr tf_IA tg_IA tn_IA (hG.2.2.2.ws hG.2.2.2.2.2.2.2.1) hx hb hfl hown tk_58 ti_IA hG.2.2.1.2.2.2.2.2.2.2.2.2.1 (fun w hw9 => hts w ((by decide +kernel : ∀ w ∈ (vx_atS RX6 62 xIA nm2).filter goodWord, w ∈ wsX6_sell) w hw9)) hTz hS rfl hl.1 hml dX6_sell_47 dX6_sell_50 dX6_sell_51 dX6_sell_53 dX6_sell_56 (fun x h9 => (htab x h9).elim) (Nat.le_of_ble_eq_true rfl) (Nat.le_of_ble_eq_true rfl) (Nat.le_of_ble_eq_true rfl) (Nat.le_of_ble_eq_true rfl) hlocks (Or.inr (Or.inl (⟨rfl, by rw [hw_8, hw_13, inI_t (Int32.not_lt.mp c_18) c_25, (show inI q (nI 0) (nI 3) = false from inI_hi (Int32.not_le.mp c_44))]; rfl⟩))) (by decide) (by decide)
        · exact cd_thr tf_IA tg_IA tn_IA (hG.2.2.2.ws hG.2.2.2.2.2.2.2.1) hx hb hfl hown tk_58 ti_IA hG.2.2.1.2.2.2.2.2.2.2.2.1 (fun w hw9 => hts w ((by decide +kernel : ∀ w ∈ (vx_atS RX6 62 xIA nm2).filter goodWord, w ∈ wsX6_sell) w hw9)) hTz hS rfl hl.1 hml dX6_sell_28 dX6_sell_31 dX6_sell_32 dX6_sell_34 dX6_sell_37 (fun x h9 => (htab x h9).elim) (Nat.le_of_ble_eq_true rfl) (Nat.le_of_ble_eq_true rfl) (Nat.le_of_ble_eq_true rfl) (Nat.le_of_ble_eq_true rfl) hlocks (Or.inr (Or.inl (⟨rfl, by rw [hw_8, hw_13, inI_hi (Int32.not_le.mp c_25)]; rfl⟩))) (by decide) (by decide)
