set_option maxHeartbeats 4000000 in
set_option maxRecDepth 100000 in
/-- the theatre is set up, then the turns -/
theorem lw_rest (l : Launch) {p : Program} {e : Env} {s : State} {m : MethodId} {below : List Frame} {meth : Method} {c : Code} (D : va_G) (cy : qT) {b L : Nat} {xs : Nat → Int32} (hx : p.tables.exec = Jvm.exec) (hb : c.code = cL_law) (hml : c.maxLocals = 10) (hr : meth.sig.returnType = ret) (hlocks : meth.locks = false) (hown : s.vm.findClass RL = some m.cls) (hts : ∀ w ∈ wsL_law, w.before #[Value.ref b] s = true) (hG : Gk D cy s) (hX : va_X b L xs s s.heap) (hbl : b < s.heap.size) (hL : L ≤ 260) (A : Nat → Prop) (hA : ∀ q : Nat, s.heap.size ≤ q → A q) (hAe : ∀ q : Nat, A q → s.heap.size ≤ q) (hbA : ¬ A b) (h o : Nat → Nat) (H : Heap) (locs : List Loc) (hP : va_P D vwCl (wLA cy h o S0i J0i (S0i 6) (S0i 7) (kF (S0i 3)) (fun _ => 0) (fun _ => 0)) H) (hD : va_D A (wLA cy h o S0i J0i (S0i 6) (S0i 7) (kF (S0i 3)) (fun _ => 0) (fun _ => 0))) (hS : va_S A s.heap H locs) (ls : Array Slot) (hl : lv_has ls 10 [(0, .ref b), (1, .ref (h 0)), (2, .ref (o 0)), (3, .ref (o 1)), (4, .ref (o 2)), (5, .ref (o 3)), (6, .ref (o 4))]) : W p l e room_1 s m #[Value.ref b] below meth c H locs 1000 30000 (lw_Z below #[Value.ref b] s) (F0 m 35 ls []) := by
  have hK := hG.K
  have k_86 := hts (.constant RL 86 2147483647) (by decide +kernel)
  refine lv_aload hx hb dL_law_35 (lv_at hl 5 rfl) ?_
  refine lv_iconst (v := nI 0) hx hb dL_law_37 (by decide) ?_
  refine lv_iconst (v := nI 2) hx hb dL_law_38 (by decide) ?_
  refine lv_aload_n hx hb dL_law_39 rfl (lv_at hl 0 rfl) ?_
  refine lv_iconst (v := nI 0) hx hb dL_law_40 (by decide) ?_
  have M_41 := c_L_cell l b L xs hL (0) (by omega)
  refine cd_roi (va_runS (As := [.ref b, .int (nI 0)]) (rest := [.int (nI 2), .int (nI 0), .ref (o 3)]) ⟨hx, hb, hml, hown, hts⟩ M_41 (va_cwS 2 hts gL_law_L_cell rfl rfl rfl (by decide +kernel) ⟨Nat.le_of_ble_eq_true rfl, Nat.le_of_ble_eq_true rfl⟩) ⟨clB.bl, fun U hU hW => ⟨rfl, by rw [hU]; exact va_X.moved hW.alike (hX.kept (hS.2.1 b hbl hbA)), by rw [hU]; exact Nat.lt_of_lt_of_le hbl hS.1⟩⟩ rfl rfl hl.1 rfl (lv_room (Nat.le_of_ble_eq_true rfl)) dL_law_41 (by exact ⟨Nat.le_of_ble_eq_true rfl, Nat.le_of_ble_eq_true rfl⟩)) (fun r_41 _ => ?_)
  refine lv_ldc (v := 2147483647) hx hb hown k_86 dL_law_44 ?_
  refine lv_iand hx hb dL_law_46 ?_
  refine lv_iconst (v := nI 4) hx hb dL_law_47 (by decide) ?_
  have M_48 := c_L_at l (r_41 &&& 2147483647) 4 (by decide) (by decide)
  refine cd_roi (va_runS (As := [.int (r_41 &&& 2147483647), .int (nI 4)]) (rest := [.int (nI 2), .int (nI 0), .ref (o 3)]) ⟨hx, hb, hml, hown, hts⟩ M_48 (va_cwS 2 hts gL_law_L_at rfl rfl rfl (by decide +kernel) ⟨Nat.le_of_ble_eq_true rfl, Nat.le_of_ble_eq_true rfl⟩) ⟨nuB.bl, fun U hU hW => ⟨rfl, trivial⟩⟩ rfl rfl hl.1 rfl (lv_room (Nat.le_of_ble_eq_true rfl)) dL_law_48 (by exact ⟨Nat.le_of_ble_eq_true rfl, Nat.le_of_ble_eq_true rfl⟩)) (fun r_48 hr_48 => ?_)
  subst hr_48
  obtain ⟨z, hz, hze⟩ : ∃ t9 : Nat, t9 < 4 ∧ nI ((r_41 &&& 2147483647).toUInt32.toNat / 2 % 4) = nI t9 := ⟨_, Nat.mod_lt _ (by decide), rfl⟩
  refine cd_tp (y := nI z) (hze) ?_
  refine cd_iadd hx hb dL_law_51 ?_
  refine cd_iast (f := fun _ => 0) hx hb hK hP hD hS 30 rfl (by omega) (by decide) dL_law_52 (fun H locs hP hD hS => ?_)
  have hP : va_P D vwCl (wLA cy h o S0i J0i (S0i 6) (S0i 7) (kF (S0i 3)) (upd (fun _ => 0) 0 (nI (2 + z))) (fun _ => 0)) H := hP
  have hD : va_D A (wLA cy h o S0i J0i (S0i 6) (S0i 7) (kF (S0i 3)) (upd (fun _ => 0) 0 (nI (2 + z))) (fun _ => 0)) := hD
  have e_52 : (upd (fun _ => 0) 0 (nI (2 + z))) = (mF (nI (2 + z)) 0) := mF_z _
  rw [e_52] at hP hD
  have hP : va_P D vwCl (wLA cy h o S0i J0i (S0i 6) (S0i 7) (kF (S0i 3)) (mF (nI (2 + z)) 0) (fun _ => 0)) H := hP
  have hD : va_D A (wLA cy h o S0i J0i (S0i 6) (S0i 7) (kF (S0i 3)) (mF (nI (2 + z)) 0) (fun _ => 0)) := hD
  refine lv_aload_n hx hb dL_law_53 rfl (lv_at hl 1 rfl) ?_
  refine lv_aload hx hb dL_law_54 (lv_at hl 5 rfl) ?_
  refine lv_iconst (v := nI 0) hx hb dL_law_56 (by decide) ?_
  refine cd_iald (f := mF (nI (2 + z)) 0) hx hb hK hP 30 rfl (by omega) (by decide) dL_law_57 ?_
  refine cd_tp (y := nI (2 + z)) (rfl) ?_
  have M_58 := c_X6_setParts l D cy h S0i J0i inv_0 (2 + z) (by omega) (by omega) H.size
  have hPc := hP.sub (ws' := (wC cy h S0i J0i)) [0, 1, 2, 3, 4, 5, 6, 7, 8, 9, 10, 11, 12, 13, 14, 15, 16, 17, 18, 19, 20, 21, 22, 23, 24, 25, 26] rfl
  have hDc := hD.sub (ws' := (wC cy h S0i J0i)) [0, 1, 2, 3, 4, 5, 6, 7, 8, 9, 10, 11, 12, 13, 14, 15, 16, 17, 18, 19, 20, 21, 22, 23, 24, 25, 26] (by decide) rfl
  refine cd_fri (S := Unit) (W1 := fun u => (wC cy h (va_up S0i 27 (fun _ => nI (2 + z))) J0i)) (ws' := fun u => (wLA cy h o (va_up S0i 27 (fun _ => nI (2 + z))) J0i (S0i 6) (S0i 7) (kF (S0i 3)) (mF (nI (2 + z)) 0) (fun _ => 0))) (wc := (wC cy h S0i J0i)) (wr := [(o 0, aI cy 32 (S0i 6)), (o 1, aI cy 8 (S0i 7)), (o 2, aI cy 12 (kF (S0i 3))), (o 3, aI cy 2 (mF (nI (2 + z)) 0)), (o 4, aI cy 8 (fun _ => 0))]) (va_runV (As := [.int (nI (2 + z))]) (rest := []) ⟨hx, hb, hml, hown, hts⟩ M_58 (cwV 1 hts gL_law_X6_setParts rfl rfl rfl (by decide +kernel) ⟨Nat.le_of_ble_eq_true rfl, Nat.le_of_ble_eq_true rfl⟩) ⟨wrB.bl, va_recv hK hP (ci := 6) (q0 := 0) rfl rfl, fun U hU hW => ⟨rfl, by rw [hU], by rw [hU]; exact hPc, hG.warm hW, hDc.weaken (fun _ _ _ _ => trivial)⟩⟩ rfl rfl hl.1 rfl (lv_room (Nat.le_of_ble_eq_true rfl)) dL_law_58 (by exact ⟨Nat.le_of_ble_eq_true rfl, Nat.le_of_ble_eq_true rfl⟩)) hP hD hS hA [0, 1, 2, 3, 4, 5, 6, 7, 8, 9, 10, 11, 12, 13, 14, 15, 16, 17, 18, 19, 20, 21, 22, 23, 24, 25, 26] [27, 28, 29, 30, 31] [5, 6, 7, 8, 9, 10, 11, 12, 13, 14, 15, 16, 17, 18, 19, 20, 21, 22, 23, 24, 25, 26, 27, 28, 29, 30, 31, 0, 1, 2, 3, 4] rfl rfl (by decide) (by decide) (by decide) (fun _ => rfl) (fun r_58 _ H locs hw_58 hP hD hS => ?_)
  subst hw_58
  have hP : va_P D vwCl (wLA cy h o (va_up S0i 27 (fun _ => nI (2 + z))) J0i (S0i 6) (S0i 7) (kF (S0i 3)) (mF (nI (2 + z)) 0) (fun _ => 0)) H := hP
  have hD : va_D A (wLA cy h o (va_up S0i 27 (fun _ => nI (2 + z))) J0i (S0i 6) (S0i 7) (kF (S0i 3)) (mF (nI (2 + z)) 0) (fun _ => 0)) := hD
  refine cd_tp (y := nI 1) (by rw [show S0i 27 0 = nI 1 from rfl, nv_nI (by decide)]) ?_
  refine lv_iconst (v := nI 1) hx hb dL_law_61 (by decide) ?_
  refine cd_icmp_eq (tgt := 67) hx hb dL_law_62 (by decide) (by omega) (by omega) (fun c_62 => ?_) (fun c_62 => ?_)
  · refine lv_iconst (v := nI 0) hx hb dL_law_67 (by decide) ?_
    refine lv_istore (lv' := [(7, .int (nI 0)), (0, .ref b), (1, .ref (h 0)), (2, .ref (o 0)), (3, .ref (o 1)), (4, .ref (o 2)), (5, .ref (o 3)), (6, .ref (o 4))]) hx hb dL_law_68 hl (by decide) rfl (fun ls hl => ?_)
    refine wh2 (nL := 10) (fun (i : Nat) (S : qS) => i ≤ 2 + z ∧ LQ (2 + z) i 0 S) (fun (i : Nat) (S : qS) => 2 + z - i) (fun (i : Nat) (S : qS) => [(0, .ref b), (1, .ref (h 0)), (2, .ref (o 0)), (3, .ref (o 1)), (4, .ref (o 2)), (5, .ref (o 3)), (6, .ref (o 4)), (7, .int (nI i))]) (fun (i : Nat) (S : qS) => (wLA cy h o S J0i (S 6) (S 7) (kF (S 3)) (mF (S 27 0) (S 29 0)) (fun _ => 0))) (fun i S hi_70 ih_70 H locs hP hD hS ls hl => ?_) 0 (va_up S0i 27 (fun _ => nI (2 + z))) (⟨Nat.zero_le _, lq_0 (by omega) (by omega)⟩) hP hD hS (lv_sub hl [1, 2, 3, 4, 5, 6, 7, 0] rfl)
    have hP : va_P D vwCl (wLA cy h o S J0i (S 6) (S 7) (kF (S 3)) (mF (S 27 0) (S 29 0)) (fun _ => 0)) H := hP
    have hD : va_D A (wLA cy h o S J0i (S 6) (S 7) (kF (S 3)) (mF (S 27 0) (S 29 0)) (fun _ => 0)) := hD
    obtain ⟨hi1, hq⟩ := hi_70
    have hI := hq.1
    have hq27 := hq.2.2.2.1
    refine lv_iload hx hb dL_law_70 (lv_at hl 7 rfl) ?_
    refine lv_aload hx hb dL_law_72 (lv_at hl 5 rfl) ?_
    refine lv_iconst (v := nI 0) hx hb dL_law_74 (by decide) ?_
    refine cd_iald (f := mF (S 27 0) (S 29 0)) hx hb hK hP 30 rfl (by omega) (by decide) dL_law_75 ?_
    refine cd_tp (y := S 27 0) (rfl) ?_
    refine cd_tp (y := nI (2 + z)) (by rw [(iv_27 hI).1.1, hq27]) ?_
    refine cd_icmp_ge (tgt := 205) hx hb dL_law_76 (by decide) (by omega) (by omega) (fun c_76 => ?_) (fun c_76 => ?_)
    · exact lw_turns l D cy hx hb hml hr hlocks hown hts hG hX hbl hL A hA hAe hbA h o (S, J0i, fun _ => 0) ⟨hI, hq.2.1, hq.2.2.1, jk_0⟩ H locs hP hD hS ls (lv_sub hl [0, 1, 2, 3, 4, 5, 6] rfl)
    · refine lv_iconst (v := nI 0) hx hb dL_law_79 (by decide) ?_
      refine lv_istore (lv' := [(8, .int (nI 0)), (0, .ref b), (1, .ref (h 0)), (2, .ref (o 0)), (3, .ref (o 1)), (4, .ref (o 2)), (5, .ref (o 3)), (6, .ref (o 4)), (7, .int (nI i))]) hx hb dL_law_80 hl (by decide) rfl (fun ls hl => ?_)
      refine wh2 (nL := 10) (fun (e1 : Nat) (S : qS) => e1 ≤ 2 ∧ LQ (2 + z) i e1 S) (fun (e1 : Nat) (S : qS) => 2 - e1) (fun (e1 : Nat) (S : qS) => [(0, .ref b), (1, .ref (h 0)), (2, .ref (o 0)), (3, .ref (o 1)), (4, .ref (o 2)), (5, .ref (o 3)), (6, .ref (o 4)), (7, .int (nI i)), (8, .int (nI e1))]) (fun (e1 : Nat) (S : qS) => (wLA cy h o S J0i (S 6) (S 7) (kF (S 3)) (mF (S 27 0) (S 29 0)) (fun _ => 0))) (fun e1 S hi_82 ih_82 H locs hP hD hS ls hl => ?_) 0 S (⟨Nat.zero_le _, hq⟩) hP hD hS (lv_sub hl [1, 2, 3, 4, 5, 6, 7, 8, 0] rfl)
      have hP : va_P D vwCl (wLA cy h o S J0i (S 6) (S 7) (kF (S 3)) (mF (S 27 0) (S 29 0)) (fun _ => 0)) H := hP
      have hD : va_D A (wLA cy h o S J0i (S 6) (S 7) (kF (S 3)) (mF (S 27 0) (S 29 0)) (fun _ => 0)) := hD
      obtain ⟨he1, hq⟩ := hi_82
      have hI := hq.1
      have hq29 := hq.2.2.2.2.1
      have hq7 := hq.2.2.2.2.2.2.1
      refine lv_iload hx hb dL_law_82 (lv_at hl 8 rfl) ?_
      refine lv_iconst (v := nI 2) hx hb dL_law_84 (by decide) ?_
      refine cd_icmp_ge (tgt := 177) hx hb dL_law_85 (by decide) (by omega) (by omega) (fun c_85 => ?_) (fun c_85 => ?_)
      · have ee : e1 = 2 := by omega
        subst ee
        have hP : va_P D vwCl (wLA cy h o S J0i (S 6) (S 7) (kF (S 3)) (mF (S 27 0) (S 29 0)) (fun _ => 0)) H := hP
        have hD : va_D A (wLA cy h o S J0i (S 6) (S 7) (kF (S 3)) (mF (S 27 0) (S 29 0)) (fun _ => 0)) := hD
        refine lv_aload hx hb dL_law_177 (lv_at hl 5 rfl) ?_
        refine lv_iconst (v := nI 1) hx hb dL_law_179 (by decide) ?_
        refine lv_dup2_11 hx hb dL_law_180 rfl rfl ?_
        refine cd_iald (f := mF (S 27 0) (S 29 0)) hx hb hK hP 30 rfl (by omega) (by decide) dL_law_181 ?_
        refine cd_tp (y := S 29 0) (rfl) ?_
        refine cd_tp (y := nI (nv (S 29 0))) ((iv_29 hI).1) ?_
        refine lv_iconst (v := nI 1) hx hb dL_law_182 (by decide) ?_
        refine cd_iadd hx hb dL_law_183 ?_
        refine cd_iast (f := mF (S 27 0) (S 29 0)) hx hb hK hP hD hS 30 rfl (by omega) (by decide) dL_law_184 (fun H locs hP hD hS => ?_)
        have hP : va_P D vwCl (wLA cy h o S J0i (S 6) (S 7) (kF (S 3)) (upd (mF (S 27 0) (S 29 0)) 1 (nI ((nv (S 29 0)) + 1))) (fun _ => 0)) H := hP
        have hD : va_D A (wLA cy h o S J0i (S 6) (S 7) (kF (S 3)) (upd (mF (S 27 0) (S 29 0)) 1 (nI ((nv (S 29 0)) + 1))) (fun _ => 0)) := hD
        have e_184 : (upd (mF (S 27 0) (S 29 0)) 1 (nI ((nv (S 29 0)) + 1))) = (mF (S 27 0) (nI (nv (S 29 0) + 1))) := mF_1 _ _ _
        rw [e_184] at hP hD
        have hP : va_P D vwCl (wLA cy h o S J0i (S 6) (S 7) (kF (S 3)) (mF (S 27 0) (nI (nv (S 29 0) + 1))) (fun _ => 0)) H := hP
        have hD : va_D A (wLA cy h o S J0i (S 6) (S 7) (kF (S 3)) (mF (S 27 0) (nI (nv (S 29 0) + 1))) (fun _ => 0)) := hD
        refine lv_aload_n hx hb dL_law_185 rfl (lv_at hl 1 rfl) ?_
        refine lv_iload hx hb dL_law_186 (lv_at hl 7 rfl) ?_
        refine lv_iconst (v := nI 5) hx hb dL_law_188 (by decide) ?_
        have M_189 := c_X6_costume l D cy h S J0i hI i 5 (by omega) (by decide) (by omega) H.size
        have hPc := hP.sub (ws' := (wC cy h S J0i)) [0, 1, 2, 3, 4, 5, 6, 7, 8, 9, 10, 11, 12, 13, 14, 15, 16, 17, 18, 19, 20, 21, 22, 23, 24, 25, 26] rfl
        have hDc := hD.sub (ws' := (wC cy h S J0i)) [0, 1, 2, 3, 4, 5, 6, 7, 8, 9, 10, 11, 12, 13, 14, 15, 16, 17, 18, 19, 20, 21, 22, 23, 24, 25, 26] (by decide) rfl
        refine cd_fri (S := Unit) (W1 := fun u => (wC cy h (va_up (va_up (va_up S 10 (upd (S 10) (nv (S 29 0)) (nI i))) 9 (upd (S 9) (nv (S 29 0)) (nI 5))) 29 (fun _ => nI (nv (S 29 0) + 1))) J0i)) (ws' := fun u => (wLA cy h o (va_up (va_up (va_up S 10 (upd ((S 10)) (nv (S 29 0)) (nI i))) 9 (upd ((S 9)) (nv (S 29 0)) (nI 5))) 29 (fun _ => nI (nv (S 29 0) + 1))) J0i (S 6) (S 7) (kF (S 3)) (mF (S 27 0) (nI (nv (S 29 0) + 1))) (fun _ => 0))) (wc := (wC cy h S J0i)) (wr := [(o 0, aI cy 32 (S 6)), (o 1, aI cy 8 (S 7)), (o 2, aI cy 12 (kF (S 3))), (o 3, aI cy 2 (mF (S 27 0) (nI (nv (S 29 0) + 1)))), (o 4, aI cy 8 (fun _ => 0))]) (va_runV (As := [.int (nI i), .int (nI 5)]) (rest := []) ⟨hx, hb, hml, hown, hts⟩ M_189 (cwV 2 hts gL_law_X6_costume rfl rfl rfl (by decide +kernel) ⟨Nat.le_of_ble_eq_true rfl, Nat.le_of_ble_eq_true rfl⟩) ⟨wrB.bl, va_recv hK hP (ci := 6) (q0 := 0) rfl rfl, fun U hU hW => ⟨rfl, by rw [hU], by rw [hU]; exact hPc, hG.warm hW, hDc.weaken (fun _ _ _ _ => trivial)⟩⟩ rfl rfl hl.1 rfl (lv_room (Nat.le_of_ble_eq_true rfl)) dL_law_189 (by exact ⟨Nat.le_of_ble_eq_true rfl, Nat.le_of_ble_eq_true rfl⟩)) hP hD hS hA [0, 1, 2, 3, 4, 5, 6, 7, 8, 9, 10, 11, 12, 13, 14, 15, 16, 17, 18, 19, 20, 21, 22, 23, 24, 25, 26] [27, 28, 29, 30, 31] [5, 6, 7, 8, 9, 10, 11, 12, 13, 14, 15, 16, 17, 18, 19, 20, 21, 22, 23, 24, 25, 26, 27, 28, 29, 30, 31, 0, 1, 2, 3, 4] rfl rfl (by decide) (by decide) (by decide) (fun _ => rfl) (fun r_189 _ H locs hw_189 hP hD hS => ?_)
        subst hw_189
        have hP : va_P D vwCl (wLA cy h o (va_up (va_up (va_up S 10 (upd ((S 10)) (nv (S 29 0)) (nI i))) 9 (upd ((S 9)) (nv (S 29 0)) (nI 5))) 29 (fun _ => nI (nv (S 29 0) + 1))) J0i (S 6) (S 7) (kF (S 3)) (mF (S 27 0) (nI (nv (S 29 0) + 1))) (fun _ => 0)) H := hP
        have hD : va_D A (wLA cy h o (va_up (va_up (va_up S 10 (upd ((S 10)) (nv (S 29 0)) (nI i))) 9 (upd ((S 9)) (nv (S 29 0)) (nI 5))) 29 (fun _ => nI (nv (S 29 0) + 1))) J0i (S 6) (S 7) (kF (S 3)) (mF (S 27 0) (nI (nv (S 29 0) + 1))) (fun _ => 0)) := hD
        refine lv_iload hx hb dL_law_192 (lv_at hl 7 rfl) ?_
        refine cd_icmp_eq (tgt := 199) hx hb dL_law_194 (by decide) (by omega) (by omega) (fun c_194 => ?_) (fun c_194 => ?_)
        · refine lv_iinc (v := nI (i + 1)) (lv' := [(7, .int (nI (i + 1))), (0, .ref b), (1, .ref (h 0)), (2, .ref (o 0)), (3, .ref (o 1)), (4, .ref (o 2)), (5, .ref (o 3)), (6, .ref (o 4)), (8, .int (nI 2))]) hx hb dL_law_199 hl (k := 7) rfl (cd_i1 _) (by decide) rfl (fun ls hl => ?_)
          refine lv_goto (tgt := 70) hx hb dL_law_202 (by decide) ?_
          exact ih_70 (i + 1) (va_up (va_up (va_up S 10 (upd ((S 10)) (nv (S 29 0)) (nI i))) 9 (upd ((S 9)) (nv (S 29 0)) (nI 5))) 29 (fun _ => nI (nv (S 29 0) + 1))) (⟨by omega, lq_next hq (by omega) _ _⟩) (by omega) _ _ hP hD hS _ (lv_sub hl [1, 2, 3, 4, 5, 6, 7, 0] rfl)
        · exact (show False by omega).elim
      · have hrk := lq_rk hq (by omega) (by omega)
        have hlk := lq_k hq (by omega) (by omega)
        have hor := or_lt (n := 8) (iv_3 hI (2 * i + 3 * e1) (by omega)).1.2 (show i < 8 by omega)
        refine lv_iconst (v := nI 2) hx hb dL_law_88 (by decide) ?_
        refine lv_iload hx hb dL_law_89 (lv_at hl 7 rfl) ?_
        refine cd_imul hx hb dL_law_91 ?_
        refine lv_iconst (v := nI 3) hx hb dL_law_92 (by decide) ?_
        refine lv_iload hx hb dL_law_93 (lv_at hl 8 rfl) ?_
        refine cd_imul hx hb dL_law_95 ?_
        refine cd_iadd hx hb dL_law_96 ?_
        refine lv_bipush (v := nI 12) hx hb dL_law_97 (by decide) ?_
        refine cd_irem hx hb (by omega) (by omega) (by omega) dL_law_99 ?_
        refine cd_tp (y := nI (2 * i + 3 * e1)) (by rw [Nat.mod_eq_of_lt (by omega)]) ?_
        refine lv_istore (lv' := [(9, .int (nI (2 * i + 3 * e1))), (0, .ref b), (1, .ref (h 0)), (2, .ref (o 0)), (3, .ref (o 1)), (4, .ref (o 2)), (5, .ref (o 3)), (6, .ref (o 4)), (7, .int (nI i)), (8, .int (nI e1))]) hx hb dL_law_100 hl (by decide) rfl (fun ls hl => ?_)
        refine lv_iload hx hb dL_law_102 (lv_at hl 8 rfl) ?_
        refine lv_iload hx hb dL_law_104 (lv_at hl 0 rfl) ?_
        refine lv_aload_n hx hb dL_law_106 rfl (lv_at hl 3 rfl) ?_
        refine lv_aload_n hx hb dL_law_107 rfl (lv_at hl 4 rfl) ?_
        have M_108 := c_L_rank l D cy o S hI i (nI (2 * i + 3 * e1)) (by omega)
        have hPc := hP.sub (ws' := (wRN cy o (S 6) (S 7))) [27, 28] rfl
        refine cd_roi (va_runS (As := [.int (nI i), .int (nI (2 * i + 3 * e1)), .ref (o 0), .ref (o 1)]) (rest := []) ⟨hx, hb, hml, hown, hts⟩ M_108 (va_cwS 4 hts gL_law_L_rank rfl rfl rfl (by decide +kernel) ⟨Nat.le_of_ble_eq_true rfl, Nat.le_of_ble_eq_true rfl⟩) ⟨roB.bl, fun U hU hW => ⟨rfl, by rw [hU]; exact hPc, hG.warm hW⟩⟩ rfl rfl hl.1 rfl (lv_room (Nat.le_of_ble_eq_true rfl)) dL_law_108 (by exact ⟨Nat.le_of_ble_eq_true rfl, Nat.le_of_ble_eq_true rfl⟩)) (fun r_108 hr_108 => ?_)
        subst hr_108
        refine cd_tp (y := (-1)) (hrk.1) ?_
        refine lv_if_lt (tgt := 117) hx hb dL_law_111 (by decide) (fun c_111 => ?_) (fun c_111 => ?_)
        · refine lv_aload_n hx hb dL_law_117 rfl (lv_at hl 3 rfl) ?_
          refine lv_iconst (v := nI 4) hx hb dL_law_118 (by decide) ?_
          refine lv_iload hx hb dL_law_119 (lv_at hl 8 rfl) ?_
          refine cd_imul hx hb dL_law_121 ?_
          refine lv_aload_n hx hb dL_law_122 rfl (lv_at hl 4 rfl) ?_
          refine lv_iload hx hb dL_law_123 (lv_at hl 8 rfl) ?_
          refine cd_iald (f := S 7) hx hb hK hP 28 rfl (by omega) (by decide) dL_law_125 ?_
          refine cd_tp (y := nI (nv (S 7 i))) ((iv_7 hI i (by omega)).1) ?_
          refine cd_iadd hx hb dL_law_126 ?_
          refine cd_tp (y := nI (i * 4 + nv (S 7 i))) (by rw [Nat.mul_comm]) ?_
          refine lv_iload hx hb dL_law_127 (lv_at hl 0 rfl) ?_
          refine cd_iast (f := S 6) hx hb hK hP hD hS 27 rfl (by omega) (by decide) dL_law_129 (fun H locs hP hD hS => ?_)
          have hP : va_P D vwCl (wLA cy h o S J0i (upd (S 6) (i * 4 + nv (S 7 i)) (nI (2 * i + 3 * e1))) (S 7) (kF (S 3)) (mF (S 27 0) (S 29 0)) (fun _ => 0)) H := hP
          have hD : va_D A (wLA cy h o S J0i (upd (S 6) (i * 4 + nv (S 7 i)) (nI (2 * i + 3 * e1))) (S 7) (kF (S 3)) (mF (S 27 0) (S 29 0)) (fun _ => 0)) := hD
          refine lv_aload_n hx hb dL_law_130 rfl (lv_at hl 4 rfl) ?_
          refine lv_iload hx hb dL_law_131 (lv_at hl 8 rfl) ?_
          refine lv_dup2_11 hx hb dL_law_133 rfl rfl ?_
          refine cd_iald (f := S 7) hx hb hK hP 28 rfl (by omega) (by decide) dL_law_134 ?_
          refine cd_tp (y := nI (nv (S 7 i))) ((iv_7 hI i (by omega)).1) ?_
          refine lv_iconst (v := nI 1) hx hb dL_law_135 (by decide) ?_
          refine cd_iadd hx hb dL_law_136 ?_
          refine cd_iast (f := S 7) hx hb hK hP hD hS 28 rfl (by omega) (by decide) dL_law_137 (fun H locs hP hD hS => ?_)
          have hP : va_P D vwCl (wLA cy h o S J0i (upd (S 6) (i * 4 + nv (S 7 i)) (nI (2 * i + 3 * e1))) (upd (S 7) i (nI ((nv (S 7 i)) + 1))) (kF (S 3)) (mF (S 27 0) (S 29 0)) (fun _ => 0)) H := hP
          have hD : va_D A (wLA cy h o S J0i (upd (S 6) (i * 4 + nv (S 7 i)) (nI (2 * i + 3 * e1))) (upd (S 7) i (nI ((nv (S 7 i)) + 1))) (kF (S 3)) (mF (S 27 0) (S 29 0)) (fun _ => 0)) := hD
          refine lv_aload_n hx hb dL_law_138 rfl (lv_at hl 2 rfl) ?_
          refine lv_iload hx hb dL_law_139 (lv_at hl 8 rfl) ?_
          refine lv_iload hx hb dL_law_141 (lv_at hl 0 rfl) ?_
          have M_143 := c_X6_put l D cy h S J0i hI i (2 * i + 3 * e1) (by omega) (by omega) hrk.2 (by omega) H.size
          have hPc := hP.sub (ws' := (wC cy h S J0i)) [0, 1, 2, 3, 4, 5, 6, 7, 8, 9, 10, 11, 12, 13, 14, 15, 16, 17, 18, 19, 20, 21, 22, 23, 24, 25, 26] rfl
          have hDc := hD.sub (ws' := (wC cy h S J0i)) [0, 1, 2, 3, 4, 5, 6, 7, 8, 9, 10, 11, 12, 13, 14, 15, 16, 17, 18, 19, 20, 21, 22, 23, 24, 25, 26] (by decide) rfl
          refine cd_fri (S := Unit) (W1 := fun u => (wC cy h (va_up (va_up S 6 (upd (S 6) (i * 4 + nv (S 7 i)) (nI (2 * i + 3 * e1)))) 7 (upd (S 7) i (nI (nv (S 7 i) + 1)))) J0i)) (ws' := fun u => (wLA cy h o (va_up (va_up S 6 (upd ((S 6)) (i * 4 + nv ((S 7) i)) (nI (2 * i + 3 * e1)))) 7 (upd ((S 7)) i (nI (nv ((S 7) i) + 1)))) J0i (upd (S 6) (i * 4 + nv (S 7 i)) (nI (2 * i + 3 * e1))) (upd (S 7) i (nI ((nv (S 7 i)) + 1))) (kF (S 3)) (mF (S 27 0) (S 29 0)) (fun _ => 0))) (wc := (wC cy h S J0i)) (wr := [(o 0, aI cy 32 (upd (S 6) (i * 4 + nv (S 7 i)) (nI (2 * i + 3 * e1)))), (o 1, aI cy 8 (upd (S 7) i (nI ((nv (S 7 i)) + 1)))), (o 2, aI cy 12 (kF (S 3))), (o 3, aI cy 2 (mF (S 27 0) (S 29 0))), (o 4, aI cy 8 (fun _ => 0))]) (va_runV (As := [.int (nI i), .int (nI (2 * i + 3 * e1))]) (rest := []) ⟨hx, hb, hml, hown, hts⟩ M_143 (cwV 2 hts gL_law_X6_put rfl rfl rfl (by decide +kernel) ⟨Nat.le_of_ble_eq_true rfl, Nat.le_of_ble_eq_true rfl⟩) ⟨wrB.bl, va_recv hK hP (ci := 6) (q0 := 0) rfl rfl, fun U hU hW => ⟨rfl, by rw [hU], by rw [hU]; exact hPc, hG.warm hW, hDc.weaken (fun _ _ _ _ => trivial)⟩⟩ rfl rfl hl.1 rfl (lv_room (Nat.le_of_ble_eq_true rfl)) dL_law_143 (by exact ⟨Nat.le_of_ble_eq_true rfl, Nat.le_of_ble_eq_true rfl⟩)) hP hD hS hA [0, 1, 2, 3, 4, 5, 6, 7, 8, 9, 10, 11, 12, 13, 14, 15, 16, 17, 18, 19, 20, 21, 22, 23, 24, 25, 26] [27, 28, 29, 30, 31] [5, 6, 7, 8, 9, 10, 11, 12, 13, 14, 15, 16, 17, 18, 19, 20, 21, 22, 23, 24, 25, 26, 27, 28, 29, 30, 31, 0, 1, 2, 3, 4] rfl rfl (by decide) (by decide) (by decide) (fun _ => rfl) (fun r_143 _ H locs hw_143 hP hD hS => ?_)
          subst hw_143
          refine cd_tp (y := nI (nv ((S 7) i))) rfl ?_
          have hP : va_P D vwCl (wLA cy h o (va_up (va_up S 6 (upd ((S 6)) (i * 4 + nv ((S 7) i)) (nI (2 * i + 3 * e1)))) 7 (upd ((S 7)) i (nI (nv ((S 7) i) + 1)))) J0i (upd (S 6) (i * 4 + nv (S 7 i)) (nI (2 * i + 3 * e1))) (upd (S 7) i (nI ((nv (S 7 i)) + 1))) (kF (S 3)) (mF (S 27 0) (S 29 0)) (fun _ => 0)) H := hP
          have hD : va_D A (wLA cy h o (va_up (va_up S 6 (upd ((S 6)) (i * 4 + nv ((S 7) i)) (nI (2 * i + 3 * e1)))) 7 (upd ((S 7)) i (nI (nv ((S 7) i) + 1)))) J0i (upd (S 6) (i * 4 + nv (S 7 i)) (nI (2 * i + 3 * e1))) (upd (S 7) i (nI ((nv (S 7 i)) + 1))) (kF (S 3)) (mF (S 27 0) (S 29 0)) (fun _ => 0)) := hD
          refine lv_aload_n hx hb dL_law_146 rfl (lv_at hl 4 rfl) ?_
          refine lv_iload hx hb dL_law_147 (lv_at hl 8 rfl) ?_
          refine cd_iald (f := upd (S 7) i (nI ((nv (S 7 i)) + 1))) hx hb hK hP 28 rfl (by omega) (by decide) dL_law_149 ?_
          refine cd_tp (y := nI (nv (S 7 i) + 1)) (upd_s _ _ _) ?_
          refine lv_iconst (v := nI 1) hx hb dL_law_150 (by decide) ?_
          refine cd_isub hx hb (by omega) dL_law_151 ?_
          refine cd_icmp_eq (tgt := 157) hx hb dL_law_152 (by decide) (by omega) (by omega) (fun c_152 => ?_) (fun c_152 => ?_)
          · refine lv_aload hx hb dL_law_157 (lv_at hl 5 rfl) ?_
            refine lv_iload hx hb dL_law_159 (lv_at hl 0 rfl) ?_
            refine lv_aload_n hx hb dL_law_161 rfl (lv_at hl 2 rfl) ?_
            refine lv_iload hx hb dL_law_162 (lv_at hl 0 rfl) ?_
            refine lv_iload hx hb dL_law_164 (lv_at hl 8 rfl) ?_
            refine lv_iconst (v := nI 1) hx hb dL_law_166 (by decide) ?_
            have M_167 := c_X6_learn l D cy h (va_up (va_up S 6 (upd ((S 6)) (i * 4 + nv ((S 7) i)) (nI (2 * i + 3 * e1)))) 7 (upd ((S 7)) i (nI (nv ((S 7) i) + 1)))) J0i (in_put hI (by omega) (by omega) hrk.2 (by omega)) (2 * i + 3 * e1) i (by omega) (by omega) hlk H.size
            have hPc := hP.sub (ws' := (wC cy h (va_up (va_up S 6 (upd ((S 6)) (i * 4 + nv ((S 7) i)) (nI (2 * i + 3 * e1)))) 7 (upd ((S 7)) i (nI (nv ((S 7) i) + 1)))) J0i)) [0, 1, 2, 3, 4, 5, 6, 7, 8, 9, 10, 11, 12, 13, 14, 15, 16, 17, 18, 19, 20, 21, 22, 23, 24, 25, 26] rfl
            have hDc := hD.sub (ws' := (wC cy h (va_up (va_up S 6 (upd ((S 6)) (i * 4 + nv ((S 7) i)) (nI (2 * i + 3 * e1)))) 7 (upd ((S 7)) i (nI (nv ((S 7) i) + 1)))) J0i)) [0, 1, 2, 3, 4, 5, 6, 7, 8, 9, 10, 11, 12, 13, 14, 15, 16, 17, 18, 19, 20, 21, 22, 23, 24, 25, 26] (by decide) rfl
            refine cd_fri (S := Unit) (W1 := fun u => (wC cy h (va_up (va_up (va_up S 6 (upd ((S 6)) (i * 4 + nv ((S 7) i)) (nI (2 * i + 3 * e1)))) 7 (upd ((S 7)) i (nI (nv ((S 7) i) + 1)))) 3 (upd ((va_up (va_up S 6 (upd ((S 6)) (i * 4 + nv ((S 7) i)) (nI (2 * i + 3 * e1)))) 7 (upd ((S 7)) i (nI (nv ((S 7) i) + 1)))) 3) (2 * i + 3 * e1) (nI (nv ((va_up (va_up S 6 (upd ((S 6)) (i * 4 + nv ((S 7) i)) (nI (2 * i + 3 * e1)))) 7 (upd ((S 7)) i (nI (nv ((S 7) i) + 1)))) 3 (2 * i + 3 * e1)) ||| 2 ^ i)))) J0i)) (ws' := fun u => (wLA cy h o (va_up (va_up (va_up S 6 (upd ((S 6)) (i * 4 + nv ((S 7) i)) (nI (2 * i + 3 * e1)))) 7 (upd ((S 7)) i (nI (nv ((S 7) i) + 1)))) 3 (upd ((S 3)) (2 * i + 3 * e1) (nI (nv ((S 3) (2 * i + 3 * e1)) ||| 2 ^ i)))) J0i (upd (S 6) (i * 4 + nv (S 7 i)) (nI (2 * i + 3 * e1))) (upd (S 7) i (nI ((nv (S 7 i)) + 1))) (kF (S 3)) (mF (S 27 0) (S 29 0)) (fun _ => 0))) (wc := (wC cy h (va_up (va_up S 6 (upd ((S 6)) (i * 4 + nv ((S 7) i)) (nI (2 * i + 3 * e1)))) 7 (upd ((S 7)) i (nI (nv ((S 7) i) + 1)))) J0i)) (wr := [(o 0, aI cy 32 (upd (S 6) (i * 4 + nv (S 7 i)) (nI (2 * i + 3 * e1)))), (o 1, aI cy 8 (upd (S 7) i (nI ((nv (S 7 i)) + 1)))), (o 2, aI cy 12 (kF (S 3))), (o 3, aI cy 2 (mF (S 27 0) (S 29 0))), (o 4, aI cy 8 (fun _ => 0))]) (va_runV (As := [.int (nI (2 * i + 3 * e1)), .int (nI i), .int (nI 1)]) (rest := [.int (nI (2 * i + 3 * e1)), .ref (o 2)]) ⟨hx, hb, hml, hown, hts⟩ M_167 (cwV 3 hts gL_law_X6_learn rfl rfl rfl (by decide +kernel) ⟨Nat.le_of_ble_eq_true rfl, Nat.le_of_ble_eq_true rfl⟩) ⟨wrB.bl, va_recv hK hP (ci := 6) (q0 := 0) rfl rfl, fun U hU hW => ⟨rfl, by rw [hU], by rw [hU]; exact hPc, hG.warm hW, hDc.weaken (fun _ _ _ _ => trivial)⟩⟩ rfl rfl hl.1 rfl (lv_room (Nat.le_of_ble_eq_true rfl)) dL_law_167 (by exact ⟨Nat.le_of_ble_eq_true rfl, Nat.le_of_ble_eq_true rfl⟩)) hP hD hS hA [0, 1, 2, 3, 4, 5, 6, 7, 8, 9, 10, 11, 12, 13, 14, 15, 16, 17, 18, 19, 20, 21, 22, 23, 24, 25, 26] [27, 28, 29, 30, 31] [5, 6, 7, 8, 9, 10, 11, 12, 13, 14, 15, 16, 17, 18, 19, 20, 21, 22, 23, 24, 25, 26, 27, 28, 29, 30, 31, 0, 1, 2, 3, 4] rfl rfl (by decide) (by decide) (by decide) (fun _ => rfl) (fun r_167 _ H locs hw_167 hP hD hS => ?_)
            subst hw_167
            refine cd_tp (y := nI (pcn 12 (nv ((S 3) (2 * i + 3 * e1)) ||| 2 ^ i))) rfl ?_
            have hP : va_P D vwCl (wLA cy h o (va_up (va_up (va_up S 6 (upd ((S 6)) (i * 4 + nv ((S 7) i)) (nI (2 * i + 3 * e1)))) 7 (upd ((S 7)) i (nI (nv ((S 7) i) + 1)))) 3 (upd ((S 3)) (2 * i + 3 * e1) (nI (nv ((S 3) (2 * i + 3 * e1)) ||| 2 ^ i)))) J0i (upd (S 6) (i * 4 + nv (S 7 i)) (nI (2 * i + 3 * e1))) (upd (S 7) i (nI ((nv (S 7 i)) + 1))) (kF (S 3)) (mF (S 27 0) (S 29 0)) (fun _ => 0)) H := hP
            have hD : va_D A (wLA cy h o (va_up (va_up (va_up S 6 (upd ((S 6)) (i * 4 + nv ((S 7) i)) (nI (2 * i + 3 * e1)))) 7 (upd ((S 7)) i (nI (nv ((S 7) i) + 1)))) 3 (upd ((S 3)) (2 * i + 3 * e1) (nI (nv ((S 3) (2 * i + 3 * e1)) ||| 2 ^ i)))) J0i (upd (S 6) (i * 4 + nv (S 7 i)) (nI (2 * i + 3 * e1))) (upd (S 7) i (nI ((nv (S 7 i)) + 1))) (kF (S 3)) (mF (S 27 0) (S 29 0)) (fun _ => 0)) := hD
            refine cd_iast (f := kF (S 3)) hx hb hK hP hD hS 29 rfl (by omega) (by decide) dL_law_170 (fun H locs hP hD hS => ?_)
            have hP : va_P D vwCl (wLA cy h o (va_up (va_up (va_up S 6 (upd ((S 6)) (i * 4 + nv ((S 7) i)) (nI (2 * i + 3 * e1)))) 7 (upd ((S 7)) i (nI (nv ((S 7) i) + 1)))) 3 (upd ((S 3)) (2 * i + 3 * e1) (nI (nv ((S 3) (2 * i + 3 * e1)) ||| 2 ^ i)))) J0i (upd (S 6) (i * 4 + nv (S 7 i)) (nI (2 * i + 3 * e1))) (upd (S 7) i (nI ((nv (S 7 i)) + 1))) (upd (kF (S 3)) (2 * i + 3 * e1) (nI (pcn 12 (nv ((S 3) (2 * i + 3 * e1)) ||| 2 ^ i)))) (mF (S 27 0) (S 29 0)) (fun _ => 0)) H := hP
            have hD : va_D A (wLA cy h o (va_up (va_up (va_up S 6 (upd ((S 6)) (i * 4 + nv ((S 7) i)) (nI (2 * i + 3 * e1)))) 7 (upd ((S 7)) i (nI (nv ((S 7) i) + 1)))) 3 (upd ((S 3)) (2 * i + 3 * e1) (nI (nv ((S 3) (2 * i + 3 * e1)) ||| 2 ^ i)))) J0i (upd (S 6) (i * 4 + nv (S 7 i)) (nI (2 * i + 3 * e1))) (upd (S 7) i (nI ((nv (S 7 i)) + 1))) (upd (kF (S 3)) (2 * i + 3 * e1) (nI (pcn 12 (nv ((S 3) (2 * i + 3 * e1)) ||| 2 ^ i)))) (mF (S 27 0) (S 29 0)) (fun _ => 0)) := hD
            have e_170 : (upd (kF (S 3)) (2 * i + 3 * e1) (nI (pcn 12 (nv ((S 3) (2 * i + 3 * e1)) ||| 2 ^ i)))) = (kF (upd (S 3) (2 * i + 3 * e1) (nI (nv (S 3 (2 * i + 3 * e1)) ||| 2 ^ i)))) := kF_s (S 3) (2 * i + 3 * e1) (nv (S 3 (2 * i + 3 * e1)) ||| 2 ^ i) (by omega)
            rw [e_170] at hP hD
            have hP : va_P D vwCl (wLA cy h o (va_up (va_up (va_up S 6 (upd ((S 6)) (i * 4 + nv ((S 7) i)) (nI (2 * i + 3 * e1)))) 7 (upd ((S 7)) i (nI (nv ((S 7) i) + 1)))) 3 (upd ((S 3)) (2 * i + 3 * e1) (nI (nv ((S 3) (2 * i + 3 * e1)) ||| 2 ^ i)))) J0i (upd (S 6) (i * 4 + nv (S 7 i)) (nI (2 * i + 3 * e1))) (upd (S 7) i (nI ((nv (S 7 i)) + 1))) (kF (upd (S 3) (2 * i + 3 * e1) (nI (nv (S 3 (2 * i + 3 * e1)) ||| 2 ^ i)))) (mF (S 27 0) (S 29 0)) (fun _ => 0)) H := hP
            have hD : va_D A (wLA cy h o (va_up (va_up (va_up S 6 (upd ((S 6)) (i * 4 + nv ((S 7) i)) (nI (2 * i + 3 * e1)))) 7 (upd ((S 7)) i (nI (nv ((S 7) i) + 1)))) 3 (upd ((S 3)) (2 * i + 3 * e1) (nI (nv ((S 3) (2 * i + 3 * e1)) ||| 2 ^ i)))) J0i (upd (S 6) (i * 4 + nv (S 7 i)) (nI (2 * i + 3 * e1))) (upd (S 7) i (nI ((nv (S 7 i)) + 1))) (kF (upd (S 3) (2 * i + 3 * e1) (nI (nv (S 3 (2 * i + 3 * e1)) ||| 2 ^ i)))) (mF (S 27 0) (S 29 0)) (fun _ => 0)) := hD
            refine lv_iinc (v := nI (e1 + 1)) (lv' := [(8, .int (nI (e1 + 1))), (9, .int (nI (2 * i + 3 * e1))), (0, .ref b), (1, .ref (h 0)), (2, .ref (o 0)), (3, .ref (o 1)), (4, .ref (o 2)), (5, .ref (o 3)), (6, .ref (o 4)), (7, .int (nI i))]) hx hb dL_law_171 hl (k := 9) rfl (cd_i1 _) (by decide) rfl (fun ls hl => ?_)
            refine lv_goto (tgt := 82) hx hb dL_law_174 (by decide) ?_
            exact ih_82 (e1 + 1) (va_up (va_up (va_up S 6 (upd ((S 6)) (i * 4 + nv ((S 7) i)) (nI (2 * i + 3 * e1)))) 7 (upd ((S 7)) i (nI (nv ((S 7) i) + 1)))) 3 (upd ((S 3)) (2 * i + 3 * e1) (nI (nv ((S 3) (2 * i + 3 * e1)) ||| 2 ^ i)))) (⟨by omega, lq_step hq (by omega) (by omega)⟩) (by omega) _ _ hP hD hS _ (lv_sub hl [2, 3, 4, 5, 6, 7, 8, 9, 0] rfl)
          · exact (show False by omega).elim
        · exact absurd (show (-1 : Int32) < 0 by decide) c_111
  · exact absurd rfl c_62
