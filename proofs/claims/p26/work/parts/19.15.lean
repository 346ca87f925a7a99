set_option maxHeartbeats 4000000 in
set_option maxRecDepth 100000 in
theorem c_L_cold (l : Launch) (D : va_G) (cy : qT) (h : Nat → Nat) (o : Nat → Nat) (S : qS) (J : qS) (V : Nat → Int32) (hI : Inv S) (d : Nat) (a : Nat) (hd1 : d ≤ 1000) (ha1 : a < 12) (h28 : nv (S 28 0) = 0) (hJ : jk J) (sz : Nat) : Met l yL_cold wsL_cold ({ frames := 6, cells := 0, slots := 0, locals := 142 }) (va_Pc [.ref (h 0), .int (nI d), .int (nI a), .ref (o 3), .ref (o 4)] (wrB D cy (wLA cy h o S J (S 6) (S 7) (kF (S 3)) (mF (S 27 0) (S 29 0)) V) sz)) (va_Qi (fun (r9 : Int32) (u : qS × (Nat → Int32)) => r9 = nI 1 ∧ jk u.1) (wrQ D (va_A (wLA cy h o S J (S 6) (S 7) (kF (S 3)) (mF (S 27 0) (S 29 0)) V) sz) (fun u : qS × (Nat → Int32) => (wLA cy h o (va_up S 4 (ilF (S 4) a d (d + (d + 1 - d)))) u.1 (S 6) (S 7) (kF (S 3)) (mF (S 27 0) (S 29 0)) u.2))) (va_A (wLA cy h o S J (S 6) (S 7) (kF (S 3)) (mF (S 27 0) (S 29 0)) V) sz)) 0 0 (va_A (wLA cy h o S J (S 6) (S 7) (kF (S 3)) (mF (S 27 0) (S 29 0)) V) sz) := by
  refine Met.ofW (cc := cL_cold) (maxL := 10) (ret := (some .boolean)) (by decide) rfl ?_
  intro pp e9 s m9 args9 bl9 meth9 c9 s9 B hml hv
  obtain ⟨rfl, hsz, hP, hG, hD0⟩ := hv
  have hx := B.exec
  have hb := B.bytes
  have hr := B.returns
  have hts := atoms_spec (ws := wsL_cold) B.pre
  have hown : s.vm.findClass RL = some m9.cls := findClass_of_methodNamed B.named
  have hlocks := B.notSynchronized
  have hK := hG.K
  subst hsz
  have hD := hD0.self (sz := s.heap.size)
  generalize hAe : (va_A (wLA cy h o S J (S 6) (S 7) (kF (S 3)) (mF (S 27 0) (S 29 0)) V) s.heap.size) = A at hD ⊢
  have hA : ∀ q : Nat, s.heap.size ≤ q → A q := fun q h9 => by rw [← hAe]; exact Or.inr h9
  have hS : va_S A s.heap s.heap [] := va_S.rf
  have hP : va_P D vwCl (wLA cy h o S J (S 6) (S 7) (kF (S 3)) (mF (S 27 0) (S 29 0)) V) s.heap := hP
  have hl := lv_entry ([.ref (h 0), .int (nI d), .int (nI a), .ref (o 3), .ref (o 4)]) (n := 10) (Nat.le_of_ble_eq_true rfl)
  rw [lg_entry_eq]
  generalize (lg_sl ([.ref (h 0), .int (nI d), .int (nI a), .ref (o 3), .ref (o 4)]) ++ List.replicate (10 - (lg_sl ([.ref (h 0), .int (nI d), .int (nI a), .ref (o 3), .ref (o 4)])).length) Slot.unset).toArray = ls at hl ⊢
  have hl : lv_has ls 10 [(0, .ref (h 0)), (1, .int (nI d)), (2, .int (nI a)), (3, .ref (o 3)), (4, .ref (o 4))] := hl
  have hn8 : nv (S 27 0) ≤ 8 := by have := (iv_27 hI).1.2; omega
  have hn1 : 1 ≤ nv (S 27 0) := (iv_27 hI).2
  refine lv_aload_n hx hb dL_cold_0 rfl (lv_at hl 0 rfl) ?_
  refine lv_iload_n hx hb dL_cold_1 rfl (lv_at hl 2 rfl) ?_
  refine lv_iload_n hx hb dL_cold_2 rfl (lv_at hl 1 rfl) ?_
  have M_3 := c_X6_chain l D cy h S J hI a d (by omega) (by omega) (by omega) s.heap.size
  have hPc := hP.sub (ws' := (wC cy h S J)) [0, 1, 2, 3, 4, 5, 6, 7, 8, 9, 10, 11, 12, 13, 14, 15, 16, 17, 18, 19, 20, 21, 22, 23, 24, 25, 26] rfl
  have hDc := hD.sub (ws' := (wC cy h S J)) [0, 1, 2, 3, 4, 5, 6, 7, 8, 9, 10, 11, 12, 13, 14, 15, 16, 17, 18, 19, 20, 21, 22, 23, 24, 25, 26] (by decide) rfl
  refine cd_fri (S := qS) (W1 := fun u_3 => (wC cy h S u_3)) (ws' := fun u_3 => (wLA cy h o S u_3 (S 6) (S 7) (kF (S 3)) (mF (S 27 0) (S 29 0)) V)) (wc := (wC cy h S J)) (wr := [(o 0, aI cy 32 (S 6)), (o 1, aI cy 8 (S 7)), (o 2, aI cy 12 (kF (S 3))), (o 3, aI cy 2 (mF (S 27 0) (S 29 0))), (o 4, aI cy 8 V)]) (va_runV (As := [.int (nI a), .int (nI d)]) (rest := []) ⟨hx, hb, hml, hown, hts⟩ M_3 (cwV 2 hts gL_cold_X6_chain rfl rfl rfl (by decide +kernel) ⟨Nat.le_of_ble_eq_true rfl, Nat.le_of_ble_eq_true rfl⟩) ⟨wrB.bl, va_recv hK hP (ci := 6) (q0 := 0) rfl rfl, fun U hU hW => ⟨rfl, by rw [hU], by rw [hU]; exact hPc, hG.warm hW, hDc.weaken (fun _ _ _ _ => trivial)⟩⟩ rfl rfl hl.1 rfl (lv_room (Nat.le_of_ble_eq_true rfl)) dL_cold_3 (by exact ⟨Nat.zero_le _, Nat.zero_le _⟩)) hP hD hS hA [0, 1, 2, 3, 4, 5, 6, 7, 8, 9, 10, 11, 12, 13, 14, 15, 16, 17, 18, 19, 20, 21, 22, 23, 24, 25, 26] [27, 28, 29, 30, 31] [5, 6, 7, 8, 9, 10, 11, 12, 13, 14, 15, 16, 17, 18, 19, 20, 21, 22, 23, 24, 25, 26, 27, 28, 29, 30, 31, 0, 1, 2, 3, 4] rfl rfl (by decide) (by decide) (by decide) (fun _ => rfl) (fun r_3 u_3 H locs hw_3 hP hD hS => ?_)
  obtain ⟨hr_3, hw_3⟩ := hw_3
  subst hr_3
  refine cd_tp (y := chI S (nv ((S 4) d)) a) rfl ?_
  have hP : va_P D vwCl (wLA cy h o S u_3 (S 6) (S 7) (kF (S 3)) (mF (S 27 0) (S 29 0)) V) H := hP
  have hD : va_D A (wLA cy h o S u_3 (S 6) (S 7) (kF (S 3)) (mF (S 27 0) (S 29 0)) V) := hD
  refine lv_istore (lv' := [(5, .int (chI S (nv ((S 4) d)) a)), (0, .ref (h 0)), (1, .int (nI d)), (2, .int (nI a)), (3, .ref (o 3)), (4, .ref (o 4))]) hx hb dL_cold_6 hl (by decide) rfl (fun ls hl => ?_)
  refine lv_aload_n hx hb dL_cold_8 rfl (lv_at hl 1 rfl) ?_
  refine lv_iload_n hx hb dL_cold_9 rfl (lv_at hl 2 rfl) ?_
  have M_10 := c_X6_strain l D cy h S u_3 hI d (by omega) (by omega) H.size
  have hPc := hP.sub (ws' := (wC cy h S u_3)) [0, 1, 2, 3, 4, 5, 6, 7, 8, 9, 10, 11, 12, 13, 14, 15, 16, 17, 18, 19, 20, 21, 22, 23, 24, 25, 26] rfl
  have hDc := hD.sub (ws' := (wC cy h S u_3)) [0, 1, 2, 3, 4, 5, 6, 7, 8, 9, 10, 11, 12, 13, 14, 15, 16, 17, 18, 19, 20, 21, 22, 23, 24, 25, 26] (by decide) rfl
  refine cd_fri (S := qS) (W1 := fun u_10 => (wC cy h S u_10)) (ws' := fun u_10 => (wLA cy h o S u_10 (S 6) (S 7) (kF (S 3)) (mF (S 27 0) (S 29 0)) V)) (wc := (wC cy h S u_3)) (wr := [(o 0, aI cy 32 (S 6)), (o 1, aI cy 8 (S 7)), (o 2, aI cy 12 (kF (S 3))), (o 3, aI cy 2 (mF (S 27 0) (S 29 0))), (o 4, aI cy 8 V)]) (va_runV (As := [.int (nI d)]) (rest := []) ⟨hx, hb, hml, hown, hts⟩ M_10 (cwV 1 hts gL_cold_X6_strain rfl rfl rfl (by decide +kernel) ⟨Nat.le_of_ble_eq_true rfl, Nat.le_of_ble_eq_true rfl⟩) ⟨wrB.bl, va_recv hK hP (ci := 6) (q0 := 0) rfl rfl, fun U hU hW => ⟨rfl, by rw [hU], by rw [hU]; exact hPc, hG.warm hW, hDc.weaken (fun _ _ _ _ => trivial)⟩⟩ rfl rfl hl.1 rfl (lv_room (Nat.le_of_ble_eq_true rfl)) dL_cold_10 (by exact ⟨Nat.zero_le _, Nat.zero_le _⟩)) hP hD hS hA [0, 1, 2, 3, 4, 5, 6, 7, 8, 9, 10, 11, 12, 13, 14, 15, 16, 17, 18, 19, 20, 21, 22, 23, 24, 25, 26] [27, 28, 29, 30, 31] [5, 6, 7, 8, 9, 10, 11, 12, 13, 14, 15, 16, 17, 18, 19, 20, 21, 22, 23, 24, 25, 26, 27, 28, 29, 30, 31, 0, 1, 2, 3, 4] rfl rfl (by decide) (by decide) (by decide) (fun _ => rfl) (fun r_10 u_10 H locs hw_10 hP hD hS => ?_)
  obtain ⟨hr_10, hw_10⟩ := hw_10
  subst hr_10
  refine cd_tp (y := bcS S (nv ((S 4) d))) rfl ?_
  have hP : va_P D vwCl (wLA cy h o S u_10 (S 6) (S 7) (kF (S 3)) (mF (S 27 0) (S 29 0)) V) H := hP
  have hD : va_D A (wLA cy h o S u_10 (S 6) (S 7) (kF (S 3)) (mF (S 27 0) (S 29 0)) V) := hD
  refine lv_istore (lv' := [(6, .int (bcS S (nv ((S 4) d)))), (5, .int (chI S (nv ((S 4) d)) a)), (0, .ref (h 0)), (1, .int (nI d)), (2, .int (nI a)), (3, .ref (o 3)), (4, .ref (o 4))]) hx hb dL_cold_13 hl (by decide) rfl (fun ls hl => ?_)
  refine lv_iconst (v := nI 0) hx hb dL_cold_15 (by decide) ?_
  refine lv_istore (lv' := [(7, .int (nI 0)), (6, .int (bcS S (nv ((S 4) d)))), (5, .int (chI S (nv ((S 4) d)) a)), (0, .ref (h 0)), (1, .int (nI d)), (2, .int (nI a)), (3, .ref (o 3)), (4, .ref (o 4))]) hx hb dL_cold_16 hl (by decide) rfl (fun ls hl => ?_)
  refine wh3 (nL := 10) (fun (k : Nat) (J : qS) (V : Nat → Int32) => k ≤ 8 ∧ (∀ j, j < k → V j = bcA S (nv (S 4 d)) j) ∧ jk J) (fun (k : Nat) (J : qS) (V : Nat → Int32) => 8 - k) (fun (k : Nat) (J : qS) (V : Nat → Int32) => [(0, .ref (h 0)), (1, .int (nI d)), (2, .int (nI a)), (3, .ref (o 3)), (4, .ref (o 4)), (5, .int (chI S (nv (S 4 d)) a)), (6, .int (bcS S (nv (S 4 d)))), (7, .int (nI k))]) (fun (k : Nat) (J : qS) (V : Nat → Int32) => (wLA cy h o S J (S 6) (S 7) (kF (S 3)) (mF (S 27 0) (S 29 0)) V)) (fun k J V hi_18 ih_18 H locs hP hD hS ls hl => ?_) 0 u_10 V (⟨Nat.zero_le _, fun j hj => absurd hj (Nat.not_lt_zero j), hw_10⟩) hP hD hS (lv_sub hl [3, 4, 5, 6, 7, 2, 1, 0] rfl)
  have hP : va_P D vwCl (wLA cy h o S J (S 6) (S 7) (kF (S 3)) (mF (S 27 0) (S 29 0)) V) H := hP
  have hD : va_D A (wLA cy h o S J (S 6) (S 7) (kF (S 3)) (mF (S 27 0) (S 29 0)) V) := hD
  obtain ⟨hk1, hV, hJ⟩ := hi_18
  refine lv_iload hx hb dL_cold_18 (lv_at hl 7 rfl) ?_
  refine lv_bipush (v := nI 8) hx hb dL_cold_20 (by decide) ?_
  refine cd_icmp_ge (tgt := 43) hx hb dL_cold_22 (by decide) (by omega) (by omega) (fun c_22 => ?_) (fun c_22 => ?_)
  · have ek : k = 8 := by omega
    subst ek
    refine lv_aload_n hx hb dL_cold_43 rfl (lv_at hl 0 rfl) ?_
    refine lv_iload_n hx hb dL_cold_44 rfl (lv_at hl 2 rfl) ?_
    refine lv_iload_n hx hb dL_cold_45 rfl (lv_at hl 1 rfl) ?_
    have M_46 := c_X6_isIll l D cy h S J hI a d (by omega) (by omega)
    have hPc := hP.sub (ws' := (wC cy h S J)) [0, 1, 2, 3, 4, 5, 6, 7, 8, 9, 10, 11, 12, 13, 14, 15, 16, 17, 18, 19, 20, 21, 22, 23, 24, 25, 26] rfl
    refine cd_roi (va_runV (As := [.int (nI a), .int (nI d)]) (rest := []) ⟨hx, hb, hml, hown, hts⟩ M_46 (cwV 2 hts gL_cold_X6_isIll rfl rfl rfl (by decide +kernel) ⟨Nat.le_of_ble_eq_true rfl, Nat.le_of_ble_eq_true rfl⟩) ⟨roB.bl, va_recv hK hP (ci := 6) (q0 := 0) rfl rfl, fun U hU hW => ⟨rfl, by rw [hU]; exact hPc, hG.warm hW⟩⟩ rfl rfl hl.1 rfl (lv_room (Nat.le_of_ble_eq_true rfl)) dL_cold_46 (by exact ⟨Nat.zero_le _, Nat.zero_le _⟩)) (fun r_46 hr_46 => ?_)
    subst hr_46
    refine cd_tp (y := bI ((nv ((S 4) d)).testBit a)) rfl ?_
    refine lv_istore (lv' := [(7, .int (bI ((nv ((S 4) d)).testBit a))), (0, .ref (h 0)), (1, .int (nI d)), (2, .int (nI a)), (3, .ref (o 3)), (4, .ref (o 4)), (5, .int (chI S (nv (S 4 d)) a)), (6, .int (bcS S (nv (S 4 d))))]) hx hb dL_cold_49 hl (by decide) rfl (fun ls hl => ?_)
    refine lv_aload_n hx hb dL_cold_51 rfl (lv_at hl 1 rfl) ?_
    refine lv_iload_n hx hb dL_cold_52 rfl (lv_at hl 3 rfl) ?_
    refine lv_iload_n hx hb dL_cold_53 rfl (lv_at hl 2 rfl) ?_
    refine lv_iload_n hx hb dL_cold_54 rfl (lv_at hl 2 rfl) ?_
    have M_55 := c_X6_cold l D cy h S J hI a d d (by omega) (by omega) (by omega) (by omega) H.size
    have hPc := hP.sub (ws' := (wC cy h S J)) [0, 1, 2, 3, 4, 5, 6, 7, 8, 9, 10, 11, 12, 13, 14, 15, 16, 17, 18, 19, 20, 21, 22, 23, 24, 25, 26] rfl
    have hDc := hD.sub (ws' := (wC cy h S J)) [0, 1, 2, 3, 4, 5, 6, 7, 8, 9, 10, 11, 12, 13, 14, 15, 16, 17, 18, 19, 20, 21, 22, 23, 24, 25, 26] (by decide) rfl
    refine cd_fri (S := Unit) (W1 := fun u => (wC cy h (va_up S 4 (ilF (S 4) a d (d + (d + 1 - d)))) J)) (ws' := fun u => (wLA cy h o (va_up S 4 (ilF ((S 4)) a d (d + (d + 1 - d)))) J (S 6) (S 7) (kF (S 3)) (mF (S 27 0) (S 29 0)) V)) (wc := (wC cy h S J)) (wr := [(o 0, aI cy 32 (S 6)), (o 1, aI cy 8 (S 7)), (o 2, aI cy 12 (kF (S 3))), (o 3, aI cy 2 (mF (S 27 0) (S 29 0))), (o 4, aI cy 8 V)]) (va_runV (As := [.int (nI a), .int (nI d), .int (nI d)]) (rest := []) ⟨hx, hb, hml, hown, hts⟩ M_55 (cwV 3 hts gL_cold_X6_cold rfl rfl rfl (by decide +kernel) ⟨Nat.le_of_ble_eq_true rfl, Nat.le_of_ble_eq_true rfl⟩) ⟨wrB.bl, va_recv hK hP (ci := 6) (q0 := 0) rfl rfl, fun U hU hW => ⟨rfl, by rw [hU], by rw [hU]; exact hPc, hG.warm hW, hDc.weaken (fun _ _ _ _ => trivial)⟩⟩ rfl rfl hl.1 rfl (lv_room (Nat.le_of_ble_eq_true rfl)) dL_cold_55 (by exact ⟨Nat.zero_le _, Nat.zero_le _⟩)) hP hD hS hA [0, 1, 2, 3, 4, 5, 6, 7, 8, 9, 10, 11, 12, 13, 14, 15, 16, 17, 18, 19, 20, 21, 22, 23, 24, 25, 26] [27, 28, 29, 30, 31] [5, 6, 7, 8, 9, 10, 11, 12, 13, 14, 15, 16, 17, 18, 19, 20, 21, 22, 23, 24, 25, 26, 27, 28, 29, 30, 31, 0, 1, 2, 3, 4] rfl rfl (by decide) (by decide) (by decide) (fun _ => rfl) (fun r_55 _ H locs hw_55 hP hD hS => ?_)
    subst hw_55
    refine cd_tp (y := nI (ilC ((S 4)) a d (d + 1 - d))) rfl ?_
    have hP : va_P D vwCl (wLA cy h o (va_up S 4 (ilF ((S 4)) a d (d + (d + 1 - d)))) J (S 6) (S 7) (kF (S 3)) (mF (S 27 0) (S 29 0)) V) H := hP
    have hD : va_D A (wLA cy h o (va_up S 4 (ilF ((S 4)) a d (d + (d + 1 - d)))) J (S 6) (S 7) (kF (S 3)) (mF (S 27 0) (S 29 0)) V) := hD
    have hI4 := in_cold hI ha1 d d
    have hil := il_at hI ha1 hd1
    refine lv_iload hx hb dL_cold_58 (lv_at hl 0 rfl) ?_
    refine cd_ifB_eq (tgt := 67) hx hb dL_cold_60 (by decide) (fun c_60 => ?_) (fun c_60 => ?_)
    · refine cd_tp (y := nI 1) (by rw [il_n c_60]) ?_
      refine lv_iconst (v := nI 1) hx hb dL_cold_67 (by decide) ?_
      refine cd_icmp_ne (tgt := 80) hx hb dL_cold_68 (by decide) (by omega) (by omega) (fun c_68 => ?_) (fun c_68 => ?_)
      · exact absurd c_68 (by decide)
      · refine lv_aload_n hx hb dL_cold_71 rfl (lv_at hl 1 rfl) ?_
        refine lv_iload_n hx hb dL_cold_72 rfl (lv_at hl 3 rfl) ?_
        refine lv_iload_n hx hb dL_cold_73 rfl (lv_at hl 2 rfl) ?_
        have M_74 := c_X6_isIll l D cy h (va_up S 4 (ilF ((S 4)) a d (d + (d + 1 - d)))) J hI4 a d (by omega) (by omega)
        have hPc := hP.sub (ws' := (wC cy h (va_up S 4 (ilF ((S 4)) a d (d + (d + 1 - d)))) J)) [0, 1, 2, 3, 4, 5, 6, 7, 8, 9, 10, 11, 12, 13, 14, 15, 16, 17, 18, 19, 20, 21, 22, 23, 24, 25, 26] rfl
        refine cd_roi (va_runV (As := [.int (nI a), .int (nI d)]) (rest := []) ⟨hx, hb, hml, hown, hts⟩ M_74 (cwV 2 hts gL_cold_X6_isIll rfl rfl rfl (by decide +kernel) ⟨Nat.le_of_ble_eq_true rfl, Nat.le_of_ble_eq_true rfl⟩) ⟨roB.bl, va_recv hK hP (ci := 6) (q0 := 0) rfl rfl, fun U hU hW => ⟨rfl, by rw [hU]; exact hPc, hG.warm hW⟩⟩ rfl rfl hl.1 rfl (lv_room (Nat.le_of_ble_eq_true rfl)) dL_cold_74 (by exact ⟨Nat.zero_le _, Nat.zero_le _⟩)) (fun r_74 hr_74 => ?_)
        subst hr_74
        refine cd_tp (y := bI ((nv ((ilF ((S 4)) a d (d + (d + 1 - d))) d)).testBit a)) rfl ?_
        refine cd_ifB_ne (tgt := 82) hx hb dL_cold_77 (by decide) (fun c_77 => ?_) (fun c_77 => ?_)
        · refine lv_iload hx hb dL_cold_82 (lv_at hl 6 rfl) ?_
          refine lv_iconst (v := (-1)) hx hb dL_cold_84 (by decide) ?_
          refine lv_icmp_ne (tgt := 108) hx hb dL_cold_85 (by decide) (fun c_85 => ?_) (fun c_85 => ?_)
          · obtain ⟨b, b2, hbc, hb2, hche⟩ := ch_some c_85
            have hle := chN_le S b b2 (nv (S 27 0))
            have hb4 := (bc_4 S (ilF (S 4) a d (d + (d + 1 - d))) (nv (S 4 d) ||| 2 ^ a)).trans hb2
            have hsr := sr_ill hbc hb2
            have hsl := sr_le (c := dg (nv (S 27 0)) b2) (k := nv (S 27 0)) (fun p _ => dg_lt _ b2 p)
            have hl : lv_has ls 10 [(7, .int (bI ((nv ((S 4) d)).testBit a))), (0, .ref (h 0)), (1, .int (nI d)), (2, .int (nI a)), (3, .ref (o 3)), (4, .ref (o 4)), (5, .int (nI (chN S b b2 (nv (S 27 0))))), (6, .int (bcS S (nv (S 4 d))))] := Eq.mp (congrArg (fun z9 : Int32 => lv_has ls 10 [(7, .int (bI ((nv ((S 4) d)).testBit a))), (0, .ref (h 0)), (1, .int (nI d)), (2, .int (nI a)), (3, .ref (o 3)), (4, .ref (o 4)), (5, .int z9), (6, .int (bcS S (nv (S 4 d))))]) (show (chI S (nv (S 4 d)) a : Int32) = nI (chN S b b2 (nv (S 27 0))) from hche)) hl
            have hl : lv_has ls 10 [(7, .int (bI ((nv ((S 4) d)).testBit a))), (0, .ref (h 0)), (1, .int (nI d)), (2, .int (nI a)), (3, .ref (o 3)), (4, .ref (o 4)), (5, .int (nI (chN S b b2 (nv (S 27 0))))), (6, .int (nI (sr (dg (nv (S 27 0)) b) (nv (S 27 0)))))] := Eq.mp (congrArg (fun z9 : Int32 => lv_has ls 10 [(7, .int (bI ((nv ((S 4) d)).testBit a))), (0, .ref (h 0)), (1, .int (nI d)), (2, .int (nI a)), (3, .ref (o 3)), (4, .ref (o 4)), (5, .int (nI (chN S b b2 (nv (S 27 0))))), (6, .int z9)]) (show (bcS S (nv (S 4 d)) : Int32) = nI (sr (dg (nv (S 27 0)) b) (nv (S 27 0))) from bs_s hbc)) hl
            refine lv_iconst (v := nI 0) hx hb dL_cold_108 (by decide) ?_
            refine lv_istore (lv' := [(8, .int (nI 0)), (7, .int (bI ((nv ((S 4) d)).testBit a))), (0, .ref (h 0)), (1, .int (nI d)), (2, .int (nI a)), (3, .ref (o 3)), (4, .ref (o 4)), (5, .int (nI (chN S b b2 (nv (S 27 0))))), (6, .int (nI (sr (dg (nv (S 27 0)) b) (nv (S 27 0)))))]) hx hb dL_cold_109 hl (by decide) rfl (fun ls hl => ?_)
            refine lv_iconst (v := nI 0) hx hb dL_cold_111 (by decide) ?_
            refine lv_istore (lv' := [(9, .int (nI 0)), (8, .int (nI 0)), (7, .int (bI ((nv ((S 4) d)).testBit a))), (0, .ref (h 0)), (1, .int (nI d)), (2, .int (nI a)), (3, .ref (o 3)), (4, .ref (o 4)), (5, .int (nI (chN S b b2 (nv (S 27 0))))), (6, .int (nI (sr (dg (nv (S 27 0)) b) (nv (S 27 0)))))]) hx hb dL_cold_112 hl (by decide) rfl (fun ls hl => ?_)
            refine wh2 (nL := 10) (fun (k : Nat) (J : qS) => k ≤ nv (S 27 0) ∧ jk J) (fun (k : Nat) (J : qS) => nv (S 27 0) - k) (fun (k : Nat) (J : qS) => [(0, .ref (h 0)), (1, .int (nI d)), (2, .int (nI a)), (3, .ref (o 3)), (4, .ref (o 4)), (5, .int (nI (chN S b b2 (nv (S 27 0))))), (6, .int (nI (sr (dg (nv (S 27 0)) b) (nv (S 27 0))))), (8, .int (nI (chN S b b2 k))), (9, .int (nI k))]) (fun (k : Nat) (J : qS) => (wLA cy h o (va_up S 4 (ilF ((S 4)) a d (d + (d + 1 - d)))) J (S 6) (S 7) (kF (S 3)) (mF (S 27 0) (S 29 0)) V)) (fun k J hi_114 ih_114 H locs hP hD hS ls hl => ?_) 0 J (⟨Nat.zero_le _, hJ⟩) hP hD hS (lv_sub hl [3, 4, 5, 6, 7, 8, 9, 1, 0] rfl)
            have hP : va_P D vwCl (wLA cy h o (va_up S 4 (ilF ((S 4)) a d (d + (d + 1 - d)))) J (S 6) (S 7) (kF (S 3)) (mF (S 27 0) (S 29 0)) V) H := hP
            have hD : va_D A (wLA cy h o (va_up S 4 (ilF ((S 4)) a d (d + (d + 1 - d)))) J (S 6) (S 7) (kF (S 3)) (mF (S 27 0) (S 29 0)) V) := hD
            obtain ⟨hk1, hJ⟩ := hi_114
            have hlk := chN_le S b b2 k
            refine lv_iload hx hb dL_cold_114 (lv_at hl 8 rfl) ?_
            refine lv_aload_n hx hb dL_cold_116 rfl (lv_at hl 3 rfl) ?_
            refine lv_iconst (v := nI 0) hx hb dL_cold_117 (by decide) ?_
            refine cd_iald (f := mF (S 27 0) (S 29 0)) hx hb hK hP 30 rfl (by omega) (by decide) dL_cold_118 ?_
            refine cd_tp (y := S 27 0) (rfl) ?_
            refine cd_tp (y := nI (nv (S 27 0))) ((iv_27 hI).1.1) ?_
            refine cd_icmp_ge (tgt := 153) hx hb dL_cold_119 (by decide) (by omega) (by omega) (fun c_119 => ?_) (fun c_119 => ?_)
            · have ek : k = nv (S 27 0) := by omega
              subst ek
              refine lv_iload hx hb dL_cold_153 (lv_at hl 7 rfl) ?_
              refine lv_iload hx hb dL_cold_155 (lv_at hl 5 rfl) ?_
              refine cd_icmp_ne (tgt := 184) hx hb dL_cold_157 (by decide) (by omega) (by omega) (fun c_157 => ?_) (fun c_157 => ?_)
              · exact absurd rfl c_157
              · refine lv_aload_n hx hb dL_cold_160 rfl (lv_at hl 0 rfl) ?_
                refine lv_iload_n hx hb dL_cold_161 rfl (lv_at hl 1 rfl) ?_
                have M_162 := c_X6_strain l D cy h (va_up S 4 (ilF ((S 4)) a d (d + (d + 1 - d)))) J hI4 d (by omega) (by omega) H.size
                have hPc := hP.sub (ws' := (wC cy h (va_up S 4 (ilF ((S 4)) a d (d + (d + 1 - d)))) J)) [0, 1, 2, 3, 4, 5, 6, 7, 8, 9, 10, 11, 12, 13, 14, 15, 16, 17, 18, 19, 20, 21, 22, 23, 24, 25, 26] rfl
                have hDc := hD.sub (ws' := (wC cy h (va_up S 4 (ilF ((S 4)) a d (d + (d + 1 - d)))) J)) [0, 1, 2, 3, 4, 5, 6, 7, 8, 9, 10, 11, 12, 13, 14, 15, 16, 17, 18, 19, 20, 21, 22, 23, 24, 25, 26] (by decide) rfl
                refine cd_fri (S := qS) (W1 := fun u_162 => (wC cy h (va_up S 4 (ilF ((S 4)) a d (d + (d + 1 - d)))) u_162)) (ws' := fun u_162 => (wLA cy h o (va_up S 4 (ilF ((S 4)) a d (d + (d + 1 - d)))) u_162 (S 6) (S 7) (kF (S 3)) (mF (S 27 0) (S 29 0)) V)) (wc := (wC cy h (va_up S 4 (ilF ((S 4)) a d (d + (d + 1 - d)))) J)) (wr := [(o 0, aI cy 32 (S 6)), (o 1, aI cy 8 (S 7)), (o 2, aI cy 12 (kF (S 3))), (o 3, aI cy 2 (mF (S 27 0) (S 29 0))), (o 4, aI cy 8 V)]) (va_runV (As := [.int (nI d)]) (rest := []) ⟨hx, hb, hml, hown, hts⟩ M_162 (cwV 1 hts gL_cold_X6_strain rfl rfl rfl (by decide +kernel) ⟨Nat.le_of_ble_eq_true rfl, Nat.le_of_ble_eq_true rfl⟩) ⟨wrB.bl, va_recv hK hP (ci := 6) (q0 := 0) rfl rfl, fun U hU hW => ⟨rfl, by rw [hU], by rw [hU]; exact hPc, hG.warm hW, hDc.weaken (fun _ _ _ _ => trivial)⟩⟩ rfl rfl hl.1 rfl (lv_room (Nat.le_of_ble_eq_true rfl)) dL_cold_162 (by exact ⟨Nat.zero_le _, Nat.zero_le _⟩)) hP hD hS hA [0, 1, 2, 3, 4, 5, 6, 7, 8, 9, 10, 11, 12, 13, 14, 15, 16, 17, 18, 19, 20, 21, 22, 23, 24, 25, 26] [27, 28, 29, 30, 31] [5, 6, 7, 8, 9, 10, 11, 12, 13, 14, 15, 16, 17, 18, 19, 20, 21, 22, 23, 24, 25, 26, 27, 28, 29, 30, 31, 0, 1, 2, 3, 4] rfl rfl (by decide) (by decide) (by decide) (fun _ => rfl) (fun r_162 u_162 H locs hw_162 hP hD hS => ?_)
                obtain ⟨hr_162, hw_162⟩ := hw_162
                subst hr_162
                refine cd_tp (y := bcS (va_up S 4 (ilF ((S 4)) a d (d + (d + 1 - d)))) (nv ((ilF ((S 4)) a d (d + (d + 1 - d))) d))) rfl ?_
                have hP : va_P D vwCl (wLA cy h o (va_up S 4 (ilF ((S 4)) a d (d + (d + 1 - d)))) u_162 (S 6) (S 7) (kF (S 3)) (mF (S 27 0) (S 29 0)) V) H := hP
                have hD : va_D A (wLA cy h o (va_up S 4 (ilF ((S 4)) a d (d + (d + 1 - d)))) u_162 (S 6) (S 7) (kF (S 3)) (mF (S 27 0) (S 29 0)) V) := hD
                refine cd_tp (y := nI (sr (dg (nv (S 27 0)) b2) (nv (S 27 0)))) (by rw [bcS_4, hil, bs_s hb2]) ?_
                refine lv_iload hx hb dL_cold_165 (lv_at hl 6 rfl) ?_
                refine cd_icmp_lt (tgt := 184) hx hb dL_cold_167 (by decide) (by omega) (by omega) (fun c_167 => ?_) (fun c_167 => ?_)
                · exact (show False by omega).elim
                · refine lv_aload_n hx hb dL_cold_170 rfl (lv_at hl 0 rfl) ?_
                  refine lv_iload_n hx hb dL_cold_171 rfl (lv_at hl 1 rfl) ?_
                  refine lv_iload_n hx hb dL_cold_172 rfl (lv_at hl 2 rfl) ?_
                  refine lv_aload_n hx hb dL_cold_173 rfl (lv_at hl 3 rfl) ?_
                  have M_174 := c_L_plays l D cy h o (va_up S 4 (ilF ((S 4)) a d (d + (d + 1 - d)))) u_162 V hI4 d a (by omega) (by omega) (by omega) H.size
                  refine cd_fri (S := qS) (W1 := fun u_174 => (wLA cy h o (va_up S 4 (ilF ((S 4)) a d (d + (d + 1 - d)))) u_174 ((va_up S 4 (ilF ((S 4)) a d (d + (d + 1 - d)))) 6) ((va_up S 4 (ilF ((S 4)) a d (d + (d + 1 - d)))) 7) (kF ((va_up S 4 (ilF ((S 4)) a d (d + (d + 1 - d)))) 3)) (mF ((va_up S 4 (ilF ((S 4)) a d (d + (d + 1 - d)))) 27 0) ((va_up S 4 (ilF ((S 4)) a d (d + (d + 1 - d)))) 29 0)) V)) (ws' := fun u_174 => (wLA cy h o (va_up S 4 (ilF ((S 4)) a d (d + (d + 1 - d)))) u_174 (S 6) (S 7) (kF (S 3)) (mF (S 27 0) (S 29 0)) V)) (wc := (wLA cy h o (va_up S 4 (ilF ((S 4)) a d (d + (d + 1 - d)))) u_162 (S 6) (S 7) (kF (S 3)) (mF (S 27 0) (S 29 0)) V)) (wr := []) (va_runS (As := [.ref (h 0), .int (nI d), .int (nI a), .ref (o 3)]) (rest := []) ⟨hx, hb, hml, hown, hts⟩ M_174 (va_cwS 4 hts gL_cold_L_plays rfl rfl rfl (by decide +kernel) ⟨Nat.le_of_ble_eq_true rfl, Nat.le_of_ble_eq_true rfl⟩) ⟨wrB.bl, fun U hU hW => ⟨rfl, by rw [hU], by rw [hU]; exact hP, hG.warm hW, hD.weaken (fun _ _ _ _ => trivial)⟩⟩ rfl rfl hl.1 rfl (lv_room (Nat.le_of_ble_eq_true rfl)) dL_cold_174 (by exact ⟨Nat.zero_le _, Nat.zero_le _⟩)) hP hD hS hA [0, 1, 2, 3, 4, 5, 6, 7, 8, 9, 10, 11, 12, 13, 14, 15, 16, 17, 18, 19, 20, 21, 22, 23, 24, 25, 26, 27, 28, 29, 30, 31] [] [0, 1, 2, 3, 4, 5, 6, 7, 8, 9, 10, 11, 12, 13, 14, 15, 16, 17, 18, 19, 20, 21, 22, 23, 24, 25, 26, 27, 28, 29, 30, 31] rfl rfl (by decide) (by decide) (by decide) (fun _ => rfl) (fun r_174 u_174 H locs hw_174 hP hD hS => ?_)
                  obtain ⟨hr_174, hw_174⟩ := hw_174
                  subst hr_174
                  refine cd_tp (y := bI (plB (va_up S 4 (ilF ((S 4)) a d (d + (d + 1 - d)))) (nv ((ilF ((S 4)) a d (d + (d + 1 - d))) d)) a)) rfl ?_
                  have hP : va_P D vwCl (wLA cy h o (va_up S 4 (ilF ((S 4)) a d (d + (d + 1 - d)))) u_174 (S 6) (S 7) (kF (S 3)) (mF (S 27 0) (S 29 0)) V) H := hP
                  have hD : va_D A (wLA cy h o (va_up S 4 (ilF ((S 4)) a d (d + (d + 1 - d)))) u_174 (S 6) (S 7) (kF (S 3)) (mF (S 27 0) (S 29 0)) V) := hD
                  refine cd_ifB_ne (tgt := 184) hx hb dL_cold_177 (by decide) (fun c_177 => ?_) (fun c_177 => ?_)
                  · exact absurd c_177 (by rw [plB_4, hil]; exact fun w9 => by obtain ⟨q, h1, h2⟩ := (pl_iff hI ha1 hb2).mp w9; exact il_no hb2 q h1 h2)
                  · refine lv_iconst (v := nI 1) hx hb dL_cold_180 (by decide) ?_
                    refine lv_goto (tgt := 185) hx hb dL_cold_181 (by decide) ?_
                    exact W.zret (v := nI 1) hx hb hr rfl (fun t ht hW => ⟨⟨_, (u_174, V), rfl, (⟨rfl, hw_174⟩), by rw [ht]; exact hP, hD⟩, hS.F ht⟩) hS.2.2 dL_cold_185
            · refine lv_iload hx hb dL_cold_122 (lv_at hl 7 rfl) ?_
              refine lv_aload_n hx hb dL_cold_124 rfl (lv_at hl 0 rfl) ?_
              refine lv_iload_n hx hb dL_cold_125 rfl (lv_at hl 1 rfl) ?_
              refine lv_iload hx hb dL_cold_126 (lv_at hl 8 rfl) ?_
              have M_128 := c_X6_actorFor l D cy h (va_up S 4 (ilF ((S 4)) a d (d + (d + 1 - d)))) J hI4 d k (by omega) (by omega) (by omega) H.size
              have hPc := hP.sub (ws' := (wC cy h (va_up S 4 (ilF ((S 4)) a d (d + (d + 1 - d)))) J)) [0, 1, 2, 3, 4, 5, 6, 7, 8, 9, 10, 11, 12, 13, 14, 15, 16, 17, 18, 19, 20, 21, 22, 23, 24, 25, 26] rfl
              have hDc := hD.sub (ws' := (wC cy h (va_up S 4 (ilF ((S 4)) a d (d + (d + 1 - d)))) J)) [0, 1, 2, 3, 4, 5, 6, 7, 8, 9, 10, 11, 12, 13, 14, 15, 16, 17, 18, 19, 20, 21, 22, 23, 24, 25, 26] (by decide) rfl
              refine cd_fri (S := qS) (W1 := fun u_128 => (wC cy h (va_up S 4 (ilF ((S 4)) a d (d + (d + 1 - d)))) u_128)) (ws' := fun u_128 => (wLA cy h o (va_up S 4 (ilF ((S 4)) a d (d + (d + 1 - d)))) u_128 (S 6) (S 7) (kF (S 3)) (mF (S 27 0) (S 29 0)) V)) (wc := (wC cy h (va_up S 4 (ilF ((S 4)) a d (d + (d + 1 - d)))) J)) (wr := [(o 0, aI cy 32 (S 6)), (o 1, aI cy 8 (S 7)), (o 2, aI cy 12 (kF (S 3))), (o 3, aI cy 2 (mF (S 27 0) (S 29 0))), (o 4, aI cy 8 V)]) (va_runV (As := [.int (nI d), .int (nI k)]) (rest := [.int (nI (chN S b b2 k))]) ⟨hx, hb, hml, hown, hts⟩ M_128 (cwV 2 hts gL_cold_X6_actorFor rfl rfl rfl (by decide +kernel) ⟨Nat.le_of_ble_eq_true rfl, Nat.le_of_ble_eq_true rfl⟩) ⟨wrB.bl, va_recv hK hP (ci := 6) (q0 := 0) rfl rfl, fun U hU hW => ⟨rfl, by rw [hU], by rw [hU]; exact hPc, hG.warm hW, hDc.weaken (fun _ _ _ _ => trivial)⟩⟩ rfl rfl hl.1 rfl (lv_room (Nat.le_of_ble_eq_true rfl)) dL_cold_128 (by exact ⟨Nat.zero_le _, Nat.zero_le _⟩)) hP hD hS hA [0, 1, 2, 3, 4, 5, 6, 7, 8, 9, 10, 11, 12, 13, 14, 15, 16, 17, 18, 19, 20, 21, 22, 23, 24, 25, 26] [27, 28, 29, 30, 31] [5, 6, 7, 8, 9, 10, 11, 12, 13, 14, 15, 16, 17, 18, 19, 20, 21, 22, 23, 24, 25, 26, 27, 28, 29, 30, 31, 0, 1, 2, 3, 4] rfl rfl (by decide) (by decide) (by decide) (fun _ => rfl) (fun r_128 u_128 H locs hw_128 hP hD hS => ?_)
              obtain ⟨hr_128, hw_128⟩ := hw_128
              subst hr_128
              refine cd_tp (y := bcA (va_up S 4 (ilF ((S 4)) a d (d + (d + 1 - d)))) (nv ((ilF ((S 4)) a d (d + (d + 1 - d))) d)) k) rfl ?_
              have hP : va_P D vwCl (wLA cy h o (va_up S 4 (ilF ((S 4)) a d (d + (d + 1 - d)))) u_128 (S 6) (S 7) (kF (S 3)) (mF (S 27 0) (S 29 0)) V) H := hP
              have hD : va_D A (wLA cy h o (va_up S 4 (ilF ((S 4)) a d (d + (d + 1 - d)))) u_128 (S 6) (S 7) (kF (S 3)) (mF (S 27 0) (S 29 0)) V) := hD
              refine cd_tp (y := S 6 (k * 4 + dg (nv (S 27 0)) b2 k)) (by rw [bcA_4, hil, bcA_v hb2 (by omega)]) ?_
              refine lv_aload hx hb dL_cold_131 (lv_at hl 4 rfl) ?_
              refine lv_iload hx hb dL_cold_133 (lv_at hl 8 rfl) ?_
              refine cd_iald (f := V) hx hb hK hP 31 rfl (by omega) (by decide) dL_cold_135 ?_
              refine cd_tp (y := S 6 (k * 4 + dg (nv (S 27 0)) b k)) (by rw [hV k (by omega), bcA_v hbc (by omega)]) ?_
              refine lv_icmp_ne (tgt := 143) hx hb dL_cold_136 (by decide) (fun c_136 => ?_) (fun c_136 => ?_)
              · refine lv_iconst (v := nI 1) hx hb dL_cold_143 (by decide) ?_
                refine cd_iadd hx hb dL_cold_144 ?_
                refine lv_istore (lv' := [(8, .int (nI ((chN S b b2 k) + 1))), (0, .ref (h 0)), (1, .int (nI d)), (2, .int (nI a)), (3, .ref (o 3)), (4, .ref (o 4)), (5, .int (nI (chN S b b2 (nv (S 27 0))))), (6, .int (nI (sr (dg (nv (S 27 0)) b) (nv (S 27 0))))), (9, .int (nI k))]) hx hb dL_cold_145 hl (by decide) rfl (fun ls hl => ?_)
                refine lv_iinc (v := nI (k + 1)) (lv' := [(9, .int (nI (k + 1))), (8, .int (nI ((chN S b b2 k) + 1))), (0, .ref (h 0)), (1, .int (nI d)), (2, .int (nI a)), (3, .ref (o 3)), (4, .ref (o 4)), (5, .int (nI (chN S b b2 (nv (S 27 0))))), (6, .int (nI (sr (dg (nv (S 27 0)) b) (nv (S 27 0)))))]) hx hb dL_cold_147 hl (k := 8) rfl (cd_i1 _) (by decide) rfl (fun ls hl => ?_)
                refine lv_goto (tgt := 114) hx hb dL_cold_150 (by decide) ?_
                have hl : lv_has ls 10 [(9, .int (nI (k + 1))), (8, .int (nI (chN S b b2 (k + 1)))), (0, .ref (h 0)), (1, .int (nI d)), (2, .int (nI a)), (3, .ref (o 3)), (4, .ref (o 4)), (5, .int (nI (chN S b b2 (nv (S 27 0))))), (6, .int (nI (sr (dg (nv (S 27 0)) b) (nv (S 27 0)))))] := Eq.mp (congrArg (fun z9 : Int32 => lv_has ls 10 [(9, .int (nI (k + 1))), (8, .int z9), (0, .ref (h 0)), (1, .int (nI d)), (2, .int (nI a)), (3, .ref (o 3)), (4, .ref (o 4)), (5, .int (nI (chN S b b2 (nv (S 27 0))))), (6, .int (nI (sr (dg (nv (S 27 0)) b) (nv (S 27 0)))))]) (show (nI ((chN S b b2 k) + 1) : Int32) = nI (chN S b b2 (k + 1)) from by rw [chN_n c_136])) hl
                exact ih_114 (k + 1) u_128 (⟨by omega, hw_128⟩) (by omega) _ _ hP hD hS _ (lv_sub hl [2, 3, 4, 5, 6, 7, 8, 1, 0] rfl)
              · refine lv_iconst (v := nI 0) hx hb dL_cold_139 (by decide) ?_
                refine lv_goto (tgt := 144) hx hb dL_cold_140 (by decide) ?_
                refine cd_iadd hx hb dL_cold_144 ?_
                refine lv_istore (lv' := [(8, .int (nI ((chN S b b2 k) + 0))), (0, .ref (h 0)), (1, .int (nI d)), (2, .int (nI a)), (3, .ref (o 3)), (4, .ref (o 4)), (5, .int (nI (chN S b b2 (nv (S 27 0))))), (6, .int (nI (sr (dg (nv (S 27 0)) b) (nv (S 27 0))))), (9, .int (nI k))]) hx hb dL_cold_145 hl (by decide) rfl (fun ls hl => ?_)
                refine lv_iinc (v := nI (k + 1)) (lv' := [(9, .int (nI (k + 1))), (8, .int (nI ((chN S b b2 k) + 0))), (0, .ref (h 0)), (1, .int (nI d)), (2, .int (nI a)), (3, .ref (o 3)), (4, .ref (o 4)), (5, .int (nI (chN S b b2 (nv (S 27 0))))), (6, .int (nI (sr (dg (nv (S 27 0)) b) (nv (S 27 0)))))]) hx hb dL_cold_147 hl (k := 8) rfl (cd_i1 _) (by decide) rfl (fun ls hl => ?_)
                refine lv_goto (tgt := 114) hx hb dL_cold_150 (by decide) ?_
                have hl : lv_has ls 10 [(9, .int (nI (k + 1))), (8, .int (nI (chN S b b2 (k + 1)))), (0, .ref (h 0)), (1, .int (nI d)), (2, .int (nI a)), (3, .ref (o 3)), (4, .ref (o 4)), (5, .int (nI (chN S b b2 (nv (S 27 0))))), (6, .int (nI (sr (dg (nv (S 27 0)) b) (nv (S 27 0)))))] := Eq.mp (congrArg (fun z9 : Int32 => lv_has ls 10 [(9, .int (nI (k + 1))), (8, .int z9), (0, .ref (h 0)), (1, .int (nI d)), (2, .int (nI a)), (3, .ref (o 3)), (4, .ref (o 4)), (5, .int (nI (chN S b b2 (nv (S 27 0))))), (6, .int (nI (sr (dg (nv (S 27 0)) b) (nv (S 27 0)))))]) (show (nI ((chN S b b2 k) + 0) : Int32) = nI (chN S b b2 (k + 1)) from by rw [chN_y c_136])) hl
                exact ih_114 (k + 1) u_128 (⟨by omega, hw_128⟩) (by omega) _ _ hP hD hS _ (lv_sub hl [2, 3, 4, 5, 6, 7, 8, 1, 0] rfl)
          · refine lv_iload hx hb dL_cold_88 (lv_at hl 7 rfl) ?_
            refine lv_if_lt (tgt := 102) hx hb dL_cold_90 (by decide) (fun c_90 => ?_) (fun c_90 => ?_)
            · refine lv_iconst (v := nI 1) hx hb dL_cold_102 (by decide) ?_
              refine lv_goto (tgt := 107) hx hb dL_cold_103 (by decide) ?_
              exact W.zret (v := nI 1) hx hb hr rfl (fun t ht hW => ⟨⟨_, (J, V), rfl, (⟨rfl, hJ⟩), by rw [ht]; exact hP, hD⟩, hS.F ht⟩) hS.2.2 dL_cold_107
            · obtain ⟨b, hbc, hbs⟩ := bs_ge c_90
              refine lv_aload_n hx hb dL_cold_93 rfl (lv_at hl 1 rfl) ?_
              refine lv_iload_n hx hb dL_cold_94 rfl (lv_at hl 2 rfl) ?_
              have M_95 := c_X6_strain l D cy h (va_up S 4 (ilF ((S 4)) a d (d + (d + 1 - d)))) J hI4 d (by omega) (by omega) H.size
              have hPc := hP.sub (ws' := (wC cy h (va_up S 4 (ilF ((S 4)) a d (d + (d + 1 - d)))) J)) [0, 1, 2, 3, 4, 5, 6, 7, 8, 9, 10, 11, 12, 13, 14, 15, 16, 17, 18, 19, 20, 21, 22, 23, 24, 25, 26] rfl
              have hDc := hD.sub (ws' := (wC cy h (va_up S 4 (ilF ((S 4)) a d (d + (d + 1 - d)))) J)) [0, 1, 2, 3, 4, 5, 6, 7, 8, 9, 10, 11, 12, 13, 14, 15, 16, 17, 18, 19, 20, 21, 22, 23, 24, 25, 26] (by decide) rfl
              refine cd_fri (S := qS) (W1 := fun u_95 => (wC cy h (va_up S 4 (ilF ((S 4)) a d (d + (d + 1 - d)))) u_95)) (ws' := fun u_95 => (wLA cy h o (va_up S 4 (ilF ((S 4)) a d (d + (d + 1 - d)))) u_95 (S 6) (S 7) (kF (S 3)) (mF (S 27 0) (S 29 0)) V)) (wc := (wC cy h (va_up S 4 (ilF ((S 4)) a d (d + (d + 1 - d)))) J)) (wr := [(o 0, aI cy 32 (S 6)), (o 1, aI cy 8 (S 7)), (o 2, aI cy 12 (kF (S 3))), (o 3, aI cy 2 (mF (S 27 0) (S 29 0))), (o 4, aI cy 8 V)]) (va_runV (As := [.int (nI d)]) (rest := []) ⟨hx, hb, hml, hown, hts⟩ M_95 (cwV 1 hts gL_cold_X6_strain rfl rfl rfl (by decide +kernel) ⟨Nat.le_of_ble_eq_true rfl, Nat.le_of_ble_eq_true rfl⟩) ⟨wrB.bl, va_recv hK hP (ci := 6) (q0 := 0) rfl rfl, fun U hU hW => ⟨rfl, by rw [hU], by rw [hU]; exact hPc, hG.warm hW, hDc.weaken (fun _ _ _ _ => trivial)⟩⟩ rfl rfl hl.1 rfl (lv_room (Nat.le_of_ble_eq_true rfl)) dL_cold_95 (by exact ⟨Nat.zero_le _, Nat.zero_le _⟩)) hP hD hS hA [0, 1, 2, 3, 4, 5, 6, 7, 8, 9, 10, 11, 12, 13, 14, 15, 16, 17, 18, 19, 20, 21, 22, 23, 24, 25, 26] [27, 28, 29, 30, 31] [5, 6, 7, 8, 9, 10, 11, 12, 13, 14, 15, 16, 17, 18, 19, 20, 21, 22, 23, 24, 25, 26, 27, 28, 29, 30, 31, 0, 1, 2, 3, 4] rfl rfl (by decide) (by decide) (by decide) (fun _ => rfl) (fun r_95 u_95 H locs hw_95 hP hD hS => ?_)
              obtain ⟨hr_95, hw_95⟩ := hw_95
              subst hr_95
              refine cd_tp (y := bcS (va_up S 4 (ilF ((S 4)) a d (d + (d + 1 - d)))) (nv ((ilF ((S 4)) a d (d + (d + 1 - d))) d))) rfl ?_
              have hP : va_P D vwCl (wLA cy h o (va_up S 4 (ilF ((S 4)) a d (d + (d + 1 - d)))) u_95 (S 6) (S 7) (kF (S 3)) (mF (S 27 0) (S 29 0)) V) H := hP
              have hD : va_D A (wLA cy h o (va_up S 4 (ilF ((S 4)) a d (d + (d + 1 - d)))) u_95 (S 6) (S 7) (kF (S 3)) (mF (S 27 0) (S 29 0)) V) := hD
              refine cd_tp (y := (-1)) (by rw [bcS_4, hil, (bs_no (ch_no2 hI c_85 hbc)).1]) ?_
              refine lv_iconst (v := (-1)) hx hb dL_cold_98 (by decide) ?_
              refine lv_icmp_ne (tgt := 106) hx hb dL_cold_99 (by decide) (fun c_99 => ?_) (fun c_99 => ?_)
              · exact absurd rfl c_99
              · refine lv_iconst (v := nI 1) hx hb dL_cold_102 (by decide) ?_
                refine lv_goto (tgt := 107) hx hb dL_cold_103 (by decide) ?_
                exact W.zret (v := nI 1) hx hb hr rfl (fun t ht hW => ⟨⟨_, (u_95, V), rfl, (⟨rfl, hw_95⟩), by rw [ht]; exact hP, hD⟩, hS.F ht⟩) hS.2.2 dL_cold_107
        · exact absurd (il_bit hI ha1 hd1) (by rw [c_77]; decide)
    · refine cd_tp (y := nI 0) (by rw [il_y c_60]) ?_
      refine lv_iconst (v := nI 0) hx hb dL_cold_63 (by decide) ?_
      refine lv_goto (tgt := 68) hx hb dL_cold_64 (by decide) ?_
      refine cd_icmp_ne (tgt := 80) hx hb dL_cold_68 (by decide) (by omega) (by omega) (fun c_68 => ?_) (fun c_68 => ?_)
      · exact absurd c_68 (by decide)
      · refine lv_aload_n hx hb dL_cold_71 rfl (lv_at hl 1 rfl) ?_
        refine lv_iload_n hx hb dL_cold_72 rfl (lv_at hl 3 rfl) ?_
        refine lv_iload_n hx hb dL_cold_73 rfl (lv_at hl 2 rfl) ?_
        have M_74 := c_X6_isIll l D cy h (va_up S 4 (ilF ((S 4)) a d (d + (d + 1 - d)))) J hI4 a d (by omega) (by omega)
        have hPc := hP.sub (ws' := (wC cy h (va_up S 4 (ilF ((S 4)) a d (d + (d + 1 - d)))) J)) [0, 1, 2, 3, 4, 5, 6, 7, 8, 9, 10, 11, 12, 13, 14, 15, 16, 17, 18, 19, 20, 21, 22, 23, 24, 25, 26] rfl
        refine cd_roi (va_runV (As := [.int (nI a), .int (nI d)]) (rest := []) ⟨hx, hb, hml, hown, hts⟩ M_74 (cwV 2 hts gL_cold_X6_isIll rfl rfl rfl (by decide +kernel) ⟨Nat.le_of_ble_eq_true rfl, Nat.le_of_ble_eq_true rfl⟩) ⟨roB.bl, va_recv hK hP (ci := 6) (q0 := 0) rfl rfl, fun U hU hW => ⟨rfl, by rw [hU]; exact hPc, hG.warm hW⟩⟩ rfl rfl hl.1 rfl (lv_room (Nat.le_of_ble_eq_true rfl)) dL_cold_74 (by exact ⟨Nat.zero_le _, Nat.zero_le _⟩)) (fun r_74 hr_74 => ?_)
        subst hr_74
        refine cd_tp (y := bI ((nv ((ilF ((S 4)) a d (d + (d + 1 - d))) d)).testBit a)) rfl ?_
        refine cd_ifB_ne (tgt := 82) hx hb dL_cold_77 (by decide) (fun c_77 => ?_) (fun c_77 => ?_)
        · refine lv_iload hx hb dL_cold_82 (lv_at hl 6 rfl) ?_
          refine lv_iconst (v := (-1)) hx hb dL_cold_84 (by decide) ?_
          refine lv_icmp_ne (tgt := 108) hx hb dL_cold_85 (by decide) (fun c_85 => ?_) (fun c_85 => ?_)
          · obtain ⟨b, b2, hbc, hb2, hche⟩ := ch_some c_85
            have hle := chN_le S b b2 (nv (S 27 0))
            have hb4 := (bc_4 S (ilF (S 4) a d (d + (d + 1 - d))) (nv (S 4 d) ||| 2 ^ a)).trans hb2
            have hsr := sr_ill hbc hb2
            have hsl := sr_le (c := dg (nv (S 27 0)) b2) (k := nv (S 27 0)) (fun p _ => dg_lt _ b2 p)
            have hl : lv_has ls 10 [(7, .int (bI ((nv ((S 4) d)).testBit a))), (0, .ref (h 0)), (1, .int (nI d)), (2, .int (nI a)), (3, .ref (o 3)), (4, .ref (o 4)), (5, .int (nI (chN S b b2 (nv (S 27 0))))), (6, .int (bcS S (nv (S 4 d))))] := Eq.mp (congrArg (fun z9 : Int32 => lv_has ls 10 [(7, .int (bI ((nv ((S 4) d)).testBit a))), (0, .ref (h 0)), (1, .int (nI d)), (2, .int (nI a)), (3, .ref (o 3)), (4, .ref (o 4)), (5, .int z9), (6, .int (bcS S (nv (S 4 d))))]) (show (chI S (nv (S 4 d)) a : Int32) = nI (chN S b b2 (nv (S 27 0))) from hche)) hl
            have hl : lv_has ls 10 [(7, .int (bI ((nv ((S 4) d)).testBit a))), (0, .ref (h 0)), (1, .int (nI d)), (2, .int (nI a)), (3, .ref (o 3)), (4, .ref (o 4)), (5, .int (nI (chN S b b2 (nv (S 27 0))))), (6, .int (nI (sr (dg (nv (S 27 0)) b) (nv (S 27 0)))))] := Eq.mp (congrArg (fun z9 : Int32 => lv_has ls 10 [(7, .int (bI ((nv ((S 4) d)).testBit a))), (0, .ref (h 0)), (1, .int (nI d)), (2, .int (nI a)), (3, .ref (o 3)), (4, .ref (o 4)), (5, .int (nI (chN S b b2 (nv (S 27 0))))), (6, .int z9)]) (show (bcS S (nv (S 4 d)) : Int32) = nI (sr (dg (nv (S 27 0)) b) (nv (S 27 0))) from bs_s hbc)) hl
            refine lv_iconst (v := nI 0) hx hb dL_cold_108 (by decide) ?_
            refine lv_istore (lv' := [(8, .int (nI 0)), (7, .int (bI ((nv ((S 4) d)).testBit a))), (0, .ref (h 0)), (1, .int (nI d)), (2, .int (nI a)), (3, .ref (o 3)), (4, .ref (o 4)), (5, .int (nI (chN S b b2 (nv (S 27 0))))), (6, .int (nI (sr (dg (nv (S 27 0)) b) (nv (S 27 0)))))]) hx hb dL_cold_109 hl (by decide) rfl (fun ls hl => ?_)
            refine lv_iconst (v := nI 0) hx hb dL_cold_111 (by decide) ?_
            refine lv_istore (lv' := [(9, .int (nI 0)), (8, .int (nI 0)), (7, .int (bI ((nv ((S 4) d)).testBit a))), (0, .ref (h 0)), (1, .int (nI d)), (2, .int (nI a)), (3, .ref (o 3)), (4, .ref (o 4)), (5, .int (nI (chN S b b2 (nv (S 27 0))))), (6, .int (nI (sr (dg (nv (S 27 0)) b) (nv (S 27 0)))))]) hx hb dL_cold_112 hl (by decide) rfl (fun ls hl => ?_)
            refine wh2 (nL := 10) (fun (k : Nat) (J : qS) => k ≤ nv (S 27 0) ∧ jk J) (fun (k : Nat) (J : qS) => nv (S 27 0) - k) (fun (k : Nat) (J : qS) => [(0, .ref (h 0)), (1, .int (nI d)), (2, .int (nI a)), (3, .ref (o 3)), (4, .ref (o 4)), (5, .int (nI (chN S b b2 (nv (S 27 0))))), (6, .int (nI (sr (dg (nv (S 27 0)) b) (nv (S 27 0))))), (8, .int (nI (chN S b b2 k))), (9, .int (nI k))]) (fun (k : Nat) (J : qS) => (wLA cy h o (va_up S 4 (ilF ((S 4)) a d (d + (d + 1 - d)))) J (S 6) (S 7) (kF (S 3)) (mF (S 27 0) (S 29 0)) V)) (fun k J hi_114 ih_114 H locs hP hD hS ls hl => ?_) 0 J (⟨Nat.zero_le _, hJ⟩) hP hD hS (lv_sub hl [3, 4, 5, 6, 7, 8, 9, 1, 0] rfl)
            have hP : va_P D vwCl (wLA cy h o (va_up S 4 (ilF ((S 4)) a d (d + (d + 1 - d)))) J (S 6) (S 7) (kF (S 3)) (mF (S 27 0) (S 29 0)) V) H := hP
            have hD : va_D A (wLA cy h o (va_up S 4 (ilF ((S 4)) a d (d + (d + 1 - d)))) J (S 6) (S 7) (kF (S 3)) (mF (S 27 0) (S 29 0)) V) := hD
            obtain ⟨hk1, hJ⟩ := hi_114
            have hlk := chN_le S b b2 k
            refine lv_iload hx hb dL_cold_114 (lv_at hl 8 rfl) ?_
            refine lv_aload_n hx hb dL_cold_116 rfl (lv_at hl 3 rfl) ?_
            refine lv_iconst (v := nI 0) hx hb dL_cold_117 (by decide) ?_
            refine cd_iald (f := mF (S 27 0) (S 29 0)) hx hb hK hP 30 rfl (by omega) (by decide) dL_cold_118 ?_
            refine cd_tp (y := S 27 0) (rfl) ?_
            refine cd_tp (y := nI (nv (S 27 0))) ((iv_27 hI).1.1) ?_
            refine cd_icmp_ge (tgt := 153) hx hb dL_cold_119 (by decide) (by omega) (by omega) (fun c_119 => ?_) (fun c_119 => ?_)
            · have ek : k = nv (S 27 0) := by omega
              subst ek
              refine lv_iload hx hb dL_cold_153 (lv_at hl 7 rfl) ?_
              refine lv_iload hx hb dL_cold_155 (lv_at hl 5 rfl) ?_
              refine cd_icmp_ne (tgt := 184) hx hb dL_cold_157 (by decide) (by omega) (by omega) (fun c_157 => ?_) (fun c_157 => ?_)
              · exact absurd rfl c_157
              · refine lv_aload_n hx hb dL_cold_160 rfl (lv_at hl 0 rfl) ?_
                refine lv_iload_n hx hb dL_cold_161 rfl (lv_at hl 1 rfl) ?_
                have M_162 := c_X6_strain l D cy h (va_up S 4 (ilF ((S 4)) a d (d + (d + 1 - d)))) J hI4 d (by omega) (by omega) H.size
                have hPc := hP.sub (ws' := (wC cy h (va_up S 4 (ilF ((S 4)) a d (d + (d + 1 - d)))) J)) [0, 1, 2, 3, 4, 5, 6, 7, 8, 9, 10, 11, 12, 13, 14, 15, 16, 17, 18, 19, 20, 21, 22, 23, 24, 25, 26] rfl
                have hDc := hD.sub (ws' := (wC cy h (va_up S 4 (ilF ((S 4)) a d (d + (d + 1 - d)))) J)) [0, 1, 2, 3, 4, 5, 6, 7, 8, 9, 10, 11, 12, 13, 14, 15, 16, 17, 18, 19, 20, 21, 22, 23, 24, 25, 26] (by decide) rfl
                refine cd_fri (S := qS) (W1 := fun u_162 => (wC cy h (va_up S 4 (ilF ((S 4)) a d (d + (d + 1 - d)))) u_162)) (ws' := fun u_162 => (wLA cy h o (va_up S 4 (ilF ((S 4)) a d (d + (d + 1 - d)))) u_162 (S 6) (S 7) (kF (S 3)) (mF (S 27 0) (S 29 0)) V)) (wc := (wC cy h (va_up S 4 (ilF ((S 4)) a d (d + (d + 1 - d)))) J)) (wr := [(o 0, aI cy 32 (S 6)), (o 1, aI cy 8 (S 7)), (o 2, aI cy 12 (kF (S 3))), (o 3, aI cy 2 (mF (S 27 0) (S 29 0))), (o 4, aI cy 8 V)]) (va_runV (As := [.int (nI d)]) (rest := []) ⟨hx, hb, hml, hown, hts⟩ M_162 (cwV 1 hts gL_cold_X6_strain rfl rfl rfl (by decide +kernel) ⟨Nat.le_of_ble_eq_true rfl, Nat.le_of_ble_eq_true rfl⟩) ⟨wrB.bl, va_recv hK hP (ci := 6) (q0 := 0) rfl rfl, fun U hU hW => ⟨rfl, by rw [hU], by rw [hU]; exact hPc, hG.warm hW, hDc.weaken (fun _ _ _ _ => trivial)⟩⟩ rfl rfl hl.1 rfl (lv_room (Nat.le_of_ble_eq_true rfl)) dL_cold_162 (by exact ⟨Nat.zero_le _, Nat.zero_le _⟩)) hP hD hS hA [0, 1, 2, 3, 4, 5, 6, 7, 8, 9, 10, 11, 12, 13, 14, 15, 16, 17, 18, 19, 20, 21, 22, 23, 24, 25, 26] [27, 28, 29, 30, 31] [5, 6, 7, 8, 9, 10, 11, 12, 13, 14, 15, 16, 17, 18, 19, 20, 21, 22, 23, 24, 25, 26, 27, 28, 29, 30, 31, 0, 1, 2, 3, 4] rfl rfl (by decide) (by decide) (by decide) (fun _ => rfl) (fun r_162 u_162 H locs hw_162 hP hD hS => ?_)
                obtain ⟨hr_162, hw_162⟩ := hw_162
                subst hr_162
                refine cd_tp (y := bcS (va_up S 4 (ilF ((S 4)) a d (d + (d + 1 - d)))) (nv ((ilF ((S 4)) a d (d + (d + 1 - d))) d))) rfl ?_
                have hP : va_P D vwCl (wLA cy h o (va_up S 4 (ilF ((S 4)) a d (d + (d + 1 - d)))) u_162 (S 6) (S 7) (kF (S 3)) (mF (S 27 0) (S 29 0)) V) H := hP
                have hD : va_D A (wLA cy h o (va_up S 4 (ilF ((S 4)) a d (d + (d + 1 - d)))) u_162 (S 6) (S 7) (kF (S 3)) (mF (S 27 0) (S 29 0)) V) := hD
                refine cd_tp (y := nI (sr (dg (nv (S 27 0)) b2) (nv (S 27 0)))) (by rw [bcS_4, hil, bs_s hb2]) ?_
                refine lv_iload hx hb dL_cold_165 (lv_at hl 6 rfl) ?_
                refine cd_icmp_lt (tgt := 184) hx hb dL_cold_167 (by decide) (by omega) (by omega) (fun c_167 => ?_) (fun c_167 => ?_)
                · exact (show False by omega).elim
                · refine lv_aload_n hx hb dL_cold_170 rfl (lv_at hl 0 rfl) ?_
                  refine lv_iload_n hx hb dL_cold_171 rfl (lv_at hl 1 rfl) ?_
                  refine lv_iload_n hx hb dL_cold_172 rfl (lv_at hl 2 rfl) ?_
                  refine lv_aload_n hx hb dL_cold_173 rfl (lv_at hl 3 rfl) ?_
                  have M_174 := c_L_plays l D cy h o (va_up S 4 (ilF ((S 4)) a d (d + (d + 1 - d)))) u_162 V hI4 d a (by omega) (by omega) (by omega) H.size
                  refine cd_fri (S := qS) (W1 := fun u_174 => (wLA cy h o (va_up S 4 (ilF ((S 4)) a d (d + (d + 1 - d)))) u_174 ((va_up S 4 (ilF ((S 4)) a d (d + (d + 1 - d)))) 6) ((va_up S 4 (ilF ((S 4)) a d (d + (d + 1 - d)))) 7) (kF ((va_up S 4 (ilF ((S 4)) a d (d + (d + 1 - d)))) 3)) (mF ((va_up S 4 (ilF ((S 4)) a d (d + (d + 1 - d)))) 27 0) ((va_up S 4 (ilF ((S 4)) a d (d + (d + 1 - d)))) 29 0)) V)) (ws' := fun u_174 => (wLA cy h o (va_up S 4 (ilF ((S 4)) a d (d + (d + 1 - d)))) u_174 (S 6) (S 7) (kF (S 3)) (mF (S 27 0) (S 29 0)) V)) (wc := (wLA cy h o (va_up S 4 (ilF ((S 4)) a d (d + (d + 1 - d)))) u_162 (S 6) (S 7) (kF (S 3)) (mF (S 27 0) (S 29 0)) V)) (wr := []) (va_runS (As := [.ref (h 0), .int (nI d), .int (nI a), .ref (o 3)]) (rest := []) ⟨hx, hb, hml, hown, hts⟩ M_174 (va_cwS 4 hts gL_cold_L_plays rfl rfl rfl (by decide +kernel) ⟨Nat.le_of_ble_eq_true rfl, Nat.le_of_ble_eq_true rfl⟩) ⟨wrB.bl, fun U hU hW => ⟨rfl, by rw [hU], by rw [hU]; exact hP, hG.warm hW, hD.weaken (fun _ _ _ _ => trivial)⟩⟩ rfl rfl hl.1 rfl (lv_room (Nat.le_of_ble_eq_true rfl)) dL_cold_174 (by exact ⟨Nat.zero_le _, Nat.zero_le _⟩)) hP hD hS hA [0, 1, 2, 3, 4, 5, 6, 7, 8, 9, 10, 11, 12, 13, 14, 15, 16, 17, 18, 19, 20, 21, 22, 23, 24, 25, 26, 27, 28, 29, 30, 31] [] [0, 1, 2, 3, 4, 5, 6, 7, 8, 9, 10, 11, 12, 13, 14, 15, 16, 17, 18, 19, 20, 21, 22, 23, 24, 25, 26, 27, 28, 29, 30, 31] rfl rfl (by decide) (by decide) (by decide) (fun _ => rfl) (fun r_174 u_174 H locs hw_174 hP hD hS => ?_)
                  obtain ⟨hr_174, hw_174⟩ := hw_174
                  subst hr_174
                  refine cd_tp (y := bI (plB (va_up S 4 (ilF ((S 4)) a d (d + (d + 1 - d)))) (nv ((ilF ((S 4)) a d (d + (d + 1 - d))) d)) a)) rfl ?_
                  have hP : va_P D vwCl (wLA cy h o (va_up S 4 (ilF ((S 4)) a d (d + (d + 1 - d)))) u_174 (S 6) (S 7) (kF (S 3)) (mF (S 27 0) (S 29 0)) V) H := hP
                  have hD : va_D A (wLA cy h o (va_up S 4 (ilF ((S 4)) a d (d + (d + 1 - d)))) u_174 (S 6) (S 7) (kF (S 3)) (mF (S 27 0) (S 29 0)) V) := hD
                  refine cd_ifB_ne (tgt := 184) hx hb dL_cold_177 (by decide) (fun c_177 => ?_) (fun c_177 => ?_)
                  · exact absurd c_177 (by rw [plB_4, hil]; exact fun w9 => by obtain ⟨q, h1, h2⟩ := (pl_iff hI ha1 hb2).mp w9; exact il_no hb2 q h1 h2)
                  · refine lv_iconst (v := nI 1) hx hb dL_cold_180 (by decide) ?_
                    refine lv_goto (tgt := 185) hx hb dL_cold_181 (by decide) ?_
                    exact W.zret (v := nI 1) hx hb hr rfl (fun t ht hW => ⟨⟨_, (u_174, V), rfl, (⟨rfl, hw_174⟩), by rw [ht]; exact hP, hD⟩, hS.F ht⟩) hS.2.2 dL_cold_185
            · refine lv_iload hx hb dL_cold_122 (lv_at hl 7 rfl) ?_
              refine lv_aload_n hx hb dL_cold_124 rfl (lv_at hl 0 rfl) ?_
              refine lv_iload_n hx hb dL_cold_125 rfl (lv_at hl 1 rfl) ?_
              refine lv_iload hx hb dL_cold_126 (lv_at hl 8 rfl) ?_
              have M_128 := c_X6_actorFor l D cy h (va_up S 4 (ilF ((S 4)) a d (d + (d + 1 - d)))) J hI4 d k (by omega) (by omega) (by omega) H.size
              have hPc := hP.sub (ws' := (wC cy h (va_up S 4 (ilF ((S 4)) a d (d + (d + 1 - d)))) J)) [0, 1, 2, 3, 4, 5, 6, 7, 8, 9, 10, 11, 12, 13, 14, 15, 16, 17, 18, 19, 20, 21, 22, 23, 24, 25, 26] rfl
              have hDc := hD.sub (ws' := (wC cy h (va_up S 4 (ilF ((S 4)) a d (d + (d + 1 - d)))) J)) [0, 1, 2, 3, 4, 5, 6, 7, 8, 9, 10, 11, 12, 13, 14, 15, 16, 17, 18, 19, 20, 21, 22, 23, 24, 25, 26] (by decide) rfl
              refine cd_fri (S := qS) (W1 := fun u_128 => (wC cy h (va_up S 4 (ilF ((S 4)) a d (d + (d + 1 - d)))) u_128)) (ws' := fun u_128 => (wLA cy h o (va_up S 4 (ilF ((S 4)) a d (d + (d + 1 - d)))) u_128 (S 6) (S 7) (kF (S 3)) (mF (S 27 0) (S 29 0)) V)) (wc := (wC cy h (va_up S 4 (ilF ((S 4)) a d (d + (d + 1 - d)))) J)) (wr := [(o 0, aI cy 32 (S 6)), (o 1, aI cy 8 (S 7)), (o 2, aI cy 12 (kF (S 3))), (o 3, aI cy 2 (mF (S 27 0) (S 29 0))), (o 4, aI cy 8 V)]) (va_runV (As := [.int (nI d), .int (nI k)]) (rest := [.int (nI (chN S b b2 k))]) ⟨hx, hb, hml, hown, hts⟩ M_128 (cwV 2 hts gL_cold_X6_actorFor rfl rfl rfl (by decide +kernel) ⟨Nat.le_of_ble_eq_true rfl, Nat.le_of_ble_eq_true rfl⟩) ⟨wrB.bl, va_recv hK hP (ci := 6) (q0 := 0) rfl rfl, fun U hU hW => ⟨rfl, by rw [hU], by rw [hU]; exact hPc, hG.warm hW, hDc.weaken (fun _ _ _ _ => trivial)⟩⟩ rfl rfl hl.1 rfl (lv_room (Nat.le_of_ble_eq_true rfl)) dL_cold_128 (by exact ⟨Nat.zero_le _, Nat.zero_le _⟩)) hP hD hS hA [0, 1, 2, 3, 4, 5, 6, 7, 8, 9, 10, 11, 12, 13, 14, 15, 16, 17, 18, 19, 20, 21, 22, 23, 24, 25, 26] [27, 28, 29, 30, 31] [5, 6, 7, 8, 9, 10, 11, 12, 13, 14, 15, 16, 17, 18, 19, 20, 21, 22, 23, 24, 25, 26, 27, 28, 29, 30, 31, 0, 1, 2, 3, 4] rfl rfl (by decide) (by decide) (by decide) (fun _ => rfl) (fun r_128 u_128 H locs hw_128 hP hD hS => ?_)
              obtain ⟨hr_128, hw_128⟩ := hw_128
              subst hr_128
              refine cd_tp (y := bcA (va_up S 4 (ilF ((S 4)) a d (d + (d + 1 - d)))) (nv ((ilF ((S 4)) a d (d + (d + 1 - d))) d)) k) rfl ?_
              have hP : va_P D vwCl (wLA cy h o (va_up S 4 (ilF ((S 4)) a d (d + (d + 1 - d)))) u_128 (S 6) (S 7) (kF (S 3)) (mF (S 27 0) (S 29 0)) V) H := hP
              have hD : va_D A (wLA cy h o (va_up S 4 (ilF ((S 4)) a d (d + (d + 1 - d)))) u_128 (S 6) (S 7) (kF (S 3)) (mF (S 27 0) (S 29 0)) V) := hD
              refine cd_tp (y := S 6 (k * 4 + dg (nv (S 27 0)) b2 k)) (by rw [bcA_4, hil, bcA_v hb2 (by omega)]) ?_
              refine lv_aload hx hb dL_cold_131 (lv_at hl 4 rfl) ?_
              refine lv_iload hx hb dL_cold_133 (lv_at hl 8 rfl) ?_
              refine cd_iald (f := V) hx hb hK hP 31 rfl (by omega) (by decide) dL_cold_135 ?_
              refine cd_tp (y := S 6 (k * 4 + dg (nv (S 27 0)) b k)) (by rw [hV k (by omega), bcA_v hbc (by omega)]) ?_
              refine lv_icmp_ne (tgt := 143) hx hb dL_cold_136 (by decide) (fun c_136 => ?_) (fun c_136 => ?_)
              · refine lv_iconst (v := nI 1) hx hb dL_cold_143 (by decide) ?_
                refine cd_iadd hx hb dL_cold_144 ?_
                refine lv_istore (lv' := [(8, .int (nI ((chN S b b2 k) + 1))), (0, .ref (h 0)), (1, .int (nI d)), (2, .int (nI a)), (3, .ref (o 3)), (4, .ref (o 4)), (5, .int (nI (chN S b b2 (nv (S 27 0))))), (6, .int (nI (sr (dg (nv (S 27 0)) b) (nv (S 27 0))))), (9, .int (nI k))]) hx hb dL_cold_145 hl (by decide) rfl (fun ls hl => ?_)
                refine lv_iinc (v := nI (k + 1)) (lv' := [(9, .int (nI (k + 1))), (8, .int (nI ((chN S b b2 k) + 1))), (0, .ref (h 0)), (1, .int (nI d)), (2, .int (nI a)), (3, .ref (o 3)), (4, .ref (o 4)), (5, .int (nI (chN S b b2 (nv (S 27 0))))), (6, .int (nI (sr (dg (nv (S 27 0)) b) (nv (S 27 0)))))]) hx hb dL_cold_147 hl (k := 8) rfl (cd_i1 _) (by decide) rfl (fun ls hl => ?_)
                refine lv_goto (tgt := 114) hx hb dL_cold_150 (by decide) ?_
                have hl : lv_has ls 10 [(9, .int (nI (k + 1))), (8, .int (nI (chN S b b2 (k + 1)))), (0, .ref (h 0)), (1, .int (nI d)), (2, .int (nI a)), (3, .ref (o 3)), (4, .ref (o 4)), (5, .int (nI (chN S b b2 (nv (S 27 0))))), (6, .int (nI (sr (dg (nv (S 27 0)) b) (nv (S 27 0)))))] := Eq.mp (congrArg (fun z9 : Int32 => lv_has ls 10 [(9, .int (nI (k + 1))), (8, .int z9), (0, .ref (h 0)), (1, .int (nI d)), (2, .int (nI a)), (3, .ref (o 3)), (4, .ref (o 4)), (5, .int (nI (chN S b b2 (nv (S 27 0))))), (6, .int (nI (sr (dg (nv (S 27 0)) b) (nv (S 27 0)))))]) (show (nI ((chN S b b2 k) + 1) : Int32) = nI (chN S b b2 (k + 1)) from by rw [chN_n c_136])) hl
                exact ih_114 (k + 1) u_128 (⟨by omega, hw_128⟩) (by omega) _ _ hP hD hS _ (lv_sub hl [2, 3, 4, 5, 6, 7, 8, 1, 0] rfl)
              · refine lv_iconst (v := nI 0) hx hb dL_cold_139 (by decide) ?_
                refine lv_goto (tgt := 144) hx hb dL_cold_140 (by decide) ?_
                refine cd_iadd hx hb dL_cold_144 ?_
                refine lv_istore (lv' := [(8, .int (nI ((chN S b b2 k) + 0))), (0, .ref (h 0)), (1, .int (nI d)), (2, .int (nI a)), (3, .ref (o 3)), (4, .ref (o 4)), (5, .int (nI (chN S b b2 (nv (S 27 0))))), (6, .int (nI (sr (dg (nv (S 27 0)) b) (nv (S 27 0))))), (9, .int (nI k))]) hx hb dL_cold_145 hl (by decide) rfl (fun ls hl => ?_)
                refine lv_iinc (v := nI (k + 1)) (lv' := [(9, .int (nI (k + 1))), (8, .int (nI ((chN S b b2 k) + 0))), (0, .ref (h 0)), (1, .int (nI d)), (2, .int (nI a)), (3, .ref (o 3)), (4, .ref (o 4)), (5, .int (nI (chN S b b2 (nv (S 27 0))))), (6, .int (nI (sr (dg (nv (S 27 0)) b) (nv (S 27 0)))))]) hx hb dL_cold_147 hl (k := 8) rfl (cd_i1 _) (by decide) rfl (fun ls hl => ?_)
                refine lv_goto (tgt := 114) hx hb dL_cold_150 (by decide) ?_
                have hl : lv_has ls 10 [(9, .int (nI (k + 1))), (8, .int (nI (chN S b b2 (k + 1)))), (0, .ref (h 0)), (1, .int (nI d)), (2, .int (nI a)), (3, .ref (o 3)), (4, .ref (o 4)), (5, .int (nI (chN S b b2 (nv (S 27 0))))), (6, .int (nI (sr (dg (nv (S 27 0)) b) (nv (S 27 0)))))] := Eq.mp (congrArg (fun z9 : Int32 => lv_has ls 10 [(9, .int (nI (k + 1))), (8, .int z9), (0, .ref (h 0)), (1, .int (nI d)), (2, .int (nI a)), (3, .ref (o 3)), (4, .ref (o 4)), (5, .int (nI (chN S b b2 (nv (S 27 0))))), (6, .int (nI (sr (dg (nv (S 27 0)) b) (nv (S 27 0)))))]) (show (nI ((chN S b b2 k) + 0) : Int32) = nI (chN S b b2 (k + 1)) from by rw [chN_y c_136])) hl
                exact ih_114 (k + 1) u_128 (⟨by omega, hw_128⟩) (by omega) _ _ hP hD hS _ (lv_sub hl [2, 3, 4, 5, 6, 7, 8, 1, 0] rfl)
          · refine lv_iload hx hb dL_cold_88 (lv_at hl 7 rfl) ?_
            refine lv_if_lt (tgt := 102) hx hb dL_cold_90 (by decide) (fun c_90 => ?_) (fun c_90 => ?_)
            · refine lv_iconst (v := nI 1) hx hb dL_cold_102 (by decide) ?_
              refine lv_goto (tgt := 107) hx hb dL_cold_103 (by decide) ?_
              exact W.zret (v := nI 1) hx hb hr rfl (fun t ht hW => ⟨⟨_, (J, V), rfl, (⟨rfl, hJ⟩), by rw [ht]; exact hP, hD⟩, hS.F ht⟩) hS.2.2 dL_cold_107
            · obtain ⟨b, hbc, hbs⟩ := bs_ge c_90
              refine lv_aload_n hx hb dL_cold_93 rfl (lv_at hl 1 rfl) ?_
              refine lv_iload_n hx hb dL_cold_94 rfl (lv_at hl 2 rfl) ?_
              have M_95 := c_X6_strain l D cy h (va_up S 4 (ilF ((S 4)) a d (d + (d + 1 - d)))) J hI4 d (by omega) (by omega) H.size
              have hPc := hP.sub (ws' := (wC cy h (va_up S 4 (ilF ((S 4)) a d (d + (d + 1 - d)))) J)) [0, 1, 2, 3, 4, 5, 6, 7, 8, 9, 10, 11, 12, 13, 14, 15, 16, 17, 18, 19, 20, 21, 22, 23, 24, 25, 26] rfl
              have hDc := hD.sub (ws' := (wC cy h (va_up S 4 (ilF ((S 4)) a d (d + (d + 1 - d)))) J)) [0, 1, 2, 3, 4, 5, 6, 7, 8, 9, 10, 11, 12, 13, 14, 15, 16, 17, 18, 19, 20, 21, 22, 23, 24, 25, 26] (by decide) rfl
              refine cd_fri (S := qS) (W1 := fun u_95 => (wC cy h (va_up S 4 (ilF ((S 4)) a d (d + (d + 1 - d)))) u_95)) (ws' := fun u_95 => (wLA cy h o (va_up S 4 (ilF ((S 4)) a d (d + (d + 1 - d)))) u_95 (S 6) (S 7) (kF (S 3)) (mF (S 27 0) (S 29 0)) V)) (wc := (wC cy h (va_up S 4 (ilF ((S 4)) a d (d + (d + 1 - d)))) J)) (wr := [(o 0, aI cy 32 (S 6)), (o 1, aI cy 8 (S 7)), (o 2, aI cy 12 (kF (S 3))), (o 3, aI cy 2 (mF (S 27 0) (S 29 0))), (o 4, aI cy 8 V)]) (va_runV (As := [.int (nI d)]) (rest := []) ⟨hx, hb, hml, hown, hts⟩ M_95 (cwV 1 hts gL_cold_X6_strain rfl rfl rfl (by decide +kernel) ⟨Nat.le_of_ble_eq_true rfl, Nat.le_of_ble_eq_true rfl⟩) ⟨wrB.bl, va_recv hK hP (ci := 6) (q0 := 0) rfl rfl, fun U hU hW => ⟨rfl, by rw [hU], by rw [hU]; exact hPc, hG.warm hW, hDc.weaken (fun _ _ _ _ => trivial)⟩⟩ rfl rfl hl.1 rfl (lv_room (Nat.le_of_ble_eq_true rfl)) dL_cold_95 (by exact ⟨Nat.zero_le _, Nat.zero_le _⟩)) hP hD hS hA [0, 1, 2, 3, 4, 5, 6, 7, 8, 9, 10, 11, 12, 13, 14, 15, 16, 17, 18, 19, 20, 21, 22, 23, 24, 25, 26] [27, 28, 29, 30, 31] [5, 6, 7, 8, 9, 10, 11, 12, 13, 14, 15, 16, 17, 18, 19, 20, 21, 22, 23, 24, 25, 26, 27, 28, 29, 30, 31, 0, 1, 2, 3, 4] rfl rfl (by decide) (by decide) (by decide) (fun _ => rfl) (fun r_95 u_95 H locs hw_95 hP hD hS => ?_)
              obtain ⟨hr_95, hw_95⟩ := hw_95
              subst hr_95
              refine cd_tp (y := bcS (va_up S 4 (ilF ((S 4)) a d (d + (d + 1 - d)))) (nv ((ilF ((S 4)) a d (d + (d + 1 - d))) d))) rfl ?_
              have hP : va_P D vwCl (wLA cy h o (va_up S 4 (ilF ((S 4)) a d (d + (d + 1 - d)))) u_95 (S 6) (S 7) (kF (S 3)) (mF (S 27 0) (S 29 0)) V) H := hP
              have hD : va_D A (wLA cy h o (va_up S 4 (ilF ((S 4)) a d (d + (d + 1 - d)))) u_95 (S 6) (S 7) (kF (S 3)) (mF (S 27 0) (S 29 0)) V) := hD
              refine cd_tp (y := (-1)) (by rw [bcS_4, hil, (bs_no (ch_no2 hI c_85 hbc)).1]) ?_
              refine lv_iconst (v := (-1)) hx hb dL_cold_98 (by decide) ?_
              refine lv_icmp_ne (tgt := 106) hx hb dL_cold_99 (by decide) (fun c_99 => ?_) (fun c_99 => ?_)
              · exact absurd rfl c_99
              · refine lv_iconst (v := nI 1) hx hb dL_cold_102 (by decide) ?_
                refine lv_goto (tgt := 107) hx hb dL_cold_103 (by decide) ?_
                exact W.zret (v := nI 1) hx hb hr rfl (fun t ht hW => ⟨⟨_, (u_95, V), rfl, (⟨rfl, hw_95⟩), by rw [ht]; exact hP, hD⟩, hS.F ht⟩) hS.2.2 dL_cold_107
        · exact absurd (il_bit hI ha1 hd1) (by rw [c_77]; decide)
  · refine lv_aload hx hb dL_cold_25 (lv_at hl 4 rfl) ?_
    refine lv_iload hx hb dL_cold_27 (lv_at hl 7 rfl) ?_
    refine lv_aload_n hx hb dL_cold_29 rfl (lv_at hl 0 rfl) ?_
    refine lv_iload_n hx hb dL_cold_30 rfl (lv_at hl 1 rfl) ?_
    refine lv_iload hx hb dL_cold_31 (lv_at hl 7 rfl) ?_
    have M_33 := c_X6_actorFor l D cy h S J hI d k (by omega) (by omega) (by omega) H.size
    have hPc := hP.sub (ws' := (wC cy h S J)) [0, 1, 2, 3, 4, 5, 6, 7, 8, 9, 10, 11, 12, 13, 14, 15, 16, 17, 18, 19, 20, 21, 22, 23, 24, 25, 26] rfl
    have hDc := hD.sub (ws' := (wC cy h S J)) [0, 1, 2, 3, 4, 5, 6, 7, 8, 9, 10, 11, 12, 13, 14, 15, 16, 17, 18, 19, 20, 21, 22, 23, 24, 25, 26] (by decide) rfl
    refine cd_fri (S := qS) (W1 := fun u_33 => (wC cy h S u_33)) (ws' := fun u_33 => (wLA cy h o S u_33 (S 6) (S 7) (kF (S 3)) (mF (S 27 0) (S 29 0)) V)) (wc := (wC cy h S J)) (wr := [(o 0, aI cy 32 (S 6)), (o 1, aI cy 8 (S 7)), (o 2, aI cy 12 (kF (S 3))), (o 3, aI cy 2 (mF (S 27 0) (S 29 0))), (o 4, aI cy 8 V)]) (va_runV (As := [.int (nI d), .int (nI k)]) (rest := [.int (nI k), .ref (o 4)]) ⟨hx, hb, hml, hown, hts⟩ M_33 (cwV 2 hts gL_cold_X6_actorFor rfl rfl rfl (by decide +kernel) ⟨Nat.le_of_ble_eq_true rfl, Nat.le_of_ble_eq_true rfl⟩) ⟨wrB.bl, va_recv hK hP (ci := 6) (q0 := 0) rfl rfl, fun U hU hW => ⟨rfl, by rw [hU], by rw [hU]; exact hPc, hG.warm hW, hDc.weaken (fun _ _ _ _ => trivial)⟩⟩ rfl rfl hl.1 rfl (lv_room (Nat.le_of_ble_eq_true rfl)) dL_cold_33 (by exact ⟨Nat.zero_le _, Nat.zero_le _⟩)) hP hD hS hA [0, 1, 2, 3, 4, 5, 6, 7, 8, 9, 10, 11, 12, 13, 14, 15, 16, 17, 18, 19, 20, 21, 22, 23, 24, 25, 26] [27, 28, 29, 30, 31] [5, 6, 7, 8, 9, 10, 11, 12, 13, 14, 15, 16, 17, 18, 19, 20, 21, 22, 23, 24, 25, 26, 27, 28, 29, 30, 31, 0, 1, 2, 3, 4] rfl rfl (by decide) (by decide) (by decide) (fun _ => rfl) (fun r_33 u_33 H locs hw_33 hP hD hS => ?_)
    obtain ⟨hr_33, hw_33⟩ := hw_33
    subst hr_33
    refine cd_tp (y := bcA S (nv ((S 4) d)) k) rfl ?_
    have hP : va_P D vwCl (wLA cy h o S u_33 (S 6) (S 7) (kF (S 3)) (mF (S 27 0) (S 29 0)) V) H := hP
    have hD : va_D A (wLA cy h o S u_33 (S 6) (S 7) (kF (S 3)) (mF (S 27 0) (S 29 0)) V) := hD
    refine cd_iast (f := V) hx hb hK hP hD hS 31 rfl (by omega) (by decide) dL_cold_36 (fun H locs hP hD hS => ?_)
    have hP : va_P D vwCl (wLA cy h o S u_33 (S 6) (S 7) (kF (S 3)) (mF (S 27 0) (S 29 0)) (upd V k (bcA S (nv ((S 4) d)) k))) H := hP
    have hD : va_D A (wLA cy h o S u_33 (S 6) (S 7) (kF (S 3)) (mF (S 27 0) (S 29 0)) (upd V k (bcA S (nv ((S 4) d)) k))) := hD
    refine lv_iinc (v := nI (k + 1)) (lv' := [(7, .int (nI (k + 1))), (0, .ref (h 0)), (1, .int (nI d)), (2, .int (nI a)), (3, .ref (o 3)), (4, .ref (o 4)), (5, .int (chI S (nv (S 4 d)) a)), (6, .int (bcS S (nv (S 4 d))))]) hx hb dL_cold_37 hl (k := 7) rfl (cd_i1 _) (by decide) rfl (fun ls hl => ?_)
    refine lv_goto (tgt := 18) hx hb dL_cold_40 (by decide) ?_
    exact ih_18 (k + 1) u_33 (upd V k (bcA S (nv ((S 4) d)) k)) (⟨by omega, fun j hj => by
          rcases Nat.lt_or_ge j k with q9 | q9
          · rw [upd_n _ _ (by omega)]; exact hV j q9
          · rw [show j = k by omega]; exact upd_s _ _ _, hw_33⟩) (by omega) _ _ hP hD hS _ (lv_sub hl [1, 2, 3, 4, 5, 6, 7, 0] rfl)
