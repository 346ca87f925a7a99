set_option maxHeartbeats 4000000 in
set_option maxRecDepth 100000 in
theorem c_L_good (l : Launch) (D : va_G) (cy : qT) (h : Nat → Nat) (o : Nat → Nat) (S : qS) (J : qS) (V : Nat → Int32) (hI : Inv S) (d : Nat) (hd1 : d ≤ 1000) (hJ : jk J) (sz : Nat) : Met l yL_good wsL_good ({ frames := 12, cells := 0, slots := 0, locals := 306 }) (va_Pc [.ref (h 0), .int (nI d), .ref (o 0), .ref (o 1), .ref (o 3)] (wrB D cy (wLA cy h o S J (S 6) (S 7) (kF (S 3)) (mF (S 27 0) (S 29 0)) V) sz)) (va_Qi (fun (r9 : Int32) (u : qS) => r9 = nI 1 ∧ jk u) (wrQ D (va_A (wLA cy h o S J (S 6) (S 7) (kF (S 3)) (mF (S 27 0) (S 29 0)) V) sz) (fun u : qS => (wLA cy h o S u (S 6) (S 7) (kF (S 3)) (mF (S 27 0) (S 29 0)) V))) (va_A (wLA cy h o S J (S 6) (S 7) (kF (S 3)) (mF (S 27 0) (S 29 0)) V) sz)) 0 0 (va_A (wLA cy h o S J (S 6) (S 7) (kF (S 3)) (mF (S 27 0) (S 29 0)) V) sz) := by
  refine Met.ofW (cc := cL_good) (maxL := 11) (ret := (some .boolean)) (by decide) rfl ?_
  intro pp e9 s m9 args9 bl9 meth9 c9 s9 B hml hv
  obtain ⟨rfl, hsz, hP, hG, hD0⟩ := hv
  have hx := B.exec
  have hb := B.bytes
  have hr := B.returns
  have hts := atoms_spec (ws := wsL_good) B.pre
  have hown : s.vm.findClass RL = some m9.cls := findClass_of_methodNamed B.named
  have hlocks := B.notSynchronized
  have hK := hG.K
  subst hsz
  have hD := hD0.self (sz := s.heap.size)
  generalize hAe : (va_A (wLA cy h o S J (S 6) (S 7) (kF (S 3)) (mF (S 27 0) (S 29 0)) V) s.heap.size) = A at hD ⊢
  have hA : ∀ q : Nat, s.heap.size ≤ q → A q := fun q h9 => by rw [← hAe]; exact Or.inr h9
  have hS : va_S A s.heap s.heap [] := va_S.rf
  have hP : va_P D vwCl (wLA cy h o S J (S 6) (S 7) (kF (S 3)) (mF (S 27 0) (S 29 0)) V) s.heap := hP
  have hl := lv_entry ([.ref (h 0), .int (nI d), .ref (o 0), .ref (o 1), .ref (o 3)]) (n := 11) (Nat.le_of_ble_eq_true rfl)
  rw [lg_entry_eq]
  generalize (lg_sl ([.ref (h 0), .int (nI d), .ref (o 0), .ref (o 1), .ref (o 3)]) ++ List.replicate (11 - (lg_sl ([.ref (h 0), .int (nI d), .ref (o 0), .ref (o 1), .ref (o 3)])).length) Slot.unset).toArray = ls at hl ⊢
  have hl : lv_has ls 11 [(0, .ref (h 0)), (1, .int (nI d)), (2, .ref (o 0)), (3, .ref (o 1)), (4, .ref (o 3))] := hl
  have hn8 : nv (S 27 0) ≤ 8 := by have := (iv_27 hI).1.2; omega
  have hn1 : 1 ≤ nv (S 27 0) := (iv_27 hI).2
  refine lv_aload_n hx hb dL_good_0 rfl (lv_at hl 0 rfl) ?_
  refine lv_iload_n hx hb dL_good_1 rfl (lv_at hl 1 rfl) ?_
  have M_2 := c_X6_strain l D cy h S J hI d (by omega) (by omega) s.heap.size
  have hPc := hP.sub (ws' := (wC cy h S J)) [0, 1, 2, 3, 4, 5, 6, 7, 8, 9, 10, 11, 12, 13, 14, 15, 16, 17, 18, 19, 20, 21, 22, 23, 24, 25, 26] rfl
  have hDc := hD.sub (ws' := (wC cy h S J)) [0, 1, 2, 3, 4, 5, 6, 7, 8, 9, 10, 11, 12, 13, 14, 15, 16, 17, 18, 19, 20, 21, 22, 23, 24, 25, 26] (by decide) rfl
  refine cd_fri (S := qS) (W1 := fun u_2 => (wC cy h S u_2)) (ws' := fun u_2 => (wLA cy h o S u_2 (S 6) (S 7) (kF (S 3)) (mF (S 27 0) (S 29 0)) V)) (wc := (wC cy h S J)) (wr := [(o 0, aI cy 32 (S 6)), (o 1, aI cy 8 (S 7)), (o 2, aI cy 12 (kF (S 3))), (o 3, aI cy 2 (mF (S 27 0) (S 29 0))), (o 4, aI cy 8 V)]) (va_runV (As := [.int (nI d)]) (rest := []) ⟨hx, hb, hml, hown, hts⟩ M_2 (cwV 1 hts gL_good_X6_strain rfl rfl rfl (by decide +kernel) ⟨Nat.le_of_ble_eq_true rfl, Nat.le_of_ble_eq_true rfl⟩) ⟨wrB.bl, va_recv hK hP (ci := 6) (q0 := 0) rfl rfl, fun U hU hW => ⟨rfl, by rw [hU], by rw [hU]; exact hPc, hG.warm hW, hDc.weaken (fun _ _ _ _ => trivial)⟩⟩ rfl rfl hl.1 rfl (lv_room (Nat.le_of_ble_eq_true rfl)) dL_good_2 (by exact ⟨Nat.zero_le _, Nat.zero_le _⟩)) hP hD hS hA [0, 1, 2, 3, 4, 5, 6, 7, 8, 9, 10, 11, 12, 13, 14, 15, 16, 17, 18, 19, 20, 21, 22, 23, 24, 25, 26] [27, 28, 29, 30, 31] [5, 6, 7, 8, 9, 10, 11, 12, 13, 14, 15, 16, 17, 18, 19, 20, 21, 22, 23, 24, 25, 26, 27, 28, 29, 30, 31, 0, 1, 2, 3, 4] rfl rfl (by decide) (by decide) (by decide) (fun _ => rfl) (fun r_2 u_2 H locs hw_2 hP hD hS => ?_)
  obtain ⟨hr_2, hw_2⟩ := hw_2
  subst hr_2
  refine cd_tp (y := bcS S (nv ((S 4) d))) rfl ?_
  have hP : va_P D vwCl (wLA cy h o S u_2 (S 6) (S 7) (kF (S 3)) (mF (S 27 0) (S 29 0)) V) H := hP
  have hD : va_D A (wLA cy h o S u_2 (S 6) (S 7) (kF (S 3)) (mF (S 27 0) (S 29 0)) V) := hD
  refine lv_istore (lv' := [(5, .int (bcS S (nv ((S 4) d)))), (0, .ref (h 0)), (1, .int (nI d)), (2, .ref (o 0)), (3, .ref (o 1)), (4, .ref (o 3))]) hx hb dL_good_5 hl (by decide) rfl (fun ls hl => ?_)
  refine lv_iload hx hb dL_good_7 (lv_at hl 0 rfl) ?_
  refine lv_aload_n hx hb dL_good_9 rfl (lv_at hl 1 rfl) ?_
  refine lv_iload_n hx hb dL_good_10 rfl (lv_at hl 2 rfl) ?_
  have M_11 := c_X6_strainByAll l D cy h S u_2 hI d (by omega) (by omega) H.size
  have hPc := hP.sub (ws' := (wC cy h S u_2)) [0, 1, 2, 3, 4, 5, 6, 7, 8, 9, 10, 11, 12, 13, 14, 15, 16, 17, 18, 19, 20, 21, 22, 23, 24, 25, 26] rfl
  have hDc := hD.sub (ws' := (wC cy h S u_2)) [0, 1, 2, 3, 4, 5, 6, 7, 8, 9, 10, 11, 12, 13, 14, 15, 16, 17, 18, 19, 20, 21, 22, 23, 24, 25, 26] (by decide) rfl
  refine cd_fri (S := qS) (W1 := fun u_11 => (wC cy h S u_11)) (ws' := fun u_11 => (wLA cy h o S u_11 (S 6) (S 7) (kF (S 3)) (mF (S 27 0) (S 29 0)) V)) (wc := (wC cy h S u_2)) (wr := [(o 0, aI cy 32 (S 6)), (o 1, aI cy 8 (S 7)), (o 2, aI cy 12 (kF (S 3))), (o 3, aI cy 2 (mF (S 27 0) (S 29 0))), (o 4, aI cy 8 V)]) (va_runV (As := [.int (nI d)]) (rest := [.int (bcS S (nv ((S 4) d)))]) ⟨hx, hb, hml, hown, hts⟩ M_11 (cwV 1 hts gL_good_X6_strainByAll rfl rfl rfl (by decide +kernel) ⟨Nat.le_of_ble_eq_true rfl, Nat.le_of_ble_eq_true rfl⟩) ⟨wrB.bl, va_recv hK hP (ci := 6) (q0 := 0) rfl rfl, fun U hU hW => ⟨rfl, by rw [hU], by rw [hU]; exact hPc, hG.warm hW, hDc.weaken (fun _ _ _ _ => trivial)⟩⟩ rfl rfl hl.1 rfl (lv_room (Nat.le_of_ble_eq_true rfl)) dL_good_11 (by exact ⟨Nat.zero_le _, Nat.zero_le _⟩)) hP hD hS hA [0, 1, 2, 3, 4, 5, 6, 7, 8, 9, 10, 11, 12, 13, 14, 15, 16, 17, 18, 19, 20, 21, 22, 23, 24, 25, 26] [27, 28, 29, 30, 31] [5, 6, 7, 8, 9, 10, 11, 12, 13, 14, 15, 16, 17, 18, 19, 20, 21, 22, 23, 24, 25, 26, 27, 28, 29, 30, 31, 0, 1, 2, 3, 4] rfl rfl (by decide) (by decide) (by decide) (fun _ => rfl) (fun r_11 u_11 H locs hw_11 hP hD hS => ?_)
  obtain ⟨hr_11, hw_11⟩ := hw_11
  subst hr_11
  refine cd_tp (y := bcS S (nv ((S 4) d))) rfl ?_
  have hP : va_P D vwCl (wLA cy h o S u_11 (S 6) (S 7) (kF (S 3)) (mF (S 27 0) (S 29 0)) V) H := hP
  have hD : va_D A (wLA cy h o S u_11 (S 6) (S 7) (kF (S 3)) (mF (S 27 0) (S 29 0)) V) := hD
  refine lv_icmp_eq (tgt := 19) hx hb dL_good_14 (by decide) (fun c_14 => ?_) (fun c_14 => ?_)
  · refine lv_iload hx hb dL_good_19 (lv_at hl 0 rfl) ?_
    refine lv_if_ge (tgt := 55) hx hb dL_good_21 (by decide) (fun c_21 => ?_) (fun c_21 => ?_)
    · obtain ⟨b, hbc, hbs⟩ := bs_ge (Int32.not_lt.mpr c_21)
      have hsl := sr_le (c := dg (nv (S 27 0)) b) (k := nv (S 27 0)) (fun p _ => dg_lt _ b p)
      have hl : lv_has ls 11 [(5, .int (nI (sr (dg (nv (S 27 0)) b) (nv (S 27 0))))), (0, .ref (h 0)), (1, .int (nI d)), (2, .ref (o 0)), (3, .ref (o 1)), (4, .ref (o 3))] := Eq.mp (congrArg (fun z9 : Int32 => lv_has ls 11 [(5, .int z9), (0, .ref (h 0)), (1, .int (nI d)), (2, .ref (o 0)), (3, .ref (o 1)), (4, .ref (o 3))]) (show (bcS S (nv ((S 4) d)) : Int32) = nI (sr (dg (nv (S 27 0)) b) (nv (S 27 0))) from hbs)) hl
      refine lv_iconst (v := nI 0) hx hb dL_good_55 (by decide) ?_
      refine lv_istore (lv' := [(6, .int (nI 0)), (5, .int (nI (sr (dg (nv (S 27 0)) b) (nv (S 27 0))))), (0, .ref (h 0)), (1, .int (nI d)), (2, .ref (o 0)), (3, .ref (o 1)), (4, .ref (o 3))]) hx hb dL_good_56 hl (by decide) rfl (fun ls hl => ?_)
      refine lv_iconst (v := nI 0) hx hb dL_good_58 (by decide) ?_
      refine lv_istore (lv' := [(7, .int (nI 0)), (6, .int (nI 0)), (5, .int (nI (sr (dg (nv (S 27 0)) b) (nv (S 27 0))))), (0, .ref (h 0)), (1, .int (nI d)), (2, .ref (o 0)), (3, .ref (o 1)), (4, .ref (o 3))]) hx hb dL_good_59 hl (by decide) rfl (fun ls hl => ?_)
      refine lv_iconst (v := nI 0) hx hb dL_good_61 (by decide) ?_
      refine lv_istore (lv' := [(8, .int (nI 0)), (7, .int (nI 0)), (6, .int (nI 0)), (5, .int (nI (sr (dg (nv (S 27 0)) b) (nv (S 27 0))))), (0, .ref (h 0)), (1, .int (nI d)), (2, .ref (o 0)), (3, .ref (o 1)), (4, .ref (o 3))]) hx hb dL_good_62 hl (by decide) rfl (fun ls hl => ?_)
      refine wh2 (nL := 11) (fun (k : Nat) (J : qS) => k ≤ nv (S 27 0) ∧ jk J) (fun (k : Nat) (J : qS) => nv (S 27 0) - k) (fun (k : Nat) (J : qS) => [(0, .ref (h 0)), (1, .int (nI d)), (2, .ref (o 0)), (3, .ref (o 1)), (4, .ref (o 3)), (5, .int (nI (sr (dg (nv (S 27 0)) b) (nv (S 27 0))))), (6, .int (nI (sr (dg (nv (S 27 0)) b) k))), (7, .int (nI (us S (dg (nv (S 27 0)) b) k))), (8, .int (nI k))]) (fun (k : Nat) (J : qS) => (wLA cy h o S J (S 6) (S 7) (kF (S 3)) (mF (S 27 0) (S 29 0)) V)) (fun k J hi_64 ih_64 H locs hP hD hS ls hl => ?_) 0 u_11 (⟨Nat.zero_le _, hw_11⟩) hP hD hS (lv_sub hl [4, 5, 6, 7, 8, 3, 2, 1, 0] rfl)
      have hP : va_P D vwCl (wLA cy h o S J (S 6) (S 7) (kF (S 3)) (mF (S 27 0) (S 29 0)) V) H := hP
      have hD : va_D A (wLA cy h o S J (S 6) (S 7) (kF (S 3)) (mF (S 27 0) (S 29 0)) V) := hD
      obtain ⟨hk1, hJ⟩ := hi_64
      have hsk := sr_le (c := dg (nv (S 27 0)) b) (k := k) (fun p _ => dg_lt _ b p)
      refine lv_iload hx hb dL_good_64 (lv_at hl 8 rfl) ?_
      refine lv_aload hx hb dL_good_66 (lv_at hl 4 rfl) ?_
      refine lv_iconst (v := nI 0) hx hb dL_good_68 (by decide) ?_
      refine cd_iald (f := mF (S 27 0) (S 29 0)) hx hb hK hP 30 rfl (by omega) (by decide) dL_good_69 ?_
      refine cd_tp (y := S 27 0) (rfl) ?_
      refine cd_tp (y := nI (nv (S 27 0))) ((iv_27 hI).1.1) ?_
      refine cd_icmp_ge (tgt := 141) hx hb dL_good_70 (by decide) (by omega) (by omega) (fun c_70 => ?_) (fun c_70 => ?_)
      · have ek : k = nv (S 27 0) := by omega
        subst ek
        refine lv_iconst (v := nI 0) hx hb dL_good_141 (by decide) ?_
        refine lv_istore (lv' := [(8, .int (nI 0)), (0, .ref (h 0)), (1, .int (nI d)), (2, .ref (o 0)), (3, .ref (o 1)), (4, .ref (o 3)), (5, .int (nI (sr (dg (nv (S 27 0)) b) (nv (S 27 0))))), (6, .int (nI (sr (dg (nv (S 27 0)) b) (nv (S 27 0))))), (7, .int (nI (us S (dg (nv (S 27 0)) b) (nv (S 27 0)))))]) hx hb dL_good_142 hl (by decide) rfl (fun ls hl => ?_)
        refine wh2 (nL := 11) (fun (k : Nat) (J : qS) => k ≤ nv (S 27 0) ∧ jk J) (fun (k : Nat) (J : qS) => nv (S 27 0) - k) (fun (k : Nat) (J : qS) => [(0, .ref (h 0)), (1, .int (nI d)), (2, .ref (o 0)), (3, .ref (o 1)), (4, .ref (o 3)), (5, .int (nI (sr (dg (nv (S 27 0)) b) (nv (S 27 0))))), (6, .int (nI (sr (dg (nv (S 27 0)) b) (nv (S 27 0))))), (7, .int (nI (us S (dg (nv (S 27 0)) b) (nv (S 27 0))))), (8, .int (nI k))]) (fun (k : Nat) (J : qS) => (wLA cy h o S J (S 6) (S 7) (kF (S 3)) (mF (S 27 0) (S 29 0)) V)) (fun k J hi_144 ih_144 H locs hP hD hS ls hl => ?_) 0 J (⟨Nat.zero_le _, hJ⟩) hP hD hS (lv_sub hl [1, 2, 3, 4, 5, 6, 7, 8, 0] rfl)
        have hP : va_P D vwCl (wLA cy h o S J (S 6) (S 7) (kF (S 3)) (mF (S 27 0) (S 29 0)) V) H := hP
        have hD : va_D A (wLA cy h o S J (S 6) (S 7) (kF (S 3)) (mF (S 27 0) (S 29 0)) V) := hD
        obtain ⟨hk1, hJ⟩ := hi_144
        refine lv_iload hx hb dL_good_144 (lv_at hl 8 rfl) ?_
        refine lv_aload hx hb dL_good_146 (lv_at hl 4 rfl) ?_
        refine lv_iconst (v := nI 0) hx hb dL_good_148 (by decide) ?_
        refine cd_iald (f := mF (S 27 0) (S 29 0)) hx hb hK hP 30 rfl (by omega) (by decide) dL_good_149 ?_
        refine cd_tp (y := S 27 0) (rfl) ?_
        refine cd_tp (y := nI (nv (S 27 0))) ((iv_27 hI).1.1) ?_
        refine cd_icmp_ge (tgt := 229) hx hb dL_good_150 (by decide) (by omega) (by omega) (fun c_150 => ?_) (fun c_150 => ?_)
        · refine lv_iload hx hb dL_good_229 (lv_at hl 6 rfl) ?_
          refine lv_iload hx hb dL_good_231 (lv_at hl 5 rfl) ?_
          refine cd_icmp_ne (tgt := 280) hx hb dL_good_233 (by decide) (by omega) (by omega) (fun c_233 => ?_) (fun c_233 => ?_)
          · exact absurd rfl c_233
          · refine lv_aload_n hx hb dL_good_236 rfl (lv_at hl 0 rfl) ?_
            refine lv_iload_n hx hb dL_good_237 rfl (lv_at hl 1 rfl) ?_
            have M_238 := c_X6_work l D cy h S J hI d (by omega) (by omega) H.size
            have hPc := hP.sub (ws' := (wC cy h S J)) [0, 1, 2, 3, 4, 5, 6, 7, 8, 9, 10, 11, 12, 13, 14, 15, 16, 17, 18, 19, 20, 21, 22, 23, 24, 25, 26] rfl
            have hDc := hD.sub (ws' := (wC cy h S J)) [0, 1, 2, 3, 4, 5, 6, 7, 8, 9, 10, 11, 12, 13, 14, 15, 16, 17, 18, 19, 20, 21, 22, 23, 24, 25, 26] (by decide) rfl
            refine cd_fri (S := qS) (W1 := fun u_238 => (wC cy h S u_238)) (ws' := fun u_238 => (wLA cy h o S u_238 (S 6) (S 7) (kF (S 3)) (mF (S 27 0) (S 29 0)) V)) (wc := (wC cy h S J)) (wr := [(o 0, aI cy 32 (S 6)), (o 1, aI cy 8 (S 7)), (o 2, aI cy 12 (kF (S 3))), (o 3, aI cy 2 (mF (S 27 0) (S 29 0))), (o 4, aI cy 8 V)]) (va_runV (As := [.int (nI d)]) (rest := []) ⟨hx, hb, hml, hown, hts⟩ M_238 (cwV 1 hts gL_good_X6_work rfl rfl rfl (by decide +kernel) ⟨Nat.le_of_ble_eq_true rfl, Nat.le_of_ble_eq_true rfl⟩) ⟨wrB.bl, va_recv hK hP (ci := 6) (q0 := 0) rfl rfl, fun U hU hW => ⟨rfl, by rw [hU], by rw [hU]; exact hPc, hG.warm hW, hDc.weaken (fun _ _ _ _ => trivial)⟩⟩ rfl rfl hl.1 rfl (lv_room (Nat.le_of_ble_eq_true rfl)) dL_good_238 (by exact ⟨Nat.zero_le _, Nat.zero_le _⟩)) hP hD hS hA [0, 1, 2, 3, 4, 5, 6, 7, 8, 9, 10, 11, 12, 13, 14, 15, 16, 17, 18, 19, 20, 21, 22, 23, 24, 25, 26] [27, 28, 29, 30, 31] [5, 6, 7, 8, 9, 10, 11, 12, 13, 14, 15, 16, 17, 18, 19, 20, 21, 22, 23, 24, 25, 26, 27, 28, 29, 30, 31, 0, 1, 2, 3, 4] rfl rfl (by decide) (by decide) (by decide) (fun _ => rfl) (fun r_238 u_238 H locs hw_238 hP hD hS => ?_)
            obtain ⟨hr_238, hw_238⟩ := hw_238
            subst hr_238
            refine cd_tp (y := bcW S (nv ((S 4) d))) rfl ?_
            have hP : va_P D vwCl (wLA cy h o S u_238 (S 6) (S 7) (kF (S 3)) (mF (S 27 0) (S 29 0)) V) H := hP
            have hD : va_D A (wLA cy h o S u_238 (S 6) (S 7) (kF (S 3)) (mF (S 27 0) (S 29 0)) V) := hD
            have hwo := wo_le S (dg (nv (S 27 0)) b) (nv (S 27 0))
            refine cd_tp (y := nI (wo S (dg (nv (S 27 0)) b) (nv (S 27 0)))) (bs_w hbc) ?_
            refine lv_if_lt (tgt := 280) hx hb dL_good_241 (by decide) (fun c_241 => ?_) (fun c_241 => ?_)
            · exact absurd c_241 (Int32.not_lt.mpr (nI_pos' (by omega)))
            · refine lv_aload_n hx hb dL_good_244 rfl (lv_at hl 0 rfl) ?_
              refine lv_iload_n hx hb dL_good_245 rfl (lv_at hl 1 rfl) ?_
              have M_246 := c_X6_work l D cy h S u_238 hI d (by omega) (by omega) H.size
              have hPc := hP.sub (ws' := (wC cy h S u_238)) [0, 1, 2, 3, 4, 5, 6, 7, 8, 9, 10, 11, 12, 13, 14, 15, 16, 17, 18, 19, 20, 21, 22, 23, 24, 25, 26] rfl
              have hDc := hD.sub (ws' := (wC cy h S u_238)) [0, 1, 2, 3, 4, 5, 6, 7, 8, 9, 10, 11, 12, 13, 14, 15, 16, 17, 18, 19, 20, 21, 22, 23, 24, 25, 26] (by decide) rfl
              refine cd_fri (S := qS) (W1 := fun u_246 => (wC cy h S u_246)) (ws' := fun u_246 => (wLA cy h o S u_246 (S 6) (S 7) (kF (S 3)) (mF (S 27 0) (S 29 0)) V)) (wc := (wC cy h S u_238)) (wr := [(o 0, aI cy 32 (S 6)), (o 1, aI cy 8 (S 7)), (o 2, aI cy 12 (kF (S 3))), (o 3, aI cy 2 (mF (S 27 0) (S 29 0))), (o 4, aI cy 8 V)]) (va_runV (As := [.int (nI d)]) (rest := []) ⟨hx, hb, hml, hown, hts⟩ M_246 (cwV 1 hts gL_good_X6_work rfl rfl rfl (by decide +kernel) ⟨Nat.le_of_ble_eq_true rfl, Nat.le_of_ble_eq_true rfl⟩) ⟨wrB.bl, va_recv hK hP (ci := 6) (q0 := 0) rfl rfl, fun U hU hW => ⟨rfl, by rw [hU], by rw [hU]; exact hPc, hG.warm hW, hDc.weaken (fun _ _ _ _ => trivial)⟩⟩ rfl rfl hl.1 rfl (lv_room (Nat.le_of_ble_eq_true rfl)) dL_good_246 (by exact ⟨Nat.zero_le _, Nat.zero_le _⟩)) hP hD hS hA [0, 1, 2, 3, 4, 5, 6, 7, 8, 9, 10, 11, 12, 13, 14, 15, 16, 17, 18, 19, 20, 21, 22, 23, 24, 25, 26] [27, 28, 29, 30, 31] [5, 6, 7, 8, 9, 10, 11, 12, 13, 14, 15, 16, 17, 18, 19, 20, 21, 22, 23, 24, 25, 26, 27, 28, 29, 30, 31, 0, 1, 2, 3, 4] rfl rfl (by decide) (by decide) (by decide) (fun _ => rfl) (fun r_246 u_246 H locs hw_246 hP hD hS => ?_)
              obtain ⟨hr_246, hw_246⟩ := hw_246
              subst hr_246
              refine cd_tp (y := bcW S (nv ((S 4) d))) rfl ?_
              have hP : va_P D vwCl (wLA cy h o S u_246 (S 6) (S 7) (kF (S 3)) (mF (S 27 0) (S 29 0)) V) H := hP
              have hD : va_D A (wLA cy h o S u_246 (S 6) (S 7) (kF (S 3)) (mF (S 27 0) (S 29 0)) V) := hD
              refine cd_tp (y := nI (wo S (dg (nv (S 27 0)) b) (nv (S 27 0)))) (bs_w hbc) ?_
              refine lv_aload hx hb dL_good_249 (lv_at hl 4 rfl) ?_
              refine lv_iconst (v := nI 0) hx hb dL_good_251 (by decide) ?_
              refine cd_iald (f := mF (S 27 0) (S 29 0)) hx hb hK hP 30 rfl (by omega) (by decide) dL_good_252 ?_
              refine cd_tp (y := S 27 0) (rfl) ?_
              refine cd_tp (y := nI (nv (S 27 0))) ((iv_27 hI).1.1) ?_
              refine cd_icmp_gt (tgt := 280) hx hb dL_good_253 (by decide) (by omega) (by omega) (fun c_253 => ?_) (fun c_253 => ?_)
              · exact (show False by omega).elim
              · refine lv_aload hx hb dL_good_256 (lv_at hl 4 rfl) ?_
                refine lv_iconst (v := nI 0) hx hb dL_good_258 (by decide) ?_
                refine cd_iald (f := mF (S 27 0) (S 29 0)) hx hb hK hP 30 rfl (by omega) (by decide) dL_good_259 ?_
                refine cd_tp (y := S 27 0) (rfl) ?_
                refine cd_tp (y := nI (nv (S 27 0))) ((iv_27 hI).1.1) ?_
                refine lv_bipush (v := nI 8) hx hb dL_good_260 (by decide) ?_
                refine cd_icmp_eq (tgt := 276) hx hb dL_good_262 (by decide) (by omega) (by omega) (fun c_262 => ?_) (fun c_262 => ?_)
                · refine lv_iconst (v := nI 1) hx hb dL_good_276 (by decide) ?_
                  refine lv_goto (tgt := 281) hx hb dL_good_277 (by decide) ?_
                  exact W.zret (v := nI 1) hx hb hr rfl (fun t ht hW => ⟨⟨_, u_246, rfl, (⟨rfl, hw_246⟩), by rw [ht]; exact hP, hD⟩, hS.F ht⟩) hS.2.2 dL_good_281
                · refine lv_aload_n hx hb dL_good_265 rfl (lv_at hl 0 rfl) ?_
                  refine lv_iload_n hx hb dL_good_266 rfl (lv_at hl 1 rfl) ?_
                  refine lv_bipush (v := nI 7) hx hb dL_good_267 (by decide) ?_
                  have M_269 := c_X6_actorFor l D cy h S u_246 hI d 7 (by omega) (by omega) (by omega) H.size
                  have hPc := hP.sub (ws' := (wC cy h S u_246)) [0, 1, 2, 3, 4, 5, 6, 7, 8, 9, 10, 11, 12, 13, 14, 15, 16, 17, 18, 19, 20, 21, 22, 23, 24, 25, 26] rfl
                  have hDc := hD.sub (ws' := (wC cy h S u_246)) [0, 1, 2, 3, 4, 5, 6, 7, 8, 9, 10, 11, 12, 13, 14, 15, 16, 17, 18, 19, 20, 21, 22, 23, 24, 25, 26] (by decide) rfl
                  refine cd_fri (S := qS) (W1 := fun u_269 => (wC cy h S u_269)) (ws' := fun u_269 => (wLA cy h o S u_269 (S 6) (S 7) (kF (S 3)) (mF (S 27 0) (S 29 0)) V)) (wc := (wC cy h S u_246)) (wr := [(o 0, aI cy 32 (S 6)), (o 1, aI cy 8 (S 7)), (o 2, aI cy 12 (kF (S 3))), (o 3, aI cy 2 (mF (S 27 0) (S 29 0))), (o 4, aI cy 8 V)]) (va_runV (As := [.int (nI d), .int (nI 7)]) (rest := []) ⟨hx, hb, hml, hown, hts⟩ M_269 (cwV 2 hts gL_good_X6_actorFor rfl rfl rfl (by decide +kernel) ⟨Nat.le_of_ble_eq_true rfl, Nat.le_of_ble_eq_true rfl⟩) ⟨wrB.bl, va_recv hK hP (ci := 6) (q0 := 0) rfl rfl, fun U hU hW => ⟨rfl, by rw [hU], by rw [hU]; exact hPc, hG.warm hW, hDc.weaken (fun _ _ _ _ => trivial)⟩⟩ rfl rfl hl.1 rfl (lv_room (Nat.le_of_ble_eq_true rfl)) dL_good_269 (by exact ⟨Nat.zero_le _, Nat.zero_le _⟩)) hP hD hS hA [0, 1, 2, 3, 4, 5, 6, 7, 8, 9, 10, 11, 12, 13, 14, 15, 16, 17, 18, 19, 20, 21, 22, 23, 24, 25, 26] [27, 28, 29, 30, 31] [5, 6, 7, 8, 9, 10, 11, 12, 13, 14, 15, 16, 17, 18, 19, 20, 21, 22, 23, 24, 25, 26, 27, 28, 29, 30, 31, 0, 1, 2, 3, 4] rfl rfl (by decide) (by decide) (by decide) (fun _ => rfl) (fun r_269 u_269 H locs hw_269 hP hD hS => ?_)
                  obtain ⟨hr_269, hw_269⟩ := hw_269
                  subst hr_269
                  refine cd_tp (y := bcA S (nv ((S 4) d)) 7) rfl ?_
                  have hP : va_P D vwCl (wLA cy h o S u_269 (S 6) (S 7) (kF (S 3)) (mF (S 27 0) (S 29 0)) V) H := hP
                  have hD : va_D A (wLA cy h o S u_269 (S 6) (S 7) (kF (S 3)) (mF (S 27 0) (S 29 0)) V) := hD
                  refine cd_tp (y := (-1)) (bs_7 hbc (by omega)) ?_
                  refine lv_iconst (v := (-1)) hx hb dL_good_272 (by decide) ?_
                  refine lv_icmp_ne (tgt := 280) hx hb dL_good_273 (by decide) (fun c_273 => ?_) (fun c_273 => ?_)
                  · exact absurd rfl c_273
                  · refine lv_iconst (v := nI 1) hx hb dL_good_276 (by decide) ?_
                    refine lv_goto (tgt := 281) hx hb dL_good_277 (by decide) ?_
                    exact W.zret (v := nI 1) hx hb hr rfl (fun t ht hW => ⟨⟨_, u_269, rfl, (⟨rfl, hw_269⟩), by rw [ht]; exact hP, hD⟩, hS.F ht⟩) hS.2.2 dL_good_281
        · refine lv_iload hx hb dL_good_153 (lv_at hl 8 rfl) ?_
          refine lv_aload_n hx hb dL_good_155 rfl (lv_at hl 0 rfl) ?_
          refine lv_iload_n hx hb dL_good_156 rfl (lv_at hl 1 rfl) ?_
          refine lv_iload hx hb dL_good_157 (lv_at hl 8 rfl) ?_
          have M_159 := c_X6_actorFor l D cy h S J hI d k (by omega) (by omega) (by omega) H.size
          have hPc := hP.sub (ws' := (wC cy h S J)) [0, 1, 2, 3, 4, 5, 6, 7, 8, 9, 10, 11, 12, 13, 14, 15, 16, 17, 18, 19, 20, 21, 22, 23, 24, 25, 26] rfl
          have hDc := hD.sub (ws' := (wC cy h S J)) [0, 1, 2, 3, 4, 5, 6, 7, 8, 9, 10, 11, 12, 13, 14, 15, 16, 17, 18, 19, 20, 21, 22, 23, 24, 25, 26] (by decide) rfl
          refine cd_fri (S := qS) (W1 := fun u_159 => (wC cy h S u_159)) (ws' := fun u_159 => (wLA cy h o S u_159 (S 6) (S 7) (kF (S 3)) (mF (S 27 0) (S 29 0)) V)) (wc := (wC cy h S J)) (wr := [(o 0, aI cy 32 (S 6)), (o 1, aI cy 8 (S 7)), (o 2, aI cy 12 (kF (S 3))), (o 3, aI cy 2 (mF (S 27 0) (S 29 0))), (o 4, aI cy 8 V)]) (va_runV (As := [.int (nI d), .int (nI k)]) (rest := [.int (nI k)]) ⟨hx, hb, hml, hown, hts⟩ M_159 (cwV 2 hts gL_good_X6_actorFor rfl rfl rfl (by decide +kernel) ⟨Nat.le_of_ble_eq_true rfl, Nat.le_of_ble_eq_true rfl⟩) ⟨wrB.bl, va_recv hK hP (ci := 6) (q0 := 0) rfl rfl, fun U hU hW => ⟨rfl, by rw [hU], by rw [hU]; exact hPc, hG.warm hW, hDc.weaken (fun _ _ _ _ => trivial)⟩⟩ rfl rfl hl.1 rfl (lv_room (Nat.le_of_ble_eq_true rfl)) dL_good_159 (by exact ⟨Nat.zero_le _, Nat.zero_le _⟩)) hP hD hS hA [0, 1, 2, 3, 4, 5, 6, 7, 8, 9, 10, 11, 12, 13, 14, 15, 16, 17, 18, 19, 20, 21, 22, 23, 24, 25, 26] [27, 28, 29, 30, 31] [5, 6, 7, 8, 9, 10, 11, 12, 13, 14, 15, 16, 17, 18, 19, 20, 21, 22, 23, 24, 25, 26, 27, 28, 29, 30, 31, 0, 1, 2, 3, 4] rfl rfl (by decide) (by decide) (by decide) (fun _ => rfl) (fun r_159 u_159 H locs hw_159 hP hD hS => ?_)
          obtain ⟨hr_159, hw_159⟩ := hw_159
          subst hr_159
          refine cd_tp (y := bcA S (nv ((S 4) d)) k) rfl ?_
          have hP : va_P D vwCl (wLA cy h o S u_159 (S 6) (S 7) (kF (S 3)) (mF (S 27 0) (S 29 0)) V) H := hP
          have hD : va_D A (wLA cy h o S u_159 (S 6) (S 7) (kF (S 3)) (mF (S 27 0) (S 29 0)) V) := hD
          have hba := bs_at hI hbc (show k < nv (S 27 0) by omega)
          have hba2 := hba.2.1
          have hba3 := hba.2.2.1
          have hdg := dg_lt (nv (S 27 0)) b k
          refine cd_tp (y := nI (acN S b k)) (hba.1) ?_
          refine lv_aload_n hx hb dL_good_162 rfl (lv_at hl 2 rfl) ?_
          refine lv_aload_n hx hb dL_good_163 rfl (lv_at hl 3 rfl) ?_
          have M_164 := c_L_rank l D cy o S hI k (nI (acN S b k)) (by omega)
          have hPc := hP.sub (ws' := (wRN cy o (S 6) (S 7))) [27, 28] rfl
          refine cd_roi (va_runS (As := [.int (nI k), .int (nI (acN S b k)), .ref (o 0), .ref (o 1)]) (rest := []) ⟨hx, hb, hml, hown, hts⟩ M_164 (va_cwS 4 hts gL_good_L_rank rfl rfl rfl (by decide +kernel) ⟨Nat.le_of_ble_eq_true rfl, Nat.le_of_ble_eq_true rfl⟩) ⟨roB.bl, fun U hU hW => ⟨rfl, by rw [hU]; exact hPc, hG.warm hW⟩⟩ rfl rfl hl.1 rfl (lv_room (Nat.le_of_ble_eq_true rfl)) dL_good_164 (by exact ⟨Nat.zero_le _, Nat.zero_le _⟩)) (fun r_164 hr_164 => ?_)
          subst hr_164
          refine cd_tp (y := nI (dg (nv (S 27 0)) b k)) ((bs_rk hI hbc (by omega)).1) ?_
          refine lv_istore (lv' := [(9, .int (nI (dg (nv (S 27 0)) b k))), (0, .ref (h 0)), (1, .int (nI d)), (2, .ref (o 0)), (3, .ref (o 1)), (4, .ref (o 3)), (5, .int (nI (sr (dg (nv (S 27 0)) b) (nv (S 27 0))))), (6, .int (nI (sr (dg (nv (S 27 0)) b) (nv (S 27 0))))), (7, .int (nI (us S (dg (nv (S 27 0)) b) (nv (S 27 0))))), (8, .int (nI k))]) hx hb dL_good_167 hl (by decide) rfl (fun ls hl => ?_)
          refine lv_iconst (v := nI 0) hx hb dL_good_169 (by decide) ?_
          refine lv_istore (lv' := [(10, .int (nI 0)), (9, .int (nI (dg (nv (S 27 0)) b k))), (0, .ref (h 0)), (1, .int (nI d)), (2, .ref (o 0)), (3, .ref (o 1)), (4, .ref (o 3)), (5, .int (nI (sr (dg (nv (S 27 0)) b) (nv (S 27 0))))), (6, .int (nI (sr (dg (nv (S 27 0)) b) (nv (S 27 0))))), (7, .int (nI (us S (dg (nv (S 27 0)) b) (nv (S 27 0))))), (8, .int (nI k))]) hx hb dL_good_170 hl (by decide) rfl (fun ls hl => ?_)
          refine wl1 (nL := 11) (fun (e : Nat) => e ≤ dg (nv (S 27 0)) b k) (fun (e : Nat) => dg (nv (S 27 0)) b k - e) (fun (e : Nat) => [(0, .ref (h 0)), (1, .int (nI d)), (2, .ref (o 0)), (3, .ref (o 1)), (4, .ref (o 3)), (5, .int (nI (sr (dg (nv (S 27 0)) b) (nv (S 27 0))))), (6, .int (nI (sr (dg (nv (S 27 0)) b) (nv (S 27 0))))), (7, .int (nI (us S (dg (nv (S 27 0)) b) (nv (S 27 0))))), (8, .int (nI k)), (9, .int (nI (dg (nv (S 27 0)) b k))), (10, .int (nI e))]) (fun e hi_172 ih_172 ls hl => ?_) 0 (Nat.zero_le _) (lv_sub hl [2, 3, 4, 5, 6, 7, 8, 9, 10, 1, 0] rfl)
          refine lv_iload hx hb dL_good_172 (lv_at hl 10 rfl) ?_
          refine lv_iload hx hb dL_good_174 (lv_at hl 9 rfl) ?_
          refine cd_icmp_ge (tgt := 223) hx hb dL_good_176 (by decide) (by omega) (by omega) (fun c_176 => ?_) (fun c_176 => ?_)
          · refine lv_iinc (v := nI (k + 1)) (lv' := [(8, .int (nI (k + 1))), (0, .ref (h 0)), (1, .int (nI d)), (2, .ref (o 0)), (3, .ref (o 1)), (4, .ref (o 3)), (5, .int (nI (sr (dg (nv (S 27 0)) b) (nv (S 27 0))))), (6, .int (nI (sr (dg (nv (S 27 0)) b) (nv (S 27 0))))), (7, .int (nI (us S (dg (nv (S 27 0)) b) (nv (S 27 0))))), (9, .int (nI (dg (nv (S 27 0)) b k))), (10, .int (nI e))]) hx hb dL_good_223 hl (k := 8) rfl (cd_i1 _) (by decide) rfl (fun ls hl => ?_)
            refine lv_goto (tgt := 144) hx hb dL_good_226 (by decide) ?_
            exact ih_144 (k + 1) u_159 (⟨by omega, hw_159⟩) (by omega) _ _ hP hD hS _ (lv_sub hl [1, 2, 3, 4, 5, 6, 7, 8, 0] rfl)
          · refine lv_aload_n hx hb dL_good_179 rfl (lv_at hl 0 rfl) ?_
            refine lv_aload_n hx hb dL_good_180 rfl (lv_at hl 2 rfl) ?_
            refine lv_iconst (v := nI 4) hx hb dL_good_181 (by decide) ?_
            refine lv_iload hx hb dL_good_182 (lv_at hl 8 rfl) ?_
            refine cd_imul hx hb dL_good_184 ?_
            refine lv_iload hx hb dL_good_185 (lv_at hl 10 rfl) ?_
            refine cd_iadd hx hb dL_good_187 ?_
            refine cd_tp (y := nI (k * 4 + e)) (by rw [Nat.mul_comm]) ?_
            refine cd_iald (f := S 6) hx hb hK hP 27 rfl (by omega) (by decide) dL_good_188 ?_
            have h6 := iv_6 hI k e (by omega) (by omega)
            have h62 := h6.2
            refine cd_tp (y := nI (nv (S 6 (k * 4 + e)))) (h6.1) ?_
            refine lv_iload hx hb dL_good_189 (lv_at hl 8 rfl) ?_
            refine lv_iload_n hx hb dL_good_191 rfl (lv_at hl 1 rfl) ?_
            have M_192 := c_X6_canPlay l D cy h S u_159 hI (nv (S 6 (k * 4 + e))) k d (by omega) (by omega) (by omega)
            have hPc := hP.sub (ws' := (wC cy h S u_159)) [0, 1, 2, 3, 4, 5, 6, 7, 8, 9, 10, 11, 12, 13, 14, 15, 16, 17, 18, 19, 20, 21, 22, 23, 24, 25, 26] rfl
            refine cd_roi (va_runV (As := [.int (nI (nv (S 6 (k * 4 + e)))), .int (nI k), .int (nI d)]) (rest := []) ⟨hx, hb, hml, hown, hts⟩ M_192 (cwV 3 hts gL_good_X6_canPlay rfl rfl rfl (by decide +kernel) ⟨Nat.le_of_ble_eq_true rfl, Nat.le_of_ble_eq_true rfl⟩) ⟨roB.bl, va_recv hK hP (ci := 6) (q0 := 0) rfl rfl, fun U hU hW => ⟨rfl, by rw [hU]; exact hPc, hG.warm hW⟩⟩ rfl rfl hl.1 rfl (lv_room (Nat.le_of_ble_eq_true rfl)) dL_good_192 (by exact ⟨Nat.zero_le _, Nat.zero_le _⟩)) (fun r_192 hr_192 => ?_)
            subst hr_192
            refine cd_tp (y := bI (rkB S k (nI (nv (S 6 (k * 4 + e)))) && rdy S (nv (S 6 (k * 4 + e))) k (nv ((S 4) d)))) rfl ?_
            refine cd_ifB_eq (tgt := 217) hx hb dL_good_195 (by decide) (fun c_195 => ?_) (fun c_195 => ?_)
            · refine lv_iinc (v := nI (e + 1)) (lv' := [(10, .int (nI (e + 1))), (0, .ref (h 0)), (1, .int (nI d)), (2, .ref (o 0)), (3, .ref (o 1)), (4, .ref (o 3)), (5, .int (nI (sr (dg (nv (S 27 0)) b) (nv (S 27 0))))), (6, .int (nI (sr (dg (nv (S 27 0)) b) (nv (S 27 0))))), (7, .int (nI (us S (dg (nv (S 27 0)) b) (nv (S 27 0))))), (8, .int (nI k)), (9, .int (nI (dg (nv (S 27 0)) b k)))]) hx hb dL_good_217 hl (k := 10) rfl (cd_i1 _) (by decide) rfl (fun ls hl => ?_)
              refine lv_goto (tgt := 172) hx hb dL_good_220 (by decide) ?_
              exact ih_172 (e + 1) (by omega) (by omega) _ (lv_sub hl [1, 2, 3, 4, 5, 6, 7, 8, 9, 10, 0] rfl)
            · refine lv_iload hx hb dL_good_198 (lv_at hl 7 rfl) ?_
              refine lv_aload_n hx hb dL_good_200 rfl (lv_at hl 2 rfl) ?_
              refine lv_iconst (v := nI 4) hx hb dL_good_201 (by decide) ?_
              refine lv_iload hx hb dL_good_202 (lv_at hl 8 rfl) ?_
              refine cd_imul hx hb dL_good_204 ?_
              refine lv_iload hx hb dL_good_205 (lv_at hl 10 rfl) ?_
              refine cd_iadd hx hb dL_good_207 ?_
              refine cd_tp (y := nI (k * 4 + e)) (by rw [Nat.mul_comm]) ?_
              refine cd_iald (f := S 6) hx hb hK hP 27 rfl (by omega) (by decide) dL_good_208 ?_
              have h6 := iv_6 hI k e (by omega) (by omega)
              have h62 := h6.2
              refine cd_tp (y := nI (nv (S 6 (k * 4 + e)))) (h6.1) ?_
              refine cd_ishr hx hb (by omega) (by have := bs_us hI hbc (Nat.le_refl _); omega) dL_good_209 ?_
              refine lv_iconst (v := nI 1) hx hb dL_good_210 (by decide) ?_
              refine cd_iand hx hb dL_good_211 ?_
              refine cd_if_ne (tgt := 217) hx hb dL_good_212 (by decide) (by rw [Nat.and_one_is_mod]; omega) (fun c_212 => ?_) (fun c_212 => ?_)
              · refine lv_iinc (v := nI (e + 1)) (lv' := [(10, .int (nI (e + 1))), (0, .ref (h 0)), (1, .int (nI d)), (2, .ref (o 0)), (3, .ref (o 1)), (4, .ref (o 3)), (5, .int (nI (sr (dg (nv (S 27 0)) b) (nv (S 27 0))))), (6, .int (nI (sr (dg (nv (S 27 0)) b) (nv (S 27 0))))), (7, .int (nI (us S (dg (nv (S 27 0)) b) (nv (S 27 0))))), (8, .int (nI k)), (9, .int (nI (dg (nv (S 27 0)) b k)))]) hx hb dL_good_217 hl (k := 10) rfl (cd_i1 _) (by decide) rfl (fun ls hl => ?_)
                refine lv_goto (tgt := 172) hx hb dL_good_220 (by decide) ?_
                exact ih_172 (e + 1) (by omega) (by omega) _ (lv_sub hl [1, 2, 3, 4, 5, 6, 7, 8, 9, 10, 0] rfl)
              · exact absurd ((us_bit _ _).mpr (bs_min hI hbc (by omega) (by omega) ((Bool.and_eq_true _ _).mp c_195).2)) (by rw [tb_0 c_212]; decide)
      · refine lv_aload_n hx hb dL_good_73 rfl (lv_at hl 0 rfl) ?_
        refine lv_iload_n hx hb dL_good_74 rfl (lv_at hl 1 rfl) ?_
        refine lv_iload hx hb dL_good_75 (lv_at hl 8 rfl) ?_
        have M_77 := c_X6_actorFor l D cy h S J hI d k (by omega) (by omega) (by omega) H.size
        have hPc := hP.sub (ws' := (wC cy h S J)) [0, 1, 2, 3, 4, 5, 6, 7, 8, 9, 10, 11, 12, 13, 14, 15, 16, 17, 18, 19, 20, 21, 22, 23, 24, 25, 26] rfl
        have hDc := hD.sub (ws' := (wC cy h S J)) [0, 1, 2, 3, 4, 5, 6, 7, 8, 9, 10, 11, 12, 13, 14, 15, 16, 17, 18, 19, 20, 21, 22, 23, 24, 25, 26] (by decide) rfl
        refine cd_fri (S := qS) (W1 := fun u_77 => (wC cy h S u_77)) (ws' := fun u_77 => (wLA cy h o S u_77 (S 6) (S 7) (kF (S 3)) (mF (S 27 0) (S 29 0)) V)) (wc := (wC cy h S J)) (wr := [(o 0, aI cy 32 (S 6)), (o 1, aI cy 8 (S 7)), (o 2, aI cy 12 (kF (S 3))), (o 3, aI cy 2 (mF (S 27 0) (S 29 0))), (o 4, aI cy 8 V)]) (va_runV (As := [.int (nI d), .int (nI k)]) (rest := []) ⟨hx, hb, hml, hown, hts⟩ M_77 (cwV 2 hts gL_good_X6_actorFor rfl rfl rfl (by decide +kernel) ⟨Nat.le_of_ble_eq_true rfl, Nat.le_of_ble_eq_true rfl⟩) ⟨wrB.bl, va_recv hK hP (ci := 6) (q0 := 0) rfl rfl, fun U hU hW => ⟨rfl, by rw [hU], by rw [hU]; exact hPc, hG.warm hW, hDc.weaken (fun _ _ _ _ => trivial)⟩⟩ rfl rfl hl.1 rfl (lv_room (Nat.le_of_ble_eq_true rfl)) dL_good_77 (by exact ⟨Nat.zero_le _, Nat.zero_le _⟩)) hP hD hS hA [0, 1, 2, 3, 4, 5, 6, 7, 8, 9, 10, 11, 12, 13, 14, 15, 16, 17, 18, 19, 20, 21, 22, 23, 24, 25, 26] [27, 28, 29, 30, 31] [5, 6, 7, 8, 9, 10, 11, 12, 13, 14, 15, 16, 17, 18, 19, 20, 21, 22, 23, 24, 25, 26, 27, 28, 29, 30, 31, 0, 1, 2, 3, 4] rfl rfl (by decide) (by decide) (by decide) (fun _ => rfl) (fun r_77 u_77 H locs hw_77 hP hD hS => ?_)
        obtain ⟨hr_77, hw_77⟩ := hw_77
        subst hr_77
        refine cd_tp (y := bcA S (nv ((S 4) d)) k) rfl ?_
        have hP : va_P D vwCl (wLA cy h o S u_77 (S 6) (S 7) (kF (S 3)) (mF (S 27 0) (S 29 0)) V) H := hP
        have hD : va_D A (wLA cy h o S u_77 (S 6) (S 7) (kF (S 3)) (mF (S 27 0) (S 29 0)) V) := hD
        have hba := bs_at hI hbc (show k < nv (S 27 0) by omega)
        have hba2 := hba.2.1
        have hba3 := hba.2.2.1
        have hdg := dg_lt (nv (S 27 0)) b k
        refine cd_tp (y := nI (acN S b k)) (hba.1) ?_
        refine lv_istore (lv' := [(9, .int (nI (acN S b k))), (0, .ref (h 0)), (1, .int (nI d)), (2, .ref (o 0)), (3, .ref (o 1)), (4, .ref (o 3)), (5, .int (nI (sr (dg (nv (S 27 0)) b) (nv (S 27 0))))), (6, .int (nI (sr (dg (nv (S 27 0)) b) k))), (7, .int (nI (us S (dg (nv (S 27 0)) b) k))), (8, .int (nI k))]) hx hb dL_good_80 hl (by decide) rfl (fun ls hl => ?_)
        refine lv_iload hx hb dL_good_82 (lv_at hl 0 rfl) ?_
        refine lv_if_lt (tgt := 110) hx hb dL_good_84 (by decide) (fun c_84 => ?_) (fun c_84 => ?_)
        · exact absurd c_84 (Int32.not_lt.mpr (nI_pos' (by omega)))
        · refine lv_aload_n hx hb dL_good_87 rfl (lv_at hl 1 rfl) ?_
          refine lv_iload hx hb dL_good_88 (lv_at hl 0 rfl) ?_
          refine lv_iload hx hb dL_good_90 (lv_at hl 9 rfl) ?_
          refine lv_iload_n hx hb dL_good_92 rfl (lv_at hl 2 rfl) ?_
          have M_93 := c_X6_canPlay l D cy h S u_77 hI (acN S b k) k d (by omega) (by omega) (by omega)
          have hPc := hP.sub (ws' := (wC cy h S u_77)) [0, 1, 2, 3, 4, 5, 6, 7, 8, 9, 10, 11, 12, 13, 14, 15, 16, 17, 18, 19, 20, 21, 22, 23, 24, 25, 26] rfl
          refine cd_roi (va_runV (As := [.int (nI (acN S b k)), .int (nI k), .int (nI d)]) (rest := []) ⟨hx, hb, hml, hown, hts⟩ M_93 (cwV 3 hts gL_good_X6_canPlay rfl rfl rfl (by decide +kernel) ⟨Nat.le_of_ble_eq_true rfl, Nat.le_of_ble_eq_true rfl⟩) ⟨roB.bl, va_recv hK hP (ci := 6) (q0 := 0) rfl rfl, fun U hU hW => ⟨rfl, by rw [hU]; exact hPc, hG.warm hW⟩⟩ rfl rfl hl.1 rfl (lv_room (Nat.le_of_ble_eq_true rfl)) dL_good_93 (by exact ⟨Nat.zero_le _, Nat.zero_le _⟩)) (fun r_93 hr_93 => ?_)
          subst hr_93
          refine cd_tp (y := bI (rkB S k (nI (acN S b k)) && rdy S (acN S b k) k (nv ((S 4) d)))) rfl ?_
          refine cd_ifB_eq (tgt := 110) hx hb dL_good_96 (by decide) (fun c_96 => ?_) (fun c_96 => ?_)
          · exact absurd (bs_can hI hbc (by omega)) (by rw [c_96]; decide)
          · refine lv_iload hx hb dL_good_99 (lv_at hl 8 rfl) ?_
            refine lv_iload hx hb dL_good_101 (lv_at hl 0 rfl) ?_
            refine cd_ishr hx hb (by omega) (by have := bs_us hI hbc (show k ≤ nv (S 27 0) by omega); omega) dL_good_103 ?_
            refine lv_iconst (v := nI 1) hx hb dL_good_104 (by decide) ?_
            refine cd_iand hx hb dL_good_105 ?_
            refine lv_iconst (v := nI 1) hx hb dL_good_106 (by decide) ?_
            refine cd_icmp_ne (tgt := 112) hx hb dL_good_107 (by decide) (by rw [Nat.and_one_is_mod]; omega) (by decide) (fun c_107 => ?_) (fun c_107 => ?_)
            · refine lv_iload hx hb dL_good_112 (lv_at hl 8 rfl) ?_
              refine lv_iconst (v := nI 1) hx hb dL_good_114 (by decide) ?_
              refine lv_iload hx hb dL_good_115 (lv_at hl 0 rfl) ?_
              refine cd_ishl hx hb (by omega) (by have := Nat.pow_le_pow_right (n := 2) (by decide) (show acN S b k ≤ 11 by omega); omega) dL_good_117 ?_
              refine cd_ior hx hb dL_good_118 ?_
              refine lv_istore (lv' := [(7, .int (nI ((us S (dg (nv (S 27 0)) b) k) ||| (1 * 2 ^ (acN S b k))))), (9, .int (nI (acN S b k))), (0, .ref (h 0)), (1, .int (nI d)), (2, .ref (o 0)), (3, .ref (o 1)), (4, .ref (o 3)), (5, .int (nI (sr (dg (nv (S 27 0)) b) (nv (S 27 0))))), (6, .int (nI (sr (dg (nv (S 27 0)) b) k))), (8, .int (nI k))]) hx hb dL_good_119 hl (by decide) rfl (fun ls hl => ?_)
              have hl : lv_has ls 11 [(7, .int (nI (us S (dg (nv (S 27 0)) b) (k + 1)))), (9, .int (nI (acN S b k))), (0, .ref (h 0)), (1, .int (nI d)), (2, .ref (o 0)), (3, .ref (o 1)), (4, .ref (o 3)), (5, .int (nI (sr (dg (nv (S 27 0)) b) (nv (S 27 0))))), (6, .int (nI (sr (dg (nv (S 27 0)) b) k))), (8, .int (nI k))] := Eq.mp (congrArg (fun z9 : Int32 => lv_has ls 11 [(7, .int z9), (9, .int (nI (acN S b k))), (0, .ref (h 0)), (1, .int (nI d)), (2, .ref (o 0)), (3, .ref (o 1)), (4, .ref (o 3)), (5, .int (nI (sr (dg (nv (S 27 0)) b) (nv (S 27 0))))), (6, .int (nI (sr (dg (nv (S 27 0)) b) k))), (8, .int (nI k))]) (show (nI ((us S (dg (nv (S 27 0)) b) k) ||| (1 * 2 ^ (acN S b k))) : Int32) = nI (us S (dg (nv (S 27 0)) b) (k + 1)) from by rw [Nat.one_mul]; rfl)) hl
              refine lv_iload hx hb dL_good_121 (lv_at hl 8 rfl) ?_
              refine lv_iload hx hb dL_good_123 (lv_at hl 9 rfl) ?_
              refine lv_iload hx hb dL_good_125 (lv_at hl 1 rfl) ?_
              refine lv_aload_n hx hb dL_good_127 rfl (lv_at hl 4 rfl) ?_
              refine lv_aload_n hx hb dL_good_128 rfl (lv_at hl 5 rfl) ?_
              have M_129 := c_L_rank l D cy o S hI k (nI (acN S b k)) (by omega)
              have hPc := hP.sub (ws' := (wRN cy o (S 6) (S 7))) [27, 28] rfl
              refine cd_roi (va_runS (As := [.int (nI k), .int (nI (acN S b k)), .ref (o 0), .ref (o 1)]) (rest := [.int (nI (sr (dg (nv (S 27 0)) b) k))]) ⟨hx, hb, hml, hown, hts⟩ M_129 (va_cwS 4 hts gL_good_L_rank rfl rfl rfl (by decide +kernel) ⟨Nat.le_of_ble_eq_true rfl, Nat.le_of_ble_eq_true rfl⟩) ⟨roB.bl, fun U hU hW => ⟨rfl, by rw [hU]; exact hPc, hG.warm hW⟩⟩ rfl rfl hl.1 rfl (lv_room (Nat.le_of_ble_eq_true rfl)) dL_good_129 (by exact ⟨Nat.zero_le _, Nat.zero_le _⟩)) (fun r_129 hr_129 => ?_)
              subst hr_129
              refine cd_tp (y := nI (dg (nv (S 27 0)) b k)) ((bs_rk hI hbc (by omega)).1) ?_
              refine cd_iadd hx hb dL_good_132 ?_
              refine lv_istore (lv' := [(6, .int (nI ((sr (dg (nv (S 27 0)) b) k) + (dg (nv (S 27 0)) b k)))), (7, .int (nI (us S (dg (nv (S 27 0)) b) (k + 1)))), (9, .int (nI (acN S b k))), (0, .ref (h 0)), (1, .int (nI d)), (2, .ref (o 0)), (3, .ref (o 1)), (4, .ref (o 3)), (5, .int (nI (sr (dg (nv (S 27 0)) b) (nv (S 27 0))))), (8, .int (nI k))]) hx hb dL_good_133 hl (by decide) rfl (fun ls hl => ?_)
              refine lv_iinc (v := nI (k + 1)) (lv' := [(8, .int (nI (k + 1))), (6, .int (nI ((sr (dg (nv (S 27 0)) b) k) + (dg (nv (S 27 0)) b k)))), (7, .int (nI (us S (dg (nv (S 27 0)) b) (k + 1)))), (9, .int (nI (acN S b k))), (0, .ref (h 0)), (1, .int (nI d)), (2, .ref (o 0)), (3, .ref (o 1)), (4, .ref (o 3)), (5, .int (nI (sr (dg (nv (S 27 0)) b) (nv (S 27 0)))))]) hx hb dL_good_135 hl (k := 9) rfl (cd_i1 _) (by decide) rfl (fun ls hl => ?_)
              refine lv_goto (tgt := 64) hx hb dL_good_138 (by decide) ?_
              have hl : lv_has ls 11 [(8, .int (nI (k + 1))), (6, .int (nI (sr (dg (nv (S 27 0)) b) (k + 1)))), (7, .int (nI (us S (dg (nv (S 27 0)) b) (k + 1)))), (9, .int (nI (acN S b k))), (0, .ref (h 0)), (1, .int (nI d)), (2, .ref (o 0)), (3, .ref (o 1)), (4, .ref (o 3)), (5, .int (nI (sr (dg (nv (S 27 0)) b) (nv (S 27 0)))))] := Eq.mp (congrArg (fun z9 : Int32 => lv_has ls 11 [(8, .int (nI (k + 1))), (6, .int z9), (7, .int (nI (us S (dg (nv (S 27 0)) b) (k + 1)))), (9, .int (nI (acN S b k))), (0, .ref (h 0)), (1, .int (nI d)), (2, .ref (o 0)), (3, .ref (o 1)), (4, .ref (o 3)), (5, .int (nI (sr (dg (nv (S 27 0)) b) (nv (S 27 0)))))]) (show (nI ((sr (dg (nv (S 27 0)) b) k) + (dg (nv (S 27 0)) b k)) : Int32) = nI (sr (dg (nv (S 27 0)) b) (k + 1)) from rfl)) hl
              exact ih_64 (k + 1) u_77 (⟨by omega, hw_77⟩) (by omega) _ _ hP hD hS _ (lv_sub hl [4, 5, 6, 7, 8, 9, 1, 2, 0] rfl)
            · exact absurd (tb_1 (by rw [c_107]; decide)) (by rw [bs_nu hbc (by omega)]; decide)
    · have hno := bs_no (bs_lt hI (Int32.not_le.mp c_21))
      have hl : lv_has ls 11 [(5, .int (-1)), (0, .ref (h 0)), (1, .int (nI d)), (2, .ref (o 0)), (3, .ref (o 1)), (4, .ref (o 3))] := Eq.mp (congrArg (fun z9 : Int32 => lv_has ls 11 [(5, .int z9), (0, .ref (h 0)), (1, .int (nI d)), (2, .ref (o 0)), (3, .ref (o 1)), (4, .ref (o 3))]) (show (bcS S (nv ((S 4) d)) : Int32) = (-1) from hno.1)) hl
      refine lv_iload hx hb dL_good_24 (lv_at hl 0 rfl) ?_
      refine lv_iconst (v := (-1)) hx hb dL_good_26 (by decide) ?_
      refine lv_icmp_ne (tgt := 53) hx hb dL_good_27 (by decide) (fun c_27 => ?_) (fun c_27 => ?_)
      · exact absurd rfl c_27
      · refine lv_aload_n hx hb dL_good_30 rfl (lv_at hl 1 rfl) ?_
        refine lv_iload_n hx hb dL_good_31 rfl (lv_at hl 2 rfl) ?_
        have M_32 := c_X6_work l D cy h S u_11 hI d (by omega) (by omega) H.size
        have hPc := hP.sub (ws' := (wC cy h S u_11)) [0, 1, 2, 3, 4, 5, 6, 7, 8, 9, 10, 11, 12, 13, 14, 15, 16, 17, 18, 19, 20, 21, 22, 23, 24, 25, 26] rfl
        have hDc := hD.sub (ws' := (wC cy h S u_11)) [0, 1, 2, 3, 4, 5, 6, 7, 8, 9, 10, 11, 12, 13, 14, 15, 16, 17, 18, 19, 20, 21, 22, 23, 24, 25, 26] (by decide) rfl
        refine cd_fri (S := qS) (W1 := fun u_32 => (wC cy h S u_32)) (ws' := fun u_32 => (wLA cy h o S u_32 (S 6) (S 7) (kF (S 3)) (mF (S 27 0) (S 29 0)) V)) (wc := (wC cy h S u_11)) (wr := [(o 0, aI cy 32 (S 6)), (o 1, aI cy 8 (S 7)), (o 2, aI cy 12 (kF (S 3))), (o 3, aI cy 2 (mF (S 27 0) (S 29 0))), (o 4, aI cy 8 V)]) (va_runV (As := [.int (nI d)]) (rest := []) ⟨hx, hb, hml, hown, hts⟩ M_32 (cwV 1 hts gL_good_X6_work rfl rfl rfl (by decide +kernel) ⟨Nat.le_of_ble_eq_true rfl, Nat.le_of_ble_eq_true rfl⟩) ⟨wrB.bl, va_recv hK hP (ci := 6) (q0 := 0) rfl rfl, fun U hU hW => ⟨rfl, by rw [hU], by rw [hU]; exact hPc, hG.warm hW, hDc.weaken (fun _ _ _ _ => trivial)⟩⟩ rfl rfl hl.1 rfl (lv_room (Nat.le_of_ble_eq_true rfl)) dL_good_32 (by exact ⟨Nat.zero_le _, Nat.zero_le _⟩)) hP hD hS hA [0, 1, 2, 3, 4, 5, 6, 7, 8, 9, 10, 11, 12, 13, 14, 15, 16, 17, 18, 19, 20, 21, 22, 23, 24, 25, 26] [27, 28, 29, 30, 31] [5, 6, 7, 8, 9, 10, 11, 12, 13, 14, 15, 16, 17, 18, 19, 20, 21, 22, 23, 24, 25, 26, 27, 28, 29, 30, 31, 0, 1, 2, 3, 4] rfl rfl (by decide) (by decide) (by decide) (fun _ => rfl) (fun r_32 u_32 H locs hw_32 hP hD hS => ?_)
        obtain ⟨hr_32, hw_32⟩ := hw_32
        subst hr_32
        refine cd_tp (y := bcW S (nv ((S 4) d))) rfl ?_
        have hP : va_P D vwCl (wLA cy h o S u_32 (S 6) (S 7) (kF (S 3)) (mF (S 27 0) (S 29 0)) V) H := hP
        have hD : va_D A (wLA cy h o S u_32 (S 6) (S 7) (kF (S 3)) (mF (S 27 0) (S 29 0)) V) := hD
        refine cd_tp (y := (-1)) (hno.2.1) ?_
        refine lv_iconst (v := (-1)) hx hb dL_good_35 (by decide) ?_
        refine lv_icmp_ne (tgt := 53) hx hb dL_good_36 (by decide) (fun c_36 => ?_) (fun c_36 => ?_)
        · exact absurd rfl c_36
        · refine lv_aload_n hx hb dL_good_39 rfl (lv_at hl 1 rfl) ?_
          refine lv_iload_n hx hb dL_good_40 rfl (lv_at hl 2 rfl) ?_
          refine lv_iconst (v := nI 0) hx hb dL_good_41 (by decide) ?_
          have M_42 := c_X6_actorFor l D cy h S u_32 hI d 0 (by omega) (by omega) (by omega) H.size
          have hPc := hP.sub (ws' := (wC cy h S u_32)) [0, 1, 2, 3, 4, 5, 6, 7, 8, 9, 10, 11, 12, 13, 14, 15, 16, 17, 18, 19, 20, 21, 22, 23, 24, 25, 26] rfl
          have hDc := hD.sub (ws' := (wC cy h S u_32)) [0, 1, 2, 3, 4, 5, 6, 7, 8, 9, 10, 11, 12, 13, 14, 15, 16, 17, 18, 19, 20, 21, 22, 23, 24, 25, 26] (by decide) rfl
          refine cd_fri (S := qS) (W1 := fun u_42 => (wC cy h S u_42)) (ws' := fun u_42 => (wLA cy h o S u_42 (S 6) (S 7) (kF (S 3)) (mF (S 27 0) (S 29 0)) V)) (wc := (wC cy h S u_32)) (wr := [(o 0, aI cy 32 (S 6)), (o 1, aI cy 8 (S 7)), (o 2, aI cy 12 (kF (S 3))), (o 3, aI cy 2 (mF (S 27 0) (S 29 0))), (o 4, aI cy 8 V)]) (va_runV (As := [.int (nI d), .int (nI 0)]) (rest := []) ⟨hx, hb, hml, hown, hts⟩ M_42 (cwV 2 hts gL_good_X6_actorFor rfl rfl rfl (by decide +kernel) ⟨Nat.le_of_ble_eq_true rfl, Nat.le_of_ble_eq_true rfl⟩) ⟨wrB.bl, va_recv hK hP (ci := 6) (q0 := 0) rfl rfl, fun U hU hW => ⟨rfl, by rw [hU], by rw [hU]; exact hPc, hG.warm hW, hDc.weaken (fun _ _ _ _ => trivial)⟩⟩ rfl rfl hl.1 rfl (lv_room (Nat.le_of_ble_eq_true rfl)) dL_good_42 (by exact ⟨Nat.zero_le _, Nat.zero_le _⟩)) hP hD hS hA [0, 1, 2, 3, 4, 5, 6, 7, 8, 9, 10, 11, 12, 13, 14, 15, 16, 17, 18, 19, 20, 21, 22, 23, 24, 25, 26] [27, 28, 29, 30, 31] [5, 6, 7, 8, 9, 10, 11, 12, 13, 14, 15, 16, 17, 18, 19, 20, 21, 22, 23, 24, 25, 26, 27, 28, 29, 30, 31, 0, 1, 2, 3, 4] rfl rfl (by decide) (by decide) (by decide) (fun _ => rfl) (fun r_42 u_42 H locs hw_42 hP hD hS => ?_)
          obtain ⟨hr_42, hw_42⟩ := hw_42
          subst hr_42
          refine cd_tp (y := bcA S (nv ((S 4) d)) 0) rfl ?_
          have hP : va_P D vwCl (wLA cy h o S u_42 (S 6) (S 7) (kF (S 3)) (mF (S 27 0) (S 29 0)) V) H := hP
          have hD : va_D A (wLA cy h o S u_42 (S 6) (S 7) (kF (S 3)) (mF (S 27 0) (S 29 0)) V) := hD
          refine cd_tp (y := (-1)) (hno.2.2 0) ?_
          refine lv_iconst (v := (-1)) hx hb dL_good_45 (by decide) ?_
          refine lv_icmp_ne (tgt := 53) hx hb dL_good_46 (by decide) (fun c_46 => ?_) (fun c_46 => ?_)
          · exact absurd rfl c_46
          · refine lv_iconst (v := nI 1) hx hb dL_good_49 (by decide) ?_
            refine lv_goto (tgt := 54) hx hb dL_good_50 (by decide) ?_
            exact W.zret (v := nI 1) hx hb hr rfl (fun t ht hW => ⟨⟨_, u_42, rfl, (⟨rfl, hw_42⟩), by rw [ht]; exact hP, hD⟩, hS.F ht⟩) hS.2.2 dL_good_54
  · exact absurd rfl c_14
