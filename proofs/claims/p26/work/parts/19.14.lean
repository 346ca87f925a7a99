set_option maxHeartbeats 4000000 in
set_option maxRecDepth 100000 in
theorem c_L_chained (l : Launch) (D : va_G) (cy : qT) (h : Nat → Nat) (o : Nat → Nat) (S : qS) (J : qS) (V : Nat → Int32) (hI : Inv S) (d : Nat) (a : Nat) (hd1 : d ≤ 1000) (ha1 : a < 12) (hJ : jk J) (sz : Nat) : Met l yL_chained wsL_chained ({ frames := 6, cells := 0, slots := 0, locals := 142 }) (va_Pc [.ref (h 0), .int (nI d), .int (nI a), .ref (o 3)] (wrB D cy (wLA cy h o S J (S 6) (S 7) (kF (S 3)) (mF (S 27 0) (S 29 0)) V) sz)) (va_Qi (fun (r9 : Int32) (u : qS) => r9 = nI 1 ∧ jk u) (wrQ D (va_A (wLA cy h o S J (S 6) (S 7) (kF (S 3)) (mF (S 27 0) (S 29 0)) V) sz) (fun u : qS => (wLA cy h o S u (S 6) (S 7) (kF (S 3)) (mF (S 27 0) (S 29 0)) V))) (va_A (wLA cy h o S J (S 6) (S 7) (kF (S 3)) (mF (S 27 0) (S 29 0)) V) sz)) 0 0 (va_A (wLA cy h o S J (S 6) (S 7) (kF (S 3)) (mF (S 27 0) (S 29 0)) V) sz) := by
  refine Met.ofW (cc := cL_chained) (maxL := 6) (ret := (some .boolean)) (by decide) rfl ?_
  intro pp e9 s m9 args9 bl9 meth9 c9 s9 B hml hv
  obtain ⟨rfl, hsz, hP, hG, hD0⟩ := hv
  have hx := B.exec
  have hb := B.bytes
  have hr := B.returns
  have hts := atoms_spec (ws := wsL_chained) B.pre
  have hown : s.vm.findClass RL = some m9.cls := findClass_of_methodNamed B.named
  have hlocks := B.notSynchronized
  have hK := hG.K
  subst hsz
  have hD := hD0.self (sz := s.heap.size)
  generalize hAe : (va_A (wLA cy h o S J (S 6) (S 7) (kF (S 3)) (mF (S 27 0) (S 29 0)) V) s.heap.size) = A at hD ⊢
  have hA : ∀ q : Nat, s.heap.size ≤ q → A q := fun q h9 => by rw [← hAe]; exact Or.inr h9
  have hS : va_S A s.heap s.heap [] := va_S.rf
  have hP : va_P D vwCl (wLA cy h o S J (S 6) (S 7) (kF (S 3)) (mF (S 27 0) (S 29 0)) V) s.heap := hP
  have hl := lv_entry ([.ref (h 0), .int (nI d), .int (nI a), .ref (o 3)]) (n := 6) (Nat.le_of_ble_eq_true rfl)
  rw [lg_entry_eq]
  generalize (lg_sl ([.ref (h 0), .int (nI d), .int (nI a), .ref (o 3)]) ++ List.replicate (6 - (lg_sl ([.ref (h 0), .int (nI d), .int (nI a), .ref (o 3)])).length) Slot.unset).toArray = ls at hl ⊢
  have hl : lv_has ls 6 [(0, .ref (h 0)), (1, .int (nI d)), (2, .int (nI a)), (3, .ref (o 3))] := hl
  have hn8 : nv (S 27 0) ≤ 8 := by have := (iv_27 hI).1.2; omega
  have hn1 : 1 ≤ nv (S 27 0) := (iv_27 hI).2
  refine lv_aload_n hx hb dL_chained_0 rfl (lv_at hl 0 rfl) ?_
  refine lv_iload_n hx hb dL_chained_1 rfl (lv_at hl 2 rfl) ?_
  refine lv_iload_n hx hb dL_chained_2 rfl (lv_at hl 1 rfl) ?_
  have M_3 := c_X6_chain l D cy h S J hI a d (by omega) (by omega) (by omega) s.heap.size
  have hPc := hP.sub (ws' := (wC cy h S J)) [0, 1, 2, 3, 4, 5, 6, 7, 8, 9, 10, 11, 12, 13, 14, 15, 16, 17, 18, 19, 20, 21, 22, 23, 24, 25, 26] rfl
  have hDc := hD.sub (ws' := (wC cy h S J)) [0, 1, 2, 3, 4, 5, 6, 7, 8, 9, 10, 11, 12, 13, 14, 15, 16, 17, 18, 19, 20, 21, 22, 23, 24, 25, 26] (by decide) rfl
  refine cd_fri (S := qS) (W1 := fun u_3 => (wC cy h S u_3)) (ws' := fun u_3 => (wLA cy h o S u_3 (S 6) (S 7) (kF (S 3)) (mF (S 27 0) (S 29 0)) V)) (wc := (wC cy h S J)) (wr := [(o 0, aI cy 32 (S 6)), (o 1, aI cy 8 (S 7)), (o 2, aI cy 12 (kF (S 3))), (o 3, aI cy 2 (mF (S 27 0) (S 29 0))), (o 4, aI cy 8 V)]) (va_runV (As := [.int (nI a), .int (nI d)]) (rest := []) ⟨hx, hb, hml, hown, hts⟩ M_3 (cwV 2 hts gL_chained_X6_chain rfl rfl rfl (by decide +kernel) ⟨Nat.le_of_ble_eq_true rfl, Nat.le_of_ble_eq_true rfl⟩) ⟨wrB.bl, va_recv hK hP (ci := 6) (q0 := 0) rfl rfl, fun U hU hW => ⟨rfl, by rw [hU], by rw [hU]; exact hPc, hG.warm hW, hDc.weaken (fun _ _ _ _ => trivial)⟩⟩ rfl rfl hl.1 rfl (lv_room (Nat.le_of_ble_eq_true rfl)) dL_chained_3 (by exact ⟨Nat.zero_le _, Nat.zero_le _⟩)) hP hD hS hA [0, 1, 2, 3, 4, 5, 6, 7, 8, 9, 10, 11, 12, 13, 14, 15, 16, 17, 18, 19, 20, 21, 22, 23, 24, 25, 26] [27, 28, 29, 30, 31] [5, 6, 7, 8, 9, 10, 11, 12, 13, 14, 15, 16, 17, 18, 19, 20, 21, 22, 23, 24, 25, 26, 27, 28, 29, 30, 31, 0, 1, 2, 3, 4] rfl rfl (by decide) (by decide) (by decide) (fun _ => rfl) (fun r_3 u_3 H locs hw_3 hP hD hS => ?_)
  obtain ⟨hr_3, hw_3⟩ := hw_3
  subst hr_3
  refine cd_tp (y := chI S (nv ((S 4) d)) a) rfl ?_
  have hP : va_P D vwCl (wLA cy h o S u_3 (S 6) (S 7) (kF (S 3)) (mF (S 27 0) (S 29 0)) V) H := hP
  have hD : va_D A (wLA cy h o S u_3 (S 6) (S 7) (kF (S 3)) (mF (S 27 0) (S 29 0)) V) := hD
  refine lv_istore (lv' := [(4, .int (chI S (nv ((S 4) d)) a)), (0, .ref (h 0)), (1, .int (nI d)), (2, .int (nI a)), (3, .ref (o 3))]) hx hb dL_chained_6 hl (by decide) rfl (fun ls hl => ?_)
  refine lv_aload_n hx hb dL_chained_8 rfl (lv_at hl 1 rfl) ?_
  refine lv_iload_n hx hb dL_chained_9 rfl (lv_at hl 2 rfl) ?_
  have M_10 := c_X6_strain l D cy h S u_3 hI d (by omega) (by omega) H.size
  have hPc := hP.sub (ws' := (wC cy h S u_3)) [0, 1, 2, 3, 4, 5, 6, 7, 8, 9, 10, 11, 12, 13, 14, 15, 16, 17, 18, 19, 20, 21, 22, 23, 24, 25, 26] rfl
  have hDc := hD.sub (ws' := (wC cy h S u_3)) [0, 1, 2, 3, 4, 5, 6, 7, 8, 9, 10, 11, 12, 13, 14, 15, 16, 17, 18, 19, 20, 21, 22, 23, 24, 25, 26] (by decide) rfl
  refine cd_fri (S := qS) (W1 := fun u_10 => (wC cy h S u_10)) (ws' := fun u_10 => (wLA cy h o S u_10 (S 6) (S 7) (kF (S 3)) (mF (S 27 0) (S 29 0)) V)) (wc := (wC cy h S u_3)) (wr := [(o 0, aI cy 32 (S 6)), (o 1, aI cy 8 (S 7)), (o 2, aI cy 12 (kF (S 3))), (o 3, aI cy 2 (mF (S 27 0) (S 29 0))), (o 4, aI cy 8 V)]) (va_runV (As := [.int (nI d)]) (rest := []) ⟨hx, hb, hml, hown, hts⟩ M_10 (cwV 1 hts gL_chained_X6_strain rfl rfl rfl (by decide +kernel) ⟨Nat.le_of_ble_eq_true rfl, Nat.le_of_ble_eq_true rfl⟩) ⟨wrB.bl, va_recv hK hP (ci := 6) (q0 := 0) rfl rfl, fun U hU hW => ⟨rfl, by rw [hU], by rw [hU]; exact hPc, hG.warm hW, hDc.weaken (fun _ _ _ _ => trivial)⟩⟩ rfl rfl hl.1 rfl (lv_room (Nat.le_of_ble_eq_true rfl)) dL_chained_10 (by exact ⟨Nat.zero_le _, Nat.zero_le _⟩)) hP hD hS hA [0, 1, 2, 3, 4, 5, 6, 7, 8, 9, 10, 11, 12, 13, 14, 15, 16, 17, 18, 19, 20, 21, 22, 23, 24, 25, 26] [27, 28, 29, 30, 31] [5, 6, 7, 8, 9, 10, 11, 12, 13, 14, 15, 16, 17, 18, 19, 20, 21, 22, 23, 24, 25, 26, 27, 28, 29, 30, 31, 0, 1, 2, 3, 4] rfl rfl (by decide) (by decide) (by decide) (fun _ => rfl) (fun r_10 u_10 H locs hw_10 hP hD hS => ?_)
  obtain ⟨hr_10, hw_10⟩ := hw_10
  subst hr_10
  refine cd_tp (y := bcS S (nv ((S 4) d))) rfl ?_
  have hP : va_P D vwCl (wLA cy h o S u_10 (S 6) (S 7) (kF (S 3)) (mF (S 27 0) (S 29 0)) V) H := hP
  have hD : va_D A (wLA cy h o S u_10 (S 6) (S 7) (kF (S 3)) (mF (S 27 0) (S 29 0)) V) := hD
  refine lv_if_lt (tgt := 20) hx hb dL_chained_13 (by decide) (fun c_13 => ?_) (fun c_13 => ?_)
  · have hno := bs_lt hI c_13
    have hl : lv_has ls 6 [(4, .int (-1)), (0, .ref (h 0)), (1, .int (nI d)), (2, .int (nI a)), (3, .ref (o 3))] := Eq.mp (congrArg (fun z9 : Int32 => lv_has ls 6 [(4, .int z9), (0, .ref (h 0)), (1, .int (nI d)), (2, .int (nI a)), (3, .ref (o 3))]) (show (chI S (nv ((S 4) d)) a : Int32) = (-1) from ch_none hno)) hl
    refine lv_iconst (v := nI 0) hx hb dL_chained_20 (by decide) ?_
    refine lv_istore (lv' := [(5, .int (nI 0)), (4, .int (-1)), (0, .ref (h 0)), (1, .int (nI d)), (2, .int (nI a)), (3, .ref (o 3))]) hx hb dL_chained_21 hl (by decide) rfl (fun ls hl => ?_)
    refine lv_iload hx hb dL_chained_23 (lv_at hl 0 rfl) ?_
    refine cd_if_ne (tgt := 40) hx hb dL_chained_25 (by decide) (by omega) (fun c_25 => ?_) (fun c_25 => ?_)
    · exact absurd c_25 (by decide)
    · refine lv_iload hx hb dL_chained_28 (lv_at hl 1 rfl) ?_
      refine lv_iconst (v := (-1)) hx hb dL_chained_30 (by decide) ?_
      refine lv_icmp_ne (tgt := 38) hx hb dL_chained_31 (by decide) (fun c_31 => ?_) (fun c_31 => ?_)
      · exact absurd rfl c_31
      · refine lv_iconst (v := nI 1) hx hb dL_chained_34 (by decide) ?_
        refine lv_goto (tgt := 39) hx hb dL_chained_35 (by decide) ?_
        exact W.zret (v := nI 1) hx hb hr rfl (fun t ht hW => ⟨⟨_, u_10, rfl, (⟨rfl, hw_10⟩), by rw [ht]; exact hP, hD⟩, hS.F ht⟩) hS.2.2 dL_chained_39
  · obtain ⟨b, hbc, hbs⟩ := bs_ge c_13
    refine lv_iconst (v := nI 1) hx hb dL_chained_16 (by decide) ?_
    refine lv_goto (tgt := 21) hx hb dL_chained_17 (by decide) ?_
    refine lv_istore (lv' := [(5, .int (nI 1)), (4, .int (chI S (nv ((S 4) d)) a)), (0, .ref (h 0)), (1, .int (nI d)), (2, .int (nI a)), (3, .ref (o 3))]) hx hb dL_chained_21 hl (by decide) rfl (fun ls hl => ?_)
    refine lv_iload hx hb dL_chained_23 (lv_at hl 0 rfl) ?_
    refine cd_if_ne (tgt := 40) hx hb dL_chained_25 (by decide) (by omega) (fun c_25 => ?_) (fun c_25 => ?_)
    · refine lv_aload_n hx hb dL_chained_40 rfl (lv_at hl 2 rfl) ?_
      refine lv_iload_n hx hb dL_chained_41 rfl (lv_at hl 3 rfl) ?_
      refine lv_iload_n hx hb dL_chained_42 rfl (lv_at hl 4 rfl) ?_
      refine lv_aload_n hx hb dL_chained_43 rfl (lv_at hl 5 rfl) ?_
      have M_44 := c_L_plays l D cy h o S u_10 V hI d a (by omega) (by omega) hw_10 H.size
      refine cd_fri (S := qS) (W1 := fun u_44 => (wLA cy h o S u_44 (S 6) (S 7) (kF (S 3)) (mF (S 27 0) (S 29 0)) V)) (ws' := fun u_44 => (wLA cy h o S u_44 (S 6) (S 7) (kF (S 3)) (mF (S 27 0) (S 29 0)) V)) (wc := (wLA cy h o S u_10 (S 6) (S 7) (kF (S 3)) (mF (S 27 0) (S 29 0)) V)) (wr := []) (va_runS (As := [.ref (h 0), .int (nI d), .int (nI a), .ref (o 3)]) (rest := []) ⟨hx, hb, hml, hown, hts⟩ M_44 (va_cwS 4 hts gL_chained_L_plays rfl rfl rfl (by decide +kernel) ⟨Nat.le_of_ble_eq_true rfl, Nat.le_of_ble_eq_true rfl⟩) ⟨wrB.bl, fun U hU hW => ⟨rfl, by rw [hU], by rw [hU]; exact hP, hG.warm hW, hD.weaken (fun _ _ _ _ => trivial)⟩⟩ rfl rfl hl.1 rfl (lv_room (Nat.le_of_ble_eq_true rfl)) dL_chained_44 (by exact ⟨Nat.zero_le _, Nat.zero_le _⟩)) hP hD hS hA [0, 1, 2, 3, 4, 5, 6, 7, 8, 9, 10, 11, 12, 13, 14, 15, 16, 17, 18, 19, 20, 21, 22, 23, 24, 25, 26, 27, 28, 29, 30, 31] [] [0, 1, 2, 3, 4, 5, 6, 7, 8, 9, 10, 11, 12, 13, 14, 15, 16, 17, 18, 19, 20, 21, 22, 23, 24, 25, 26, 27, 28, 29, 30, 31] rfl rfl (by decide) (by decide) (by decide) (fun _ => rfl) (fun r_44 u_44 H locs hw_44 hP hD hS => ?_)
      obtain ⟨hr_44, hw_44⟩ := hw_44
      subst hr_44
      refine cd_tp (y := bI (plB S (nv ((S 4) d)) a)) rfl ?_
      have hP : va_P D vwCl (wLA cy h o S u_44 (S 6) (S 7) (kF (S 3)) (mF (S 27 0) (S 29 0)) V) H := hP
      have hD : va_D A (wLA cy h o S u_44 (S 6) (S 7) (kF (S 3)) (mF (S 27 0) (S 29 0)) V) := hD
      refine cd_ifB_ne (tgt := 61) hx hb dL_chained_47 (by decide) (fun c_47 => ?_) (fun c_47 => ?_)
      · refine lv_iload hx hb dL_chained_61 (lv_at hl 1 rfl) ?_
        refine lv_iconst (v := (-1)) hx hb dL_chained_63 (by decide) ?_
        refine lv_icmp_eq (tgt := 81) hx hb dL_chained_64 (by decide) (fun c_64 => ?_) (fun c_64 => ?_)
        · refine lv_iconst (v := nI 1) hx hb dL_chained_81 (by decide) ?_
          refine lv_goto (tgt := 86) hx hb dL_chained_82 (by decide) ?_
          exact W.zret (v := nI 1) hx hb hr rfl (fun t ht hW => ⟨⟨_, u_44, rfl, (⟨rfl, hw_44⟩), by rw [ht]; exact hP, hD⟩, hS.F ht⟩) hS.2.2 dL_chained_86
        · obtain ⟨r, hr1, hr2, hre⟩ := ch_rng hI hbc ((pl_iff hI ha1 hbc).mp c_47) c_64
          have hl : lv_has ls 6 [(5, .int (nI 1)), (4, .int (nI r)), (0, .ref (h 0)), (1, .int (nI d)), (2, .int (nI a)), (3, .ref (o 3))] := Eq.mp (congrArg (fun z9 : Int32 => lv_has ls 6 [(5, .int (nI 1)), (4, .int z9), (0, .ref (h 0)), (1, .int (nI d)), (2, .int (nI a)), (3, .ref (o 3))]) (show (chI S (nv ((S 4) d)) a : Int32) = nI r from hre)) hl
          refine lv_iload hx hb dL_chained_67 (lv_at hl 1 rfl) ?_
          refine lv_iconst (v := nI 1) hx hb dL_chained_69 (by decide) ?_
          refine cd_icmp_lt (tgt := 85) hx hb dL_chained_70 (by decide) (by omega) (by omega) (fun c_70 => ?_) (fun c_70 => ?_)
          · exact (show False by omega).elim
          · refine lv_iload hx hb dL_chained_73 (lv_at hl 1 rfl) ?_
            refine lv_aload_n hx hb dL_chained_75 rfl (lv_at hl 5 rfl) ?_
            refine lv_iconst (v := nI 0) hx hb dL_chained_76 (by decide) ?_
            refine cd_iald (f := mF (S 27 0) (S 29 0)) hx hb hK hP 30 rfl (by omega) (by decide) dL_chained_77 ?_
            refine cd_tp (y := S 27 0) (rfl) ?_
            refine cd_tp (y := nI (nv (S 27 0))) ((iv_27 hI).1.1) ?_
            refine cd_icmp_gt (tgt := 85) hx hb dL_chained_78 (by decide) (by omega) (by omega) (fun c_78 => ?_) (fun c_78 => ?_)
            · exact (show False by omega).elim
            · refine lv_iconst (v := nI 1) hx hb dL_chained_81 (by decide) ?_
              refine lv_goto (tgt := 86) hx hb dL_chained_82 (by decide) ?_
              exact W.zret (v := nI 1) hx hb hr rfl (fun t ht hW => ⟨⟨_, u_44, rfl, (⟨rfl, hw_44⟩), by rw [ht]; exact hP, hD⟩, hS.F ht⟩) hS.2.2 dL_chained_86
      · have hnp : ∀ q, q < nv (S 27 0) → ¬ acN S b q = a := fun q h1 h2 => by rw [(pl_iff hI ha1 hbc).mpr ⟨q, h1, h2⟩] at c_47; exact Bool.noConfusion c_47
        have hl : lv_has ls 6 [(5, .int (nI 1)), (4, .int (nI 0)), (0, .ref (h 0)), (1, .int (nI d)), (2, .int (nI a)), (3, .ref (o 3))] := Eq.mp (congrArg (fun z9 : Int32 => lv_has ls 6 [(5, .int (nI 1)), (4, .int z9), (0, .ref (h 0)), (1, .int (nI d)), (2, .int (nI a)), (3, .ref (o 3))]) (show (chI S (nv ((S 4) d)) a : Int32) = nI 0 from ch_zero hbc hnp)) hl
        refine lv_iload hx hb dL_chained_50 (lv_at hl 1 rfl) ?_
        refine cd_if_ne (tgt := 59) hx hb dL_chained_52 (by decide) (by omega) (fun c_52 => ?_) (fun c_52 => ?_)
        · exact absurd c_52 (by decide)
        · refine lv_iconst (v := nI 1) hx hb dL_chained_55 (by decide) ?_
          refine lv_goto (tgt := 60) hx hb dL_chained_56 (by decide) ?_
          exact W.zret (v := nI 1) hx hb hr rfl (fun t ht hW => ⟨⟨_, u_44, rfl, (⟨rfl, hw_44⟩), by rw [ht]; exact hP, hD⟩, hS.F ht⟩) hS.2.2 dL_chained_60
    · exact absurd c_25 (by decide)
