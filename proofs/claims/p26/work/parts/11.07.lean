set_option maxHeartbeats 4000000 in
set_option maxRecDepth 100000 in
theorem c_X1_castPart (l : Launch) (D : va_G) (cy : qT) (h : Nat → Nat) (J : qS) (p : Nat) (n : Nat) (key : Int32) (hp : p < 8) (hn : n < 4096) (hA13 : ∀ i, i < 32 → J 13 i = -1 ∨ bd (J 13 i) 12) (sz : Nat) : Met l yX1_castPart wsX1_castPart ({ frames := 1, cells := 0, slots := 0, locals := 21 }) (va_Pc [.ref (h 12), .int (nI p), .int (nI n), .int key] (wrB D cy (wX1 cy h J) sz)) (va_Qv (fun (u : Unit) => True) (wrQ D (va_A (wX1 cy h J) sz) (fun u : Unit => (wX1 cy h (va_up J 15 (cpF (J 13) (J 14) p n key 4 (J 15)))))) (va_A (wX1 cy h J) sz)) 0 0 (va_A (wX1 cy h J) sz) := by
  refine Met.ofW (cc := cX1_castPart) (maxL := 9) (ret := none) (by decide) rfl ?_
  intro pp e9 s m9 args9 bl9 meth9 c9 s9 B hml hv
  obtain ⟨rfl, hsz, hP, hG, hD0⟩ := hv
  have hx := B.exec
  have hb := B.bytes
  have hr := B.returns
  have hts := atoms_spec (ws := wsX1_castPart) B.pre
  have hown : s.vm.findClass RX1 = some m9.cls := findClass_of_methodNamed B.named
  have hlocks := B.notSynchronized
  have hK := hG.K
  subst hsz
  have hD := hD0.self (sz := s.heap.size)
  generalize hAe : (va_A (wX1 cy h J) s.heap.size) = A at hD ⊢
  have hA : ∀ q : Nat, s.heap.size ≤ q → A q := fun q h9 => by rw [← hAe]; exact Or.inr h9
  have hS : va_S A s.heap s.heap [] := va_S.rf
  have hP : va_P D vwCl (wX1 cy h J) s.heap := hP
  have f_11 := hts (.fieldLink RX1 11 "CastDesk$Casting" "actors" "[I") (by decide +kernel)
  have in_X6 := hts (.initialized RX6) (by decide +kernel)
  have st_has := hts (.static yX6_has) (by decide +kernel)
  have st_with := hts (.static yX6_with) (by decide +kernel)
  have f_15 := hts (.fieldLink RX1 15 "CastDesk$Casting" "keys" "[I") (by decide +kernel)
  have f_18 := hts (.fieldLink RX1 18 "CastDesk$Casting" "leastOfSet" "[I") (by decide +kernel)
  have iX1 : ∀ w ∈ wsX10, w ∈ wsX1_castPart := by decide +kernel
  have hl := lv_entry ([.ref (h 12), .int (nI p), .int (nI n), .int key]) (n := 9) (Nat.le_of_ble_eq_true rfl)
  rw [lg_entry_eq]
  generalize (lg_sl ([.ref (h 12), .int (nI p), .int (nI n), .int key]) ++ List.replicate (9 - (lg_sl ([.ref (h 12), .int (nI p), .int (nI n), .int key])).length) Slot.unset).toArray = ls at hl ⊢
  have hl : lv_has ls 9 [(0, .ref (h 12)), (1, .int (nI p)), (2, .int (nI n)), (3, .int key)] := hl
  refine lv_iconst (v := nI 0) hx hb dX1_castPart_0 (by decide) ?_
  refine lv_istore (lv' := [(4, .int (nI 0)), (0, .ref (h 12)), (1, .int (nI p)), (2, .int (nI n)), (3, .int key)]) hx hb dX1_castPart_1 hl (by decide) rfl (fun ls hl => ?_)
  refine wh1 (nL := 9) (fun (r : Nat) => r ≤ 4) (fun (r : Nat) => 4 - r) (fun (r : Nat) => [(0, .ref (h 12)), (1, .int (nI p)), (2, .int (nI n)), (3, .int key), (4, .int (nI r))]) (fun (r : Nat) => (wX1 cy h (va_up J 15 (cpF (J 13) (J 14) p n key r (J 15))))) (fun r hi_3 ih_3 H locs hP hD hS ls hl => ?_) 0 (by decide) hP hD hS (lv_sub hl [1, 2, 3, 4, 0] rfl)
  have hP : va_P D vwCl (wX1 cy h (va_up J 15 (cpF (J 13) (J 14) p n key r (J 15)))) H := hP
  have hD : va_D A (wX1 cy h (va_up J 15 (cpF (J 13) (J 14) p n key r (J 15)))) := hD
  refine lv_iload hx hb dX1_castPart_3 (lv_at hl 4 rfl) ?_
  refine lv_iconst (v := nI 4) hx hb dX1_castPart_5 (by decide) ?_
  refine cd_icmp_ge (tgt := 98) hx hb dX1_castPart_6 (by decide) (by omega) (by omega) (fun c_6 => ?_) (fun c_6 => ?_)
  · have er : r = 4 := by omega
    subst er
    have hP : va_P D vwCl (wX1 cy h (va_up J 15 (cpF (J 13) (J 14) p n key 4 (J 15)))) H := hP
    have hD : va_D A (wX1 cy h (va_up J 15 (cpF (J 13) (J 14) p n key 4 (J 15)))) := hD
    exact W.vret hx hb hr (fun t ht hW => ⟨⟨(), rfl, trivial, by rw [ht]; exact hP, hD⟩, hS.F ht⟩) hS.2.2 dX1_castPart_98
  · refine lv_iload_n hx hb dX1_castPart_9 rfl (lv_at hl 1 rfl) ?_
    refine lv_iconst (v := nI 4) hx hb dX1_castPart_10 (by decide) ?_
    refine cd_imul hx hb dX1_castPart_11 ?_
    refine lv_iload hx hb dX1_castPart_12 (lv_at hl 4 rfl) ?_
    refine cd_iadd hx hb dX1_castPart_14 ?_
    refine lv_istore (lv' := [(5, .int (nI ((p * 4) + r))), (0, .ref (h 12)), (1, .int (nI p)), (2, .int (nI n)), (3, .int key), (4, .int (nI r))]) hx hb dX1_castPart_15 hl (by decide) rfl (fun ls hl => ?_)
    refine lv_aload_n hx hb dX1_castPart_17 rfl (lv_at hl 1 rfl) ?_
    refine va_get (D := D) (ci := 1) (v := .ref (h 13)) (C := RX1) (T := TX1) (N := 4) hx hb hts iX1 hown hK hP 0 rfl rfl 0 (by decide) f_11 (fun _ h9 => h9) rfl dX1_castPart_18 ?_
    refine lv_iload hx hb dX1_castPart_21 (lv_at hl 0 rfl) ?_
    refine cd_iald (f := J 13) hx hb hK hP 1 rfl (by omega) (by decide) dX1_castPart_23 ?_
    refine lv_istore (lv' := [(6, .int ((J 13) ((p * 4) + r))), (5, .int (nI ((p * 4) + r))), (0, .ref (h 12)), (1, .int (nI p)), (2, .int (nI n)), (3, .int key), (4, .int (nI r))]) hx hb dX1_castPart_24 hl (by decide) rfl (fun ls hl => ?_)
    refine lv_iload hx hb dX1_castPart_26 (lv_at hl 0 rfl) ?_
    refine lv_iconst (v := (-1)) hx hb dX1_castPart_28 (by decide) ?_
    refine lv_icmp_eq (tgt := 92) hx hb dX1_castPart_29 (by decide) (fun c_29 => ?_) (fun c_29 => ?_)
    · refine lv_iinc (v := nI (r + 1)) (lv' := [(4, .int (nI (r + 1))), (6, .int ((J 13) ((p * 4) + r))), (5, .int (nI ((p * 4) + r))), (0, .ref (h 12)), (1, .int (nI p)), (2, .int (nI n)), (3, .int key)]) hx hb dX1_castPart_92 hl (k := 6) rfl (cd_i1 _) (by decide) rfl (fun ls hl => ?_)
      refine lv_goto (tgt := 3) hx hb dX1_castPart_95 (by decide) ?_
      rw [(by rw [cpF_s, cpS, if_pos (Or.inl c_29)] : (cpF (J 13) (J 14) p n key r (J 15)) = (cpF (J 13) (J 14) p n key (r + 1) (J 15)))] at hP hD
      have hP : va_P D vwCl (wX1 cy h (va_up J 15 (cpF (J 13) (J 14) p n key (r + 1) (J 15)))) H := hP
      have hD : va_D A (wX1 cy h (va_up J 15 (cpF (J 13) (J 14) p n key (r + 1) (J 15)))) := hD
      exact ih_3 (r + 1) (by omega) (by omega) _ _ hP hD hS _ (lv_sub hl [3, 4, 5, 6, 0] rfl)
    · have ha := (hA13 (p * 4 + r) (by omega)).resolve_left c_29
      have hab := ha.2
      have hwl := or_lt (n := 12) hn hab
      have hl : lv_has ls 9 [(6, .int (nI (nv (J 13 (p * 4 + r))))), (5, .int (nI ((p * 4) + r))), (0, .ref (h 12)), (1, .int (nI p)), (2, .int (nI n)), (3, .int key), (4, .int (nI r))] := by rw [← (ha.1 : ((J 13) ((p * 4) + r) : Int32) = nI (nv (J 13 (p * 4 + r))))]; exact hl
      refine lv_iload_n hx hb dX1_castPart_32 rfl (lv_at hl 4 rfl) ?_
      refine lv_iload hx hb dX1_castPart_33 (lv_at hl 0 rfl) ?_
      have M_35 := c_X6_has l n (nv (J 13 (p * 4 + r))) (by omega) (by omega)
      refine cd_roi (va_runSN (As := [.int (nI n), .int (nI (nv (J 13 (p * 4 + r))))]) (rest := []) ⟨hx, hb, hml, hown, hts⟩ M_35 ⟨va_cnB 2 hts gX1_castPart_X6_has_n44 rfl rfl rfl hG.2.1.2.2.2.2.2.1 in_X6 (by decide +kernel) ⟨Nat.le_of_ble_eq_true rfl, Nat.le_of_ble_eq_true rfl⟩, st_has, trivial⟩ ⟨nuB.bl, fun U hU hW => ⟨rfl, trivial⟩⟩ rfl rfl hl.1 rfl (lv_room (Nat.le_of_ble_eq_true rfl)) dX1_castPart_35 (by exact ⟨Nat.zero_le _, Nat.zero_le _⟩)) (fun r_35 hr_35 => ?_)
      subst hr_35
      refine cd_ifB_ne (tgt := 92) hx hb dX1_castPart_38 (by decide) (fun c_38 => ?_) (fun c_38 => ?_)
      · refine lv_iinc (v := nI (r + 1)) (lv' := [(4, .int (nI (r + 1))), (6, .int (nI (nv (J 13 (p * 4 + r))))), (5, .int (nI ((p * 4) + r))), (0, .ref (h 12)), (1, .int (nI p)), (2, .int (nI n)), (3, .int key)]) hx hb dX1_castPart_92 hl (k := 6) rfl (cd_i1 _) (by decide) rfl (fun ls hl => ?_)
        refine lv_goto (tgt := 3) hx hb dX1_castPart_95 (by decide) ?_
        rw [(by rw [cpF_s, cpS, if_pos (Or.inr c_38)] : (cpF (J 13) (J 14) p n key r (J 15)) = (cpF (J 13) (J 14) p n key (r + 1) (J 15)))] at hP hD
        have hP : va_P D vwCl (wX1 cy h (va_up J 15 (cpF (J 13) (J 14) p n key (r + 1) (J 15)))) H := hP
        have hD : va_D A (wX1 cy h (va_up J 15 (cpF (J 13) (J 14) p n key (r + 1) (J 15)))) := hD
        exact ih_3 (r + 1) (by omega) (by omega) _ _ hP hD hS _ (lv_sub hl [3, 4, 5, 6, 0] rfl)
      · have hno : ¬ (J 13 (p * 4 + r) = -1 ∨ n.testBit (nv (J 13 (p * 4 + r))) = true) := fun q => q.elim c_29 (fun q => by rw [c_38] at q; exact Bool.noConfusion q)
        refine lv_iload_n hx hb dX1_castPart_41 rfl (lv_at hl 4 rfl) ?_
        refine lv_iload hx hb dX1_castPart_42 (lv_at hl 0 rfl) ?_
        have M_44 := c_X6_with l n (nv (J 13 (p * 4 + r))) (by omega)
        refine cd_roi (va_runSN (As := [.int (nI n), .int (nI (nv (J 13 (p * 4 + r))))]) (rest := []) ⟨hx, hb, hml, hown, hts⟩ M_44 ⟨va_cnB 2 hts gX1_castPart_X6_with_n48 rfl rfl rfl hG.2.1.2.2.2.2.2.2 in_X6 (by decide +kernel) ⟨Nat.le_of_ble_eq_true rfl, Nat.le_of_ble_eq_true rfl⟩, st_with, trivial⟩ ⟨nuB.bl, fun U hU hW => ⟨rfl, trivial⟩⟩ rfl rfl hl.1 rfl (lv_room (Nat.le_of_ble_eq_true rfl)) dX1_castPart_44 (by exact ⟨Nat.zero_le _, Nat.zero_le _⟩)) (fun r_44 hr_44 => ?_)
        subst hr_44
        refine lv_istore (lv' := [(7, .int (nI (n ||| 2 ^ (nv (J 13 (p * 4 + r)))))), (6, .int (nI (nv (J 13 (p * 4 + r))))), (5, .int (nI ((p * 4) + r))), (0, .ref (h 12)), (1, .int (nI p)), (2, .int (nI n)), (3, .int key), (4, .int (nI r))]) hx hb dX1_castPart_47 hl (by decide) rfl (fun ls hl => ?_)
        refine lv_iload_n hx hb dX1_castPart_49 rfl (lv_at hl 6 rfl) ?_
        refine lv_aload_n hx hb dX1_castPart_50 rfl (lv_at hl 3 rfl) ?_
        refine va_get (D := D) (ci := 1) (v := .ref (h 14)) (C := RX1) (T := TX1) (N := 4) hx hb hts iX1 hown hK hP 0 rfl rfl 1 (by decide) f_15 (fun _ h9 => h9) rfl dX1_castPart_51 ?_
        refine lv_iload hx hb dX1_castPart_54 (lv_at hl 2 rfl) ?_
        refine cd_iald (f := J 14) hx hb hK hP 2 rfl (by omega) (by decide) dX1_castPart_56 ?_
        refine lv_iadd hx hb dX1_castPart_57 ?_
        refine lv_istore (lv' := [(8, .int (key + ((J 14) ((p * 4) + r)))), (7, .int (nI (n ||| 2 ^ (nv (J 13 (p * 4 + r)))))), (6, .int (nI (nv (J 13 (p * 4 + r))))), (5, .int (nI ((p * 4) + r))), (0, .ref (h 12)), (1, .int (nI p)), (2, .int (nI n)), (3, .int key), (4, .int (nI r))]) hx hb dX1_castPart_58 hl (by decide) rfl (fun ls hl => ?_)
        refine lv_aload_n hx hb dX1_castPart_60 rfl (lv_at hl 4 rfl) ?_
        refine va_get (D := D) (ci := 1) (v := .ref (h 15)) (C := RX1) (T := TX1) (N := 4) hx hb hts iX1 hown hK hP 0 rfl rfl 2 (by decide) f_18 (fun _ h9 => h9) rfl dX1_castPart_61 ?_
        refine lv_iload hx hb dX1_castPart_64 (lv_at hl 1 rfl) ?_
        refine cd_iald (f := cpF (J 13) (J 14) p n key r (J 15)) hx hb hK hP 3 rfl (by omega) (by decide) dX1_castPart_66 ?_
        refine lv_iconst (v := (-1)) hx hb dX1_castPart_67 (by decide) ?_
        refine lv_icmp_eq (tgt := 83) hx hb dX1_castPart_68 (by decide) (fun c_68 => ?_) (fun c_68 => ?_)
        · refine lv_aload_n hx hb dX1_castPart_83 rfl (lv_at hl 4 rfl) ?_
          refine va_get (D := D) (ci := 1) (v := .ref (h 15)) (C := RX1) (T := TX1) (N := 4) hx hb hts iX1 hown hK hP 0 rfl rfl 2 (by decide) f_18 (fun _ h9 => h9) rfl dX1_castPart_84 ?_
          refine lv_iload hx hb dX1_castPart_87 (lv_at hl 1 rfl) ?_
          refine lv_iload hx hb dX1_castPart_89 (lv_at hl 0 rfl) ?_
          refine cd_iast (f := cpF (J 13) (J 14) p n key r (J 15)) hx hb hK hP hD hS 3 rfl (by omega) (by decide) dX1_castPart_91 (fun H locs hP hD hS => ?_)
          have hP : va_P D vwCl (wX1 cy h (va_up J 15 (upd (cpF (J 13) (J 14) p n key r (J 15)) (n ||| 2 ^ (nv (J 13 (p * 4 + r)))) (key + ((J 14) ((p * 4) + r)))))) H := hP
          have hD : va_D A (wX1 cy h (va_up J 15 (upd (cpF (J 13) (J 14) p n key r (J 15)) (n ||| 2 ^ (nv (J 13 (p * 4 + r)))) (key + ((J 14) ((p * 4) + r)))))) := hD
          have e_91 : (upd (cpF (J 13) (J 14) p n key r (J 15)) (n ||| 2 ^ (nv (J 13 (p * 4 + r)))) (key + ((J 14) ((p * 4) + r)))) = (cpF (J 13) (J 14) p n key (r + 1) (J 15)) := by rw [cpF_s, cpS, if_neg hno, if_pos (Or.inl c_68)]
          rw [e_91] at hP hD
          have hP : va_P D vwCl (wX1 cy h (va_up J 15 (cpF (J 13) (J 14) p n key (r + 1) (J 15)))) H := hP
          have hD : va_D A (wX1 cy h (va_up J 15 (cpF (J 13) (J 14) p n key (r + 1) (J 15)))) := hD
          refine lv_iinc (v := nI (r + 1)) (lv' := [(4, .int (nI (r + 1))), (8, .int (key + ((J 14) ((p * 4) + r)))), (7, .int (nI (n ||| 2 ^ (nv (J 13 (p * 4 + r)))))), (6, .int (nI (nv (J 13 (p * 4 + r))))), (5, .int (nI ((p * 4) + r))), (0, .ref (h 12)), (1, .int (nI p)), (2, .int (nI n)), (3, .int key)]) hx hb dX1_castPart_92 hl (k := 8) rfl (cd_i1 _) (by decide) rfl (fun ls hl => ?_)
          refine lv_goto (tgt := 3) hx hb dX1_castPart_95 (by decide) ?_
          exact ih_3 (r + 1) (by omega) (by omega) _ _ hP hD hS _ (lv_sub hl [5, 6, 7, 8, 0] rfl)
        · refine lv_iload hx hb dX1_castPart_71 (lv_at hl 0 rfl) ?_
          refine lv_aload_n hx hb dX1_castPart_73 rfl (lv_at hl 4 rfl) ?_
          refine va_get (D := D) (ci := 1) (v := .ref (h 15)) (C := RX1) (T := TX1) (N := 4) hx hb hts iX1 hown hK hP 0 rfl rfl 2 (by decide) f_18 (fun _ h9 => h9) rfl dX1_castPart_74 ?_
          refine lv_iload hx hb dX1_castPart_77 (lv_at hl 1 rfl) ?_
          refine cd_iald (f := cpF (J 13) (J 14) p n key r (J 15)) hx hb hK hP 3 rfl (by omega) (by decide) dX1_castPart_79 ?_
          refine lv_icmp_ge (tgt := 92) hx hb dX1_castPart_80 (by decide) (fun c_80 => ?_) (fun c_80 => ?_)
          · refine lv_iinc (v := nI (r + 1)) (lv' := [(4, .int (nI (r + 1))), (8, .int (key + ((J 14) ((p * 4) + r)))), (7, .int (nI (n ||| 2 ^ (nv (J 13 (p * 4 + r)))))), (6, .int (nI (nv (J 13 (p * 4 + r))))), (5, .int (nI ((p * 4) + r))), (0, .ref (h 12)), (1, .int (nI p)), (2, .int (nI n)), (3, .int key)]) hx hb dX1_castPart_92 hl (k := 8) rfl (cd_i1 _) (by decide) rfl (fun ls hl => ?_)
            refine lv_goto (tgt := 3) hx hb dX1_castPart_95 (by decide) ?_
            rw [(by rw [cpF_s, cpS, if_neg hno, if_neg (fun q => q.elim c_68 (Int32.not_lt.mpr c_80))] : (cpF (J 13) (J 14) p n key r (J 15)) = (cpF (J 13) (J 14) p n key (r + 1) (J 15)))] at hP hD
            have hP : va_P D vwCl (wX1 cy h (va_up J 15 (cpF (J 13) (J 14) p n key (r + 1) (J 15)))) H := hP
            have hD : va_D A (wX1 cy h (va_up J 15 (cpF (J 13) (J 14) p n key (r + 1) (J 15)))) := hD
            exact ih_3 (r + 1) (by omega) (by omega) _ _ hP hD hS _ (lv_sub hl [5, 6, 7, 8, 0] rfl)
          · refine lv_aload_n hx hb dX1_castPart_83 rfl (lv_at hl 4 rfl) ?_
            refine va_get (D := D) (ci := 1) (v := .ref (h 15)) (C := RX1) (T := TX1) (N := 4) hx hb hts iX1 hown hK hP 0 rfl rfl 2 (by decide) f_18 (fun _ h9 => h9) rfl dX1_castPart_84 ?_
            refine lv_iload hx hb dX1_castPart_87 (lv_at hl 1 rfl) ?_
            refine lv_iload hx hb dX1_castPart_89 (lv_at hl 0 rfl) ?_
            refine cd_iast (f := cpF (J 13) (J 14) p n key r (J 15)) hx hb hK hP hD hS 3 rfl (by omega) (by decide) dX1_castPart_91 (fun H locs hP hD hS => ?_)
            have hP : va_P D vwCl (wX1 cy h (va_up J 15 (upd (cpF (J 13) (J 14) p n key r (J 15)) (n ||| 2 ^ (nv (J 13 (p * 4 + r)))) (key + ((J 14) ((p * 4) + r)))))) H := hP
            have hD : va_D A (wX1 cy h (va_up J 15 (upd (cpF (J 13) (J 14) p n key r (J 15)) (n ||| 2 ^ (nv (J 13 (p * 4 + r)))) (key + ((J 14) ((p * 4) + r)))))) := hD
            have e_91 : (upd (cpF (J 13) (J 14) p n key r (J 15)) (n ||| 2 ^ (nv (J 13 (p * 4 + r)))) (key + ((J 14) ((p * 4) + r)))) = (cpF (J 13) (J 14) p n key (r + 1) (J 15)) := by rw [cpF_s, cpS, if_neg hno, if_pos (Or.inr (Int32.not_le.mp c_80))]
            rw [e_91] at hP hD
            have hP : va_P D vwCl (wX1 cy h (va_up J 15 (cpF (J 13) (J 14) p n key (r + 1) (J 15)))) H := hP
            have hD : va_D A (wX1 cy h (va_up J 15 (cpF (J 13) (J 14) p n key (r + 1) (J 15)))) := hD
            refine lv_iinc (v := nI (r + 1)) (lv' := [(4, .int (nI (r + 1))), (8, .int (key + ((J 14) ((p * 4) + r)))), (7, .int (nI (n ||| 2 ^ (nv (J 13 (p * 4 + r)))))), (6, .int (nI (nv (J 13 (p * 4 + r))))), (5, .int (nI ((p * 4) + r))), (0, .ref (h 12)), (1, .int (nI p)), (2, .int (nI n)), (3, .int key)]) hx hb dX1_castPart_92 hl (k := 8) rfl (cd_i1 _) (by decide) rfl (fun ls hl => ?_)
            refine lv_goto (tgt := 3) hx hb dX1_castPart_95 (by decide) ?_
            exact ih_3 (r + 1) (by omega) (by omega) _ _ hP hD hS _ (lv_sub hl [5, 6, 7, 8, 0] rfl)
