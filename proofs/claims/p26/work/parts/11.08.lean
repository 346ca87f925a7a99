set_option maxHeartbeats 4000000 in
set_option maxRecDepth 100000 in
theorem c_X1_leastKey (l : Launch) (D : va_G) (cy : qT) (h : Nat → Nat) (J : qS) (n : Nat) (b : Nat) (hn : n ≤ 8) (hbb : J 12 0 = nI b) (hb4 : b ≤ 4096) (hA13 : ∀ i, i < 32 → J 13 i = -1 ∨ bd (J 13 i) 12) (sz : Nat) : Met l yX1_leastKey wsX1_leastKey ({ frames := 2, cells := 0, slots := 0, locals := 49 }) (va_Pc [.ref (h 12), .int (nI n)] (wrB D cy (wX1 cy h J) sz)) (va_Qi (fun (r9 : Int32) (u : Unit) => r9 = (lkF (J 13) (J 14) (J 15) n b).2) (wrQ D (va_A (wX1 cy h J) sz) (fun u : Unit => (wX1 cy h (va_up J 15 ((lkF (J 13) (J 14) (J 15) n b).1))))) (va_A (wX1 cy h J) sz)) 0 0 (va_A (wX1 cy h J) sz) := by
  refine Met.ofW (cc := cX1_leastKey) (maxL := 6) (ret := (some .int)) (by decide) rfl ?_
  intro pp e9 s m9 args9 bl9 meth9 c9 s9 B hml hv
  obtain ⟨rfl, hsz, hP, hG, hD0⟩ := hv
  have hx := B.exec
  have hb := B.bytes
  have hr := B.returns
  have hts := atoms_spec (ws := wsX1_leastKey) B.pre
  have hown : s.vm.findClass RX1 = some m9.cls := findClass_of_methodNamed B.named
  have hlocks := B.notSynchronized
  have hK := hG.K
  subst hsz
  have hD := hD0.self (sz := s.heap.size)
  generalize hAe : (va_A (wX1 cy h J) s.heap.size) = A at hD ⊢
  have hA : ∀ q : Nat, s.heap.size ≤ q → A q := fun q h9 => by rw [← hAe]; exact Or.inr h9
  have hS : va_S A s.heap s.heap [] := va_S.rf
  have hP : va_P D vwCl (wX1 cy h J) s.heap := hP
  have f_18 := hts (.fieldLink RX1 18 "CastDesk$Casting" "leastOfSet" "[I") (by decide +kernel)
  have f_25 := hts (.fieldLink RX1 25 "CastDesk$Casting" "setsBound" "I") (by decide +kernel)
  have iX1 : ∀ w ∈ wsX10, w ∈ wsX1_leastKey := by decide +kernel
  have hl := lv_entry ([.ref (h 12), .int (nI n)]) (n := 6) (Nat.le_of_ble_eq_true rfl)
  rw [lg_entry_eq]
  generalize (lg_sl ([.ref (h 12), .int (nI n)]) ++ List.replicate (6 - (lg_sl ([.ref (h 12), .int (nI n)])).length) Slot.unset).toArray = ls at hl ⊢
  have hl : lv_has ls 6 [(0, .ref (h 12)), (1, .int (nI n))] := hl
  refine lv_iconst (v := (-1)) hx hb dX1_leastKey_0 (by decide) ?_
  refine lv_istore_n (lv' := [(2, .int (-1)), (0, .ref (h 12)), (1, .int (nI n))]) hx hb dX1_leastKey_1 rfl hl (by decide) rfl (fun ls hl => ?_)
  refine lv_aload_n hx hb dX1_leastKey_2 rfl (lv_at hl 1 rfl) ?_
  refine va_get (D := D) (ci := 1) (v := .ref (h 15)) (C := RX1) (T := TX1) (N := 4) hx hb hts iX1 hown hK hP 0 rfl rfl 2 (by decide) f_18 (fun _ h9 => h9) rfl dX1_leastKey_3 ?_
  refine lv_iconst (v := nI 0) hx hb dX1_leastKey_6 (by decide) ?_
  refine lv_iconst (v := nI 0) hx hb dX1_leastKey_7 (by decide) ?_
  refine cd_iast (f := J 15) hx hb hK hP hD hS 3 rfl (by omega) (by decide) dX1_leastKey_8 (fun H locs hP hD hS => ?_)
  have hP : va_P D vwCl (wX1 cy h (va_up J 15 (upd (J 15) 0 (nI 0)))) H := hP
  have hD : va_D A (wX1 cy h (va_up J 15 (upd (J 15) 0 (nI 0)))) := hD
  refine lv_iconst (v := nI 0) hx hb dX1_leastKey_9 (by decide) ?_
  refine lv_istore_n (lv' := [(3, .int (nI 0)), (2, .int (-1)), (0, .ref (h 12)), (1, .int (nI n))]) hx hb dX1_leastKey_10 rfl hl (by decide) rfl (fun ls hl => ?_)
  refine wh1 (nL := 6) (fun (k : Nat) => k ≤ b) (fun (k : Nat) => b - k) (fun (k : Nat) => [(0, .ref (h 12)), (1, .int (nI n)), (2, .int ((lkF (J 13) (J 14) (J 15) n k).2)), (3, .int (nI k))]) (fun (k : Nat) => (wX1 cy h (va_up J 15 ((lkF (J 13) (J 14) (J 15) n k).1)))) (fun k hi_11 ih_11 H locs hP hD hS ls hl => ?_) 0 (Nat.zero_le _) hP hD hS (lv_sub hl [2, 3, 1, 0] rfl)
  have hP : va_P D vwCl (wX1 cy h (va_up J 15 ((lkF (J 13) (J 14) (J 15) n k).1))) H := hP
  have hD : va_D A (wX1 cy h (va_up J 15 ((lkF (J 13) (J 14) (J 15) n k).1))) := hD
  refine lv_iload_n hx hb dX1_leastKey_11 rfl (lv_at hl 3 rfl) ?_
  refine lv_aload_n hx hb dX1_leastKey_12 rfl (lv_at hl 0 rfl) ?_
  refine va_get (D := D) (ci := 1) (v := .int (J 12 0)) (C := RX1) (T := TX1) (N := 4) hx hb hts iX1 hown hK hP 0 rfl rfl 3 (by decide) f_25 (fun _ h9 => h9) rfl dX1_leastKey_13 ?_
  refine cd_tp (y := nI b) (hbb) ?_
  refine cd_icmp_ge (tgt := 87) hx hb dX1_leastKey_16 (by decide) (by omega) (by omega) (fun c_16 => ?_) (fun c_16 => ?_)
  · have ek : k = b := by omega
    subst ek
    have hP : va_P D vwCl (wX1 cy h (va_up J 15 ((lkF (J 13) (J 14) (J 15) n k).1))) H := hP
    have hD : va_D A (wX1 cy h (va_up J 15 ((lkF (J 13) (J 14) (J 15) n k).1))) := hD
    refine lv_iload_n hx hb dX1_leastKey_87 rfl (lv_at hl 2 rfl) ?_
    exact W.iret (v := (lkF (J 13) (J 14) (J 15) n k).2) hx hb hr (fun t ht hW => ⟨⟨_, (), rfl, rfl, by rw [ht]; exact hP, hD⟩, hS.F ht⟩) hS.2.2 dX1_leastKey_88
  · refine lv_aload_n hx hb dX1_leastKey_19 rfl (lv_at hl 0 rfl) ?_
    refine va_get (D := D) (ci := 1) (v := .ref (h 15)) (C := RX1) (T := TX1) (N := 4) hx hb hts iX1 hown hK hP 0 rfl rfl 2 (by decide) f_18 (fun _ h9 => h9) rfl dX1_leastKey_20 ?_
    refine lv_iload_n hx hb dX1_leastKey_23 rfl (lv_at hl 3 rfl) ?_
    refine cd_iald (f := (lkF (J 13) (J 14) (J 15) n k).1) hx hb hK hP 3 rfl (by omega) (by decide) dX1_leastKey_24 ?_
    refine lv_istore (lv' := [(4, .int (((lkF (J 13) (J 14) (J 15) n k).1) k)), (0, .ref (h 12)), (1, .int (nI n)), (2, .int ((lkF (J 13) (J 14) (J 15) n k).2)), (3, .int (nI k))]) hx hb dX1_leastKey_25 hl (by decide) rfl (fun ls hl => ?_)
    refine lv_aload_n hx hb dX1_leastKey_27 rfl (lv_at hl 1 rfl) ?_
    refine va_get (D := D) (ci := 1) (v := .ref (h 15)) (C := RX1) (T := TX1) (N := 4) hx hb hts iX1 hown hK hP 0 rfl rfl 2 (by decide) f_18 (fun _ h9 => h9) rfl dX1_leastKey_28 ?_
    refine lv_iload_n hx hb dX1_leastKey_31 rfl (lv_at hl 4 rfl) ?_
    refine lv_iconst (v := (-1)) hx hb dX1_leastKey_32 (by decide) ?_
    refine cd_iast (f := (lkF (J 13) (J 14) (J 15) n k).1) hx hb hK hP hD hS 3 rfl (by omega) (by decide) dX1_leastKey_33 (fun H locs hP hD hS => ?_)
    have hP : va_P D vwCl (wX1 cy h (va_up J 15 (upd ((lkF (J 13) (J 14) (J 15) n k).1) k (-1)))) H := hP
    have hD : va_D A (wX1 cy h (va_up J 15 (upd ((lkF (J 13) (J 14) (J 15) n k).1) k (-1)))) := hD
    refine lv_iload hx hb dX1_leastKey_34 (lv_at hl 0 rfl) ?_
    refine lv_iconst (v := (-1)) hx hb dX1_leastKey_36 (by decide) ?_
    refine lv_icmp_ne (tgt := 43) hx hb dX1_leastKey_37 (by decide) (fun c_37 => ?_) (fun c_37 => ?_)
    · refine lv_iload_n hx hb dX1_leastKey_43 rfl (lv_at hl 4 rfl) ?_
      have M_44 := c_J6_bitCount_0f7a4 l k (by omega)
      refine cd_roi (va_runS (As := [.int (nI k)]) (rest := []) ⟨hx, hb, hml, hown, hts⟩ M_44 (va_cwS 1 hts gX1_leastKey_J6_bitCount_0f7a4 rfl rfl rfl (by decide +kernel) ⟨Nat.le_of_ble_eq_true rfl, Nat.le_of_ble_eq_true rfl⟩) ⟨nuB.bl, fun U hU hW => ⟨rfl, trivial⟩⟩ rfl rfl hl.1 rfl (lv_room (Nat.le_of_ble_eq_true rfl)) dX1_leastKey_44 (by exact ⟨Nat.zero_le _, Nat.zero_le _⟩)) (fun r_44 hr_44 => ?_)
      subst hr_44
      have hpk := pcn_le k 12
      refine lv_istore (lv' := [(5, .int (nI (pcn 12 k))), (4, .int (((lkF (J 13) (J 14) (J 15) n k).1) k)), (0, .ref (h 12)), (1, .int (nI n)), (2, .int ((lkF (J 13) (J 14) (J 15) n k).2)), (3, .int (nI k))]) hx hb dX1_leastKey_47 hl (by decide) rfl (fun ls hl => ?_)
      refine lv_iload hx hb dX1_leastKey_49 (lv_at hl 0 rfl) ?_
      refine lv_iload_n hx hb dX1_leastKey_51 rfl (lv_at hl 3 rfl) ?_
      refine cd_icmp_ge (tgt := 67) hx hb dX1_leastKey_52 (by decide) (by omega) (by omega) (fun c_52 => ?_) (fun c_52 => ?_)
      · refine lv_iload_n hx hb dX1_leastKey_67 rfl (lv_at hl 4 rfl) ?_
        refine lv_iconst (v := (-1)) hx hb dX1_leastKey_68 (by decide) ?_
        refine lv_icmp_eq (tgt := 78) hx hb dX1_leastKey_69 (by decide) (fun c_69 => ?_) (fun c_69 => ?_)
        · refine lv_iload hx hb dX1_leastKey_78 (lv_at hl 1 rfl) ?_
          refine lv_istore_n (lv' := [(2, .int (((lkF (J 13) (J 14) (J 15) n k).1) k)), (5, .int (nI (pcn 12 k))), (4, .int (((lkF (J 13) (J 14) (J 15) n k).1) k)), (0, .ref (h 12)), (1, .int (nI n)), (3, .int (nI k))]) hx hb dX1_leastKey_80 rfl hl (by decide) rfl (fun ls hl => ?_)
          refine lv_iinc (v := nI (k + 1)) (lv' := [(3, .int (nI (k + 1))), (2, .int (((lkF (J 13) (J 14) (J 15) n k).1) k)), (5, .int (nI (pcn 12 k))), (4, .int (((lkF (J 13) (J 14) (J 15) n k).1) k)), (0, .ref (h 12)), (1, .int (nI n))]) hx hb dX1_leastKey_81 hl (k := 5) rfl (cd_i1 _) (by decide) rfl (fun ls hl => ?_)
          refine lv_goto (tgt := 11) hx hb dX1_leastKey_84 (by decide) ?_
          rw [(by rw [lkF_s, lkS, if_neg c_37, if_neg (Nat.not_lt.mpr c_52)] : (upd ((lkF (J 13) (J 14) (J 15) n k).1) k (-1)) = ((lkF (J 13) (J 14) (J 15) n (k + 1)).1))] at hP hD
          have hP : va_P D vwCl (wX1 cy h (va_up J 15 ((lkF (J 13) (J 14) (J 15) n (k + 1)).1))) H := hP
          have hD : va_D A (wX1 cy h (va_up J 15 ((lkF (J 13) (J 14) (J 15) n (k + 1)).1))) := hD
          have hl : lv_has ls 6 [(3, .int (nI (k + 1))), (2, .int ((lkF (J 13) (J 14) (J 15) n (k + 1)).2)), (5, .int (nI (pcn 12 k))), (4, .int (((lkF (J 13) (J 14) (J 15) n k).1) k)), (0, .ref (h 12)), (1, .int (nI n))] := by rw [← (by rw [lkF_s, lkS, if_neg c_37, if_neg (Nat.not_lt.mpr c_52)]; exact (if_pos (Or.inl c_69)).symm : (((lkF (J 13) (J 14) (J 15) n k).1) k : Int32) = (lkF (J 13) (J 14) (J 15) n (k + 1)).2)]; exact hl
          exact ih_11 (k + 1) (by omega) (by omega) _ _ hP hD hS _ (lv_sub hl [4, 5, 1, 0] rfl)
        · refine lv_iload hx hb dX1_leastKey_72 (lv_at hl 1 rfl) ?_
          refine lv_iload_n hx hb dX1_leastKey_74 rfl (lv_at hl 4 rfl) ?_
          refine lv_icmp_ge (tgt := 81) hx hb dX1_leastKey_75 (by decide) (fun c_75 => ?_) (fun c_75 => ?_)
          · refine lv_iinc (v := nI (k + 1)) (lv' := [(3, .int (nI (k + 1))), (5, .int (nI (pcn 12 k))), (4, .int (((lkF (J 13) (J 14) (J 15) n k).1) k)), (0, .ref (h 12)), (1, .int (nI n)), (2, .int ((lkF (J 13) (J 14) (J 15) n k).2))]) hx hb dX1_leastKey_81 hl (k := 5) rfl (cd_i1 _) (by decide) rfl (fun ls hl => ?_)
            refine lv_goto (tgt := 11) hx hb dX1_leastKey_84 (by decide) ?_
            rw [(by rw [lkF_s, lkS, if_neg c_37, if_neg (Nat.not_lt.mpr c_52)] : (upd ((lkF (J 13) (J 14) (J 15) n k).1) k (-1)) = ((lkF (J 13) (J 14) (J 15) n (k + 1)).1))] at hP hD
            have hP : va_P D vwCl (wX1 cy h (va_up J 15 ((lkF (J 13) (J 14) (J 15) n (k + 1)).1))) H := hP
            have hD : va_D A (wX1 cy h (va_up J 15 ((lkF (J 13) (J 14) (J 15) n (k + 1)).1))) := hD
            have hl : lv_has ls 6 [(3, .int (nI (k + 1))), (5, .int (nI (pcn 12 k))), (4, .int (((lkF (J 13) (J 14) (J 15) n k).1) k)), (0, .ref (h 12)), (1, .int (nI n)), (2, .int ((lkF (J 13) (J 14) (J 15) n (k + 1)).2))] := by rw [← (by rw [lkF_s, lkS, if_neg c_37, if_neg (Nat.not_lt.mpr c_52)]; exact (if_neg (fun q => q.elim c_69 (Int32.not_lt.mpr c_75))).symm : ((lkF (J 13) (J 14) (J 15) n k).2 : Int32) = (lkF (J 13) (J 14) (J 15) n (k + 1)).2)]; exact hl
            exact ih_11 (k + 1) (by omega) (by omega) _ _ hP hD hS _ (lv_sub hl [3, 4, 5, 0] rfl)
          · refine lv_iload hx hb dX1_leastKey_78 (lv_at hl 1 rfl) ?_
            refine lv_istore_n (lv' := [(2, .int (((lkF (J 13) (J 14) (J 15) n k).1) k)), (5, .int (nI (pcn 12 k))), (4, .int (((lkF (J 13) (J 14) (J 15) n k).1) k)), (0, .ref (h 12)), (1, .int (nI n)), (3, .int (nI k))]) hx hb dX1_leastKey_80 rfl hl (by decide) rfl (fun ls hl => ?_)
            refine lv_iinc (v := nI (k + 1)) (lv' := [(3, .int (nI (k + 1))), (2, .int (((lkF (J 13) (J 14) (J 15) n k).1) k)), (5, .int (nI (pcn 12 k))), (4, .int (((lkF (J 13) (J 14) (J 15) n k).1) k)), (0, .ref (h 12)), (1, .int (nI n))]) hx hb dX1_leastKey_81 hl (k := 5) rfl (cd_i1 _) (by decide) rfl (fun ls hl => ?_)
            refine lv_goto (tgt := 11) hx hb dX1_leastKey_84 (by decide) ?_
            rw [(by rw [lkF_s, lkS, if_neg c_37, if_neg (Nat.not_lt.mpr c_52)] : (upd ((lkF (J 13) (J 14) (J 15) n k).1) k (-1)) = ((lkF (J 13) (J 14) (J 15) n (k + 1)).1))] at hP hD
            have hP : va_P D vwCl (wX1 cy h (va_up J 15 ((lkF (J 13) (J 14) (J 15) n (k + 1)).1))) H := hP
            have hD : va_D A (wX1 cy h (va_up J 15 ((lkF (J 13) (J 14) (J 15) n (k + 1)).1))) := hD
            have hl : lv_has ls 6 [(3, .int (nI (k + 1))), (2, .int ((lkF (J 13) (J 14) (J 15) n (k + 1)).2)), (5, .int (nI (pcn 12 k))), (4, .int (((lkF (J 13) (J 14) (J 15) n k).1) k)), (0, .ref (h 12)), (1, .int (nI n))] := by rw [← (by rw [lkF_s, lkS, if_neg c_37, if_neg (Nat.not_lt.mpr c_52)]; exact (if_pos (Or.inr (Int32.not_le.mp c_75))).symm : (((lkF (J 13) (J 14) (J 15) n k).1) k : Int32) = (lkF (J 13) (J 14) (J 15) n (k + 1)).2)]; exact hl
            exact ih_11 (k + 1) (by omega) (by omega) _ _ hP hD hS _ (lv_sub hl [4, 5, 1, 0] rfl)
      · have hpk := pcn_le k 12
        refine lv_aload_n hx hb dX1_leastKey_55 rfl (lv_at hl 2 rfl) ?_
        refine lv_iload hx hb dX1_leastKey_56 (lv_at hl 0 rfl) ?_
        refine lv_iload_n hx hb dX1_leastKey_58 rfl (lv_at hl 5 rfl) ?_
        refine lv_iload hx hb dX1_leastKey_59 (lv_at hl 1 rfl) ?_
        have M_61 := c_X1_castPart l D cy h (va_up J 15 (upd ((lkF (J 13) (J 14) (J 15) n k).1) k (-1))) (pcn 12 k) k (((lkF (J 13) (J 14) (J 15) n k).1) k) (by omega) (by omega) hA13 H.size
        refine cd_frv (S := Unit) (W1 := fun u => (wX1 cy h (va_up (va_up J 15 (upd ((lkF (J 13) (J 14) (J 15) n k).1) k (-1))) 15 (cpF ((va_up J 15 (upd ((lkF (J 13) (J 14) (J 15) n k).1) k (-1))) 13) ((va_up J 15 (upd ((lkF (J 13) (J 14) (J 15) n k).1) k (-1))) 14) (pcn 12 k) k (((lkF (J 13) (J 14) (J 15) n k).1) k) 4 ((va_up J 15 (upd ((lkF (J 13) (J 14) (J 15) n k).1) k (-1))) 15))))) (ws' := fun u => (wX1 cy h (va_up J 15 (cpF ((J 13)) ((J 14)) (pcn 12 k) k (((lkF (J 13) (J 14) (J 15) n k).1) k) 4 ((upd ((lkF (J 13) (J 14) (J 15) n k).1) k (-1))))))) (wc := (wX1 cy h (va_up J 15 (upd ((lkF (J 13) (J 14) (J 15) n k).1) k (-1))))) (wr := []) (va_runV (As := [.int (nI (pcn 12 k)), .int (nI k), .int (((lkF (J 13) (J 14) (J 15) n k).1) k)]) (rest := []) ⟨hx, hb, hml, hown, hts⟩ M_61 (cwV 3 hts gX1_leastKey_X1_castPart rfl rfl rfl (by decide +kernel) ⟨Nat.le_of_ble_eq_true rfl, Nat.le_of_ble_eq_true rfl⟩) ⟨wrB.bl, va_recv hK hP (ci := 1) (q0 := 0) rfl rfl, fun U hU hW => ⟨rfl, by rw [hU], by rw [hU]; exact hP, hG.warm hW, hD.weaken (fun _ _ _ _ => trivial)⟩⟩ rfl rfl hl.1 rfl (lv_room (Nat.le_of_ble_eq_true rfl)) dX1_leastKey_61 (by exact ⟨Nat.zero_le _, Nat.zero_le _⟩)) hP hD hS hA [0, 1, 2, 3] [] [0, 1, 2, 3] rfl rfl (by decide) (by decide) (by decide) (fun _ => rfl) (fun _ H locs hw_61 hP hD hS => ?_)
        have hP : va_P D vwCl (wX1 cy h (va_up J 15 (cpF ((J 13)) ((J 14)) (pcn 12 k) k (((lkF (J 13) (J 14) (J 15) n k).1) k) 4 ((upd ((lkF (J 13) (J 14) (J 15) n k).1) k (-1)))))) H := hP
        have hD : va_D A (wX1 cy h (va_up J 15 (cpF ((J 13)) ((J 14)) (pcn 12 k) k (((lkF (J 13) (J 14) (J 15) n k).1) k) 4 ((upd ((lkF (J 13) (J 14) (J 15) n k).1) k (-1)))))) := hD
        refine lv_goto (tgt := 81) hx hb dX1_leastKey_64 (by decide) ?_
        refine lv_iinc (v := nI (k + 1)) (lv' := [(3, .int (nI (k + 1))), (5, .int (nI (pcn 12 k))), (4, .int (((lkF (J 13) (J 14) (J 15) n k).1) k)), (0, .ref (h 12)), (1, .int (nI n)), (2, .int ((lkF (J 13) (J 14) (J 15) n k).2))]) hx hb dX1_leastKey_81 hl (k := 5) rfl (cd_i1 _) (by decide) rfl (fun ls hl => ?_)
        refine lv_goto (tgt := 11) hx hb dX1_leastKey_84 (by decide) ?_
        rw [(by rw [lkF_s, lkS, if_neg c_37, if_pos c_52] : (cpF ((J 13)) ((J 14)) (pcn 12 k) k (((lkF (J 13) (J 14) (J 15) n k).1) k) 4 ((upd ((lkF (J 13) (J 14) (J 15) n k).1) k (-1)))) = ((lkF (J 13) (J 14) (J 15) n (k + 1)).1))] at hP hD
        have hP : va_P D vwCl (wX1 cy h (va_up J 15 ((lkF (J 13) (J 14) (J 15) n (k + 1)).1))) H := hP
        have hD : va_D A (wX1 cy h (va_up J 15 ((lkF (J 13) (J 14) (J 15) n (k + 1)).1))) := hD
        have hl : lv_has ls 6 [(3, .int (nI (k + 1))), (5, .int (nI (pcn 12 k))), (4, .int (((lkF (J 13) (J 14) (J 15) n k).1) k)), (0, .ref (h 12)), (1, .int (nI n)), (2, .int ((lkF (J 13) (J 14) (J 15) n (k + 1)).2))] := by rw [← (by rw [lkF_s, lkS, if_neg c_37, if_pos c_52] : ((lkF (J 13) (J 14) (J 15) n k).2 : Int32) = (lkF (J 13) (J 14) (J 15) n (k + 1)).2)]; exact hl
        exact ih_11 (k + 1) (by omega) (by omega) _ _ hP hD hS _ (lv_sub hl [3, 4, 5, 0] rfl)
    · refine lv_goto (tgt := 81) hx hb dX1_leastKey_40 (by decide) ?_
      refine lv_iinc (v := nI (k + 1)) (lv' := [(3, .int (nI (k + 1))), (4, .int (((lkF (J 13) (J 14) (J 15) n k).1) k)), (0, .ref (h 12)), (1, .int (nI n)), (2, .int ((lkF (J 13) (J 14) (J 15) n k).2))]) hx hb dX1_leastKey_81 hl (k := 4) rfl (cd_i1 _) (by decide) rfl (fun ls hl => ?_)
      refine lv_goto (tgt := 11) hx hb dX1_leastKey_84 (by decide) ?_
      rw [(by rw [lkF_s, lkS, if_pos c_37] : (upd ((lkF (J 13) (J 14) (J 15) n k).1) k (-1)) = ((lkF (J 13) (J 14) (J 15) n (k + 1)).1))] at hP hD
      have hP : va_P D vwCl (wX1 cy h (va_up J 15 ((lkF (J 13) (J 14) (J 15) n (k + 1)).1))) H := hP
      have hD : va_D A (wX1 cy h (va_up J 15 ((lkF (J 13) (J 14) (J 15) n (k + 1)).1))) := hD
      have hl : lv_has ls 6 [(3, .int (nI (k + 1))), (4, .int (((lkF (J 13) (J 14) (J 15) n k).1) k)), (0, .ref (h 12)), (1, .int (nI n)), (2, .int ((lkF (J 13) (J 14) (J 15) n (k + 1)).2))] := by rw [← (by rw [lkF_s, lkS, if_pos c_37] : ((lkF (J 13) (J 14) (J 15) n k).2 : Int32) = (lkF (J 13) (J 14) (J 15) n (k + 1)).2)]; exact hl
      exact ih_11 (k + 1) (by omega) (by omega) _ _ hP hD hS _ (lv_sub hl [2, 3, 4, 0] rfl)
