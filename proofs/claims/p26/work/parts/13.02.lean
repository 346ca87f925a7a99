set_option maxHeartbeats 4000000 in
set_option maxRecDepth 100000 in
theorem c_X6_offerActors (l : Launch) (D : va_G) (cy : qT) (h : Nat → Nat) (S : qS) (J : qS) (hI : Inv S) (mk : Nat) (hm : mk < 4096) (sz : Nat) : Met l yX6_offerActors wsX6_offerActors ({ frames := 2, cells := 0, slots := 0, locals := 47 }) (va_Pc [.ref (h 0), .int (nI mk)] (wrB D cy (wC cy h S J) sz)) (va_Qv (fun (u : Unit) => True) (wrQ D (va_A (wC cy h S J) sz) (fun u : Unit => (wC cy h S (va_up (va_up (va_up J 13 (ofA S mk (clF (J 13) 32) (nv (S 27 0) * 4))) 12 (fun _ => nI (ofB S mk (nv (S 27 0) * 4)))) 14 (ofK S mk (J 14) (nv (S 27 0) * 4)))))) (va_A (wC cy h S J) sz)) 0 0 (va_A (wC cy h S J) sz) := by
  refine Met.ofW (cc := cX6_offerActors) (maxL := 6) (ret := none) (by decide) rfl ?_
  intro pp e9 s m9 args9 bl9 meth9 c9 s9 B hml hv
  obtain ⟨rfl, hsz, hP, hG, hD0⟩ := hv
  have hx := B.exec
  have hb := B.bytes
  have hr := B.returns
  have hts := atoms_spec (ws := wsX6_offerActors) B.pre
  have hown : s.vm.findClass RX6 = some m9.cls := findClass_of_methodNamed B.named
  have hlocks := B.notSynchronized
  have hK := hG.K
  subst hsz
  have hD := hD0.self (sz := s.heap.size)
  generalize hAe : (va_A (wC cy h S J) s.heap.size) = A at hD ⊢
  have hA : ∀ q : Nat, s.heap.size ≤ q → A q := fun q h9 => by rw [← hAe]; exact Or.inr h9
  have hS : va_S A s.heap s.heap [] := va_S.rf
  have hP : va_P D vwCl (wC cy h S J) s.heap := hP
  have f_33 := hts (.fieldLink RX6 33 "CastDesk" "casting" "LCastDesk$Casting;") (by decide +kernel)
  have f_51 := hts (.fieldLink RX6 51 "CastDesk" "partCount" "I") (by decide +kernel)
  have f_19 := hts (.fieldLink RX6 19 "CastDesk" "rows" "LCastDesk$Rows;") (by decide +kernel)
  have f_26 := hts (.fieldLink RX6 26 "CastDesk" "wardrobe" "LCastDesk$Wardrobe;") (by decide +kernel)
  have f_10 := hts (.fieldLink RX6 10 "CastDesk" "troupe" "LCastDesk$Troupe;") (by decide +kernel)
  have f_72 := hts (.fieldLink RX6 72 "CastDesk$Troupe" "sizes" "[I") (by decide +kernel)
  have iX4 : ∀ w ∈ wsX40, w ∈ wsX6_offerActors := by decide +kernel
  have iX6 : ∀ w ∈ wsX60, w ∈ wsX6_offerActors := by decide +kernel
  have hl := lv_entry ([.ref (h 0), .int (nI mk)]) (n := 6) (Nat.le_of_ble_eq_true rfl)
  rw [lg_entry_eq]
  generalize (lg_sl ([.ref (h 0), .int (nI mk)]) ++ List.replicate (6 - (lg_sl ([.ref (h 0), .int (nI mk)])).length) Slot.unset).toArray = ls at hl ⊢
  have hl : lv_has ls 6 [(0, .ref (h 0)), (1, .int (nI mk))] := hl
  have h27 := (iv_27 hI).1.2
  refine lv_aload_n hx hb dX6_offerActors_0 rfl (lv_at hl 0 rfl) ?_
  refine va_get (D := D) (ci := 6) (v := .ref (h 12)) (C := RX6) (T := TX6) (N := 8) hx hb hts iX6 hown hK hP 0 rfl rfl 3 (by decide) f_33 (fun _ h9 => h9) rfl dX6_offerActors_1 ?_
  have M_4 := c_X1_clear l D cy h J s.heap.size
  have hPc := hP.sub (ws' := (wX1 cy h J)) [12, 13, 14, 15] rfl
  have hDc := hD.sub (ws' := (wX1 cy h J)) [12, 13, 14, 15] (by decide) rfl
  refine cd_frv (S := Unit) (W1 := fun u => (wX1 cy h (va_up (va_up J 13 (clF (J 13) 32)) 12 (fun _ => nI 1)))) (ws' := fun u => (wC cy h S (va_up (va_up J 13 (clF ((J 13)) 32)) 12 (fun _ => nI 1)))) (wc := (wX1 cy h J)) (wr := [(h 0, .inr (6, [.ref (h 1), .ref (h 5), .ref (h 8), .ref (h 12), .ref (h 16), .ref (h 20), .int (S 27 0), .int (S 28 0)])), (h 1, .inr (4, [.ref (h 2), .ref (h 3), .ref (h 4)])), (h 2, aI cy 12 (S 2)), (h 3, aI cy 12 (S 3)), (h 4, aI cy 1001 (S 4)), (h 5, .inr (3, [.ref (h 6), .ref (h 7)])), (h 6, aI cy 32 (S 6)), (h 7, aI cy 8 (S 7)), (h 8, .inr (5, [.ref (h 9), .ref (h 10), .ref (h 11), .int (S 29 0)])), (h 9, aI cy 40 (S 9)), (h 10, aI cy 40 (S 10)), (h 11, aZ cy 40 (S 11)), (h 16, .inr (2, [.ref (h 17), .ref (h 18), .ref (h 19), .int (S 30 0)])), (h 17, aI cy 40 (S 17)), (h 18, aI cy 320 (S 18)), (h 19, aI cy 40 (S 19)), (h 20, .inr (0, [.ref (h 21), .ref (h 22), .ref (h 23), .ref (h 24), .ref (h 25), .ref (h 26), .int (S 31 0), .int (S 32 0)])), (h 21, aI cy 100 (S 21)), (h 22, aI cy 100 (S 22)), (h 23, aI cy 100 (S 23)), (h 24, aI cy 100 (S 24)), (h 25, aI cy 100 (S 25)), (h 26, aI cy 100 (S 26))]) (va_runV (As := []) (rest := []) ⟨hx, hb, hml, hown, hts⟩ M_4 (cwV 0 hts gX6_offerActors_X1_clear rfl rfl rfl (by decide +kernel) ⟨Nat.le_of_ble_eq_true rfl, Nat.le_of_ble_eq_true rfl⟩) ⟨wrB.bl, va_recv hK hP (ci := 1) (q0 := 12) rfl rfl, fun U hU hW => ⟨rfl, by rw [hU], by rw [hU]; exact hPc, hG.warm hW, hDc.weaken (fun _ _ _ _ => trivial)⟩⟩ rfl rfl hl.1 rfl (lv_room (Nat.le_of_ble_eq_true rfl)) dX6_offerActors_4 (by exact ⟨Nat.zero_le _, Nat.zero_le _⟩)) hP hD hS hA [12, 13, 14, 15] [0, 1, 2, 3, 4, 5, 6, 7, 8, 9, 10, 11, 16, 17, 18, 19, 20, 21, 22, 23, 24, 25, 26] [0, 1, 2, 3, 4, 5, 6, 7, 8, 9, 10, 11, 23, 24, 25, 26, 12, 13, 14, 15, 16, 17, 18, 19, 20, 21, 22] rfl rfl (by decide) (by decide) (by decide) (fun _ => rfl) (fun _ H locs hw_4 hP hD hS => ?_)
  have hP : va_P D vwCl (wC cy h S (va_up (va_up J 13 (clF ((J 13)) 32)) 12 (fun _ => nI 1))) H := hP
  have hD : va_D A (wC cy h S (va_up (va_up J 13 (clF ((J 13)) 32)) 12 (fun _ => nI 1))) := hD
  refine lv_iconst (v := nI 0) hx hb dX6_offerActors_7 (by decide) ?_
  refine lv_istore_n (lv' := [(2, .int (nI 0)), (0, .ref (h 0)), (1, .int (nI mk))]) hx hb dX6_offerActors_8 rfl hl (by decide) rfl (fun ls hl => ?_)
  refine wh1 (nL := 6) (fun (p : Nat) => p ≤ nv (S 27 0)) (fun (p : Nat) => nv (S 27 0) - p) (fun (p : Nat) => [(0, .ref (h 0)), (1, .int (nI mk)), (2, .int (nI p))]) (fun (p : Nat) => (wC cy h S (va_up (va_up (va_up J 13 (ofA S mk (clF (J 13) 32) (p * 4))) 12 (fun _ => nI (ofB S mk (p * 4)))) 14 (ofK S mk (J 14) (p * 4))))) (fun p hi_9 ih_9 H locs hP hD hS ls hl => ?_) 0 (Nat.zero_le _) (by rw [show ofA S mk (clF (J 13) 32) (0 * 4) = clF (J 13) 32 from ofX_0 S mk _ _, show ofK S mk (J 14) (0 * 4) = J 14 from ofX_0 S mk _ _]; exact hP) (by rw [show ofA S mk (clF (J 13) 32) (0 * 4) = clF (J 13) 32 from ofX_0 S mk _ _, show ofK S mk (J 14) (0 * 4) = J 14 from ofX_0 S mk _ _]; exact hD) hS (lv_sub hl [1, 2, 0] rfl)
  have hP : va_P D vwCl (wC cy h S (va_up (va_up (va_up J 13 (ofA S mk (clF (J 13) 32) (p * 4))) 12 (fun _ => nI (ofB S mk (p * 4)))) 14 (ofK S mk (J 14) (p * 4)))) H := hP
  have hD : va_D A (wC cy h S (va_up (va_up (va_up J 13 (ofA S mk (clF (J 13) 32) (p * 4))) 12 (fun _ => nI (ofB S mk (p * 4)))) 14 (ofK S mk (J 14) (p * 4)))) := hD
  refine lv_iload_n hx hb dX6_offerActors_9 rfl (lv_at hl 2 rfl) ?_
  refine lv_aload_n hx hb dX6_offerActors_10 rfl (lv_at hl 0 rfl) ?_
  refine va_get (D := D) (ci := 6) (v := .int (S 27 0)) (C := RX6) (T := TX6) (N := 8) hx hb hts iX6 hown hK hP 0 rfl rfl 6 (by decide) f_51 (fun _ h9 => h9) rfl dX6_offerActors_11 ?_
  have b_11 := (iv_27 hI).1
  refine cd_tp (y := nI (nv (S 27 0))) b_11.1 ?_
  have b_11 := b_11.2
  refine cd_icmp_ge (tgt := 114) hx hb dX6_offerActors_14 (by decide) (by omega) (by omega) (fun c_14 => ?_) (fun c_14 => ?_)
  · have ep : p = nv (S 27 0) := by omega
    subst ep
    have hP : va_P D vwCl (wC cy h S (va_up (va_up (va_up J 13 (ofA S mk (clF (J 13) 32) ((nv (S 27 0)) * 4))) 12 (fun _ => nI (ofB S mk ((nv (S 27 0)) * 4)))) 14 (ofK S mk (J 14) ((nv (S 27 0)) * 4)))) H := hP
    have hD : va_D A (wC cy h S (va_up (va_up (va_up J 13 (ofA S mk (clF (J 13) 32) ((nv (S 27 0)) * 4))) 12 (fun _ => nI (ofB S mk ((nv (S 27 0)) * 4)))) 14 (ofK S mk (J 14) ((nv (S 27 0)) * 4)))) := hD
    exact W.vret hx hb hr (fun t ht hW => ⟨⟨(), rfl, trivial, by rw [ht]; exact hP, hD⟩, hS.F ht⟩) hS.2.2 dX6_offerActors_114
  · refine lv_iconst (v := nI 0) hx hb dX6_offerActors_17 (by decide) ?_
    refine lv_istore_n (lv' := [(3, .int (nI 0)), (0, .ref (h 0)), (1, .int (nI mk)), (2, .int (nI p))]) hx hb dX6_offerActors_18 rfl hl (by decide) rfl (fun ls hl => ?_)
    refine wh1 (nL := 6) (fun (r : Nat) => r ≤ 4) (fun (r : Nat) => 4 - r) (fun (r : Nat) => [(0, .ref (h 0)), (1, .int (nI mk)), (2, .int (nI p)), (3, .int (nI r))]) (fun (r : Nat) => (wC cy h S (va_up (va_up (va_up J 13 (ofA S mk (clF (J 13) 32) (p * 4 + r))) 12 (fun _ => nI (ofB S mk (p * 4 + r)))) 14 (ofK S mk (J 14) (p * 4 + r))))) (fun r hi_19 ih_19 H locs hP hD hS ls hl => ?_) 0 (by decide) hP hD hS (lv_sub hl [1, 2, 3, 0] rfl)
    have hP : va_P D vwCl (wC cy h S (va_up (va_up (va_up J 13 (ofA S mk (clF (J 13) 32) (p * 4 + r))) 12 (fun _ => nI (ofB S mk (p * 4 + r)))) 14 (ofK S mk (J 14) (p * 4 + r)))) H := hP
    have hD : va_D A (wC cy h S (va_up (va_up (va_up J 13 (ofA S mk (clF (J 13) 32) (p * 4 + r))) 12 (fun _ => nI (ofB S mk (p * 4 + r)))) 14 (ofK S mk (J 14) (p * 4 + r)))) := hD
    refine lv_iload_n hx hb dX6_offerActors_19 rfl (lv_at hl 3 rfl) ?_
    refine lv_iconst (v := nI 4) hx hb dX6_offerActors_20 (by decide) ?_
    refine cd_icmp_ge (tgt := 108) hx hb dX6_offerActors_21 (by decide) (by omega) (by omega) (fun c_21 => ?_) (fun c_21 => ?_)
    · have er : r = 4 := by omega
      subst er
      have hP : va_P D vwCl (wC cy h S (va_up (va_up (va_up J 13 (ofA S mk (clF (J 13) 32) (p * 4 + 4))) 12 (fun _ => nI (ofB S mk (p * 4 + 4)))) 14 (ofK S mk (J 14) (p * 4 + 4)))) H := hP
      have hD : va_D A (wC cy h S (va_up (va_up (va_up J 13 (ofA S mk (clF (J 13) 32) (p * 4 + 4))) 12 (fun _ => nI (ofB S mk (p * 4 + 4)))) 14 (ofK S mk (J 14) (p * 4 + 4)))) := hD
      have e4 : p * 4 + 4 = (p + 1) * 4 := by omega
      rw [e4] at hP hD
      have hP : va_P D vwCl (wC cy h S (va_up (va_up (va_up J 13 (ofA S mk (clF (J 13) 32) ((p + 1) * 4))) 12 (fun _ => nI (ofB S mk ((p + 1) * 4)))) 14 (ofK S mk (J 14) ((p + 1) * 4)))) H := hP
      have hD : va_D A (wC cy h S (va_up (va_up (va_up J 13 (ofA S mk (clF (J 13) 32) ((p + 1) * 4))) 12 (fun _ => nI (ofB S mk ((p + 1) * 4)))) 14 (ofK S mk (J 14) ((p + 1) * 4)))) := hD
      refine lv_iinc (v := nI (p + 1)) (lv' := [(2, .int (nI (p + 1))), (0, .ref (h 0)), (1, .int (nI mk)), (3, .int (nI 4))]) hx hb dX6_offerActors_108 hl (k := 2) rfl (cd_i1 _) (by decide) rfl (fun ls hl => ?_)
      refine lv_goto (tgt := 9) hx hb dX6_offerActors_111 (by decide) ?_
      exact ih_9 (p + 1) (by omega) (by omega) _ _ hP hD hS _ (lv_sub hl [1, 2, 0] rfl)
    · refine lv_aload_n hx hb dX6_offerActors_24 rfl (lv_at hl 0 rfl) ?_
      refine va_get (D := D) (ci := 6) (v := .ref (h 5)) (C := RX6) (T := TX6) (N := 8) hx hb hts iX6 hown hK hP 0 rfl rfl 1 (by decide) f_19 (fun _ h9 => h9) rfl dX6_offerActors_25 ?_
      refine lv_iload_n hx hb dX6_offerActors_28 rfl (lv_at hl 2 rfl) ?_
      refine lv_iload_n hx hb dX6_offerActors_29 rfl (lv_at hl 3 rfl) ?_
      have M_30 := c_X3_actorAt l D cy h S hI p r (by omega) (by omega)
      have hPc := hP.sub (ws' := (wX3 cy h S)) [5, 6, 7] rfl
      refine cd_roi (va_runV (As := [.int (nI p), .int (nI r)]) (rest := []) ⟨hx, hb, hml, hown, hts⟩ M_30 (cwV 2 hts gX6_offerActors_X3_actorAt rfl rfl rfl (by decide +kernel) ⟨Nat.le_of_ble_eq_true rfl, Nat.le_of_ble_eq_true rfl⟩) ⟨roB.bl, va_recv hK hP (ci := 3) (q0 := 5) rfl rfl, fun U hU hW => ⟨rfl, by rw [hU]; exact hPc, hG.warm hW⟩⟩ rfl rfl hl.1 rfl (lv_room (Nat.le_of_ble_eq_true rfl)) dX6_offerActors_30 (by exact ⟨Nat.zero_le _, Nat.zero_le _⟩)) (fun r_30 hr_30 => ?_)
      subst hr_30
      refine lv_istore (lv' := [(4, .int (acI S p r)), (0, .ref (h 0)), (1, .int (nI mk)), (2, .int (nI p)), (3, .int (nI r))]) hx hb dX6_offerActors_33 hl (by decide) rfl (fun ls hl => ?_)
      refine lv_iload hx hb dX6_offerActors_35 (lv_at hl 0 rfl) ?_
      refine lv_iconst (v := (-1)) hx hb dX6_offerActors_37 (by decide) ?_
      refine lv_icmp_eq (tgt := 102) hx hb dX6_offerActors_38 (by decide) (fun c_38 => ?_) (fun c_38 => ?_)
      · refine lv_iinc (v := nI (r + 1)) (lv' := [(3, .int (nI (r + 1))), (4, .int (acI S p r)), (0, .ref (h 0)), (1, .int (nI mk)), (2, .int (nI p))]) hx hb dX6_offerActors_102 hl (k := 4) rfl (cd_i1 _) (by decide) rfl (fun ls hl => ?_)
        refine lv_goto (tgt := 19) hx hb dX6_offerActors_105 (by decide) ?_
        have hav : avB S mk (p * 4 + r) = false := by rw [avB_at (by omega), decide_eq_false (ac_f hI (by omega) c_38)]; rfl
        rw [show (ofA S mk (clF (J 13) 32) (p * 4 + r)) = (ofA S mk (clF (J 13) 32) (p * 4 + (r + 1))) from ofX_n hav] at hP hD
        have hP : va_P D vwCl (wC cy h S (va_up (va_up (va_up J 13 (ofA S mk (clF (J 13) 32) (p * 4 + (r + 1)))) 12 (fun _ => nI (ofB S mk (p * 4 + r)))) 14 (ofK S mk (J 14) (p * 4 + r)))) H := hP
        have hD : va_D A (wC cy h S (va_up (va_up (va_up J 13 (ofA S mk (clF (J 13) 32) (p * 4 + (r + 1)))) 12 (fun _ => nI (ofB S mk (p * 4 + r)))) 14 (ofK S mk (J 14) (p * 4 + r)))) := hD
        rw [show (ofK S mk (J 14) (p * 4 + r)) = (ofK S mk (J 14) (p * 4 + (r + 1))) from ofX_n hav] at hP hD
        have hP : va_P D vwCl (wC cy h S (va_up (va_up (va_up J 13 (ofA S mk (clF (J 13) 32) (p * 4 + (r + 1)))) 12 (fun _ => nI (ofB S mk (p * 4 + r)))) 14 (ofK S mk (J 14) (p * 4 + (r + 1))))) H := hP
        have hD : va_D A (wC cy h S (va_up (va_up (va_up J 13 (ofA S mk (clF (J 13) 32) (p * 4 + (r + 1)))) 12 (fun _ => nI (ofB S mk (p * 4 + r)))) 14 (ofK S mk (J 14) (p * 4 + (r + 1))))) := hD
        rw [show ((fun _ => nI (ofB S mk (p * 4 + r)) : Nat → Int32)) = ((fun _ => nI (ofB S mk (p * 4 + (r + 1))) : Nat → Int32)) from by rw [ofB_n hav]; rfl] at hP hD
        have hP : va_P D vwCl (wC cy h S (va_up (va_up (va_up J 13 (ofA S mk (clF (J 13) 32) (p * 4 + (r + 1)))) 12 (fun _ => nI (ofB S mk (p * 4 + (r + 1))))) 14 (ofK S mk (J 14) (p * 4 + (r + 1))))) H := hP
        have hD : va_D A (wC cy h S (va_up (va_up (va_up J 13 (ofA S mk (clF (J 13) 32) (p * 4 + (r + 1)))) 12 (fun _ => nI (ofB S mk (p * 4 + (r + 1))))) 14 (ofK S mk (J 14) (p * 4 + (r + 1))))) := hD
        exact ih_19 (r + 1) (by omega) (by omega) _ _ hP hD hS _ (lv_sub hl [2, 3, 4, 0] rfl)
      · have hac := ac_t hI (by omega) c_38
        have hac3 := hac.2.2
        have hl : lv_has ls 6 [(4, .int (nI (nv (S 6 (p * 4 + r))))), (0, .ref (h 0)), (1, .int (nI mk)), (2, .int (nI p)), (3, .int (nI r))] := by rw [← (hac.2.1 : (acI S p r : Int32) = nI (nv (S 6 (p * 4 + r))))]; exact hl
        refine lv_aload_n hx hb dX6_offerActors_41 rfl (lv_at hl 1 rfl) ?_
        refine lv_iload hx hb dX6_offerActors_42 (lv_at hl 0 rfl) ?_
        refine lv_iload_n hx hb dX6_offerActors_44 rfl (lv_at hl 3 rfl) ?_
        refine lv_iload_n hx hb dX6_offerActors_45 rfl (lv_at hl 2 rfl) ?_
        have M_46 := c_X6_isReady l D cy h S (va_up (va_up (va_up J 13 (ofA S mk (clF (J 13) 32) (p * 4 + r))) 12 (fun _ => nI (ofB S mk (p * 4 + r)))) 14 (ofK S mk (J 14) (p * 4 + r))) hI (nv (S 6 (p * 4 + r))) p mk hac3 (by omega) hm
        refine cd_roi (va_runV (As := [.int (nI (nv (S 6 (p * 4 + r)))), .int (nI p), .int (nI mk)]) (rest := []) ⟨hx, hb, hml, hown, hts⟩ M_46 (cwV 3 hts gX6_offerActors_X6_isReady rfl rfl rfl (by decide +kernel) ⟨Nat.le_of_ble_eq_true rfl, Nat.le_of_ble_eq_true rfl⟩) ⟨roB.bl, va_recv hK hP (ci := 6) (q0 := 0) rfl rfl, fun U hU hW => ⟨rfl, by rw [hU]; exact hP, hG.warm hW⟩⟩ rfl rfl hl.1 rfl (lv_room (Nat.le_of_ble_eq_true rfl)) dX6_offerActors_46 (by exact ⟨Nat.zero_le _, Nat.zero_le _⟩)) (fun r_46 hr_46 => ?_)
        subst hr_46
        refine cd_ifB_eq (tgt := 102) hx hb dX6_offerActors_49 (by decide) (fun c_49 => ?_) (fun c_49 => ?_)
        · refine lv_iinc (v := nI (r + 1)) (lv' := [(3, .int (nI (r + 1))), (4, .int (nI (nv (S 6 (p * 4 + r))))), (0, .ref (h 0)), (1, .int (nI mk)), (2, .int (nI p))]) hx hb dX6_offerActors_102 hl (k := 4) rfl (cd_i1 _) (by decide) rfl (fun ls hl => ?_)
          refine lv_goto (tgt := 19) hx hb dX6_offerActors_105 (by decide) ?_
          have hav : avB S mk (p * 4 + r) = false := by rw [avB_at (by omega), c_49, Bool.and_false]
          rw [show (ofA S mk (clF (J 13) 32) (p * 4 + r)) = (ofA S mk (clF (J 13) 32) (p * 4 + (r + 1))) from ofX_n hav] at hP hD
          have hP : va_P D vwCl (wC cy h S (va_up (va_up (va_up J 13 (ofA S mk (clF (J 13) 32) (p * 4 + (r + 1)))) 12 (fun _ => nI (ofB S mk (p * 4 + r)))) 14 (ofK S mk (J 14) (p * 4 + r)))) H := hP
          have hD : va_D A (wC cy h S (va_up (va_up (va_up J 13 (ofA S mk (clF (J 13) 32) (p * 4 + (r + 1)))) 12 (fun _ => nI (ofB S mk (p * 4 + r)))) 14 (ofK S mk (J 14) (p * 4 + r)))) := hD
          rw [show (ofK S mk (J 14) (p * 4 + r)) = (ofK S mk (J 14) (p * 4 + (r + 1))) from ofX_n hav] at hP hD
          have hP : va_P D vwCl (wC cy h S (va_up (va_up (va_up J 13 (ofA S mk (clF (J 13) 32) (p * 4 + (r + 1)))) 12 (fun _ => nI (ofB S mk (p * 4 + r)))) 14 (ofK S mk (J 14) (p * 4 + (r + 1))))) H := hP
          have hD : va_D A (wC cy h S (va_up (va_up (va_up J 13 (ofA S mk (clF (J 13) 32) (p * 4 + (r + 1)))) 12 (fun _ => nI (ofB S mk (p * 4 + r)))) 14 (ofK S mk (J 14) (p * 4 + (r + 1))))) := hD
          rw [show ((fun _ => nI (ofB S mk (p * 4 + r)) : Nat → Int32)) = ((fun _ => nI (ofB S mk (p * 4 + (r + 1))) : Nat → Int32)) from by rw [ofB_n hav]; rfl] at hP hD
          have hP : va_P D vwCl (wC cy h S (va_up (va_up (va_up J 13 (ofA S mk (clF (J 13) 32) (p * 4 + (r + 1)))) 12 (fun _ => nI (ofB S mk (p * 4 + (r + 1))))) 14 (ofK S mk (J 14) (p * 4 + (r + 1))))) H := hP
          have hD : va_D A (wC cy h S (va_up (va_up (va_up J 13 (ofA S mk (clF (J 13) 32) (p * 4 + (r + 1)))) 12 (fun _ => nI (ofB S mk (p * 4 + (r + 1))))) 14 (ofK S mk (J 14) (p * 4 + (r + 1))))) := hD
          exact ih_19 (r + 1) (by omega) (by omega) _ _ hP hD hS _ (lv_sub hl [2, 3, 4, 0] rfl)
        · refine lv_aload_n hx hb dX6_offerActors_52 rfl (lv_at hl 1 rfl) ?_
          refine va_get (D := D) (ci := 6) (v := .ref (h 8)) (C := RX6) (T := TX6) (N := 8) hx hb hts iX6 hown hK hP 0 rfl rfl 2 (by decide) f_26 (fun _ h9 => h9) rfl dX6_offerActors_53 ?_
          refine lv_iload_n hx hb dX6_offerActors_56 rfl (lv_at hl 3 rfl) ?_
          refine lv_aload_n hx hb dX6_offerActors_57 rfl (lv_at hl 1 rfl) ?_
          refine va_get (D := D) (ci := 6) (v := .ref (h 1)) (C := RX6) (T := TX6) (N := 8) hx hb hts iX6 hown hK hP 0 rfl rfl 0 (by decide) f_10 (fun _ h9 => h9) rfl dX6_offerActors_58 ?_
          refine va_get (D := D) (ci := 4) (v := .ref (h 2)) (C := RX4) (T := TX4) (N := 3) hx hb hts iX4 hown hK hP 1 rfl rfl 0 (by decide) f_72 (fun _ h9 => h9) rfl dX6_offerActors_61 ?_
          refine lv_iload hx hb dX6_offerActors_64 (lv_at hl 0 rfl) ?_
          refine cd_iald (f := S 2) hx hb hK hP 2 rfl (by omega) (by decide) dX6_offerActors_66 ?_
          have M_67 := c_X5_lowestFitting l D cy h S hI p ((S 2) (nv (S 6 (p * 4 + r))))
          have hPc := hP.sub (ws' := (wX5 cy h S)) [8, 9, 10, 11] rfl
          refine cd_roi (va_runV (As := [.int (nI p), .int ((S 2) (nv (S 6 (p * 4 + r))))]) (rest := []) ⟨hx, hb, hml, hown, hts⟩ M_67 (cwV 2 hts gX6_offerActors_X5_lowestFitting rfl rfl rfl (by decide +kernel) ⟨Nat.le_of_ble_eq_true rfl, Nat.le_of_ble_eq_true rfl⟩) ⟨roB.bl, va_recv hK hP (ci := 5) (q0 := 8) rfl rfl, fun U hU hW => ⟨rfl, by rw [hU]; exact hPc, hG.warm hW⟩⟩ rfl rfl hl.1 rfl (lv_room (Nat.le_of_ble_eq_true rfl)) dX6_offerActors_67 (by exact ⟨Nat.zero_le _, Nat.zero_le _⟩)) (fun r_67 hr_67 => ?_)
          subst hr_67
          refine lv_iconst (v := (-1)) hx hb dX6_offerActors_70 (by decide) ?_
          refine lv_icmp_ne (tgt := 78) hx hb dX6_offerActors_71 (by decide) (fun c_71 => ?_) (fun c_71 => ?_)
          · refine lv_iconst (v := nI 0) hx hb dX6_offerActors_78 (by decide) ?_
            refine lv_istore (lv' := [(5, .int (nI 0)), (4, .int (nI (nv (S 6 (p * 4 + r))))), (0, .ref (h 0)), (1, .int (nI mk)), (2, .int (nI p)), (3, .int (nI r))]) hx hb dX6_offerActors_79 hl (by decide) rfl (fun ls hl => ?_)
            refine lv_aload_n hx hb dX6_offerActors_81 rfl (lv_at hl 2 rfl) ?_
            refine va_get (D := D) (ci := 6) (v := .ref (h 12)) (C := RX6) (T := TX6) (N := 8) hx hb hts iX6 hown hK hP 0 rfl rfl 3 (by decide) f_33 (fun _ h9 => h9) rfl dX6_offerActors_82 ?_
            refine lv_iload_n hx hb dX6_offerActors_85 rfl (lv_at hl 4 rfl) ?_
            refine lv_iload_n hx hb dX6_offerActors_86 rfl (lv_at hl 5 rfl) ?_
            refine lv_iload hx hb dX6_offerActors_87 (lv_at hl 1 rfl) ?_
            refine lv_iload hx hb dX6_offerActors_89 (lv_at hl 0 rfl) ?_
            refine cd_if_eq (tgt := 98) hx hb dX6_offerActors_91 (by decide) (by omega) (fun c_91 => ?_) (fun c_91 => ?_)
            · refine lv_iconst (v := nI 0) hx hb dX6_offerActors_98 (by decide) ?_
              have M_99 := c_X1_offer l D cy h (va_up (va_up (va_up J 13 (ofA S mk (clF (J 13) 32) (p * 4 + r))) 12 (fun _ => nI (ofB S mk (p * 4 + r)))) 14 (ofK S mk (J 14) (p * 4 + r))) p r (nv (S 6 (p * 4 + r))) 0 (ofB S mk (p * 4 + r)) (by omega) (by omega) hac3 (by decide) rfl (ofB_le hI mk _ (by omega)) H.size
              have hPc := hP.sub (ws' := (wX1 cy h (va_up (va_up (va_up J 13 (ofA S mk (clF (J 13) 32) (p * 4 + r))) 12 (fun _ => nI (ofB S mk (p * 4 + r)))) 14 (ofK S mk (J 14) (p * 4 + r))))) [12, 13, 14, 15] rfl
              have hDc := hD.sub (ws' := (wX1 cy h (va_up (va_up (va_up J 13 (ofA S mk (clF (J 13) 32) (p * 4 + r))) 12 (fun _ => nI (ofB S mk (p * 4 + r)))) 14 (ofK S mk (J 14) (p * 4 + r))))) [12, 13, 14, 15] (by decide) rfl
              refine cd_frv (S := Unit) (W1 := fun u => (wX1 cy h (va_up (va_up (va_up (va_up (va_up (va_up J 13 (ofA S mk (clF (J 13) 32) (p * 4 + r))) 12 (fun _ => nI (ofB S mk (p * 4 + r)))) 14 (ofK S mk (J 14) (p * 4 + r))) 13 (upd ((va_up (va_up (va_up J 13 (ofA S mk (clF (J 13) 32) (p * 4 + r))) 12 (fun _ => nI (ofB S mk (p * 4 + r)))) 14 (ofK S mk (J 14) (p * 4 + r))) 13) (p * 4 + r) (nI (nv (S 6 (p * 4 + r)))))) 14 (upd ((va_up (va_up (va_up J 13 (ofA S mk (clF (J 13) 32) (p * 4 + r))) 12 (fun _ => nI (ofB S mk (p * 4 + r)))) 14 (ofK S mk (J 14) (p * 4 + r))) 14) (p * 4 + r) (nI (r * 2 ^ 20 + 0 * 2 ^ 16 + r * 2 ^ ((7 - p) * 2))))) 12 (fun _ => nI (max (ofB S mk (p * 4 + r)) (2 * 2 ^ (nv (S 6 (p * 4 + r))))))))) (ws' := fun u => (wC cy h S (va_up (va_up (va_up J 13 (upd ((ofA S mk (clF (J 13) 32) (p * 4 + r))) (p * 4 + r) (nI (nv (S 6 (p * 4 + r)))))) 12 (fun _ => nI (max (ofB S mk (p * 4 + r)) (2 * 2 ^ (nv (S 6 (p * 4 + r))))))) 14 (upd ((ofK S mk (J 14) (p * 4 + r))) (p * 4 + r) (nI (r * 2 ^ 20 + 0 * 2 ^ 16 + r * 2 ^ ((7 - p) * 2))))))) (wc := (wX1 cy h (va_up (va_up (va_up J 13 (ofA S mk (clF (J 13) 32) (p * 4 + r))) 12 (fun _ => nI (ofB S mk (p * 4 + r)))) 14 (ofK S mk (J 14) (p * 4 + r))))) (wr := [(h 0, .inr (6, [.ref (h 1), .ref (h 5), .ref (h 8), .ref (h 12), .ref (h 16), .ref (h 20), .int (S 27 0), .int (S 28 0)])), (h 1, .inr (4, [.ref (h 2), .ref (h 3), .ref (h 4)])), (h 2, aI cy 12 (S 2)), (h 3, aI cy 12 (S 3)), (h 4, aI cy 1001 (S 4)), (h 5, .inr (3, [.ref (h 6), .ref (h 7)])), (h 6, aI cy 32 (S 6)), (h 7, aI cy 8 (S 7)), (h 8, .inr (5, [.ref (h 9), .ref (h 10), .ref (h 11), .int (S 29 0)])), (h 9, aI cy 40 (S 9)), (h 10, aI cy 40 (S 10)), (h 11, aZ cy 40 (S 11)), (h 16, .inr (2, [.ref (h 17), .ref (h 18), .ref (h 19), .int (S 30 0)])), (h 17, aI cy 40 (S 17)), (h 18, aI cy 320 (S 18)), (h 19, aI cy 40 (S 19)), (h 20, .inr (0, [.ref (h 21), .ref (h 22), .ref (h 23), .ref (h 24), .ref (h 25), .ref (h 26), .int (S 31 0), .int (S 32 0)])), (h 21, aI cy 100 (S 21)), (h 22, aI cy 100 (S 22)), (h 23, aI cy 100 (S 23)), (h 24, aI cy 100 (S 24)), (h 25, aI cy 100 (S 25)), (h 26, aI cy 100 (S 26))]) (va_runV (As := [.int (nI p), .int (nI r), .int (nI (nv (S 6 (p * 4 + r)))), .int (nI 0)]) (rest := []) ⟨hx, hb, hml, hown, hts⟩ M_99 (cwV 4 hts gX6_offerActors_X1_offer rfl rfl rfl (by decide +kernel) ⟨Nat.le_of_ble_eq_true rfl, Nat.le_of_ble_eq_true rfl⟩) ⟨wrB.bl, va_recv hK hP (ci := 1) (q0 := 12) rfl rfl, fun U hU hW => ⟨rfl, by rw [hU], by rw [hU]; exact hPc, hG.warm hW, hDc.weaken (fun _ _ _ _ => trivial)⟩⟩ rfl rfl hl.1 rfl (lv_room (Nat.le_of_ble_eq_true rfl)) dX6_offerActors_99 (by exact ⟨Nat.zero_le _, Nat.zero_le _⟩)) hP hD hS hA [12, 13, 14, 15] [0, 1, 2, 3, 4, 5, 6, 7, 8, 9, 10, 11, 16, 17, 18, 19, 20, 21, 22, 23, 24, 25, 26] [0, 1, 2, 3, 4, 5, 6, 7, 8, 9, 10, 11, 23, 24, 25, 26, 12, 13, 14, 15, 16, 17, 18, 19, 20, 21, 22] rfl rfl (by decide) (by decide) (by decide) (fun _ => rfl) (fun _ H locs hw_99 hP hD hS => ?_)
              have hP : va_P D vwCl (wC cy h S (va_up (va_up (va_up J 13 (upd ((ofA S mk (clF (J 13) 32) (p * 4 + r))) (p * 4 + r) (nI (nv (S 6 (p * 4 + r)))))) 12 (fun _ => nI (max (ofB S mk (p * 4 + r)) (2 * 2 ^ (nv (S 6 (p * 4 + r))))))) 14 (upd ((ofK S mk (J 14) (p * 4 + r))) (p * 4 + r) (nI (r * 2 ^ 20 + 0 * 2 ^ 16 + r * 2 ^ ((7 - p) * 2)))))) H := hP
              have hD : va_D A (wC cy h S (va_up (va_up (va_up J 13 (upd ((ofA S mk (clF (J 13) 32) (p * 4 + r))) (p * 4 + r) (nI (nv (S 6 (p * 4 + r)))))) 12 (fun _ => nI (max (ofB S mk (p * 4 + r)) (2 * 2 ^ (nv (S 6 (p * 4 + r))))))) 14 (upd ((ofK S mk (J 14) (p * 4 + r))) (p * 4 + r) (nI (r * 2 ^ 20 + 0 * 2 ^ 16 + r * 2 ^ ((7 - p) * 2)))))) := hD
              refine lv_iinc (v := nI (r + 1)) (lv' := [(3, .int (nI (r + 1))), (5, .int (nI 0)), (4, .int (nI (nv (S 6 (p * 4 + r))))), (0, .ref (h 0)), (1, .int (nI mk)), (2, .int (nI p))]) hx hb dX6_offerActors_102 hl (k := 5) rfl (cd_i1 _) (by decide) rfl (fun ls hl => ?_)
              refine lv_goto (tgt := 19) hx hb dX6_offerActors_105 (by decide) ?_
              have hav : avB S mk (p * 4 + r) = true := by rw [avB_at (by omega), decide_eq_true hac.1, c_49]; rfl
              rw [show (upd ((ofA S mk (clF (J 13) 32) (p * 4 + r))) (p * 4 + r) (nI (nv (S 6 (p * 4 + r))))) = (ofA S mk (clF (J 13) 32) (p * 4 + (r + 1))) from ofX_w hav] at hP hD
              have hP : va_P D vwCl (wC cy h S (va_up (va_up (va_up J 13 (ofA S mk (clF (J 13) 32) (p * 4 + (r + 1)))) 12 (fun _ => nI (max (ofB S mk (p * 4 + r)) (2 * 2 ^ (nv (S 6 (p * 4 + r))))))) 14 (upd ((ofK S mk (J 14) (p * 4 + r))) (p * 4 + r) (nI (r * 2 ^ 20 + 0 * 2 ^ 16 + r * 2 ^ ((7 - p) * 2)))))) H := hP
              have hD : va_D A (wC cy h S (va_up (va_up (va_up J 13 (ofA S mk (clF (J 13) 32) (p * 4 + (r + 1)))) 12 (fun _ => nI (max (ofB S mk (p * 4 + r)) (2 * 2 ^ (nv (S 6 (p * 4 + r))))))) 14 (upd ((ofK S mk (J 14) (p * 4 + r))) (p * 4 + r) (nI (r * 2 ^ 20 + 0 * 2 ^ 16 + r * 2 ^ ((7 - p) * 2)))))) := hD
              have hwk : wk S (p * 4 + r) = 0 := by unfold wk; rw [(i4 (by omega)).2, ft_t c_71]; rfl
              have hky : r * 2 ^ 20 + 0 * 2 ^ 16 + r * 2 ^ ((7 - p) * 2) = ky S (p * 4 + r) := by unfold ky; rw [hwk, (i4 (by omega)).1, (i4 (by omega)).2]
              rw [hky] at hP hD
              have hP : va_P D vwCl (wC cy h S (va_up (va_up (va_up J 13 (ofA S mk (clF (J 13) 32) (p * 4 + (r + 1)))) 12 (fun _ => nI (max (ofB S mk (p * 4 + r)) (2 * 2 ^ (nv (S 6 (p * 4 + r))))))) 14 (upd (ofK S mk (J 14) (p * 4 + r)) (p * 4 + r) (nI (ky S (p * 4 + r)))))) H := hP
              have hD : va_D A (wC cy h S (va_up (va_up (va_up J 13 (ofA S mk (clF (J 13) 32) (p * 4 + (r + 1)))) 12 (fun _ => nI (max (ofB S mk (p * 4 + r)) (2 * 2 ^ (nv (S 6 (p * 4 + r))))))) 14 (upd (ofK S mk (J 14) (p * 4 + r)) (p * 4 + r) (nI (ky S (p * 4 + r)))))) := hD
              rw [show (upd (ofK S mk (J 14) (p * 4 + r)) (p * 4 + r) (nI (ky S (p * 4 + r)))) = (ofK S mk (J 14) (p * 4 + (r + 1))) from ofX_w hav] at hP hD
              have hP : va_P D vwCl (wC cy h S (va_up (va_up (va_up J 13 (ofA S mk (clF (J 13) 32) (p * 4 + (r + 1)))) 12 (fun _ => nI (max (ofB S mk (p * 4 + r)) (2 * 2 ^ (nv (S 6 (p * 4 + r))))))) 14 (ofK S mk (J 14) (p * 4 + (r + 1))))) H := hP
              have hD : va_D A (wC cy h S (va_up (va_up (va_up J 13 (ofA S mk (clF (J 13) 32) (p * 4 + (r + 1)))) 12 (fun _ => nI (max (ofB S mk (p * 4 + r)) (2 * 2 ^ (nv (S 6 (p * 4 + r))))))) 14 (ofK S mk (J 14) (p * 4 + (r + 1))))) := hD
              rw [show ((fun _ => nI (max (ofB S mk (p * 4 + r)) (2 * 2 ^ (nv (S 6 (p * 4 + r))))) : Nat → Int32)) = ((fun _ => nI (ofB S mk (p * 4 + (r + 1))) : Nat → Int32)) from by rw [ofB_w hav]; rfl] at hP hD
              have hP : va_P D vwCl (wC cy h S (va_up (va_up (va_up J 13 (ofA S mk (clF (J 13) 32) (p * 4 + (r + 1)))) 12 (fun _ => nI (ofB S mk (p * 4 + (r + 1))))) 14 (ofK S mk (J 14) (p * 4 + (r + 1))))) H := hP
              have hD : va_D A (wC cy h S (va_up (va_up (va_up J 13 (ofA S mk (clF (J 13) 32) (p * 4 + (r + 1)))) 12 (fun _ => nI (ofB S mk (p * 4 + (r + 1))))) 14 (ofK S mk (J 14) (p * 4 + (r + 1))))) := hD
              exact ih_19 (r + 1) (by omega) (by omega) _ _ hP hD hS _ (lv_sub hl [3, 4, 5, 0] rfl)
            · exact absurd c_91 (by decide)
          · refine lv_iconst (v := nI 1) hx hb dX6_offerActors_74 (by decide) ?_
            refine lv_goto (tgt := 79) hx hb dX6_offerActors_75 (by decide) ?_
            refine lv_istore (lv' := [(5, .int (nI 1)), (4, .int (nI (nv (S 6 (p * 4 + r))))), (0, .ref (h 0)), (1, .int (nI mk)), (2, .int (nI p)), (3, .int (nI r))]) hx hb dX6_offerActors_79 hl (by decide) rfl (fun ls hl => ?_)
            refine lv_aload_n hx hb dX6_offerActors_81 rfl (lv_at hl 2 rfl) ?_
            refine va_get (D := D) (ci := 6) (v := .ref (h 12)) (C := RX6) (T := TX6) (N := 8) hx hb hts iX6 hown hK hP 0 rfl rfl 3 (by decide) f_33 (fun _ h9 => h9) rfl dX6_offerActors_82 ?_
            refine lv_iload_n hx hb dX6_offerActors_85 rfl (lv_at hl 4 rfl) ?_
            refine lv_iload_n hx hb dX6_offerActors_86 rfl (lv_at hl 5 rfl) ?_
            refine lv_iload hx hb dX6_offerActors_87 (lv_at hl 1 rfl) ?_
            refine lv_iload hx hb dX6_offerActors_89 (lv_at hl 0 rfl) ?_
            refine cd_if_eq (tgt := 98) hx hb dX6_offerActors_91 (by decide) (by omega) (fun c_91 => ?_) (fun c_91 => ?_)
            · exact absurd c_91 (by decide)
            · refine lv_iconst (v := nI 1) hx hb dX6_offerActors_94 (by decide) ?_
              refine lv_goto (tgt := 99) hx hb dX6_offerActors_95 (by decide) ?_
              have M_99 := c_X1_offer l D cy h (va_up (va_up (va_up J 13 (ofA S mk (clF (J 13) 32) (p * 4 + r))) 12 (fun _ => nI (ofB S mk (p * 4 + r)))) 14 (ofK S mk (J 14) (p * 4 + r))) p r (nv (S 6 (p * 4 + r))) 1 (ofB S mk (p * 4 + r)) (by omega) (by omega) hac3 (by decide) rfl (ofB_le hI mk _ (by omega)) H.size
              have hPc := hP.sub (ws' := (wX1 cy h (va_up (va_up (va_up J 13 (ofA S mk (clF (J 13) 32) (p * 4 + r))) 12 (fun _ => nI (ofB S mk (p * 4 + r)))) 14 (ofK S mk (J 14) (p * 4 + r))))) [12, 13, 14, 15] rfl
              have hDc := hD.sub (ws' := (wX1 cy h (va_up (va_up (va_up J 13 (ofA S mk (clF (J 13) 32) (p * 4 + r))) 12 (fun _ => nI (ofB S mk (p * 4 + r)))) 14 (ofK S mk (J 14) (p * 4 + r))))) [12, 13, 14, 15] (by decide) rfl
              refine cd_frv (S := Unit) (W1 := fun u => (wX1 cy h (va_up (va_up (va_up (va_up (va_up (va_up J 13 (ofA S mk (clF (J 13) 32) (p * 4 + r))) 12 (fun _ => nI (ofB S mk (p * 4 + r)))) 14 (ofK S mk (J 14) (p * 4 + r))) 13 (upd ((va_up (va_up (va_up J 13 (ofA S mk (clF (J 13) 32) (p * 4 + r))) 12 (fun _ => nI (ofB S mk (p * 4 + r)))) 14 (ofK S mk (J 14) (p * 4 + r))) 13) (p * 4 + r) (nI (nv (S 6 (p * 4 + r)))))) 14 (upd ((va_up (va_up (va_up J 13 (ofA S mk (clF (J 13) 32) (p * 4 + r))) 12 (fun _ => nI (ofB S mk (p * 4 + r)))) 14 (ofK S mk (J 14) (p * 4 + r))) 14) (p * 4 + r) (nI (r * 2 ^ 20 + 1 * 2 ^ 16 + r * 2 ^ ((7 - p) * 2))))) 12 (fun _ => nI (max (ofB S mk (p * 4 + r)) (2 * 2 ^ (nv (S 6 (p * 4 + r))))))))) (ws' := fun u => (wC cy h S (va_up (va_up (va_up J 13 (upd ((ofA S mk (clF (J 13) 32) (p * 4 + r))) (p * 4 + r) (nI (nv (S 6 (p * 4 + r)))))) 12 (fun _ => nI (max (ofB S mk (p * 4 + r)) (2 * 2 ^ (nv (S 6 (p * 4 + r))))))) 14 (upd ((ofK S mk (J 14) (p * 4 + r))) (p * 4 + r) (nI (r * 2 ^ 20 + 1 * 2 ^ 16 + r * 2 ^ ((7 - p) * 2))))))) (wc := (wX1 cy h (va_up (va_up (va_up J 13 (ofA S mk (clF (J 13) 32) (p * 4 + r))) 12 (fun _ => nI (ofB S mk (p * 4 + r)))) 14 (ofK S mk (J 14) (p * 4 + r))))) (wr := [(h 0, .inr (6, [.ref (h 1), .ref (h 5), .ref (h 8), .ref (h 12), .ref (h 16), .ref (h 20), .int (S 27 0), .int (S 28 0)])), (h 1, .inr (4, [.ref (h 2), .ref (h 3), .ref (h 4)])), (h 2, aI cy 12 (S 2)), (h 3, aI cy 12 (S 3)), (h 4, aI cy 1001 (S 4)), (h 5, .inr (3, [.ref (h 6), .ref (h 7)])), (h 6, aI cy 32 (S 6)), (h 7, aI cy 8 (S 7)), (h 8, .inr (5, [.ref (h 9), .ref (h 10), .ref (h 11), .int (S 29 0)])), (h 9, aI cy 40 (S 9)), (h 10, aI cy 40 (S 10)), (h 11, aZ cy 40 (S 11)), (h 16, .inr (2, [.ref (h 17), .ref (h 18), .ref (h 19), .int (S 30 0)])), (h 17, aI cy 40 (S 17)), (h 18, aI cy 320 (S 18)), (h 19, aI cy 40 (S 19)), (h 20, .inr (0, [.ref (h 21), .ref (h 22), .ref (h 23), .ref (h 24), .ref (h 25), .ref (h 26), .int (S 31 0), .int (S 32 0)])), (h 21, aI cy 100 (S 21)), (h 22, aI cy 100 (S 22)), (h 23, aI cy 100 (S 23)), (h 24, aI cy 100 (S 24)), (h 25, aI cy 100 (S 25)), (h 26, aI cy 100 (S 26))]) (va_runV (As := [.int (nI p), .int (nI r), .int (nI (nv (S 6 (p * 4 + r)))), .int (nI 1)]) (rest := []) ⟨hx, hb, hml, hown, hts⟩ M_99 (cwV 4 hts gX6_offerActors_X1_offer rfl rfl rfl (by decide +kernel) ⟨Nat.le_of_ble_eq_true rfl, Nat.le_of_ble_eq_true rfl⟩) ⟨wrB.bl, va_recv hK hP (ci := 1) (q0 := 12) rfl rfl, fun U hU hW => ⟨rfl, by rw [hU], by rw [hU]; exact hPc, hG.warm hW, hDc.weaken (fun _ _ _ _ => trivial)⟩⟩ rfl rfl hl.1 rfl (lv_room (Nat.le_of_ble_eq_true rfl)) dX6_offerActors_99 (by exact ⟨Nat.zero_le _, Nat.zero_le _⟩)) hP hD hS hA [12, 13, 14, 15] [0, 1, 2, 3, 4, 5, 6, 7, 8, 9, 10, 11, 16, 17, 18, 19, 20, 21, 22, 23, 24, 25, 26] [0, 1, 2, 3, 4, 5, 6, 7, 8, 9, 10, 11, 23, 24, 25, 26, 12, 13, 14, 15, 16, 17, 18, 19, 20, 21, 22] rfl rfl (by decide) (by decide) (by decide) (fun _ => rfl) (fun _ H locs hw_99 hP hD hS => ?_)
              have hP : va_P D vwCl (wC cy h S (va_up (va_up (va_up J 13 (upd ((ofA S mk (clF (J 13) 32) (p * 4 + r))) (p * 4 + r) (nI (nv (S 6 (p * 4 + r)))))) 12 (fun _ => nI (max (ofB S mk (p * 4 + r)) (2 * 2 ^ (nv (S 6 (p * 4 + r))))))) 14 (upd ((ofK S mk (J 14) (p * 4 + r))) (p * 4 + r) (nI (r * 2 ^ 20 + 1 * 2 ^ 16 + r * 2 ^ ((7 - p) * 2)))))) H := hP
              have hD : va_D A (wC cy h S (va_up (va_up (va_up J 13 (upd ((ofA S mk (clF (J 13) 32) (p * 4 + r))) (p * 4 + r) (nI (nv (S 6 (p * 4 + r)))))) 12 (fun _ => nI (max (ofB S mk (p * 4 + r)) (2 * 2 ^ (nv (S 6 (p * 4 + r))))))) 14 (upd ((ofK S mk (J 14) (p * 4 + r))) (p * 4 + r) (nI (r * 2 ^ 20 + 1 * 2 ^ 16 + r * 2 ^ ((7 - p) * 2)))))) := hD
              refine lv_iinc (v := nI (r + 1)) (lv' := [(3, .int (nI (r + 1))), (5, .int (nI 1)), (4, .int (nI (nv (S 6 (p * 4 + r))))), (0, .ref (h 0)), (1, .int (nI mk)), (2, .int (nI p))]) hx hb dX6_offerActors_102 hl (k := 5) rfl (cd_i1 _) (by decide) rfl (fun ls hl => ?_)
              refine lv_goto (tgt := 19) hx hb dX6_offerActors_105 (by decide) ?_
              have hav : avB S mk (p * 4 + r) = true := by rw [avB_at (by omega), decide_eq_true hac.1, c_49]; rfl
              rw [show (upd ((ofA S mk (clF (J 13) 32) (p * 4 + r))) (p * 4 + r) (nI (nv (S 6 (p * 4 + r))))) = (ofA S mk (clF (J 13) 32) (p * 4 + (r + 1))) from ofX_w hav] at hP hD
              have hP : va_P D vwCl (wC cy h S (va_up (va_up (va_up J 13 (ofA S mk (clF (J 13) 32) (p * 4 + (r + 1)))) 12 (fun _ => nI (max (ofB S mk (p * 4 + r)) (2 * 2 ^ (nv (S 6 (p * 4 + r))))))) 14 (upd ((ofK S mk (J 14) (p * 4 + r))) (p * 4 + r) (nI (r * 2 ^ 20 + 1 * 2 ^ 16 + r * 2 ^ ((7 - p) * 2)))))) H := hP
              have hD : va_D A (wC cy h S (va_up (va_up (va_up J 13 (ofA S mk (clF (J 13) 32) (p * 4 + (r + 1)))) 12 (fun _ => nI (max (ofB S mk (p * 4 + r)) (2 * 2 ^ (nv (S 6 (p * 4 + r))))))) 14 (upd ((ofK S mk (J 14) (p * 4 + r))) (p * 4 + r) (nI (r * 2 ^ 20 + 1 * 2 ^ 16 + r * 2 ^ ((7 - p) * 2)))))) := hD
              have hwk : wk S (p * 4 + r) = 1 := by unfold wk; rw [(i4 (by omega)).2, ft_f c_71]; rfl
              have hky : r * 2 ^ 20 + 1 * 2 ^ 16 + r * 2 ^ ((7 - p) * 2) = ky S (p * 4 + r) := by unfold ky; rw [hwk, (i4 (by omega)).1, (i4 (by omega)).2]
              rw [hky] at hP hD
              have hP : va_P D vwCl (wC cy h S (va_up (va_up (va_up J 13 (ofA S mk (clF (J 13) 32) (p * 4 + (r + 1)))) 12 (fun _ => nI (max (ofB S mk (p * 4 + r)) (2 * 2 ^ (nv (S 6 (p * 4 + r))))))) 14 (upd (ofK S mk (J 14) (p * 4 + r)) (p * 4 + r) (nI (ky S (p * 4 + r)))))) H := hP
              have hD : va_D A (wC cy h S (va_up (va_up (va_up J 13 (ofA S mk (clF (J 13) 32) (p * 4 + (r + 1)))) 12 (fun _ => nI (max (ofB S mk (p * 4 + r)) (2 * 2 ^ (nv (S 6 (p * 4 + r))))))) 14 (upd (ofK S mk (J 14) (p * 4 + r)) (p * 4 + r) (nI (ky S (p * 4 + r)))))) := hD
              rw [show (upd (ofK S mk (J 14) (p * 4 + r)) (p * 4 + r) (nI (ky S (p * 4 + r)))) = (ofK S mk (J 14) (p * 4 + (r + 1))) from ofX_w hav] at hP hD
              have hP : va_P D vwCl (wC cy h S (va_up (va_up (va_up J 13 (ofA S mk (clF (J 13) 32) (p * 4 + (r + 1)))) 12 (fun _ => nI (max (ofB S mk (p * 4 + r)) (2 * 2 ^ (nv (S 6 (p * 4 + r))))))) 14 (ofK S mk (J 14) (p * 4 + (r + 1))))) H := hP
              have hD : va_D A (wC cy h S (va_up (va_up (va_up J 13 (ofA S mk (clF (J 13) 32) (p * 4 + (r + 1)))) 12 (fun _ => nI (max (ofB S mk (p * 4 + r)) (2 * 2 ^ (nv (S 6 (p * 4 + r))))))) 14 (ofK S mk (J 14) (p * 4 + (r + 1))))) := hD
              rw [show ((fun _ => nI (max (ofB S mk (p * 4 + r)) (2 * 2 ^ (nv (S 6 (p * 4 + r))))) : Nat → Int32)) = ((fun _ => nI (ofB S mk (p * 4 + (r + 1))) : Nat → Int32)) from by rw [ofB_w hav]; rfl] at hP hD
              have hP : va_P D vwCl (wC cy h S (va_up (va_up (va_up J 13 (ofA S mk (clF (J 13) 32) (p * 4 + (r + 1)))) 12 (fun _ => nI (ofB S mk (p * 4 + (r + 1))))) 14 (ofK S mk (J 14) (p * 4 + (r + 1))))) H := hP
              have hD : va_D A (wC cy h S (va_up (va_up (va_up J 13 (ofA S mk (clF (J 13) 32) (p * 4 + (r + 1)))) 12 (fun _ => nI (ofB S mk (p * 4 + (r + 1))))) 14 (ofK S mk (J 14) (p * 4 + (r + 1))))) := hD
              exact ih_19 (r + 1) (by omega) (by omega) _ _ hP hD hS _ (lv_sub hl [3, 4, 5, 0] rfl)
