set_option maxHeartbeats 4000000 in
set_option maxRecDepth 100000 in
theorem c_X6_refundSeats (l : Launch) (D : va_G) (cy : qT) (h : Nat → Nat) (S : qS) (J : qS) (hI : Inv S) (w : Nat) (x : Int32) (hxc : ¬ x = -1 → x = nI (nv x)) (sz : Nat) : Met l yX6_refundSeats wsX6_refundSeats ({ frames := 4, cells := 0, slots := 0, locals := 87 }) (va_Pc [.ref (h 0), .int (nI w), .int x] (wrB D cy (wC cy h S J) sz)) (va_Qi (fun (r9 : Int32) (u : Unit) => r9 = rfS S w x (nv (S 31 0))) (wrQ D (va_A (wC cy h S J) sz) (fun u : Unit => (wC cy h (va_up (va_up S 25 (rfF S w x (nv (S 31 0)))) 32 (fun _ => rfM S w x (nv (S 31 0)))) J))) (va_A (wC cy h S J) sz)) 0 0 (va_A (wC cy h S J) sz) := by
  refine Met.ofW (cc := cX6_refundSeats) (maxL := 6) (ret := (some .int)) (by decide) rfl ?_
  intro pp e9 s m9 args9 bl9 meth9 c9 s9 B hml hv
  obtain ⟨rfl, hsz, hP, hG, hD0⟩ := hv
  have hx := B.exec
  have hb := B.bytes
  have hr := B.returns
  have hts := atoms_spec (ws := wsX6_refundSeats) B.pre
  have hown : s.vm.findClass RX6 = some m9.cls := findClass_of_methodNamed B.named
  have hlocks := B.notSynchronized
  have hK := hG.K
  subst hsz
  have hD := hD0.self (sz := s.heap.size)
  generalize hAe : (va_A (wC cy h S J) s.heap.size) = A at hD ⊢
  have hA : ∀ q : Nat, s.heap.size ≤ q → A q := fun q h9 => by rw [← hAe]; exact Or.inr h9
  have hS : va_S A s.heap s.heap [] := va_S.rf
  have hP : va_P D vwCl (wC cy h S J) s.heap := hP
  have f_47 := hts (.fieldLink RX6 47 "CastDesk" "office" "LCastDesk$BoxOffice;") (by decide +kernel)
  have f_190 := hts (.fieldLink RX6 190 "CastDesk$BoxOffice" "count" "I") (by decide +kernel)
  have f_256 := hts (.fieldLink RX6 256 "CastDesk$BoxOffice" "shows" "[I") (by decide +kernel)
  have iX0 : ∀ w ∈ wsX00, w ∈ wsX6_refundSeats := by decide +kernel
  have iX6 : ∀ w ∈ wsX60, w ∈ wsX6_refundSeats := by decide +kernel
  have hl := lv_entry ([.ref (h 0), .int (nI w), .int x]) (n := 6) (Nat.le_of_ble_eq_true rfl)
  rw [lg_entry_eq]
  generalize (lg_sl ([.ref (h 0), .int (nI w), .int x]) ++ List.replicate (6 - (lg_sl ([.ref (h 0), .int (nI w), .int x])).length) Slot.unset).toArray = ls at hl ⊢
  have hl : lv_has ls 6 [(0, .ref (h 0)), (1, .int (nI w)), (2, .int x)] := hl
  have h31 := (iv_31 hI).2
  refine lv_iconst (v := nI 0) hx hb dX6_refundSeats_0 (by decide) ?_
  refine lv_istore_n (lv' := [(3, .int (nI 0)), (0, .ref (h 0)), (1, .int (nI w)), (2, .int x)]) hx hb dX6_refundSeats_1 rfl hl (by decide) rfl (fun ls hl => ?_)
  refine lv_iconst (v := nI 0) hx hb dX6_refundSeats_2 (by decide) ?_
  refine lv_istore (lv' := [(4, .int (nI 0)), (3, .int (nI 0)), (0, .ref (h 0)), (1, .int (nI w)), (2, .int x)]) hx hb dX6_refundSeats_3 hl (by decide) rfl (fun ls hl => ?_)
  refine wh1 (nL := 6) (fun (k : Nat) => k ≤ nv (S 31 0)) (fun (k : Nat) => nv (S 31 0) - k) (fun (k : Nat) => [(0, .ref (h 0)), (1, .int (nI w)), (2, .int x), (3, .int (rfS S w x k)), (4, .int (nI k))]) (fun (k : Nat) => (wC cy h (va_up (va_up S 25 (rfF S w x k)) 32 (fun _ => rfM S w x k)) J)) (fun k hi_5 ih_5 H locs hP hD hS ls hl => ?_) 0 (Nat.zero_le _) hP hD hS (lv_sub hl [2, 3, 4, 1, 0] rfl)
  have hP : va_P D vwCl (wC cy h (va_up (va_up S 25 (rfF S w x k)) 32 (fun _ => rfM S w x k)) J) H := hP
  have hD : va_D A (wC cy h (va_up (va_up S 25 (rfF S w x k)) 32 (fun _ => rfM S w x k)) J) := hD
  refine lv_iload hx hb dX6_refundSeats_5 (lv_at hl 4 rfl) ?_
  refine lv_aload_n hx hb dX6_refundSeats_7 rfl (lv_at hl 0 rfl) ?_
  refine va_get (D := D) (ci := 6) (v := .ref (h 20)) (C := RX6) (T := TX6) (N := 8) hx hb hts iX6 hown hK hP 0 rfl rfl 5 (by decide) f_47 (fun _ h9 => h9) rfl dX6_refundSeats_8 ?_
  refine va_get (D := D) (ci := 0) (v := .int (S 31 0)) (C := RX0) (T := TX0) (N := 8) hx hb hts iX0 hown hK hP 20 rfl rfl 6 (by decide) f_190 (fun _ h9 => h9) rfl dX6_refundSeats_11 ?_
  have b_11 := iv_31 hI
  refine cd_tp (y := nI (nv (S 31 0))) b_11.1 ?_
  have b_11 := b_11.2
  refine cd_icmp_ge (tgt := 69) hx hb dX6_refundSeats_14 (by decide) (by omega) (by omega) (fun c_14 => ?_) (fun c_14 => ?_)
  · have ek : k = nv (S 31 0) := by omega
    subst ek
    have hP : va_P D vwCl (wC cy h (va_up (va_up S 25 (rfF S w x (nv (S 31 0)))) 32 (fun _ => rfM S w x (nv (S 31 0)))) J) H := hP
    have hD : va_D A (wC cy h (va_up (va_up S 25 (rfF S w x (nv (S 31 0)))) 32 (fun _ => rfM S w x (nv (S 31 0)))) J) := hD
    refine lv_iload_n hx hb dX6_refundSeats_69 rfl (lv_at hl 3 rfl) ?_
    exact W.iret (v := rfS S w x (nv (S 31 0))) hx hb hr (fun t ht hW => ⟨⟨_, (), rfl, rfl, by rw [ht]; exact hP, hD⟩, hS.F ht⟩) hS.2.2 dX6_refundSeats_70
  · refine lv_aload_n hx hb dX6_refundSeats_17 rfl (lv_at hl 0 rfl) ?_
    refine va_get (D := D) (ci := 6) (v := .ref (h 20)) (C := RX6) (T := TX6) (N := 8) hx hb hts iX6 hown hK hP 0 rfl rfl 5 (by decide) f_47 (fun _ h9 => h9) rfl dX6_refundSeats_18 ?_
    refine va_get (D := D) (ci := 0) (v := .ref (h 21)) (C := RX0) (T := TX0) (N := 8) hx hb hts iX0 hown hK hP 20 rfl rfl 0 (by decide) f_256 (fun _ h9 => h9) rfl dX6_refundSeats_21 ?_
    refine lv_iload hx hb dX6_refundSeats_24 (lv_at hl 4 rfl) ?_
    refine cd_iald (f := S 21) hx hb hK hP 21 rfl (by omega) (by decide) dX6_refundSeats_26 ?_
    refine lv_iload_n hx hb dX6_refundSeats_27 rfl (lv_at hl 1 rfl) ?_
    refine lv_icmp_ne (tgt := 63) hx hb dX6_refundSeats_28 (by decide) (fun c_28 => ?_) (fun c_28 => ?_)
    · refine lv_iinc (v := nI (k + 1)) (lv' := [(4, .int (nI (k + 1))), (0, .ref (h 0)), (1, .int (nI w)), (2, .int x), (3, .int (rfS S w x k))]) hx hb dX6_refundSeats_63 hl (k := 4) rfl (cd_i1 _) (by decide) rfl (fun ls hl => ?_)
      refine lv_goto (tgt := 5) hx hb dX6_refundSeats_66 (by decide) ?_
      rw [show (rfF S w x k) = (rfF S w x (k + 1)) from (rf_n c_28).1] at hP hD
      have hP : va_P D vwCl (wC cy h (va_up (va_up S 25 (rfF S w x (k + 1))) 32 (fun _ => rfM S w x k)) J) H := hP
      have hD : va_D A (wC cy h (va_up (va_up S 25 (rfF S w x (k + 1))) 32 (fun _ => rfM S w x k)) J) := hD
      rw [show ((fun _ => rfM S w x k : Nat → Int32)) = ((fun _ => rfM S w x (k + 1) : Nat → Int32)) from congrArg (fun (z : Int32) (_ : Nat) => z) (rf_n c_28).2.2] at hP hD
      have hP : va_P D vwCl (wC cy h (va_up (va_up S 25 (rfF S w x (k + 1))) 32 (fun _ => rfM S w x (k + 1))) J) H := hP
      have hD : va_D A (wC cy h (va_up (va_up S 25 (rfF S w x (k + 1))) 32 (fun _ => rfM S w x (k + 1))) J) := hD
      have hl : lv_has ls 6 [(4, .int (nI (k + 1))), (0, .ref (h 0)), (1, .int (nI w)), (2, .int x), (3, .int (rfS S w x (k + 1)))] := Eq.mp (congrArg (fun z9 : Int32 => lv_has ls 6 [(4, .int (nI (k + 1))), (0, .ref (h 0)), (1, .int (nI w)), (2, .int x), (3, .int z9)]) (show (rfS S w x k : Int32) = rfS S w x (k + 1) from (rf_n c_28).2.1)) hl
      exact ih_5 (k + 1) (by omega) (by omega) _ _ hP hD hS _ (lv_sub hl [1, 2, 3, 4, 0] rfl)
    · refine lv_iload_n hx hb dX6_refundSeats_31 rfl (lv_at hl 2 rfl) ?_
      refine lv_iconst (v := (-1)) hx hb dX6_refundSeats_32 (by decide) ?_
      refine lv_icmp_ne (tgt := 40) hx hb dX6_refundSeats_33 (by decide) (fun c_33 => ?_) (fun c_33 => ?_)
      · have hl : lv_has ls 6 [(0, .ref (h 0)), (1, .int (nI w)), (2, .int (nI (nv x))), (3, .int (rfS S w x k)), (4, .int (nI k))] := Eq.mp (congrArg (fun z9 : Int32 => lv_has ls 6 [(0, .ref (h 0)), (1, .int (nI w)), (2, .int z9), (3, .int (rfS S w x k)), (4, .int (nI k))]) (show (x : Int32) = nI (nv x) from hxc c_33)) hl
        refine lv_aload_n hx hb dX6_refundSeats_40 rfl (lv_at hl 0 rfl) ?_
        refine lv_iload hx hb dX6_refundSeats_41 (lv_at hl 4 rfl) ?_
        refine lv_iload_n hx hb dX6_refundSeats_43 rfl (lv_at hl 2 rfl) ?_
        have M_44 := c_X6_shareBack l D cy h (va_up (va_up S 25 (rfF S w x k)) 32 (fun _ => rfM S w x k)) J hI k (nv x) (show k < nv (S 31 0) by omega) (nv_lt x)
        refine cd_roi (va_runV (As := [.int (nI k), .int (nI (nv x))]) (rest := []) ⟨hx, hb, hml, hown, hts⟩ M_44 (cwV 2 hts gX6_refundSeats_X6_shareBack rfl rfl rfl (by decide +kernel) ⟨Nat.le_of_ble_eq_true rfl, Nat.le_of_ble_eq_true rfl⟩) ⟨roB.bl, va_recv hK hP (ci := 6) (q0 := 0) rfl rfl, fun U hU hW => ⟨rfl, by rw [hU]; exact hP, hG.warm hW⟩⟩ rfl rfl hl.1 rfl (lv_room (Nat.le_of_ble_eq_true rfl)) dX6_refundSeats_44 (by exact ⟨Nat.zero_le _, Nat.zero_le _⟩)) (fun r_44 hr_44 => ?_)
        subst hr_44
        refine lv_istore (lv' := [(5, .int (nI (shK (va_up (va_up S 25 (rfF S w x k)) 32 (fun _ => rfM S w x k)) k (nv x)))), (0, .ref (h 0)), (1, .int (nI w)), (2, .int (nI (nv x))), (3, .int (rfS S w x k)), (4, .int (nI k))]) hx hb dX6_refundSeats_47 hl (by decide) rfl (fun ls hl => ?_)
        have hl : lv_has ls 6 [(5, .int (nI (shR S x k))), (0, .ref (h 0)), (1, .int (nI w)), (2, .int (nI (nv x))), (3, .int (rfS S w x k)), (4, .int (nI k))] := Eq.mp (congrArg (fun z9 : Int32 => lv_has ls 6 [(5, .int z9), (0, .ref (h 0)), (1, .int (nI w)), (2, .int (nI (nv x))), (3, .int (rfS S w x k)), (4, .int (nI k))]) (show (nI (shK (va_up (va_up S 25 (rfF S w x k)) 32 (fun _ => rfM S w x k)) k (nv x)) : Int32) = nI (shR S x k) from by unfold shR; rw [if_neg c_33]; rfl)) hl
        refine lv_iload_n hx hb dX6_refundSeats_49 rfl (lv_at hl 4 rfl) ?_
        refine lv_aload_n hx hb dX6_refundSeats_50 rfl (lv_at hl 1 rfl) ?_
        refine va_get (D := D) (ci := 6) (v := .ref (h 20)) (C := RX6) (T := TX6) (N := 8) hx hb hts iX6 hown hK hP 0 rfl rfl 5 (by decide) f_47 (fun _ h9 => h9) rfl dX6_refundSeats_51 ?_
        refine lv_iload hx hb dX6_refundSeats_54 (lv_at hl 5 rfl) ?_
        refine lv_iload hx hb dX6_refundSeats_56 (lv_at hl 0 rfl) ?_
        have M_58 := c_X0_giveBack l D cy h (va_up (va_up S 25 (rfF S w x k)) 32 (fun _ => rfM S w x k)) hI k (shR S x k) (by omega) (by have := shR_le S x k; omega) H.size
        have hPc := hP.sub (ws' := (wX0 cy h (va_up (va_up S 25 (rfF S w x k)) 32 (fun _ => rfM S w x k)))) [20, 21, 22, 23, 24, 25, 26] rfl
        have hDc := hD.sub (ws' := (wX0 cy h (va_up (va_up S 25 (rfF S w x k)) 32 (fun _ => rfM S w x k)))) [20, 21, 22, 23, 24, 25, 26] (by decide) rfl
        refine cd_fri (S := Unit) (W1 := fun u => (wX0 cy h (va_up (va_up (va_up (va_up S 25 (rfF S w x k)) 32 (fun _ => rfM S w x k)) 25 (upd ((va_up (va_up S 25 (rfF S w x k)) 32 (fun _ => rfM S w x k)) 25) k (gbI (va_up (va_up S 25 (rfF S w x k)) 32 (fun _ => rfM S w x k)) k (shR S x k)))) 32 (fun _ => (va_up (va_up S 25 (rfF S w x k)) 32 (fun _ => rfM S w x k)) 32 0 - gbI (va_up (va_up S 25 (rfF S w x k)) 32 (fun _ => rfM S w x k)) k (shR S x k))))) (ws' := fun u => (wC cy h (va_up (va_up S 25 (upd ((rfF S w x k)) k (gbI (va_up (va_up S 25 (rfF S w x k)) 32 (fun _ => rfM S w x k)) k (shR S x k)))) 32 (fun _ => (rfM S w x k)  - gbI (va_up (va_up S 25 (rfF S w x k)) 32 (fun _ => rfM S w x k)) k (shR S x k))) J)) (wc := (wX0 cy h (va_up (va_up S 25 (rfF S w x k)) 32 (fun _ => rfM S w x k)))) (wr := [(h 0, .inr (6, [.ref (h 1), .ref (h 5), .ref (h 8), .ref (h 12), .ref (h 16), .ref (h 20), .int (S 27 0), .int (S 28 0)])), (h 1, .inr (4, [.ref (h 2), .ref (h 3), .ref (h 4)])), (h 2, aI cy 12 (S 2)), (h 3, aI cy 12 (S 3)), (h 4, aI cy 1001 (S 4)), (h 5, .inr (3, [.ref (h 6), .ref (h 7)])), (h 6, aI cy 32 (S 6)), (h 7, aI cy 8 (S 7)), (h 8, .inr (5, [.ref (h 9), .ref (h 10), .ref (h 11), .int (S 29 0)])), (h 9, aI cy 40 (S 9)), (h 10, aI cy 40 (S 10)), (h 11, aZ cy 40 (S 11)), (h 12, .inr (1, [.ref (h 13), .ref (h 14), .ref (h 15), .int (J 12 0)])), (h 13, aI cy 32 (J 13)), (h 14, aI cy 32 (J 14)), (h 15, aI cy 4096 (J 15)), (h 16, .inr (2, [.ref (h 17), .ref (h 18), .ref (h 19), .int (S 30 0)])), (h 17, aI cy 40 (S 17)), (h 18, aI cy 320 (S 18)), (h 19, aI cy 40 (S 19))]) (va_runV (As := [.int (nI k), .int (nI (shR S x k))]) (rest := [.int (rfS S w x k)]) ⟨hx, hb, hml, hown, hts⟩ M_58 (cwV 2 hts gX6_refundSeats_X0_giveBack rfl rfl rfl (by decide +kernel) ⟨Nat.le_of_ble_eq_true rfl, Nat.le_of_ble_eq_true rfl⟩) ⟨wrB.bl, va_recv hK hP (ci := 0) (q0 := 20) rfl rfl, fun U hU hW => ⟨rfl, by rw [hU], by rw [hU]; exact hPc, hG.warm hW, hDc.weaken (fun _ _ _ _ => trivial)⟩⟩ rfl rfl hl.1 rfl (lv_room (Nat.le_of_ble_eq_true rfl)) dX6_refundSeats_58 (by exact ⟨Nat.zero_le _, Nat.zero_le _⟩)) hP hD hS hA [20, 21, 22, 23, 24, 25, 26] [0, 1, 2, 3, 4, 5, 6, 7, 8, 9, 10, 11, 12, 13, 14, 15, 16, 17, 18, 19] [0, 1, 2, 3, 4, 5, 6, 7, 8, 9, 10, 11, 12, 13, 14, 15, 16, 17, 18, 19, 20, 21, 22, 23, 24, 25, 26] rfl rfl (by decide) (by decide) (by decide) (fun _ => rfl) (fun r_58 _ H locs hw_58 hP hD hS => ?_)
        subst hw_58
        have hP : va_P D vwCl (wC cy h (va_up (va_up S 25 (upd ((rfF S w x k)) k (gbI (va_up (va_up S 25 (rfF S w x k)) 32 (fun _ => rfM S w x k)) k (shR S x k)))) 32 (fun _ => (rfM S w x k)  - gbI (va_up (va_up S 25 (rfF S w x k)) 32 (fun _ => rfM S w x k)) k (shR S x k))) J) H := hP
        have hD : va_D A (wC cy h (va_up (va_up S 25 (upd ((rfF S w x k)) k (gbI (va_up (va_up S 25 (rfF S w x k)) 32 (fun _ => rfM S w x k)) k (shR S x k)))) 32 (fun _ => (rfM S w x k)  - gbI (va_up (va_up S 25 (rfF S w x k)) 32 (fun _ => rfM S w x k)) k (shR S x k))) J) := hD
        rw [show (upd ((rfF S w x k)) k (gbI (va_up (va_up S 25 (rfF S w x k)) 32 (fun _ => rfM S w x k)) k (shR S x k))) = (rfF S w x (k + 1)) from (rf_y c_28).1] at hP hD
        have hP : va_P D vwCl (wC cy h (va_up (va_up S 25 (rfF S w x (k + 1))) 32 (fun _ => (rfM S w x k)  - gbI (va_up (va_up S 25 (rfF S w x k)) 32 (fun _ => rfM S w x k)) k (shR S x k))) J) H := hP
        have hD : va_D A (wC cy h (va_up (va_up S 25 (rfF S w x (k + 1))) 32 (fun _ => (rfM S w x k)  - gbI (va_up (va_up S 25 (rfF S w x k)) 32 (fun _ => rfM S w x k)) k (shR S x k))) J) := hD
        rw [show ((fun _ => (rfM S w x k)  - gbI (va_up (va_up S 25 (rfF S w x k)) 32 (fun _ => rfM S w x k)) k (shR S x k) : Nat → Int32)) = ((fun _ => rfM S w x (k + 1) : Nat → Int32)) from congrArg (fun (z : Int32) (_ : Nat) => z) (rf_y c_28).2.2] at hP hD
        have hP : va_P D vwCl (wC cy h (va_up (va_up S 25 (rfF S w x (k + 1))) 32 (fun _ => rfM S w x (k + 1))) J) H := hP
        have hD : va_D A (wC cy h (va_up (va_up S 25 (rfF S w x (k + 1))) 32 (fun _ => rfM S w x (k + 1))) J) := hD
        refine lv_iadd hx hb dX6_refundSeats_61 ?_
        refine cd_tp (y := rfS S w x (k + 1)) ((rf_y c_28).2.1) ?_
        refine lv_istore_n (lv' := [(3, .int (rfS S w x (k + 1))), (5, .int (nI (shR S x k))), (0, .ref (h 0)), (1, .int (nI w)), (2, .int (nI (nv x))), (4, .int (nI k))]) hx hb dX6_refundSeats_62 rfl hl (by decide) rfl (fun ls hl => ?_)
        refine lv_iinc (v := nI (k + 1)) (lv' := [(4, .int (nI (k + 1))), (3, .int (rfS S w x (k + 1))), (5, .int (nI (shR S x k))), (0, .ref (h 0)), (1, .int (nI w)), (2, .int (nI (nv x)))]) hx hb dX6_refundSeats_63 hl (k := 5) rfl (cd_i1 _) (by decide) rfl (fun ls hl => ?_)
        refine lv_goto (tgt := 5) hx hb dX6_refundSeats_66 (by decide) ?_
        have hl : lv_has ls 6 [(4, .int (nI (k + 1))), (3, .int (rfS S w x (k + 1))), (5, .int (nI (shR S x k))), (0, .ref (h 0)), (1, .int (nI w)), (2, .int x)] := Eq.mp (congrArg (fun z9 : Int32 => lv_has ls 6 [(4, .int (nI (k + 1))), (3, .int (rfS S w x (k + 1))), (5, .int (nI (shR S x k))), (0, .ref (h 0)), (1, .int (nI w)), (2, .int z9)]) (show (nI (nv x) : Int32) = x from (hxc c_33).symm)) hl
        exact ih_5 (k + 1) (by omega) (by omega) _ _ hP hD hS _ (lv_sub hl [3, 4, 5, 1, 0] rfl)
      · refine lv_iconst (v := nI 1) hx hb dX6_refundSeats_36 (by decide) ?_
        refine lv_goto (tgt := 47) hx hb dX6_refundSeats_37 (by decide) ?_
        refine lv_istore (lv' := [(5, .int (nI 1)), (0, .ref (h 0)), (1, .int (nI w)), (2, .int x), (3, .int (rfS S w x k)), (4, .int (nI k))]) hx hb dX6_refundSeats_47 hl (by decide) rfl (fun ls hl => ?_)
        have hl : lv_has ls 6 [(5, .int (nI (shR S x k))), (0, .ref (h 0)), (1, .int (nI w)), (2, .int x), (3, .int (rfS S w x k)), (4, .int (nI k))] := Eq.mp (congrArg (fun z9 : Int32 => lv_has ls 6 [(5, .int z9), (0, .ref (h 0)), (1, .int (nI w)), (2, .int x), (3, .int (rfS S w x k)), (4, .int (nI k))]) (show (nI 1 : Int32) = nI (shR S x k) from by unfold shR; rw [if_pos c_33])) hl
        refine lv_iload_n hx hb dX6_refundSeats_49 rfl (lv_at hl 4 rfl) ?_
        refine lv_aload_n hx hb dX6_refundSeats_50 rfl (lv_at hl 1 rfl) ?_
        refine va_get (D := D) (ci := 6) (v := .ref (h 20)) (C := RX6) (T := TX6) (N := 8) hx hb hts iX6 hown hK hP 0 rfl rfl 5 (by decide) f_47 (fun _ h9 => h9) rfl dX6_refundSeats_51 ?_
        refine lv_iload hx hb dX6_refundSeats_54 (lv_at hl 5 rfl) ?_
        refine lv_iload hx hb dX6_refundSeats_56 (lv_at hl 0 rfl) ?_
        have M_58 := c_X0_giveBack l D cy h (va_up (va_up S 25 (rfF S w x k)) 32 (fun _ => rfM S w x k)) hI k (shR S x k) (by omega) (by have := shR_le S x k; omega) H.size
        have hPc := hP.sub (ws' := (wX0 cy h (va_up (va_up S 25 (rfF S w x k)) 32 (fun _ => rfM S w x k)))) [20, 21, 22, 23, 24, 25, 26] rfl
        have hDc := hD.sub (ws' := (wX0 cy h (va_up (va_up S 25 (rfF S w x k)) 32 (fun _ => rfM S w x k)))) [20, 21, 22, 23, 24, 25, 26] (by decide) rfl
        refine cd_fri (S := Unit) (W1 := fun u => (wX0 cy h (va_up (va_up (va_up (va_up S 25 (rfF S w x k)) 32 (fun _ => rfM S w x k)) 25 (upd ((va_up (va_up S 25 (rfF S w x k)) 32 (fun _ => rfM S w x k)) 25) k (gbI (va_up (va_up S 25 (rfF S w x k)) 32 (fun _ => rfM S w x k)) k (shR S x k)))) 32 (fun _ => (va_up (va_up S 25 (rfF S w x k)) 32 (fun _ => rfM S w x k)) 32 0 - gbI (va_up (va_up S 25 (rfF S w x k)) 32 (fun _ => rfM S w x k)) k (shR S x k))))) (ws' := fun u => (wC cy h (va_up (va_up S 25 (upd ((rfF S w x k)) k (gbI (va_up (va_up S 25 (rfF S w x k)) 32 (fun _ => rfM S w x k)) k (shR S x k)))) 32 (fun _ => (rfM S w x k)  - gbI (va_up (va_up S 25 (rfF S w x k)) 32 (fun _ => rfM S w x k)) k (shR S x k))) J)) (wc := (wX0 cy h (va_up (va_up S 25 (rfF S w x k)) 32 (fun _ => rfM S w x k)))) (wr := [(h 0, .inr (6, [.ref (h 1), .ref (h 5), .ref (h 8), .ref (h 12), .ref (h 16), .ref (h 20), .int (S 27 0), .int (S 28 0)])), (h 1, .inr (4, [.ref (h 2), .ref (h 3), .ref (h 4)])), (h 2, aI cy 12 (S 2)), (h 3, aI cy 12 (S 3)), (h 4, aI cy 1001 (S 4)), (h 5, .inr (3, [.ref (h 6), .ref (h 7)])), (h 6, aI cy 32 (S 6)), (h 7, aI cy 8 (S 7)), (h 8, .inr (5, [.ref (h 9), .ref (h 10), .ref (h 11), .int (S 29 0)])), (h 9, aI cy 40 (S 9)), (h 10, aI cy 40 (S 10)), (h 11, aZ cy 40 (S 11)), (h 12, .inr (1, [.ref (h 13), .ref (h 14), .ref (h 15), .int (J 12 0)])), (h 13, aI cy 32 (J 13)), (h 14, aI cy 32 (J 14)), (h 15, aI cy 4096 (J 15)), (h 16, .inr (2, [.ref (h 17), .ref (h 18), .ref (h 19), .int (S 30 0)])), (h 17, aI cy 40 (S 17)), (h 18, aI cy 320 (S 18)), (h 19, aI cy 40 (S 19))]) (va_runV (As := [.int (nI k), .int (nI (shR S x k))]) (rest := [.int (rfS S w x k)]) ⟨hx, hb, hml, hown, hts⟩ M_58 (cwV 2 hts gX6_refundSeats_X0_giveBack rfl rfl rfl (by decide +kernel) ⟨Nat.le_of_ble_eq_true rfl, Nat.le_of_ble_eq_true rfl⟩) ⟨wrB.bl, va_recv hK hP (ci := 0) (q0 := 20) rfl rfl, fun U hU hW => ⟨rfl, by rw [hU], by rw [hU]; exact hPc, hG.warm hW, hDc.weaken (fun _ _ _ _ => trivial)⟩⟩ rfl rfl hl.1 rfl (lv_room (Nat.le_of_ble_eq_true rfl)) dX6_refundSeats_58 (by exact ⟨Nat.zero_le _, Nat.zero_le _⟩)) hP hD hS hA [20, 21, 22, 23, 24, 25, 26] [0, 1, 2, 3, 4, 5, 6, 7, 8, 9, 10, 11, 12, 13, 14, 15, 16, 17, 18, 19] [0, 1, 2, 3, 4, 5, 6, 7, 8, 9, 10, 11, 12, 13, 14, 15, 16, 17, 18, 19, 20, 21, 22, 23, 24, 25, 26] rfl rfl (by decide) (by decide) (by decide) (fun _ => rfl) (fun r_58 _ H locs hw_58 hP hD hS => ?_)
        subst hw_58
        have hP : va_P D vwCl (wC cy h (va_up (va_up S 25 (upd ((rfF S w x k)) k (gbI (va_up (va_up S 25 (rfF S w x k)) 32 (fun _ => rfM S w x k)) k (shR S x k)))) 32 (fun _ => (rfM S w x k)  - gbI (va_up (va_up S 25 (rfF S w x k)) 32 (fun _ => rfM S w x k)) k (shR S x k))) J) H := hP
        have hD : va_D A (wC cy h (va_up (va_up S 25 (upd ((rfF S w x k)) k (gbI (va_up (va_up S 25 (rfF S w x k)) 32 (fun _ => rfM S w x k)) k (shR S x k)))) 32 (fun _ => (rfM S w x k)  - gbI (va_up (va_up S 25 (rfF S w x k)) 32 (fun _ => rfM S w x k)) k (shR S x k))) J) := hD
        rw [show (upd ((rfF S w x k)) k (gbI (va_up (va_up S 25 (rfF S w x k)) 32 (fun _ => rfM S w x k)) k (shR S x k))) = (rfF S w x (k + 1)) from (rf_y c_28).1] at hP hD
        have hP : va_P D vwCl (wC cy h (va_up (va_up S 25 (rfF S w x (k + 1))) 32 (fun _ => (rfM S w x k)  - gbI (va_up (va_up S 25 (rfF S w x k)) 32 (fun _ => rfM S w x k)) k (shR S x k))) J) H := hP
        have hD : va_D A (wC cy h (va_up (va_up S 25 (rfF S w x (k + 1))) 32 (fun _ => (rfM S w x k)  - gbI (va_up (va_up S 25 (rfF S w x k)) 32 (fun _ => rfM S w x k)) k (shR S x k))) J) := hD
        rw [show ((fun _ => (rfM S w x k)  - gbI (va_up (va_up S 25 (rfF S w x k)) 32 (fun _ => rfM S w x k)) k (shR S x k) : Nat → Int32)) = ((fun _ => rfM S w x (k + 1) : Nat → Int32)) from congrArg (fun (z : Int32) (_ : Nat) => z) (rf_y c_28).2.2] at hP hD
        have hP : va_P D vwCl (wC cy h (va_up (va_up S 25 (rfF S w x (k + 1))) 32 (fun _ => rfM S w x (k + 1))) J) H := hP
        have hD : va_D A (wC cy h (va_up (va_up S 25 (rfF S w x (k + 1))) 32 (fun _ => rfM S w x (k + 1))) J) := hD
        refine lv_iadd hx hb dX6_refundSeats_61 ?_
        refine cd_tp (y := rfS S w x (k + 1)) ((rf_y c_28).2.1) ?_
        refine lv_istore_n (lv' := [(3, .int (rfS S w x (k + 1))), (5, .int (nI (shR S x k))), (0, .ref (h 0)), (1, .int (nI w)), (2, .int x), (4, .int (nI k))]) hx hb dX6_refundSeats_62 rfl hl (by decide) rfl (fun ls hl => ?_)
        refine lv_iinc (v := nI (k + 1)) (lv' := [(4, .int (nI (k + 1))), (3, .int (rfS S w x (k + 1))), (5, .int (nI (shR S x k))), (0, .ref (h 0)), (1, .int (nI w)), (2, .int x)]) hx hb dX6_refundSeats_63 hl (k := 5) rfl (cd_i1 _) (by decide) rfl (fun ls hl => ?_)
        refine lv_goto (tgt := 5) hx hb dX6_refundSeats_66 (by decide) ?_
        exact ih_5 (k + 1) (by omega) (by omega) _ _ hP hD hS _ (lv_sub hl [3, 4, 5, 1, 0] rfl)
