set_option maxHeartbeats 4000000 in
set_option maxRecDepth 100000 in
theorem c_X6_dress (l : Launch) (D : va_G) (cy : qT) (h : Nat → Nat) (S : qS) (J : qS) (hI : Inv S) (p : Nat) (a : Nat) (ha : a < 12) (sz : Nat) : Met l yX6_dress wsX6_dress ({ frames := 1, cells := 0, slots := 0, locals := 23 }) (va_Pc [.ref (h 0), .int (nI p), .int (nI a)] (wrB D cy (wC cy h S J) sz)) (va_Qv (fun (u : Unit) => True) (wrQ D (va_A (wC cy h S J) sz) (fun u : Unit => (wC cy h (va_up (va_up S 9 (drZ S p (S 2 a))) 11 (drL S p (S 2 a))) J))) (va_A (wC cy h S J) sz)) 0 0 (va_A (wC cy h S J) sz) := by
  refine Met.ofW (cc := cX6_dress) (maxL := 4) (ret := none) (by decide) rfl ?_
  intro pp e9 s m9 args9 bl9 meth9 c9 s9 B hml hv
  obtain ⟨rfl, hsz, hP, hG, hD0⟩ := hv
  have hx := B.exec
  have hb := B.bytes
  have hr := B.returns
  have hts := atoms_spec (ws := wsX6_dress) B.pre
  have hown : s.vm.findClass RX6 = some m9.cls := findClass_of_methodNamed B.named
  have hlocks := B.notSynchronized
  have hK := hG.K
  subst hsz
  have hD := hD0.self (sz := s.heap.size)
  generalize hAe : (va_A (wC cy h S J) s.heap.size) = A at hD ⊢
  have hA : ∀ q : Nat, s.heap.size ≤ q → A q := fun q h9 => by rw [← hAe]; exact Or.inr h9
  have hS : va_S A s.heap s.heap [] := va_S.rf
  have hP : va_P D vwCl (wC cy h S J) s.heap := hP
  have f_10 := hts (.fieldLink RX6 10 "CastDesk" "troupe" "LCastDesk$Troupe;") (by decide +kernel)
  have f_72 := hts (.fieldLink RX6 72 "CastDesk$Troupe" "sizes" "[I") (by decide +kernel)
  have f_26 := hts (.fieldLink RX6 26 "CastDesk" "wardrobe" "LCastDesk$Wardrobe;") (by decide +kernel)
  have iX4 : ∀ w ∈ wsX40, w ∈ wsX6_dress := by decide +kernel
  have iX6 : ∀ w ∈ wsX60, w ∈ wsX6_dress := by decide +kernel
  have hl := lv_entry ([.ref (h 0), .int (nI p), .int (nI a)]) (n := 4) (Nat.le_of_ble_eq_true rfl)
  rw [lg_entry_eq]
  generalize (lg_sl ([.ref (h 0), .int (nI p), .int (nI a)]) ++ List.replicate (4 - (lg_sl ([.ref (h 0), .int (nI p), .int (nI a)])).length) Slot.unset).toArray = ls at hl ⊢
  have hl : lv_has ls 4 [(0, .ref (h 0)), (1, .int (nI p)), (2, .int (nI a))] := hl
  have h29 := (iv_29 hI).2
  refine lv_iload_n hx hb dX6_dress_0 rfl (lv_at hl 2 rfl) ?_
  refine lv_iconst (v := (-1)) hx hb dX6_dress_1 (by decide) ?_
  refine lv_icmp_ne (tgt := 6) hx hb dX6_dress_2 (by decide) (fun c_2 => ?_) (fun c_2 => ?_)
  · refine lv_aload_n hx hb dX6_dress_6 rfl (lv_at hl 0 rfl) ?_
    refine va_get (D := D) (ci := 6) (v := .ref (h 1)) (C := RX6) (T := TX6) (N := 8) hx hb hts iX6 hown hK hP 0 rfl rfl 0 (by decide) f_10 (fun _ h9 => h9) rfl dX6_dress_7 ?_
    refine va_get (D := D) (ci := 4) (v := .ref (h 2)) (C := RX4) (T := TX4) (N := 3) hx hb hts iX4 hown hK hP 1 rfl rfl 0 (by decide) f_72 (fun _ h9 => h9) rfl dX6_dress_10 ?_
    refine lv_iload_n hx hb dX6_dress_13 rfl (lv_at hl 2 rfl) ?_
    refine cd_iald (f := S 2) hx hb hK hP 2 rfl (by omega) (by decide) dX6_dress_14 ?_
    refine lv_istore_n (lv' := [(3, .int ((S 2) a)), (0, .ref (h 0)), (1, .int (nI p)), (2, .int (nI a))]) hx hb dX6_dress_15 rfl hl (by decide) rfl (fun ls hl => ?_)
    refine lv_aload_n hx hb dX6_dress_16 rfl (lv_at hl 1 rfl) ?_
    refine va_get (D := D) (ci := 6) (v := .ref (h 8)) (C := RX6) (T := TX6) (N := 8) hx hb hts iX6 hown hK hP 0 rfl rfl 2 (by decide) f_26 (fun _ h9 => h9) rfl dX6_dress_17 ?_
    refine lv_iload_n hx hb dX6_dress_20 rfl (lv_at hl 2 rfl) ?_
    refine lv_iload_n hx hb dX6_dress_21 rfl (lv_at hl 0 rfl) ?_
    have M_22 := c_X5_lowestFitting l D cy h S hI p ((S 2) a)
    have hPc := hP.sub (ws' := (wX5 cy h S)) [8, 9, 10, 11] rfl
    refine cd_roi (va_runV (As := [.int (nI p), .int ((S 2) a)]) (rest := []) ⟨hx, hb, hml, hown, hts⟩ M_22 (cwV 2 hts gX6_dress_X5_lowestFitting rfl rfl rfl (by decide +kernel) ⟨Nat.le_of_ble_eq_true rfl, Nat.le_of_ble_eq_true rfl⟩) ⟨roB.bl, va_recv hK hP (ci := 5) (q0 := 8) rfl rfl, fun U hU hW => ⟨rfl, by rw [hU]; exact hPc, hG.warm hW⟩⟩ rfl rfl hl.1 rfl (lv_room (Nat.le_of_ble_eq_true rfl)) dX6_dress_22 (by exact ⟨Nat.zero_le _, Nat.zero_le _⟩)) (fun r_22 hr_22 => ?_)
    subst hr_22
    refine lv_iconst (v := (-1)) hx hb dX6_dress_25 (by decide) ?_
    refine lv_icmp_ne (tgt := 45) hx hb dX6_dress_26 (by decide) (fun c_26 => ?_) (fun c_26 => ?_)
    · have eS9_43 : S 9 = drZ S p (S 2 a) := (if_pos (ft_t c_26)).symm
      have hP : va_P D vwCl (wC cy h (va_up S 9 (drZ S p (S 2 a))) J) s.heap := by rw [← eS9_43]; exact hP
      have hD : va_D A (wC cy h (va_up S 9 (drZ S p (S 2 a))) J) := by rw [← eS9_43]; exact hD
      have eS11_46 : S 11 = drL S p (S 2 a) := (if_pos (ft_t c_26)).symm
      have hP : va_P D vwCl (wC cy h (va_up (va_up S 9 (drZ S p (S 2 a))) 11 (drL S p (S 2 a))) J) s.heap := by rw [← eS11_46]; exact hP
      have hD : va_D A (wC cy h (va_up (va_up S 9 (drZ S p (S 2 a))) 11 (drL S p (S 2 a))) J) := by rw [← eS11_46]; exact hD
      exact W.vret hx hb hr (fun t ht hW => ⟨⟨(), rfl, trivial, by rw [ht]; exact hP, hD⟩, hS.F ht⟩) hS.2.2 dX6_dress_45
    · refine lv_aload_n hx hb dX6_dress_29 rfl (lv_at hl 1 rfl) ?_
      refine va_get (D := D) (ci := 6) (v := .ref (h 8)) (C := RX6) (T := TX6) (N := 8) hx hb hts iX6 hown hK hP 0 rfl rfl 2 (by decide) f_26 (fun _ h9 => h9) rfl dX6_dress_30 ?_
      refine lv_aload_n hx hb dX6_dress_33 rfl (lv_at hl 1 rfl) ?_
      refine va_get (D := D) (ci := 6) (v := .ref (h 8)) (C := RX6) (T := TX6) (N := 8) hx hb hts iX6 hown hK hP 0 rfl rfl 2 (by decide) f_26 (fun _ h9 => h9) rfl dX6_dress_34 ?_
      refine lv_iload_n hx hb dX6_dress_37 rfl (lv_at hl 2 rfl) ?_
      refine lv_iload_n hx hb dX6_dress_38 rfl (lv_at hl 0 rfl) ?_
      have M_39 := c_X5_lowestToLetOut l D cy h S hI p ((S 2) a)
      have hPc := hP.sub (ws' := (wX5 cy h S)) [8, 9, 10, 11] rfl
      refine cd_roi (va_runV (As := [.int (nI p), .int ((S 2) a)]) (rest := [.ref (h 8)]) ⟨hx, hb, hml, hown, hts⟩ M_39 (cwV 2 hts gX6_dress_X5_lowestToLetOut rfl rfl rfl (by decide +kernel) ⟨Nat.le_of_ble_eq_true rfl, Nat.le_of_ble_eq_true rfl⟩) ⟨roB.bl, va_recv hK hP (ci := 5) (q0 := 8) rfl rfl, fun U hU hW => ⟨rfl, by rw [hU]; exact hPc, hG.warm hW⟩⟩ rfl rfl hl.1 rfl (lv_room (Nat.le_of_ble_eq_true rfl)) dX6_dress_39 (by exact ⟨Nat.zero_le _, Nat.zero_le _⟩)) (fun r_39 hr_39 => ?_)
      subst hr_39
      have M_42 := c_X5_letOut l D cy h S (loI S p ((S 2) a)) (fun q => by obtain ⟨k, h1, h2⟩ := lo_rng q; exact ⟨k, by omega, h2⟩) s.heap.size
      have hPc := hP.sub (ws' := (wX5 cy h S)) [8, 9, 10, 11] rfl
      have hDc := hD.sub (ws' := (wX5 cy h S)) [8, 9, 10, 11] (by decide) rfl
      refine cd_frv (S := Unit) (W1 := fun u => (wX5 cy h (va_up (va_up S 9 (leZ (S 9) (loI S p ((S 2) a)))) 11 (leL (S 11) (loI S p ((S 2) a)))))) (ws' := fun u => (wC cy h (va_up (va_up S 9 (leZ ((S 9)) (loI S p ((S 2) a)))) 11 (leL ((S 11)) (loI S p ((S 2) a)))) J)) (wc := (wX5 cy h S)) (wr := [(h 0, .inr (6, [.ref (h 1), .ref (h 5), .ref (h 8), .ref (h 12), .ref (h 16), .ref (h 20), .int (S 27 0), .int (S 28 0)])), (h 1, .inr (4, [.ref (h 2), .ref (h 3), .ref (h 4)])), (h 2, aI cy 12 (S 2)), (h 3, aI cy 12 (S 3)), (h 4, aI cy 1001 (S 4)), (h 5, .inr (3, [.ref (h 6), .ref (h 7)])), (h 6, aI cy 32 (S 6)), (h 7, aI cy 8 (S 7)), (h 12, .inr (1, [.ref (h 13), .ref (h 14), .ref (h 15), .int (J 12 0)])), (h 13, aI cy 32 (J 13)), (h 14, aI cy 32 (J 14)), (h 15, aI cy 4096 (J 15)), (h 16, .inr (2, [.ref (h 17), .ref (h 18), .ref (h 19), .int (S 30 0)])), (h 17, aI cy 40 (S 17)), (h 18, aI cy 320 (S 18)), (h 19, aI cy 40 (S 19)), (h 20, .inr (0, [.ref (h 21), .ref (h 22), .ref (h 23), .ref (h 24), .ref (h 25), .ref (h 26), .int (S 31 0), .int (S 32 0)])), (h 21, aI cy 100 (S 21)), (h 22, aI cy 100 (S 22)), (h 23, aI cy 100 (S 23)), (h 24, aI cy 100 (S 24)), (h 25, aI cy 100 (S 25)), (h 26, aI cy 100 (S 26))]) (va_runV (As := [.int (loI S p ((S 2) a))]) (rest := []) ⟨hx, hb, hml, hown, hts⟩ M_42 (cwV 1 hts gX6_dress_X5_letOut rfl rfl rfl (by decide +kernel) ⟨Nat.le_of_ble_eq_true rfl, Nat.le_of_ble_eq_true rfl⟩) ⟨wrB.bl, va_recv hK hP (ci := 5) (q0 := 8) rfl rfl, fun U hU hW => ⟨rfl, by rw [hU], by rw [hU]; exact hPc, hG.warm hW, hDc.weaken (fun _ _ _ _ => trivial)⟩⟩ rfl rfl hl.1 rfl (lv_room (Nat.le_of_ble_eq_true rfl)) dX6_dress_42 (by exact ⟨Nat.zero_le _, Nat.zero_le _⟩)) hP hD hS hA [8, 9, 10, 11] [0, 1, 2, 3, 4, 5, 6, 7, 12, 13, 14, 15, 16, 17, 18, 19, 20, 21, 22, 23, 24, 25, 26] [0, 1, 2, 3, 4, 5, 6, 7, 23, 24, 25, 26, 8, 9, 10, 11, 12, 13, 14, 15, 16, 17, 18, 19, 20, 21, 22] rfl rfl (by decide) (by decide) (by decide) (fun _ => rfl) (fun _ H locs hw_42 hP hD hS => ?_)
      have hP : va_P D vwCl (wC cy h (va_up (va_up S 9 (leZ ((S 9)) (loI S p ((S 2) a)))) 11 (leL ((S 11)) (loI S p ((S 2) a)))) J) H := hP
      have hD : va_D A (wC cy h (va_up (va_up S 9 (leZ ((S 9)) (loI S p ((S 2) a)))) 11 (leL ((S 11)) (loI S p ((S 2) a)))) J) := hD
      rw [show (leZ ((S 9)) (loI S p ((S 2) a))) = (drZ S p (S 2 a)) from (if_neg (by rw [ft_f c_26]; decide)).symm] at hP hD
      have hP : va_P D vwCl (wC cy h (va_up (va_up S 9 (drZ S p (S 2 a))) 11 (leL ((S 11)) (loI S p ((S 2) a)))) J) H := hP
      have hD : va_D A (wC cy h (va_up (va_up S 9 (drZ S p (S 2 a))) 11 (leL ((S 11)) (loI S p ((S 2) a)))) J) := hD
      rw [show (leL ((S 11)) (loI S p ((S 2) a))) = (drL S p (S 2 a)) from (if_neg (by rw [ft_f c_26]; decide)).symm] at hP hD
      have hP : va_P D vwCl (wC cy h (va_up (va_up S 9 (drZ S p (S 2 a))) 11 (drL S p (S 2 a))) J) H := hP
      have hD : va_D A (wC cy h (va_up (va_up S 9 (drZ S p (S 2 a))) 11 (drL S p (S 2 a))) J) := hD
      exact W.vret hx hb hr (fun t ht hW => ⟨⟨(), rfl, trivial, by rw [ht]; exact hP, hD⟩, hS.F ht⟩) hS.2.2 dX6_dress_45
  · exact absurd c_2 (m1_ne (by omega))
