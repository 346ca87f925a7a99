set_option maxHeartbeats 4000000 in
set_option maxRecDepth 100000 in
theorem c_X6_cold (l : Launch) (D : va_G) (cy : qT) (h : Nat → Nat) (S : qS) (J : qS) (hI : Inv S) (a : Nat) (d0 : Nat) (d1 : Nat) (ha1 : a < 12) (h00 : nv (S 28 0) ≤ d0) (h01 : d0 ≤ d1) (h11 : d1 ≤ 1000) (sz : Nat) : Met l yX6_cold wsX6_cold ({ frames := 2, cells := 0, slots := 0, locals := 46 }) (va_Pc [.ref (h 0), .int (nI a), .int (nI d0), .int (nI d1)] (wrB D cy (wC cy h S J) sz)) (va_Qi (fun (r9 : Int32) (u : Unit) => r9 = nI (ilC (S 4) a d0 (d1 + 1 - d0))) (wrQ D (va_A (wC cy h S J) sz) (fun u : Unit => (wC cy h (va_up S 4 (ilF (S 4) a d0 (d0 + (d1 + 1 - d0)))) J))) (va_A (wC cy h S J) sz)) 0 0 (va_A (wC cy h S J) sz) := by
  refine Met.ofW (cc := cX6_cold) (maxL := 4) (ret := (some .int)) (by decide) rfl ?_
  intro pp e9 s m9 args9 bl9 meth9 c9 s9 B hml hv
  obtain ⟨rfl, hsz, hP, hG, hD0⟩ := hv
  have hx := B.exec
  have hb := B.bytes
  have hr := B.returns
  have hts := atoms_spec (ws := wsX6_cold) B.pre
  have hown : s.vm.findClass RX6 = some m9.cls := findClass_of_methodNamed B.named
  have hlocks := B.notSynchronized
  have hK := hG.K
  subst hsz
  have hD := hD0.self (sz := s.heap.size)
  generalize hAe : (va_A (wC cy h S J) s.heap.size) = A at hD ⊢
  have hA : ∀ q : Nat, s.heap.size ≤ q → A q := fun q h9 => by rw [← hAe]; exact Or.inr h9
  have hS : va_S A s.heap s.heap [] := va_S.rf
  have hP : va_P D vwCl (wC cy h S J) s.heap := hP
  have f_55 := hts (.fieldLink RX6 55 "CastDesk" "today" "I") (by decide +kernel)
  have f_10 := hts (.fieldLink RX6 10 "CastDesk" "troupe" "LCastDesk$Troupe;") (by decide +kernel)
  have iX6 : ∀ w ∈ wsX60, w ∈ wsX6_cold := by decide +kernel
  have hl := lv_entry ([.ref (h 0), .int (nI a), .int (nI d0), .int (nI d1)]) (n := 4) (Nat.le_of_ble_eq_true rfl)
  rw [lg_entry_eq]
  generalize (lg_sl ([.ref (h 0), .int (nI a), .int (nI d0), .int (nI d1)]) ++ List.replicate (4 - (lg_sl ([.ref (h 0), .int (nI a), .int (nI d0), .int (nI d1)])).length) Slot.unset).toArray = ls at hl ⊢
  have hl : lv_has ls 4 [(0, .ref (h 0)), (1, .int (nI a)), (2, .int (nI d0)), (3, .int (nI d1))] := hl
  have h28 := (iv_28 hI).2
  refine lv_iload_n hx hb dX6_cold_0 rfl (lv_at hl 1 rfl) ?_
  have M_1 := c_X6_needActor l a (by omega)
  refine cd_rov (va_runS (As := [.int (nI a)]) (rest := []) ⟨hx, hb, hml, hown, hts⟩ M_1 (va_cwS 1 hts gX6_cold_X6_needActor rfl rfl rfl (by decide +kernel) ⟨Nat.le_of_ble_eq_true rfl, Nat.le_of_ble_eq_true rfl⟩) ⟨nuB.bl, fun U hU hW => ⟨rfl, trivial⟩⟩ rfl rfl hl.1 rfl (lv_room (Nat.le_of_ble_eq_true rfl)) dX6_cold_1 (by exact ⟨Nat.zero_le _, Nat.zero_le _⟩)) ?_
  refine lv_iload_n hx hb dX6_cold_4 rfl (lv_at hl 2 rfl) ?_
  refine lv_aload_n hx hb dX6_cold_5 rfl (lv_at hl 0 rfl) ?_
  refine va_get (D := D) (ci := 6) (v := .int (S 28 0)) (C := RX6) (T := TX6) (N := 8) hx hb hts iX6 hown hK hP 0 rfl rfl 7 (by decide) f_55 (fun _ h9 => h9) rfl dX6_cold_6 ?_
  have b_6 := iv_28 hI
  refine cd_tp (y := nI (nv (S 28 0))) b_6.1 ?_
  have b_6 := b_6.2
  have M_9 := c_X6_needDay l d0 (nv (S 28 0)) (by omega) (by omega)
  refine cd_rov (va_runS (As := [.int (nI d0), .int (nI (nv (S 28 0)))]) (rest := []) ⟨hx, hb, hml, hown, hts⟩ M_9 (va_cwS 2 hts gX6_cold_X6_needDay rfl rfl rfl (by decide +kernel) ⟨Nat.le_of_ble_eq_true rfl, Nat.le_of_ble_eq_true rfl⟩) ⟨nuB.bl, fun U hU hW => ⟨rfl, trivial⟩⟩ rfl rfl hl.1 rfl (lv_room (Nat.le_of_ble_eq_true rfl)) dX6_cold_9 (by exact ⟨Nat.zero_le _, Nat.zero_le _⟩)) ?_
  refine lv_iload_n hx hb dX6_cold_12 rfl (lv_at hl 3 rfl) ?_
  refine lv_iload_n hx hb dX6_cold_13 rfl (lv_at hl 2 rfl) ?_
  have M_14 := c_X6_needDay l d1 d0 (by omega) (by omega)
  refine cd_rov (va_runS (As := [.int (nI d1), .int (nI d0)]) (rest := []) ⟨hx, hb, hml, hown, hts⟩ M_14 (va_cwS 2 hts gX6_cold_X6_needDay rfl rfl rfl (by decide +kernel) ⟨Nat.le_of_ble_eq_true rfl, Nat.le_of_ble_eq_true rfl⟩) ⟨nuB.bl, fun U hU hW => ⟨rfl, trivial⟩⟩ rfl rfl hl.1 rfl (lv_room (Nat.le_of_ble_eq_true rfl)) dX6_cold_14 (by exact ⟨Nat.zero_le _, Nat.zero_le _⟩)) ?_
  refine lv_aload_n hx hb dX6_cold_17 rfl (lv_at hl 0 rfl) ?_
  refine va_get (D := D) (ci := 6) (v := .ref (h 1)) (C := RX6) (T := TX6) (N := 8) hx hb hts iX6 hown hK hP 0 rfl rfl 0 (by decide) f_10 (fun _ h9 => h9) rfl dX6_cold_18 ?_
  refine lv_iload_n hx hb dX6_cold_21 rfl (lv_at hl 1 rfl) ?_
  refine lv_iload_n hx hb dX6_cold_22 rfl (lv_at hl 2 rfl) ?_
  refine lv_iload_n hx hb dX6_cold_23 rfl (lv_at hl 3 rfl) ?_
  have M_24 := c_X4_fallIll l D cy h S hI a d0 d1 ha1 h01 h11 s.heap.size
  have hPc := hP.sub (ws' := (wX4 cy h S)) [1, 2, 3, 4] rfl
  have hDc := hD.sub (ws' := (wX4 cy h S)) [1, 2, 3, 4] (by decide) rfl
  refine cd_fri (S := Unit) (W1 := fun u => (wX4 cy h (va_up S 4 (ilF (S 4) a d0 (d0 + (d1 + 1 - d0)))))) (ws' := fun u => (wC cy h (va_up S 4 (ilF ((S 4)) a d0 (d0 + (d1 + 1 - d0)))) J)) (wc := (wX4 cy h S)) (wr := [(h 0, .inr (6, [.ref (h 1), .ref (h 5), .ref (h 8), .ref (h 12), .ref (h 16), .ref (h 20), .int (S 27 0), .int (S 28 0)])), (h 5, .inr (3, [.ref (h 6), .ref (h 7)])), (h 6, aI cy 32 (S 6)), (h 7, aI cy 8 (S 7)), (h 8, .inr (5, [.ref (h 9), .ref (h 10), .ref (h 11), .int (S 29 0)])), (h 9, aI cy 40 (S 9)), (h 10, aI cy 40 (S 10)), (h 11, aZ cy 40 (S 11)), (h 12, .inr (1, [.ref (h 13), .ref (h 14), .ref (h 15), .int (J 12 0)])), (h 13, aI cy 32 (J 13)), (h 14, aI cy 32 (J 14)), (h 15, aI cy 4096 (J 15)), (h 16, .inr (2, [.ref (h 17), .ref (h 18), .ref (h 19), .int (S 30 0)])), (h 17, aI cy 40 (S 17)), (h 18, aI cy 320 (S 18)), (h 19, aI cy 40 (S 19)), (h 20, .inr (0, [.ref (h 21), .ref (h 22), .ref (h 23), .ref (h 24), .ref (h 25), .ref (h 26), .int (S 31 0), .int (S 32 0)])), (h 21, aI cy 100 (S 21)), (h 22, aI cy 100 (S 22)), (h 23, aI cy 100 (S 23)), (h 24, aI cy 100 (S 24)), (h 25, aI cy 100 (S 25)), (h 26, aI cy 100 (S 26))]) (va_runV (As := [.int (nI a), .int (nI d0), .int (nI d1)]) (rest := []) ⟨hx, hb, hml, hown, hts⟩ M_24 (cwV 3 hts gX6_cold_X4_fallIll rfl rfl rfl (by decide +kernel) ⟨Nat.le_of_ble_eq_true rfl, Nat.le_of_ble_eq_true rfl⟩) ⟨wrB.bl, va_recv hK hP (ci := 4) (q0 := 1) rfl rfl, fun U hU hW => ⟨rfl, by rw [hU], by rw [hU]; exact hPc, hG.warm hW, hDc.weaken (fun _ _ _ _ => trivial)⟩⟩ rfl rfl hl.1 rfl (lv_room (Nat.le_of_ble_eq_true rfl)) dX6_cold_24 (by exact ⟨Nat.zero_le _, Nat.zero_le _⟩)) hP hD hS hA [1, 2, 3, 4] [0, 5, 6, 7, 8, 9, 10, 11, 12, 13, 14, 15, 16, 17, 18, 19, 20, 21, 22, 23, 24, 25, 26] [0, 23, 24, 25, 26, 1, 2, 3, 4, 5, 6, 7, 8, 9, 10, 11, 12, 13, 14, 15, 16, 17, 18, 19, 20, 21, 22] rfl rfl (by decide) (by decide) (by decide) (fun _ => rfl) (fun r_24 _ H locs hw_24 hP hD hS => ?_)
  subst hw_24
  refine cd_tp (y := nI (ilC ((S 4)) a d0 (d1 + 1 - d0))) rfl ?_
  have hP : va_P D vwCl (wC cy h (va_up S 4 (ilF ((S 4)) a d0 (d0 + (d1 + 1 - d0)))) J) H := hP
  have hD : va_D A (wC cy h (va_up S 4 (ilF ((S 4)) a d0 (d0 + (d1 + 1 - d0)))) J) := hD
  exact W.iret (v := nI (ilC ((S 4)) a d0 (d1 + 1 - d0))) hx hb hr (fun t ht hW => ⟨⟨_, (), rfl, rfl, by rw [ht]; exact hP, hD⟩, hS.F ht⟩) hS.2.2 dX6_cold_27
