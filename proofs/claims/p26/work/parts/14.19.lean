set_option maxHeartbeats 4000000 in
set_option maxRecDepth 100000 in
theorem c_X6_take (l : Launch) (D : va_G) (cy : qT) (h : Nat → Nat) (S : qS) (J : qS) (hI : Inv S) (p : Nat) (a : Nat) (hp1 : p < 8) (ha1 : a < 12) (hr1 : ¬ rkI S p (nI a) = -1) (sz : Nat) : Met l yX6_take wsX6_take ({ frames := 1, cells := 0, slots := 0, locals := 23 }) (va_Pc [.ref (h 0), .int (nI p), .int (nI a)] (wrB D cy (wC cy h S J) sz)) (va_Qi (fun (r9 : Int32) (u : Unit) => r9 = rkI S p (nI a)) (wrQ D (va_A (wC cy h S J) sz) (fun u : Unit => (wC cy h (va_up (va_up S 6 (sfT (S 6) (p * 4 + nv (rkI S p (nI a))) (p * 4 + nv (S 7 p)))) 7 (upd (S 7) p (nI (nv (S 7 p) - 1)))) J))) (va_A (wC cy h S J) sz)) 0 0 (va_A (wC cy h S J) sz) := by
  refine Met.ofW (cc := cX6_take) (maxL := 4) (ret := (some .int)) (by decide) rfl ?_
  intro pp e9 s m9 args9 bl9 meth9 c9 s9 B hml hv
  obtain ⟨rfl, hsz, hP, hG, hD0⟩ := hv
  have hx := B.exec
  have hb := B.bytes
  have hr := B.returns
  have hts := atoms_spec (ws := wsX6_take) B.pre
  have hown : s.vm.findClass RX6 = some m9.cls := findClass_of_methodNamed B.named
  have hlocks := B.notSynchronized
  have hK := hG.K
  subst hsz
  have hD := hD0.self (sz := s.heap.size)
  generalize hAe : (va_A (wC cy h S J) s.heap.size) = A at hD ⊢
  have hA : ∀ q : Nat, s.heap.size ≤ q → A q := fun q h9 => by rw [← hAe]; exact Or.inr h9
  have hS : va_S A s.heap s.heap [] := va_S.rf
  have hP : va_P D vwCl (wC cy h S J) s.heap := hP
  have f_19 := hts (.fieldLink RX6 19 "CastDesk" "rows" "LCastDesk$Rows;") (by decide +kernel)
  have iX6 : ∀ w ∈ wsX60, w ∈ wsX6_take := by decide +kernel
  have hl := lv_entry ([.ref (h 0), .int (nI p), .int (nI a)]) (n := 4) (Nat.le_of_ble_eq_true rfl)
  rw [lg_entry_eq]
  generalize (lg_sl ([.ref (h 0), .int (nI p), .int (nI a)]) ++ List.replicate (4 - (lg_sl ([.ref (h 0), .int (nI p), .int (nI a)])).length) Slot.unset).toArray = ls at hl ⊢
  have hl : lv_has ls 4 [(0, .ref (h 0)), (1, .int (nI p)), (2, .int (nI a))] := hl
  have hrk := rk_rng hr1
  refine lv_iload_n hx hb dX6_take_0 rfl (lv_at hl 1 rfl) ?_
  have M_1 := c_X6_needPart l p (by omega)
  refine cd_rov (va_runS (As := [.int (nI p)]) (rest := []) ⟨hx, hb, hml, hown, hts⟩ M_1 (va_cwS 1 hts gX6_take_X6_needPart rfl rfl rfl (by decide +kernel) ⟨Nat.le_of_ble_eq_true rfl, Nat.le_of_ble_eq_true rfl⟩) ⟨nuB.bl, fun U hU hW => ⟨rfl, trivial⟩⟩ rfl rfl hl.1 rfl (lv_room (Nat.le_of_ble_eq_true rfl)) dX6_take_1 (by exact ⟨Nat.zero_le _, Nat.zero_le _⟩)) ?_
  refine lv_iload_n hx hb dX6_take_4 rfl (lv_at hl 2 rfl) ?_
  have M_5 := c_X6_needActor l a (by omega)
  refine cd_rov (va_runS (As := [.int (nI a)]) (rest := []) ⟨hx, hb, hml, hown, hts⟩ M_5 (va_cwS 1 hts gX6_take_X6_needActor rfl rfl rfl (by decide +kernel) ⟨Nat.le_of_ble_eq_true rfl, Nat.le_of_ble_eq_true rfl⟩) ⟨nuB.bl, fun U hU hW => ⟨rfl, trivial⟩⟩ rfl rfl hl.1 rfl (lv_room (Nat.le_of_ble_eq_true rfl)) dX6_take_5 (by exact ⟨Nat.zero_le _, Nat.zero_le _⟩)) ?_
  refine lv_aload_n hx hb dX6_take_8 rfl (lv_at hl 0 rfl) ?_
  refine va_get (D := D) (ci := 6) (v := .ref (h 5)) (C := RX6) (T := TX6) (N := 8) hx hb hts iX6 hown hK hP 0 rfl rfl 1 (by decide) f_19 (fun _ h9 => h9) rfl dX6_take_9 ?_
  refine lv_iload_n hx hb dX6_take_12 rfl (lv_at hl 1 rfl) ?_
  refine lv_iload_n hx hb dX6_take_13 rfl (lv_at hl 2 rfl) ?_
  have M_14 := c_X3_rankIn l D cy h S hI p (nI a) hp1
  have hPc := hP.sub (ws' := (wX3 cy h S)) [5, 6, 7] rfl
  refine cd_roi (va_runV (As := [.int (nI p), .int (nI a)]) (rest := []) ⟨hx, hb, hml, hown, hts⟩ M_14 (cwV 2 hts gX6_take_X3_rankIn rfl rfl rfl (by decide +kernel) ⟨Nat.le_of_ble_eq_true rfl, Nat.le_of_ble_eq_true rfl⟩) ⟨roB.bl, va_recv hK hP (ci := 3) (q0 := 5) rfl rfl, fun U hU hW => ⟨rfl, by rw [hU]; exact hPc, hG.warm hW⟩⟩ rfl rfl hl.1 rfl (lv_room (Nat.le_of_ble_eq_true rfl)) dX6_take_14 (by exact ⟨Nat.zero_le _, Nat.zero_le _⟩)) (fun r_14 hr_14 => ?_)
  subst hr_14
  refine lv_istore_n (lv' := [(3, .int (rkI S p (nI a))), (0, .ref (h 0)), (1, .int (nI p)), (2, .int (nI a))]) hx hb dX6_take_17 rfl hl (by decide) rfl (fun ls hl => ?_)
  refine lv_iload_n hx hb dX6_take_18 rfl (lv_at hl 0 rfl) ?_
  refine lv_iconst (v := (-1)) hx hb dX6_take_19 (by decide) ?_
  refine lv_icmp_ne (tgt := 33) hx hb dX6_take_20 (by decide) (fun c_20 => ?_) (fun c_20 => ?_)
  · have hl : lv_has ls 4 [(3, .int (nI (nv (rkI S p (nI a))))), (0, .ref (h 0)), (1, .int (nI p)), (2, .int (nI a))] := Eq.mp (congrArg (fun z9 : Int32 => lv_has ls 4 [(3, .int z9), (0, .ref (h 0)), (1, .int (nI p)), (2, .int (nI a))]) (show (rkI S p (nI a) : Int32) = nI (nv (rkI S p (nI a))) from hrk.1)) hl
    refine lv_aload_n hx hb dX6_take_33 rfl (lv_at hl 1 rfl) ?_
    refine va_get (D := D) (ci := 6) (v := .ref (h 5)) (C := RX6) (T := TX6) (N := 8) hx hb hts iX6 hown hK hP 0 rfl rfl 1 (by decide) f_19 (fun _ h9 => h9) rfl dX6_take_34 ?_
    refine lv_iload_n hx hb dX6_take_37 rfl (lv_at hl 2 rfl) ?_
    refine lv_iload_n hx hb dX6_take_38 rfl (lv_at hl 0 rfl) ?_
    have M_39 := c_X3_remove l D cy h S hI p (nv (rkI S p (nI a))) hp1 hrk.2 s.heap.size
    have hPc := hP.sub (ws' := (wX3 cy h S)) [5, 6, 7] rfl
    have hDc := hD.sub (ws' := (wX3 cy h S)) [5, 6, 7] (by decide) rfl
    refine cd_frv (S := Unit) (W1 := fun u => (wX3 cy h (va_up (va_up S 6 (sfT (S 6) (p * 4 + (nv (rkI S p (nI a)))) (p * 4 + nv (S 7 p)))) 7 (upd (S 7) p (nI (nv (S 7 p) - 1)))))) (ws' := fun u => (wC cy h (va_up (va_up S 6 (sfT ((S 6)) (p * 4 + (nv (rkI S p (nI a)))) (p * 4 + nv ((S 7) p)))) 7 (upd ((S 7)) p (nI (nv ((S 7) p) - 1)))) J)) (wc := (wX3 cy h S)) (wr := [(h 0, .inr (6, [.ref (h 1), .ref (h 5), .ref (h 8), .ref (h 12), .ref (h 16), .ref (h 20), .int (S 27 0), .int (S 28 0)])), (h 1, .inr (4, [.ref (h 2), .ref (h 3), .ref (h 4)])), (h 2, aI cy 12 (S 2)), (h 3, aI cy 12 (S 3)), (h 4, aI cy 1001 (S 4)), (h 8, .inr (5, [.ref (h 9), .ref (h 10), .ref (h 11), .int (S 29 0)])), (h 9, aI cy 40 (S 9)), (h 10, aI cy 40 (S 10)), (h 11, aZ cy 40 (S 11)), (h 12, .inr (1, [.ref (h 13), .ref (h 14), .ref (h 15), .int (J 12 0)])), (h 13, aI cy 32 (J 13)), (h 14, aI cy 32 (J 14)), (h 15, aI cy 4096 (J 15)), (h 16, .inr (2, [.ref (h 17), .ref (h 18), .ref (h 19), .int (S 30 0)])), (h 17, aI cy 40 (S 17)), (h 18, aI cy 320 (S 18)), (h 19, aI cy 40 (S 19)), (h 20, .inr (0, [.ref (h 21), .ref (h 22), .ref (h 23), .ref (h 24), .ref (h 25), .ref (h 26), .int (S 31 0), .int (S 32 0)])), (h 21, aI cy 100 (S 21)), (h 22, aI cy 100 (S 22)), (h 23, aI cy 100 (S 23)), (h 24, aI cy 100 (S 24)), (h 25, aI cy 100 (S 25)), (h 26, aI cy 100 (S 26))]) (va_runV (As := [.int (nI p), .int (nI (nv (rkI S p (nI a))))]) (rest := []) ⟨hx, hb, hml, hown, hts⟩ M_39 (cwV 2 hts gX6_take_X3_remove rfl rfl rfl (by decide +kernel) ⟨Nat.le_of_ble_eq_true rfl, Nat.le_of_ble_eq_true rfl⟩) ⟨wrB.bl, va_recv hK hP (ci := 3) (q0 := 5) rfl rfl, fun U hU hW => ⟨rfl, by rw [hU], by rw [hU]; exact hPc, hG.warm hW, hDc.weaken (fun _ _ _ _ => trivial)⟩⟩ rfl rfl hl.1 rfl (lv_room (Nat.le_of_ble_eq_true rfl)) dX6_take_39 (by exact ⟨Nat.zero_le _, Nat.zero_le _⟩)) hP hD hS hA [5, 6, 7] [0, 1, 2, 3, 4, 8, 9, 10, 11, 12, 13, 14, 15, 16, 17, 18, 19, 20, 21, 22, 23, 24, 25, 26] [0, 1, 2, 3, 4, 24, 25, 26, 5, 6, 7, 8, 9, 10, 11, 12, 13, 14, 15, 16, 17, 18, 19, 20, 21, 22, 23] rfl rfl (by decide) (by decide) (by decide) (fun _ => rfl) (fun _ H locs hw_39 hP hD hS => ?_)
    have hP : va_P D vwCl (wC cy h (va_up (va_up S 6 (sfT ((S 6)) (p * 4 + (nv (rkI S p (nI a)))) (p * 4 + nv ((S 7) p)))) 7 (upd ((S 7)) p (nI (nv ((S 7) p) - 1)))) J) H := hP
    have hD : va_D A (wC cy h (va_up (va_up S 6 (sfT ((S 6)) (p * 4 + (nv (rkI S p (nI a)))) (p * 4 + nv ((S 7) p)))) 7 (upd ((S 7)) p (nI (nv ((S 7) p) - 1)))) J) := hD
    refine lv_iload_n hx hb dX6_take_42 rfl (lv_at hl 0 rfl) ?_
    exact W.iret (v := nI (nv (rkI S p (nI a)))) hx hb hr (fun t ht hW => ⟨⟨_, (), rfl, hrk.1.symm, by rw [ht]; exact hP, hD⟩, hS.F ht⟩) hS.2.2 dX6_take_43
  · exact absurd c_20 hr1
