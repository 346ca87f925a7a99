set_option maxHeartbeats 4000000 in
set_option maxRecDepth 100000 in
theorem c_X6_costume (l : Launch) (D : va_G) (cy : qT) (h : Nat → Nat) (S : qS) (J : qS) (hI : Inv S) (p : Nat) (z : Nat) (hp1 : p < 8) (hz1 : z < 10) (hn1 : nv (S 29 0) < 40) (sz : Nat) : Met l yX6_costume wsX6_costume ({ frames := 1, cells := 0, slots := 0, locals := 22 }) (va_Pc [.ref (h 0), .int (nI p), .int (nI z)] (wrB D cy (wC cy h S J) sz)) (va_Qi (fun (r9 : Int32) (u : Unit) => r9 = nI (nv (S 29 0))) (wrQ D (va_A (wC cy h S J) sz) (fun u : Unit => (wC cy h (va_up (va_up (va_up S 10 (upd (S 10) (nv (S 29 0)) (nI p))) 9 (upd (S 9) (nv (S 29 0)) (nI z))) 29 (fun _ => nI (nv (S 29 0) + 1))) J))) (va_A (wC cy h S J) sz)) 0 0 (va_A (wC cy h S J) sz) := by
  refine Met.ofW (cc := cX6_costume) (maxL := 3) (ret := (some .int)) (by decide) rfl ?_
  intro pp e9 s m9 args9 bl9 meth9 c9 s9 B hml hv
  obtain ⟨rfl, hsz, hP, hG, hD0⟩ := hv
  have hx := B.exec
  have hb := B.bytes
  have hr := B.returns
  have hts := atoms_spec (ws := wsX6_costume) B.pre
  have hown : s.vm.findClass RX6 = some m9.cls := findClass_of_methodNamed B.named
  have hlocks := B.notSynchronized
  have hK := hG.K
  subst hsz
  have hD := hD0.self (sz := s.heap.size)
  generalize hAe : (va_A (wC cy h S J) s.heap.size) = A at hD ⊢
  have hA : ∀ q : Nat, s.heap.size ≤ q → A q := fun q h9 => by rw [← hAe]; exact Or.inr h9
  have hS : va_S A s.heap s.heap [] := va_S.rf
  have hP : va_P D vwCl (wC cy h S J) s.heap := hP
  have f_26 := hts (.fieldLink RX6 26 "CastDesk" "wardrobe" "LCastDesk$Wardrobe;") (by decide +kernel)
  have f_120 := hts (.fieldLink RX6 120 "CastDesk$Wardrobe" "count" "I") (by decide +kernel)
  have iX5 : ∀ w ∈ wsX50, w ∈ wsX6_costume := by decide +kernel
  have iX6 : ∀ w ∈ wsX60, w ∈ wsX6_costume := by decide +kernel
  have hl := lv_entry ([.ref (h 0), .int (nI p), .int (nI z)]) (n := 3) (Nat.le_of_ble_eq_true rfl)
  rw [lg_entry_eq]
  generalize (lg_sl ([.ref (h 0), .int (nI p), .int (nI z)]) ++ List.replicate (3 - (lg_sl ([.ref (h 0), .int (nI p), .int (nI z)])).length) Slot.unset).toArray = ls at hl ⊢
  have hl : lv_has ls 3 [(0, .ref (h 0)), (1, .int (nI p)), (2, .int (nI z))] := hl
  refine lv_iload_n hx hb dX6_costume_0 rfl (lv_at hl 1 rfl) ?_
  have M_1 := c_X6_needPart l p (by omega)
  refine cd_rov (va_runS (As := [.int (nI p)]) (rest := []) ⟨hx, hb, hml, hown, hts⟩ M_1 (va_cwS 1 hts gX6_costume_X6_needPart rfl rfl rfl (by decide +kernel) ⟨Nat.le_of_ble_eq_true rfl, Nat.le_of_ble_eq_true rfl⟩) ⟨nuB.bl, fun U hU hW => ⟨rfl, trivial⟩⟩ rfl rfl hl.1 rfl (lv_room (Nat.le_of_ble_eq_true rfl)) dX6_costume_1 (by exact ⟨Nat.zero_le _, Nat.zero_le _⟩)) ?_
  refine lv_iload_n hx hb dX6_costume_4 rfl (lv_at hl 2 rfl) ?_
  have M_5 := c_X6_needSize l z (by omega)
  refine cd_rov (va_runS (As := [.int (nI z)]) (rest := []) ⟨hx, hb, hml, hown, hts⟩ M_5 (va_cwS 1 hts gX6_costume_X6_needSize rfl rfl rfl (by decide +kernel) ⟨Nat.le_of_ble_eq_true rfl, Nat.le_of_ble_eq_true rfl⟩) ⟨nuB.bl, fun U hU hW => ⟨rfl, trivial⟩⟩ rfl rfl hl.1 rfl (lv_room (Nat.le_of_ble_eq_true rfl)) dX6_costume_5 (by exact ⟨Nat.zero_le _, Nat.zero_le _⟩)) ?_
  refine lv_aload_n hx hb dX6_costume_8 rfl (lv_at hl 0 rfl) ?_
  refine va_get (D := D) (ci := 6) (v := .ref (h 8)) (C := RX6) (T := TX6) (N := 8) hx hb hts iX6 hown hK hP 0 rfl rfl 2 (by decide) f_26 (fun _ h9 => h9) rfl dX6_costume_9 ?_
  refine va_get (D := D) (ci := 5) (v := .int (S 29 0)) (C := RX5) (T := TX5) (N := 4) hx hb hts iX5 hown hK hP 8 rfl rfl 3 (by decide) f_120 (fun _ h9 => h9) rfl dX6_costume_12 ?_
  have b_12 := iv_29 hI
  refine cd_tp (y := nI (nv (S 29 0))) b_12.1 ?_
  have b_12 := b_12.2
  refine lv_bipush (v := nI 40) hx hb dX6_costume_15 (by decide) ?_
  refine cd_icmp_lt (tgt := 30) hx hb dX6_costume_17 (by decide) (by omega) (by omega) (fun c_17 => ?_) (fun c_17 => ?_)
  · refine lv_aload_n hx hb dX6_costume_30 rfl (lv_at hl 0 rfl) ?_
    refine va_get (D := D) (ci := 6) (v := .ref (h 8)) (C := RX6) (T := TX6) (N := 8) hx hb hts iX6 hown hK hP 0 rfl rfl 2 (by decide) f_26 (fun _ h9 => h9) rfl dX6_costume_31 ?_
    refine lv_iload_n hx hb dX6_costume_34 rfl (lv_at hl 1 rfl) ?_
    refine lv_iload_n hx hb dX6_costume_35 rfl (lv_at hl 2 rfl) ?_
    have M_36 := c_X5_add l D cy h S hI (nI p) (nI z) hn1 s.heap.size
    have hPc := hP.sub (ws' := (wX5 cy h S)) [8, 9, 10, 11] rfl
    have hDc := hD.sub (ws' := (wX5 cy h S)) [8, 9, 10, 11] (by decide) rfl
    refine cd_fri (S := Unit) (W1 := fun u => (wX5 cy h (va_up (va_up (va_up S 10 (upd (S 10) (nv (S 29 0)) (nI p))) 9 (upd (S 9) (nv (S 29 0)) (nI z))) 29 (fun _ => nI (nv (S 29 0) + 1))))) (ws' := fun u => (wC cy h (va_up (va_up (va_up S 10 (upd ((S 10)) (nv (S 29 0)) (nI p))) 9 (upd ((S 9)) (nv (S 29 0)) (nI z))) 29 (fun _ => nI (nv (S 29 0) + 1))) J)) (wc := (wX5 cy h S)) (wr := [(h 0, .inr (6, [.ref (h 1), .ref (h 5), .ref (h 8), .ref (h 12), .ref (h 16), .ref (h 20), .int (S 27 0), .int (S 28 0)])), (h 1, .inr (4, [.ref (h 2), .ref (h 3), .ref (h 4)])), (h 2, aI cy 12 (S 2)), (h 3, aI cy 12 (S 3)), (h 4, aI cy 1001 (S 4)), (h 5, .inr (3, [.ref (h 6), .ref (h 7)])), (h 6, aI cy 32 (S 6)), (h 7, aI cy 8 (S 7)), (h 12, .inr (1, [.ref (h 13), .ref (h 14), .ref (h 15), .int (J 12 0)])), (h 13, aI cy 32 (J 13)), (h 14, aI cy 32 (J 14)), (h 15, aI cy 4096 (J 15)), (h 16, .inr (2, [.ref (h 17), .ref (h 18), .ref (h 19), .int (S 30 0)])), (h 17, aI cy 40 (S 17)), (h 18, aI cy 320 (S 18)), (h 19, aI cy 40 (S 19)), (h 20, .inr (0, [.ref (h 21), .ref (h 22), .ref (h 23), .ref (h 24), .ref (h 25), .ref (h 26), .int (S 31 0), .int (S 32 0)])), (h 21, aI cy 100 (S 21)), (h 22, aI cy 100 (S 22)), (h 23, aI cy 100 (S 23)), (h 24, aI cy 100 (S 24)), (h 25, aI cy 100 (S 25)), (h 26, aI cy 100 (S 26))]) (va_runV (As := [.int (nI p), .int (nI z)]) (rest := []) ⟨hx, hb, hml, hown, hts⟩ M_36 (cwV 2 hts gX6_costume_X5_add rfl rfl rfl (by decide +kernel) ⟨Nat.le_of_ble_eq_true rfl, Nat.le_of_ble_eq_true rfl⟩) ⟨wrB.bl, va_recv hK hP (ci := 5) (q0 := 8) rfl rfl, fun U hU hW => ⟨rfl, by rw [hU], by rw [hU]; exact hPc, hG.warm hW, hDc.weaken (fun _ _ _ _ => trivial)⟩⟩ rfl rfl hl.1 rfl (lv_room (Nat.le_of_ble_eq_true rfl)) dX6_costume_36 (by exact ⟨Nat.zero_le _, Nat.zero_le _⟩)) hP hD hS hA [8, 9, 10, 11] [0, 1, 2, 3, 4, 5, 6, 7, 12, 13, 14, 15, 16, 17, 18, 19, 20, 21, 22, 23, 24, 25, 26] [0, 1, 2, 3, 4, 5, 6, 7, 23, 24, 25, 26, 8, 9, 10, 11, 12, 13, 14, 15, 16, 17, 18, 19, 20, 21, 22] rfl rfl (by decide) (by decide) (by decide) (fun _ => rfl) (fun r_36 _ H locs hw_36 hP hD hS => ?_)
    subst hw_36
    have hP : va_P D vwCl (wC cy h (va_up (va_up (va_up S 10 (upd ((S 10)) (nv (S 29 0)) (nI p))) 9 (upd ((S 9)) (nv (S 29 0)) (nI z))) 29 (fun _ => nI (nv (S 29 0) + 1))) J) H := hP
    have hD : va_D A (wC cy h (va_up (va_up (va_up S 10 (upd ((S 10)) (nv (S 29 0)) (nI p))) 9 (upd ((S 9)) (nv (S 29 0)) (nI z))) 29 (fun _ => nI (nv (S 29 0) + 1))) J) := hD
    exact W.iret (v := nI (nv (S 29 0))) hx hb hr (fun t ht hW => ⟨⟨_, (), rfl, rfl, by rw [ht]; exact hP, hD⟩, hS.F ht⟩) hS.2.2 dX6_costume_39
  · omega
