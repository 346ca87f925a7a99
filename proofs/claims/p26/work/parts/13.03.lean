set_option maxHeartbeats 4000000 in
set_option maxRecDepth 100000 in
theorem c_X6_bestCast (l : Launch) (D : va_G) (cy : qT) (h : Nat → Nat) (S : qS) (J : qS) (hI : Inv S) (mk : Nat) (hm : mk < 4096) (hJ : jk J) (sz : Nat) : Met l yX6_bestCast wsX6_bestCast ({ frames := 3, cells := 0, slots := 0, locals := 74 }) (va_Pc [.ref (h 0), .int (nI mk)] (wrB D cy (wC cy h S J) sz)) (va_Qi (fun (r9 : Int32) (u : qS) => r9 = bcI S mk ∧ jk u) (wrQ D (va_A (wC cy h S J) sz) (fun u : qS => (wC cy h S u))) (va_A (wC cy h S J) sz)) 0 0 (va_A (wC cy h S J) sz) := by
  refine Met.ofW (cc := cX6_bestCast) (maxL := 2) (ret := (some .int)) (by decide) rfl ?_
  intro pp e9 s m9 args9 bl9 meth9 c9 s9 B hml hv
  obtain ⟨rfl, hsz, hP, hG, hD0⟩ := hv
  have hx := B.exec
  have hb := B.bytes
  have hr := B.returns
  have hts := atoms_spec (ws := wsX6_bestCast) B.pre
  have hown : s.vm.findClass RX6 = some m9.cls := findClass_of_methodNamed B.named
  have hlocks := B.notSynchronized
  have hK := hG.K
  subst hsz
  have hD := hD0.self (sz := s.heap.size)
  generalize hAe : (va_A (wC cy h S J) s.heap.size) = A at hD ⊢
  have hA : ∀ q : Nat, s.heap.size ≤ q → A q := fun q h9 => by rw [← hAe]; exact Or.inr h9
  have hS : va_S A s.heap s.heap [] := va_S.rf
  have hP : va_P D vwCl (wC cy h S J) s.heap := hP
  have f_33 := hts (.fieldLink RX6 33 "CastDesk" "casting" "LCastDesk$Casting;") (by decide +kernel)
  have f_51 := hts (.fieldLink RX6 51 "CastDesk" "partCount" "I") (by decide +kernel)
  have iX6 : ∀ w ∈ wsX60, w ∈ wsX6_bestCast := by decide +kernel
  have hl := lv_entry ([.ref (h 0), .int (nI mk)]) (n := 2) (Nat.le_of_ble_eq_true rfl)
  rw [lg_entry_eq]
  generalize (lg_sl ([.ref (h 0), .int (nI mk)]) ++ List.replicate (2 - (lg_sl ([.ref (h 0), .int (nI mk)])).length) Slot.unset).toArray = ls at hl ⊢
  have hl : lv_has ls 2 [(0, .ref (h 0)), (1, .int (nI mk))] := hl
  have h27 := (iv_27 hI).1.2
  refine lv_aload_n hx hb dX6_bestCast_0 rfl (lv_at hl 0 rfl) ?_
  refine lv_iload_n hx hb dX6_bestCast_1 rfl (lv_at hl 1 rfl) ?_
  have M_2 := c_X6_offerActors l D cy h S J hI mk hm s.heap.size
  refine cd_frv (S := Unit) (W1 := fun u => (wC cy h S (va_up (va_up (va_up J 13 (ofA S mk (clF (J 13) 32) (nv (S 27 0) * 4))) 12 (fun _ => nI (ofB S mk (nv (S 27 0) * 4)))) 14 (ofK S mk (J 14) (nv (S 27 0) * 4))))) (ws' := fun u => (wC cy h S (va_up (va_up (va_up J 13 (ofA S mk (clF ((J 13)) 32) (nv (S 27 0) * 4))) 12 (fun _ => nI (ofB S mk (nv (S 27 0) * 4)))) 14 (ofK S mk ((J 14)) (nv (S 27 0) * 4))))) (wc := (wC cy h S J)) (wr := []) (va_runV (As := [.int (nI mk)]) (rest := []) ⟨hx, hb, hml, hown, hts⟩ M_2 (cwV 1 hts gX6_bestCast_X6_offerActors rfl rfl rfl (by decide +kernel) ⟨Nat.le_of_ble_eq_true rfl, Nat.le_of_ble_eq_true rfl⟩) ⟨wrB.bl, va_recv hK hP (ci := 6) (q0 := 0) rfl rfl, fun U hU hW => ⟨rfl, by rw [hU], by rw [hU]; exact hP, hG.warm hW, hD.weaken (fun _ _ _ _ => trivial)⟩⟩ rfl rfl hl.1 rfl (lv_room (Nat.le_of_ble_eq_true rfl)) dX6_bestCast_2 (by exact ⟨Nat.zero_le _, Nat.zero_le _⟩)) hP hD hS hA [0, 1, 2, 3, 4, 5, 6, 7, 8, 9, 10, 11, 12, 13, 14, 15, 16, 17, 18, 19, 20, 21, 22, 23, 24, 25, 26] [] [0, 1, 2, 3, 4, 5, 6, 7, 8, 9, 10, 11, 12, 13, 14, 15, 16, 17, 18, 19, 20, 21, 22, 23, 24, 25, 26] rfl rfl (by decide) (by decide) (by decide) (fun _ => rfl) (fun _ H locs hw_2 hP hD hS => ?_)
  have hP : va_P D vwCl (wC cy h S (va_up (va_up (va_up J 13 (ofA S mk (clF ((J 13)) 32) (nv (S 27 0) * 4))) 12 (fun _ => nI (ofB S mk (nv (S 27 0) * 4)))) 14 (ofK S mk ((J 14)) (nv (S 27 0) * 4)))) H := hP
  have hD : va_D A (wC cy h S (va_up (va_up (va_up J 13 (ofA S mk (clF ((J 13)) 32) (nv (S 27 0) * 4))) 12 (fun _ => nI (ofB S mk (nv (S 27 0) * 4)))) 14 (ofK S mk ((J 14)) (nv (S 27 0) * 4)))) := hD
  refine lv_aload_n hx hb dX6_bestCast_5 rfl (lv_at hl 0 rfl) ?_
  refine va_get (D := D) (ci := 6) (v := .ref (h 12)) (C := RX6) (T := TX6) (N := 8) hx hb hts iX6 hown hK hP 0 rfl rfl 3 (by decide) f_33 (fun _ h9 => h9) rfl dX6_bestCast_6 ?_
  refine lv_aload_n hx hb dX6_bestCast_9 rfl (lv_at hl 0 rfl) ?_
  refine va_get (D := D) (ci := 6) (v := .int (S 27 0)) (C := RX6) (T := TX6) (N := 8) hx hb hts iX6 hown hK hP 0 rfl rfl 6 (by decide) f_51 (fun _ h9 => h9) rfl dX6_bestCast_10 ?_
  have b_10 := (iv_27 hI).1
  refine cd_tp (y := nI (nv (S 27 0))) b_10.1 ?_
  have b_10 := b_10.2
  have M_13 := c_X1_leastKey l D cy h (va_up (va_up (va_up J 13 (ofA S mk (clF ((J 13)) 32) (nv (S 27 0) * 4))) 12 (fun _ => nI (ofB S mk (nv (S 27 0) * 4)))) 14 (ofK S mk ((J 14)) (nv (S 27 0) * 4))) (nv (S 27 0)) (ofB S mk (nv (S 27 0) * 4)) (by omega) rfl (ofB_le hI mk _ (by omega)) (ofA_ok hI mk _ (fun i h9 => if_pos h9) _) H.size
  have hPc := hP.sub (ws' := (wX1 cy h (va_up (va_up (va_up J 13 (ofA S mk (clF ((J 13)) 32) (nv (S 27 0) * 4))) 12 (fun _ => nI (ofB S mk (nv (S 27 0) * 4)))) 14 (ofK S mk ((J 14)) (nv (S 27 0) * 4))))) [12, 13, 14, 15] rfl
  have hDc := hD.sub (ws' := (wX1 cy h (va_up (va_up (va_up J 13 (ofA S mk (clF ((J 13)) 32) (nv (S 27 0) * 4))) 12 (fun _ => nI (ofB S mk (nv (S 27 0) * 4)))) 14 (ofK S mk ((J 14)) (nv (S 27 0) * 4))))) [12, 13, 14, 15] (by decide) rfl
  refine cd_fri (S := Unit) (W1 := fun u => (wX1 cy h (va_up (va_up (va_up (va_up J 13 (ofA S mk (clF ((J 13)) 32) (nv (S 27 0) * 4))) 12 (fun _ => nI (ofB S mk (nv (S 27 0) * 4)))) 14 (ofK S mk ((J 14)) (nv (S 27 0) * 4))) 15 ((lkF ((va_up (va_up (va_up J 13 (ofA S mk (clF ((J 13)) 32) (nv (S 27 0) * 4))) 12 (fun _ => nI (ofB S mk (nv (S 27 0) * 4)))) 14 (ofK S mk ((J 14)) (nv (S 27 0) * 4))) 13) ((va_up (va_up (va_up J 13 (ofA S mk (clF ((J 13)) 32) (nv (S 27 0) * 4))) 12 (fun _ => nI (ofB S mk (nv (S 27 0) * 4)))) 14 (ofK S mk ((J 14)) (nv (S 27 0) * 4))) 14) ((va_up (va_up (va_up J 13 (ofA S mk (clF ((J 13)) 32) (nv (S 27 0) * 4))) 12 (fun _ => nI (ofB S mk (nv (S 27 0) * 4)))) 14 (ofK S mk ((J 14)) (nv (S 27 0) * 4))) 15) (nv (S 27 0)) (ofB S mk (nv (S 27 0) * 4))).1)))) (ws' := fun u => (wC cy h S (va_up (va_up (va_up (va_up J 13 (ofA S mk (clF ((J 13)) 32) (nv (S 27 0) * 4))) 12 (fun _ => nI (ofB S mk (nv (S 27 0) * 4)))) 14 (ofK S mk ((J 14)) (nv (S 27 0) * 4))) 15 ((lkF ((ofA S mk (clF ((J 13)) 32) (nv (S 27 0) * 4))) ((ofK S mk ((J 14)) (nv (S 27 0) * 4))) ((J 15)) (nv (S 27 0)) (ofB S mk (nv (S 27 0) * 4))).1)))) (wc := (wX1 cy h (va_up (va_up (va_up J 13 (ofA S mk (clF ((J 13)) 32) (nv (S 27 0) * 4))) 12 (fun _ => nI (ofB S mk (nv (S 27 0) * 4)))) 14 (ofK S mk ((J 14)) (nv (S 27 0) * 4))))) (wr := [(h 0, .inr (6, [.ref (h 1), .ref (h 5), .ref (h 8), .ref (h 12), .ref (h 16), .ref (h 20), .int (S 27 0), .int (S 28 0)])), (h 1, .inr (4, [.ref (h 2), .ref (h 3), .ref (h 4)])), (h 2, aI cy 12 (S 2)), (h 3, aI cy 12 (S 3)), (h 4, aI cy 1001 (S 4)), (h 5, .inr (3, [.ref (h 6), .ref (h 7)])), (h 6, aI cy 32 (S 6)), (h 7, aI cy 8 (S 7)), (h 8, .inr (5, [.ref (h 9), .ref (h 10), .ref (h 11), .int (S 29 0)])), (h 9, aI cy 40 (S 9)), (h 10, aI cy 40 (S 10)), (h 11, aZ cy 40 (S 11)), (h 16, .inr (2, [.ref (h 17), .ref (h 18), .ref (h 19), .int (S 30 0)])), (h 17, aI cy 40 (S 17)), (h 18, aI cy 320 (S 18)), (h 19, aI cy 40 (S 19)), (h 20, .inr (0, [.ref (h 21), .ref (h 22), .ref (h 23), .ref (h 24), .ref (h 25), .ref (h 26), .int (S 31 0), .int (S 32 0)])), (h 21, aI cy 100 (S 21)), (h 22, aI cy 100 (S 22)), (h 23, aI cy 100 (S 23)), (h 24, aI cy 100 (S 24)), (h 25, aI cy 100 (S 25)), (h 26, aI cy 100 (S 26))]) (va_runV (As := [.int (nI (nv (S 27 0)))]) (rest := []) ⟨hx, hb, hml, hown, hts⟩ M_13 (cwV 1 hts gX6_bestCast_X1_leastKey rfl rfl rfl (by decide +kernel) ⟨Nat.le_of_ble_eq_true rfl, Nat.le_of_ble_eq_true rfl⟩) ⟨wrB.bl, va_recv hK hP (ci := 1) (q0 := 12) rfl rfl, fun U hU hW => ⟨rfl, by rw [hU], by rw [hU]; exact hPc, hG.warm hW, hDc.weaken (fun _ _ _ _ => trivial)⟩⟩ rfl rfl hl.1 rfl (lv_room (Nat.le_of_ble_eq_true rfl)) dX6_bestCast_13 (by exact ⟨Nat.zero_le _, Nat.zero_le _⟩)) hP hD hS hA [12, 13, 14, 15] [0, 1, 2, 3, 4, 5, 6, 7, 8, 9, 10, 11, 16, 17, 18, 19, 20, 21, 22, 23, 24, 25, 26] [0, 1, 2, 3, 4, 5, 6, 7, 8, 9, 10, 11, 23, 24, 25, 26, 12, 13, 14, 15, 16, 17, 18, 19, 20, 21, 22] rfl rfl (by decide) (by decide) (by decide) (fun _ => rfl) (fun r_13 _ H locs hw_13 hP hD hS => ?_)
  subst hw_13
  refine cd_tp (y := (lkF ((ofA S mk (clF ((J 13)) 32) (nv (S 27 0) * 4))) ((ofK S mk ((J 14)) (nv (S 27 0) * 4))) ((J 15)) (nv (S 27 0)) (ofB S mk (nv (S 27 0) * 4))).2) rfl ?_
  have hP : va_P D vwCl (wC cy h S (va_up (va_up (va_up (va_up J 13 (ofA S mk (clF ((J 13)) 32) (nv (S 27 0) * 4))) 12 (fun _ => nI (ofB S mk (nv (S 27 0) * 4)))) 14 (ofK S mk ((J 14)) (nv (S 27 0) * 4))) 15 ((lkF ((ofA S mk (clF ((J 13)) 32) (nv (S 27 0) * 4))) ((ofK S mk ((J 14)) (nv (S 27 0) * 4))) ((J 15)) (nv (S 27 0)) (ofB S mk (nv (S 27 0) * 4))).1))) H := hP
  have hD : va_D A (wC cy h S (va_up (va_up (va_up (va_up J 13 (ofA S mk (clF ((J 13)) 32) (nv (S 27 0) * 4))) 12 (fun _ => nI (ofB S mk (nv (S 27 0) * 4)))) 14 (ofK S mk ((J 14)) (nv (S 27 0) * 4))) 15 ((lkF ((ofA S mk (clF ((J 13)) 32) (nv (S 27 0) * 4))) ((ofK S mk ((J 14)) (nv (S 27 0) * 4))) ((J 15)) (nv (S 27 0)) (ofB S mk (nv (S 27 0) * 4))).1))) := hD
  rw [show ((lkF ((ofA S mk (clF ((J 13)) 32) (nv (S 27 0) * 4))) ((ofK S mk ((J 14)) (nv (S 27 0) * 4))) ((J 15)) (nv (S 27 0)) (ofB S mk (nv (S 27 0) * 4))).1) = (J 15) from bc_1 hI hm hJ _ _ (fun i h9 => if_pos h9)] at hP hD
  have hP : va_P D vwCl (wC cy h S (va_up (va_up (va_up (va_up J 13 (ofA S mk (clF ((J 13)) 32) (nv (S 27 0) * 4))) 12 (fun _ => nI (ofB S mk (nv (S 27 0) * 4)))) 14 (ofK S mk ((J 14)) (nv (S 27 0) * 4))) 15 (J 15))) H := hP
  have hD : va_D A (wC cy h S (va_up (va_up (va_up (va_up J 13 (ofA S mk (clF ((J 13)) 32) (nv (S 27 0) * 4))) 12 (fun _ => nI (ofB S mk (nv (S 27 0) * 4)))) 14 (ofK S mk ((J 14)) (nv (S 27 0) * 4))) 15 (J 15))) := hD
  refine cd_tp (y := bcI S mk) (bc_2 hI hm hJ _ _ (fun i h9 => if_pos h9)) ?_
  exact W.iret (v := bcI S mk) hx hb hr (fun t ht hW => ⟨⟨_, (va_up (va_up (va_up (va_up J 13 (ofA S mk (clF ((J 13)) 32) (nv (S 27 0) * 4))) 12 (fun _ => nI (ofB S mk (nv (S 27 0) * 4)))) 14 (ofK S mk ((J 14)) (nv (S 27 0) * 4))) 15 (J 15)), rfl, (⟨rfl, hJ⟩), by rw [ht]; exact hP, hD⟩, hS.F ht⟩) hS.2.2 dX6_bestCast_16
