set_option maxHeartbeats 4000000 in
set_option maxRecDepth 100000 in
theorem c_X7_setSize (l : Launch) (D : va_G) (cy : qT) (g : Nat → Nat) (S : qS) (K : qS) (hI : Inv S) (a : Int32) (z : Int32) (sz : Nat) : Met l yX7_setSize wsX7_setSize ({ frames := 2, cells := 0, slots := 0, locals := 42 }) (va_Pc [.ref (g 0), .int a, .int z] (wrB D cy (wM cy g S K) sz)) (va_Qi (fun (r9 : Int32) (u : qS × qS) => mO (th2 (inI a (nI 0) (nI 11)) (inI z (nI 0) (nI 9))) (S 2 (nv a)) (va_up S 2 (upd (S 2) (nv a) z)) S r9 u) (wrQ D (va_A (wM cy g S K) sz) (fun u : qS × qS => wM cy g u.1 u.2)) (va_A (wM cy g S K) sz)) 0 0 (va_A (wM cy g S K) sz) := by
  refine Met.ofW (cc := cX7_setSize) (maxL := 4) (ret := (some .int)) (by decide) rfl ?_
  intro pp e9 s m9 args9 bl9 meth9 c9 s9 B hml hv
  obtain ⟨rfl, hsz, hP, hG, hD0⟩ := hv
  have hx := B.exec
  have hb := B.bytes
  have hr := B.returns
  have hts := atoms_spec (ws := wsX7_setSize) B.pre
  have hown : s.vm.findClass RX7 = some m9.cls := findClass_of_methodNamed B.named
  have hlocks := B.notSynchronized
  have hK := hG.K
  subst hsz
  have hD := hD0.self (sz := s.heap.size)
  generalize hAe : (va_A (wM cy g S K) s.heap.size) = A at hD ⊢
  have hA : ∀ q : Nat, s.heap.size ≤ q → A q := fun q h9 => by rw [← hAe]; exact Or.inr h9
  have hS : va_S A s.heap s.heap [] := va_S.rf
  have hP : va_P D vwCl (wM cy g S K) s.heap := hP
  have f_74 := hts (.fieldLink RX7 74 "CastDeskModel" "thrown" "I") (by decide +kernel)
  have f_13 := hts (.fieldLink RX7 13 "CastDeskModel" "sizes" "[I") (by decide +kernel)
  have iX7 : ∀ w ∈ wsX70, w ∈ wsX7_setSize := by decide +kernel
  have hl := lv_entry ([.ref (g 0), .int a, .int z]) (n := 4) (Nat.le_of_ble_eq_true rfl)
  rw [lg_entry_eq]
  generalize (lg_sl ([.ref (g 0), .int a, .int z]) ++ List.replicate (4 - (lg_sl ([.ref (g 0), .int a, .int z])).length) Slot.unset).toArray = ls at hl ⊢
  have hl : lv_has ls 4 [(0, .ref (g 0)), (1, .int a), (2, .int z)] := hl
  refine lv_aload_n hx hb dX7_setSize_0 rfl (lv_at hl 0 rfl) ?_
  refine lv_iconst (v := nI 0) hx hb dX7_setSize_1 (by decide) ?_
  refine va_put (D := D) (ci := 7) (v := .int (nI 0)) (ty := .int) (C := RX7) (T := TX7) (N := 29) hx hb hts iX7 tyX7 tyX7_ok nmX7 hown hK hP hD hS 0 rfl rfl 28 (by decide) f_74 (fun _ h9 => h9) rfl (by decide +kernel) rfl rfl (Nat.le_of_ble_eq_true rfl) dX7_setSize_2 (fun H locs hP hD hS => ?_)
  have hP : va_P D vwCl (wM cy g S (va_up K 28 (fun _ => nI 0))) H := hP
  have hD : va_D A (wM cy g S (va_up K 28 (fun _ => nI 0))) := hD
  refine lv_iload_n hx hb dX7_setSize_5 rfl (lv_at hl 1 rfl) ?_
  have M_6 := c_X7_isActor l a
  refine cd_roi (va_runS (As := [.int a]) (rest := []) ⟨hx, hb, hml, hown, hts⟩ M_6 (va_cwS 1 hts gX7_setSize_X7_isActor rfl rfl rfl (by decide +kernel) ⟨Nat.le_of_ble_eq_true rfl, Nat.le_of_ble_eq_true rfl⟩) ⟨nuB.bl, fun U hU hW => ⟨rfl, trivial⟩⟩ rfl rfl hl.1 rfl (lv_room (Nat.le_of_ble_eq_true rfl)) dX7_setSize_6 (by exact ⟨Nat.zero_le _, Nat.zero_le _⟩)) (fun r_6 hr_6 => ?_)
  subst hr_6
  refine cd_ifB_ne (tgt := 18) hx hb dX7_setSize_9 (by decide) (fun c_9 => ?_) (fun c_9 => ?_)
  · obtain ⟨ja, hja, rfl⟩ := inI_nat (by decide) c_9
    try rw [nv_nI (show ja < 2147483648 by omega)]
    refine lv_iload_n hx hb dX7_setSize_18 rfl (lv_at hl 2 rfl) ?_
    refine lv_iconst (v := nI 0) hx hb dX7_setSize_19 (by decide) ?_
    refine lv_bipush (v := nI 9) hx hb dX7_setSize_20 (by decide) ?_
    have M_22 := c_X7_in l z (nI 0) (nI 9)
    refine cd_roi (va_runS (As := [.int z, .int (nI 0), .int (nI 9)]) (rest := []) ⟨hx, hb, hml, hown, hts⟩ M_22 (va_cwS 3 hts gX7_setSize_X7_in rfl rfl rfl (by decide +kernel) ⟨Nat.le_of_ble_eq_true rfl, Nat.le_of_ble_eq_true rfl⟩) ⟨nuB.bl, fun U hU hW => ⟨rfl, trivial⟩⟩ rfl rfl hl.1 rfl (lv_room (Nat.le_of_ble_eq_true rfl)) dX7_setSize_22 (by exact ⟨Nat.zero_le _, Nat.zero_le _⟩)) (fun r_22 hr_22 => ?_)
    subst hr_22
    refine cd_ifB_ne (tgt := 34) hx hb dX7_setSize_25 (by decide) (fun c_25 => ?_) (fun c_25 => ?_)
    · refine lv_aload_n hx hb dX7_setSize_34 rfl (lv_at hl 0 rfl) ?_
      refine va_get (D := D) (ci := 7) (v := .ref (g 1)) (C := RX7) (T := TX7) (N := 29) hx hb hts iX7 hown hK hP 0 rfl rfl 1 (by decide) f_13 (fun _ h9 => h9) rfl dX7_setSize_35 ?_
      refine lv_iload_n hx hb dX7_setSize_38 rfl (lv_at hl 1 rfl) ?_
      refine cd_iald (f := S 2) hx hb hK hP 1 rfl (by omega) (by decide) dX7_setSize_39 ?_
      refine lv_istore_n (lv' := [(3, .int ((S 2) ja)), (0, .ref (g 0)), (1, .int (nI ja)), (2, .int z)]) hx hb dX7_setSize_40 rfl hl (by decide) rfl (fun ls hl => ?_)
      refine lv_aload_n hx hb dX7_setSize_41 rfl (lv_at hl 1 rfl) ?_
      refine va_get (D := D) (ci := 7) (v := .ref (g 1)) (C := RX7) (T := TX7) (N := 29) hx hb hts iX7 hown hK hP 0 rfl rfl 1 (by decide) f_13 (fun _ h9 => h9) rfl dX7_setSize_42 ?_
      refine lv_iload_n hx hb dX7_setSize_45 rfl (lv_at hl 2 rfl) ?_
      refine lv_iload_n hx hb dX7_setSize_46 rfl (lv_at hl 3 rfl) ?_
      refine cd_iast (f := S 2) hx hb hK hP hD hS 1 rfl (by omega) (by decide) dX7_setSize_47 (fun H locs hP hD hS => ?_)
      have hP : va_P D vwCl (wM cy g (va_up S 2 (upd (S 2) ja z)) (va_up K 28 (fun _ => nI 0))) H := hP
      have hD : va_D A (wM cy g (va_up S 2 (upd (S 2) ja z)) (va_up K 28 (fun _ => nI 0))) := hD
      refine lv_iload_n hx hb dX7_setSize_48 rfl (lv_at hl 0 rfl) ?_
      exact W.iret (v := (S 2) ja) hx hb hr (fun t ht hW => ⟨⟨(S 2) ja, (_, (va_up K 28 (fun _ => nI 0))), rfl, mO_ok (by rw [c_9, c_25]; rfl) (rfl) rfl, by rw [ht]; exact hP, hD⟩, hS.F ht⟩) hS.2.2 dX7_setSize_49
    · refine lv_aload_n hx hb dX7_setSize_28 rfl (lv_at hl 0 rfl) ?_
      refine lv_iconst (v := nI 2) hx hb dX7_setSize_29 (by decide) ?_
      have M_30 := c_X7_fails l D cy g S (va_up K 28 (fun _ => nI 0)) (nI 2) H.size
      refine cd_fri (S := Unit) (W1 := fun u => (wM cy g S (va_up (va_up K 28 (fun _ => nI 0)) 28 (fun _ => (nI 2))))) (ws' := fun u => (wM cy g S (va_up K 28 (fun _ => (nI 2))))) (wc := (wM cy g S (va_up K 28 (fun _ => nI 0)))) (wr := []) (va_runV (As := [.int (nI 2)]) (rest := []) ⟨hx, hb, hml, hown, hts⟩ M_30 (cwV 1 hts gX7_setSize_X7_fails rfl rfl rfl (by decide +kernel) ⟨Nat.le_of_ble_eq_true rfl, Nat.le_of_ble_eq_true rfl⟩) ⟨wrB.bl, va_recv hK hP (ci := 7) (q0 := 0) rfl rfl, fun U hU hW => ⟨rfl, by rw [hU], by rw [hU]; exact hP, hG.warm hW, hD.weaken (fun _ _ _ _ => trivial)⟩⟩ rfl rfl hl.1 rfl (lv_room (Nat.le_of_ble_eq_true rfl)) dX7_setSize_30 (by exact ⟨Nat.zero_le _, Nat.zero_le _⟩)) hP hD hS hA [0, 1, 2, 3, 4, 5, 6, 7, 8, 9, 10, 11, 12, 13, 14, 15, 16, 17, 18, 19, 20] [] [0, 1, 2, 3, 4, 5, 6, 7, 8, 9, 10, 11, 12, 13, 14, 15, 16, 17, 18, 19, 20] rfl rfl (by decide) (by decide) (by decide) (fun _ => rfl) (fun r_30 _ H locs hw_30 hP hD hS => ?_)
      subst hw_30
      have hP : va_P D vwCl (wM cy g S (va_up K 28 (fun _ => (nI 2)))) H := hP
      have hD : va_D A (wM cy g S (va_up K 28 (fun _ => (nI 2)))) := hD
      exact W.iret (v := nI 0) hx hb hr (fun t ht hW => ⟨⟨nI 0, (S, (va_up K 28 (fun _ => (nI 2)))), rfl, mO_no (k := 2) (by decide) (by decide) (by rw [c_9, c_25]; rfl) rfl, by rw [ht]; exact hP, hD⟩, hS.F ht⟩) hS.2.2 dX7_setSize_33
  · refine lv_aload_n hx hb dX7_setSize_12 rfl (lv_at hl 0 rfl) ?_
    refine lv_iconst (v := nI 1) hx hb dX7_setSize_13 (by decide) ?_
    have M_14 := c_X7_fails l D cy g S (va_up K 28 (fun _ => nI 0)) (nI 1) H.size
    refine cd_fri (S := Unit) (W1 := fun u => (wM cy g S (va_up (va_up K 28 (fun _ => nI 0)) 28 (fun _ => (nI 1))))) (ws' := fun u => (wM cy g S (va_up K 28 (fun _ => (nI 1))))) (wc := (wM cy g S (va_up K 28 (fun _ => nI 0)))) (wr := []) (va_runV (As := [.int (nI 1)]) (rest := []) ⟨hx, hb, hml, hown, hts⟩ M_14 (cwV 1 hts gX7_setSize_X7_fails rfl rfl rfl (by decide +kernel) ⟨Nat.le_of_ble_eq_true rfl, Nat.le_of_ble_eq_true rfl⟩) ⟨wrB.bl, va_recv hK hP (ci := 7) (q0 := 0) rfl rfl, fun U hU hW => ⟨rfl, by rw [hU], by rw [hU]; exact hP, hG.warm hW, hD.weaken (fun _ _ _ _ => trivial)⟩⟩ rfl rfl hl.1 rfl (lv_room (Nat.le_of_ble_eq_true rfl)) dX7_setSize_14 (by exact ⟨Nat.zero_le _, Nat.zero_le _⟩)) hP hD hS hA [0, 1, 2, 3, 4, 5, 6, 7, 8, 9, 10, 11, 12, 13, 14, 15, 16, 17, 18, 19, 20] [] [0, 1, 2, 3, 4, 5, 6, 7, 8, 9, 10, 11, 12, 13, 14, 15, 16, 17, 18, 19, 20] rfl rfl (by decide) (by decide) (by decide) (fun _ => rfl) (fun r_14 _ H locs hw_14 hP hD hS => ?_)
    subst hw_14
    have hP : va_P D vwCl (wM cy g S (va_up K 28 (fun _ => (nI 1)))) H := hP
    have hD : va_D A (wM cy g S (va_up K 28 (fun _ => (nI 1)))) := hD
    exact W.iret (v := nI 0) hx hb hr (fun t ht hW => ⟨⟨nI 0, (S, (va_up K 28 (fun _ => (nI 1)))), rfl, mO_no (k := 1) (by decide) (by decide) (by rw [c_9]; rfl) rfl, by rw [ht]; exact hP, hD⟩, hS.F ht⟩) hS.2.2 dX7_setSize_17
