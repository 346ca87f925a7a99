set_option maxHeartbeats 4000000 in
set_option maxRecDepth 100000 in
theorem c_X7_work (l : Launch) (D : va_G) (cy : qT) (g : Nat → Nat) (S : qS) (K : qS) (hI : Inv S) (d : Int32) (sz : Nat) : Met l yX7_work wsX7_work ({ frames := 4, cells := 0, slots := 0, locals := 98 }) (va_Pc [.ref (g 0), .int d] (wrB D cy (wM cy g S K) sz)) (va_Qi (fun (r9 : Int32) (u : qS × qS) => mO (th1 (inI d (nI 0) (nI 1000))) (bcW S (nv (S 4 (nv d)))) S S r9 u) (wrQ D (va_A (wM cy g S K) sz) (fun u : qS × qS => wM cy g u.1 u.2)) (va_A (wM cy g S K) sz)) 0 0 (va_A (wM cy g S K) sz) := by
  refine Met.ofW (cc := cX7_work) (maxL := 2) (ret := (some .int)) (by decide) rfl ?_
  intro pp e9 s m9 args9 bl9 meth9 c9 s9 B hml hv
  obtain ⟨rfl, hsz, hP, hG, hD0⟩ := hv
  have hx := B.exec
  have hb := B.bytes
  have hr := B.returns
  have hts := atoms_spec (ws := wsX7_work) B.pre
  have hown : s.vm.findClass RX7 = some m9.cls := findClass_of_methodNamed B.named
  have hlocks := B.notSynchronized
  have hK := hG.K
  subst hsz
  have hD := hD0.self (sz := s.heap.size)
  generalize hAe : (va_A (wM cy g S K) s.heap.size) = A at hD ⊢
  have hA : ∀ q : Nat, s.heap.size ≤ q → A q := fun q h9 => by rw [← hAe]; exact Or.inr h9
  have hS : va_S A s.heap s.heap [] := va_S.rf
  have hP : va_P D vwCl (wM cy g S K) s.heap := hP
  have f_74 := hts (.fieldLink RX7 74 "CastDeskModel" "thrown" "I") (by decide +kernel)
  have f_124 := hts (.fieldLink RX7 124 "CastDeskModel" "leastWork" "I") (by decide +kernel)
  have iX7 : ∀ w ∈ wsX70, w ∈ wsX7_work := by decide +kernel
  have hl := lv_entry ([.ref (g 0), .int d]) (n := 2) (Nat.le_of_ble_eq_true rfl)
  rw [lg_entry_eq]
  generalize (lg_sl ([.ref (g 0), .int d]) ++ List.replicate (2 - (lg_sl ([.ref (g 0), .int d])).length) Slot.unset).toArray = ls at hl ⊢
  have hl : lv_has ls 2 [(0, .ref (g 0)), (1, .int d)] := hl
  refine lv_aload_n hx hb dX7_work_0 rfl (lv_at hl 0 rfl) ?_
  refine lv_iconst (v := nI 0) hx hb dX7_work_1 (by decide) ?_
  refine va_put (D := D) (ci := 7) (v := .int (nI 0)) (ty := .int) (C := RX7) (T := TX7) (N := 29) hx hb hts iX7 tyX7 tyX7_ok nmX7 hown hK hP hD hS 0 rfl rfl 28 (by decide) f_74 (fun _ h9 => h9) rfl (by decide +kernel) rfl rfl (Nat.le_of_ble_eq_true rfl) dX7_work_2 (fun H locs hP hD hS => ?_)
  have hP : va_P D vwCl (wM cy g S (va_up K 28 (fun _ => nI 0))) H := hP
  have hD : va_D A (wM cy g S (va_up K 28 (fun _ => nI 0))) := hD
  refine lv_iload_n hx hb dX7_work_5 rfl (lv_at hl 1 rfl) ?_
  have M_6 := c_X7_isDay l d
  refine cd_roi (va_runS (As := [.int d]) (rest := []) ⟨hx, hb, hml, hown, hts⟩ M_6 (va_cwS 1 hts gX7_work_X7_isDay rfl rfl rfl (by decide +kernel) ⟨Nat.le_of_ble_eq_true rfl, Nat.le_of_ble_eq_true rfl⟩) ⟨nuB.bl, fun U hU hW => ⟨rfl, trivial⟩⟩ rfl rfl hl.1 rfl (lv_room (Nat.le_of_ble_eq_true rfl)) dX7_work_6 (by exact ⟨Nat.zero_le _, Nat.zero_le _⟩)) (fun r_6 hr_6 => ?_)
  subst hr_6
  refine cd_ifB_ne (tgt := 18) hx hb dX7_work_9 (by decide) (fun c_9 => ?_) (fun c_9 => ?_)
  · obtain ⟨jd, hjd, rfl⟩ := inI_nat (by decide) c_9
    try rw [nv_nI (show jd < 2147483648 by omega)]
    refine lv_aload_n hx hb dX7_work_18 rfl (lv_at hl 0 rfl) ?_
    refine lv_iload_n hx hb dX7_work_19 rfl (lv_at hl 1 rfl) ?_
    refine lv_iconst (v := (-1)) hx hb dX7_work_20 (by decide) ?_
    have M_21 := c_X7_lay l D cy g S (va_up K 28 (fun _ => nI 0)) hI jd (-1) (nv (S 4 jd)) (by omega) (hm_0 _) H.size
    refine cd_fri (S := Unit) (W1 := fun u => (wM cy g S (va_up (va_up (va_up (va_up (va_up K 28 (fun _ => nI 0)) 23 (abF S (nv (S 4 jd)) ((va_up K 28 (fun _ => nI 0)) 23) (nv (S 27 0) * 4))) 26 (fun _ => bcS S (nv (S 4 jd)))) 27 (fun _ => bcW S (nv (S 4 jd)))) 24 (caF S (nv (S 4 jd)) ((va_up K 28 (fun _ => nI 0)) 24))))) (ws' := fun u => (wM cy g S (va_up (va_up (va_up (va_up (va_up K 28 (fun _ => nI 0)) 23 (abF S (nv (S 4 jd)) ((K 23)) (nv (S 27 0) * 4))) 26 (fun _ => bcS S (nv (S 4 jd)))) 27 (fun _ => bcW S (nv (S 4 jd)))) 24 (caF S (nv (S 4 jd)) ((K 24)))))) (wc := (wM cy g S (va_up K 28 (fun _ => nI 0)))) (wr := []) (va_runV (As := [.int (nI jd), .int (-1)]) (rest := []) ⟨hx, hb, hml, hown, hts⟩ M_21 (cwV 2 hts gX7_work_X7_lay rfl rfl rfl (by decide +kernel) ⟨Nat.le_of_ble_eq_true rfl, Nat.le_of_ble_eq_true rfl⟩) ⟨wrB.bl, va_recv hK hP (ci := 7) (q0 := 0) rfl rfl, fun U hU hW => ⟨rfl, by rw [hU], by rw [hU]; exact hP, hG.warm hW, hD.weaken (fun _ _ _ _ => trivial)⟩⟩ rfl rfl hl.1 rfl (lv_room (Nat.le_of_ble_eq_true rfl)) dX7_work_21 (by exact ⟨Nat.zero_le _, Nat.zero_le _⟩)) hP hD hS hA [0, 1, 2, 3, 4, 5, 6, 7, 8, 9, 10, 11, 12, 13, 14, 15, 16, 17, 18, 19, 20] [] [0, 1, 2, 3, 4, 5, 6, 7, 8, 9, 10, 11, 12, 13, 14, 15, 16, 17, 18, 19, 20] rfl rfl (by decide) (by decide) (by decide) (fun _ => rfl) (fun r_21 _ H locs hw_21 hP hD hS => ?_)
    subst hw_21
    have hP : va_P D vwCl (wM cy g S (va_up (va_up (va_up (va_up (va_up K 28 (fun _ => nI 0)) 23 (abF S (nv (S 4 jd)) ((K 23)) (nv (S 27 0) * 4))) 26 (fun _ => bcS S (nv (S 4 jd)))) 27 (fun _ => bcW S (nv (S 4 jd)))) 24 (caF S (nv (S 4 jd)) ((K 24))))) H := hP
    have hD : va_D A (wM cy g S (va_up (va_up (va_up (va_up (va_up K 28 (fun _ => nI 0)) 23 (abF S (nv (S 4 jd)) ((K 23)) (nv (S 27 0) * 4))) 26 (fun _ => bcS S (nv (S 4 jd)))) 27 (fun _ => bcW S (nv (S 4 jd)))) 24 (caF S (nv (S 4 jd)) ((K 24))))) := hD
    refine lv_pop hx hb dX7_work_24 rfl ?_
    refine lv_aload_n hx hb dX7_work_25 rfl (lv_at hl 0 rfl) ?_
    refine va_get (D := D) (ci := 7) (v := .int (bcW S (nv (S 4 jd)))) (C := RX7) (T := TX7) (N := 29) hx hb hts iX7 hown hK hP 0 rfl rfl 27 (by decide) f_124 (fun _ h9 => h9) rfl dX7_work_26 ?_
    exact W.iret (v := bcW S (nv (S 4 jd))) hx hb hr (fun t ht hW => ⟨⟨bcW S (nv (S 4 jd)), (_, (va_up (va_up (va_up (va_up (va_up K 28 (fun _ => nI 0)) 23 (abF S (nv (S 4 jd)) ((K 23)) (nv (S 27 0) * 4))) 26 (fun _ => bcS S (nv (S 4 jd)))) 27 (fun _ => bcW S (nv (S 4 jd)))) 24 (caF S (nv (S 4 jd)) ((K 24))))), rfl, mO_ok (by rw [c_9]; rfl) (rfl) rfl, by rw [ht]; exact hP, hD⟩, hS.F ht⟩) hS.2.2 dX7_work_29
  · refine lv_aload_n hx hb dX7_work_12 rfl (lv_at hl 0 rfl) ?_
    refine lv_iconst (v := nI 1) hx hb dX7_work_13 (by decide) ?_
    have M_14 := c_X7_fails l D cy g S (va_up K 28 (fun _ => nI 0)) (nI 1) H.size
    refine cd_fri (S := Unit) (W1 := fun u => (wM cy g S (va_up (va_up K 28 (fun _ => nI 0)) 28 (fun _ => (nI 1))))) (ws' := fun u => (wM cy g S (va_up K 28 (fun _ => (nI 1))))) (wc := (wM cy g S (va_up K 28 (fun _ => nI 0)))) (wr := []) (va_runV (As := [.int (nI 1)]) (rest := []) ⟨hx, hb, hml, hown, hts⟩ M_14 (cwV 1 hts gX7_work_X7_fails rfl rfl rfl (by decide +kernel) ⟨Nat.le_of_ble_eq_true rfl, Nat.le_of_ble_eq_true rfl⟩) ⟨wrB.bl, va_recv hK hP (ci := 7) (q0 := 0) rfl rfl, fun U hU hW => ⟨rfl, by rw [hU], by rw [hU]; exact hP, hG.warm hW, hD.weaken (fun _ _ _ _ => trivial)⟩⟩ rfl rfl hl.1 rfl (lv_room (Nat.le_of_ble_eq_true rfl)) dX7_work_14 (by exact ⟨Nat.zero_le _, Nat.zero_le _⟩)) hP hD hS hA [0, 1, 2, 3, 4, 5, 6, 7, 8, 9, 10, 11, 12, 13, 14, 15, 16, 17, 18, 19, 20] [] [0, 1, 2, 3, 4, 5, 6, 7, 8, 9, 10, 11, 12, 13, 14, 15, 16, 17, 18, 19, 20] rfl rfl (by decide) (by decide) (by decide) (fun _ => rfl) (fun r_14 _ H locs hw_14 hP hD hS => ?_)
    subst hw_14
    have hP : va_P D vwCl (wM cy g S (va_up K 28 (fun _ => (nI 1)))) H := hP
    have hD : va_D A (wM cy g S (va_up K 28 (fun _ => (nI 1)))) := hD
    exact W.iret (v := nI 0) hx hb hr (fun t ht hW => ⟨⟨nI 0, (S, (va_up K 28 (fun _ => (nI 1)))), rfl, mO_no (k := 1) (by decide) (by decide) (by rw [c_9]; rfl) rfl, by rw [ht]; exact hP, hD⟩, hS.F ht⟩) hS.2.2 dX7_work_17
