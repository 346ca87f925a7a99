set_option maxHeartbeats 4000000 in
set_option maxRecDepth 100000 in
theorem c_L_plays (l : Launch) (D : va_G) (cy : qT) (h : Nat → Nat) (o : Nat → Nat) (S : qS) (J : qS) (V : Nat → Int32) (hI : Inv S) (d : Nat) (a : Nat) (hd1 : d ≤ 1000) (ha1 : a < 12) (hJ : jk J) (sz : Nat) : Met l yL_plays wsL_plays ({ frames := 5, cells := 0, slots := 0, locals := 118 }) (va_Pc [.ref (h 0), .int (nI d), .int (nI a), .ref (o 3)] (wrB D cy (wLA cy h o S J (S 6) (S 7) (kF (S 3)) (mF (S 27 0) (S 29 0)) V) sz)) (va_Qi (fun (r9 : Int32) (u : qS) => r9 = bI (plB S (nv (S 4 d)) a) ∧ jk u) (wrQ D (va_A (wLA cy h o S J (S 6) (S 7) (kF (S 3)) (mF (S 27 0) (S 29 0)) V) sz) (fun u : qS => (wLA cy h o S u (S 6) (S 7) (kF (S 3)) (mF (S 27 0) (S 29 0)) V))) (va_A (wLA cy h o S J (S 6) (S 7) (kF (S 3)) (mF (S 27 0) (S 29 0)) V) sz)) 0 0 (va_A (wLA cy h o S J (S 6) (S 7) (kF (S 3)) (mF (S 27 0) (S 29 0)) V) sz) := by
  refine Met.ofW (cc := cL_plays) (maxL := 5) (ret := (some .boolean)) (by decide) rfl ?_
  intro pp e9 s m9 args9 bl9 meth9 c9 s9 B hml hv
  obtain ⟨rfl, hsz, hP, hG, hD0⟩ := hv
  have hx := B.exec
  have hb := B.bytes
  have hr := B.returns
  have hts := atoms_spec (ws := wsL_plays) B.pre
  have hown : s.vm.findClass RL = some m9.cls := findClass_of_methodNamed B.named
  have hlocks := B.notSynchronized
  have hK := hG.K
  subst hsz
  have hD := hD0.self (sz := s.heap.size)
  generalize hAe : (va_A (wLA cy h o S J (S 6) (S 7) (kF (S 3)) (mF (S 27 0) (S 29 0)) V) s.heap.size) = A at hD ⊢
  have hA : ∀ q : Nat, s.heap.size ≤ q → A q := fun q h9 => by rw [← hAe]; exact Or.inr h9
  have hS : va_S A s.heap s.heap [] := va_S.rf
  have hP : va_P D vwCl (wLA cy h o S J (S 6) (S 7) (kF (S 3)) (mF (S 27 0) (S 29 0)) V) s.heap := hP
  have hl := lv_entry ([.ref (h 0), .int (nI d), .int (nI a), .ref (o 3)]) (n := 5) (Nat.le_of_ble_eq_true rfl)
  rw [lg_entry_eq]
  generalize (lg_sl ([.ref (h 0), .int (nI d), .int (nI a), .ref (o 3)]) ++ List.replicate (5 - (lg_sl ([.ref (h 0), .int (nI d), .int (nI a), .ref (o 3)])).length) Slot.unset).toArray = ls at hl ⊢
  have hl : lv_has ls 5 [(0, .ref (h 0)), (1, .int (nI d)), (2, .int (nI a)), (3, .ref (o 3))] := hl
  have hn8 : nv (S 27 0) ≤ 8 := by have := (iv_27 hI).1.2; omega
  have hn1 : 1 ≤ nv (S 27 0) := (iv_27 hI).2
  refine lv_iconst (v := nI 0) hx hb dL_plays_0 (by decide) ?_
  refine lv_istore (lv' := [(4, .int (nI 0)), (0, .ref (h 0)), (1, .int (nI d)), (2, .int (nI a)), (3, .ref (o 3))]) hx hb dL_plays_1 hl (by decide) rfl (fun ls hl => ?_)
  refine wh2 (nL := 5) (fun (k : Nat) (J : qS) => k ≤ nv (S 27 0) ∧ (∀ j, j < k → plP S (nv (S 4 d)) a j = false) ∧ jk J) (fun (k : Nat) (J : qS) => nv (S 27 0) - k) (fun (k : Nat) (J : qS) => [(0, .ref (h 0)), (1, .int (nI d)), (2, .int (nI a)), (3, .ref (o 3)), (4, .int (nI k))]) (fun (k : Nat) (J : qS) => (wLA cy h o S J (S 6) (S 7) (kF (S 3)) (mF (S 27 0) (S 29 0)) V)) (fun k J hi_3 ih_3 H locs hP hD hS ls hl => ?_) 0 J (⟨Nat.zero_le _, fun j hj => absurd hj (Nat.not_lt_zero j), hJ⟩) hP hD hS (lv_sub hl [1, 2, 3, 4, 0] rfl)
  have hP : va_P D vwCl (wLA cy h o S J (S 6) (S 7) (kF (S 3)) (mF (S 27 0) (S 29 0)) V) H := hP
  have hD : va_D A (wLA cy h o S J (S 6) (S 7) (kF (S 3)) (mF (S 27 0) (S 29 0)) V) := hD
  obtain ⟨hk1, hpl, hJ⟩ := hi_3
  refine lv_iload hx hb dL_plays_3 (lv_at hl 4 rfl) ?_
  refine lv_aload_n hx hb dL_plays_5 rfl (lv_at hl 3 rfl) ?_
  refine lv_iconst (v := nI 0) hx hb dL_plays_6 (by decide) ?_
  refine cd_iald (f := mF (S 27 0) (S 29 0)) hx hb hK hP 30 rfl (by omega) (by decide) dL_plays_7 ?_
  refine cd_tp (y := S 27 0) (rfl) ?_
  refine cd_tp (y := nI (nv (S 27 0))) ((iv_27 hI).1.1) ?_
  refine cd_icmp_ge (tgt := 30) hx hb dL_plays_8 (by decide) (by omega) (by omega) (fun c_8 => ?_) (fun c_8 => ?_)
  · refine lv_iconst (v := nI 0) hx hb dL_plays_30 (by decide) ?_
    exact W.zret (v := nI 0) hx hb hr rfl (fun t ht hW => ⟨⟨_, J, rfl, (⟨by rw [show plB S (nv (S 4 d)) a = false from ex_not (fun j hj => hpl j (by omega))]; rfl, hJ⟩), by rw [ht]; exact hP, hD⟩, hS.F ht⟩) hS.2.2 dL_plays_31
  · refine lv_aload_n hx hb dL_plays_11 rfl (lv_at hl 0 rfl) ?_
    refine lv_iload_n hx hb dL_plays_12 rfl (lv_at hl 1 rfl) ?_
    refine lv_iload hx hb dL_plays_13 (lv_at hl 4 rfl) ?_
    have M_15 := c_X6_actorFor l D cy h S J hI d k (by omega) (by omega) (by omega) H.size
    have hPc := hP.sub (ws' := (wC cy h S J)) [0, 1, 2, 3, 4, 5, 6, 7, 8, 9, 10, 11, 12, 13, 14, 15, 16, 17, 18, 19, 20, 21, 22, 23, 24, 25, 26] rfl
    have hDc := hD.sub (ws' := (wC cy h S J)) [0, 1, 2, 3, 4, 5, 6, 7, 8, 9, 10, 11, 12, 13, 14, 15, 16, 17, 18, 19, 20, 21, 22, 23, 24, 25, 26] (by decide) rfl
    refine cd_fri (S := qS) (W1 := fun u_15 => (wC cy h S u_15)) (ws' := fun u_15 => (wLA cy h o S u_15 (S 6) (S 7) (kF (S 3)) (mF (S 27 0) (S 29 0)) V)) (wc := (wC cy h S J)) (wr := [(o 0, aI cy 32 (S 6)), (o 1, aI cy 8 (S 7)), (o 2, aI cy 12 (kF (S 3))), (o 3, aI cy 2 (mF (S 27 0) (S 29 0))), (o 4, aI cy 8 V)]) (va_runV (As := [.int (nI d), .int (nI k)]) (rest := []) ⟨hx, hb, hml, hown, hts⟩ M_15 (cwV 2 hts gL_plays_X6_actorFor rfl rfl rfl (by decide +kernel) ⟨Nat.le_of_ble_eq_true rfl, Nat.le_of_ble_eq_true rfl⟩) ⟨wrB.bl, va_recv hK hP (ci := 6) (q0 := 0) rfl rfl, fun U hU hW => ⟨rfl, by rw [hU], by rw [hU]; exact hPc, hG.warm hW, hDc.weaken (fun _ _ _ _ => trivial)⟩⟩ rfl rfl hl.1 rfl (lv_room (Nat.le_of_ble_eq_true rfl)) dL_plays_15 (by exact ⟨Nat.zero_le _, Nat.zero_le _⟩)) hP hD hS hA [0, 1, 2, 3, 4, 5, 6, 7, 8, 9, 10, 11, 12, 13, 14, 15, 16, 17, 18, 19, 20, 21, 22, 23, 24, 25, 26] [27, 28, 29, 30, 31] [5, 6, 7, 8, 9, 10, 11, 12, 13, 14, 15, 16, 17, 18, 19, 20, 21, 22, 23, 24, 25, 26, 27, 28, 29, 30, 31, 0, 1, 2, 3, 4] rfl rfl (by decide) (by decide) (by decide) (fun _ => rfl) (fun r_15 u_15 H locs hw_15 hP hD hS => ?_)
    obtain ⟨hr_15, hw_15⟩ := hw_15
    subst hr_15
    refine cd_tp (y := bcA S (nv ((S 4) d)) k) rfl ?_
    have hP : va_P D vwCl (wLA cy h o S u_15 (S 6) (S 7) (kF (S 3)) (mF (S 27 0) (S 29 0)) V) H := hP
    have hD : va_D A (wLA cy h o S u_15 (S 6) (S 7) (kF (S 3)) (mF (S 27 0) (S 29 0)) V) := hD
    refine lv_iload_n hx hb dL_plays_18 rfl (lv_at hl 2 rfl) ?_
    refine lv_icmp_ne (tgt := 24) hx hb dL_plays_19 (by decide) (fun c_19 => ?_) (fun c_19 => ?_)
    · refine lv_iinc (v := nI (k + 1)) (lv' := [(4, .int (nI (k + 1))), (0, .ref (h 0)), (1, .int (nI d)), (2, .int (nI a)), (3, .ref (o 3))]) hx hb dL_plays_24 hl (k := 4) rfl (cd_i1 _) (by decide) rfl (fun ls hl => ?_)
      refine lv_goto (tgt := 3) hx hb dL_plays_27 (by decide) ?_
      exact ih_3 (k + 1) u_15 (⟨by omega, lt_s hpl (decide_eq_false c_19), hw_15⟩) (by omega) _ _ hP hD hS _ (lv_sub hl [1, 2, 3, 4, 0] rfl)
    · refine lv_iconst (v := nI 1) hx hb dL_plays_22 (by decide) ?_
      exact W.zret (v := nI 1) hx hb hr rfl (fun t ht hW => ⟨⟨_, u_15, rfl, (⟨by rw [show plB S (nv (S 4 d)) a = true from ex_iff.mpr ⟨k, by omega, decide_eq_true c_19⟩]; rfl, hw_15⟩), by rw [ht]; exact hP, hD⟩, hS.F ht⟩) hS.2.2 dL_plays_23
