set_option maxHeartbeats 4000000 in
set_option maxRecDepth 100000 in
theorem c_X7_perform (l : Launch) (D : va_G) (cy : qT) (g : Nat → Nat) (S : qS) (K : qS) (hI : Inv S) (w : Nat) (m : Nat) (b : Nat) (hw : w < nv (S 30 0)) (hb0 : bc S m = some b) (h24 : ∀ p, p < 8 → K 24 p = bcA S m p) (sz : Nat) : Met l yX7_perform wsX7_perform ({ frames := 1, cells := 0, slots := 0, locals := 24 }) (va_Pc [.ref (g 0), .int (nI w)] (wrB D cy (wM cy g S K) sz)) (va_Qv (fun (u : Unit) => True) (wrQ D (va_A (wM cy g S K) sz) (fun u : Unit => (wM cy g (va_up (va_up (va_up (va_up S 17 (upd (S 17) w (nI 1))) 18 (csF (S 18) (bcA S m) w (nv (S 27 0)))) 9 ((dzF S (bcA S m) (nv (S 27 0))).1)) 11 ((dzF S (bcA S m) (nv (S 27 0))).2)) K))) (va_A (wM cy g S K) sz)) 0 0 (va_A (wM cy g S K) sz) := by
  refine Met.ofW (cc := cX7_perform) (maxL := 4) (ret := none) (by decide) rfl ?_
  intro pp e9 s m9 args9 bl9 meth9 c9 s9 B hml hv
  obtain ⟨rfl, hsz, hP, hG, hD0⟩ := hv
  have hx := B.exec
  have hb := B.bytes
  have hr := B.returns
  have hts := atoms_spec (ws := wsX7_perform) B.pre
  have hown : s.vm.findClass RX7 = some m9.cls := findClass_of_methodNamed B.named
  have hlocks := B.notSynchronized
  have hK := hG.K
  subst hsz
  have hD := hD0.self (sz := s.heap.size)
  generalize hAe : (va_A (wM cy g S K) s.heap.size) = A at hD ⊢
  have hA : ∀ q : Nat, s.heap.size ≤ q → A q := fun q h9 => by rw [← hAe]; exact Or.inr h9
  have hS : va_S A s.heap s.heap [] := va_S.rf
  have hP : va_P D vwCl (wM cy g S K) s.heap := hP
  have f_41 := hts (.fieldLink RX7 41 "CastDeskModel" "showState" "[I") (by decide +kernel)
  have f_7 := hts (.fieldLink RX7 7 "CastDeskModel" "parts" "I") (by decide +kernel)
  have f_44 := hts (.fieldLink RX7 44 "CastDeskModel" "showCast" "[I") (by decide +kernel)
  have f_68 := hts (.fieldLink RX7 68 "CastDeskModel" "cast" "[I") (by decide +kernel)
  have f_29 := hts (.fieldLink RX7 29 "CastDeskModel" "costumeSize" "[I") (by decide +kernel)
  have f_32 := hts (.fieldLink RX7 32 "CastDeskModel" "letOut" "[I") (by decide +kernel)
  have iX7 : ∀ w ∈ wsX70, w ∈ wsX7_perform := by decide +kernel
  have hl := lv_entry ([.ref (g 0), .int (nI w)]) (n := 4) (Nat.le_of_ble_eq_true rfl)
  rw [lg_entry_eq]
  generalize (lg_sl ([.ref (g 0), .int (nI w)]) ++ List.replicate (4 - (lg_sl ([.ref (g 0), .int (nI w)])).length) Slot.unset).toArray = ls at hl ⊢
  have hl : lv_has ls 4 [(0, .ref (g 0)), (1, .int (nI w))] := hl
  have h27 := (iv_27 hI).1.2
  have h30 := (iv_30 hI).2
  refine lv_aload_n hx hb dX7_perform_0 rfl (lv_at hl 0 rfl) ?_
  refine va_get (D := D) (ci := 7) (v := .ref (g 11)) (C := RX7) (T := TX7) (N := 29) hx hb hts iX7 hown hK hP 0 rfl rfl 11 (by decide) f_41 (fun _ h9 => h9) rfl dX7_perform_1 ?_
  refine lv_iload_n hx hb dX7_perform_4 rfl (lv_at hl 1 rfl) ?_
  refine lv_iconst (v := nI 1) hx hb dX7_perform_5 (by decide) ?_
  refine cd_iast (f := S 17) hx hb hK hP hD hS 10 rfl (by omega) (by decide) dX7_perform_6 (fun H locs hP hD hS => ?_)
  have hP : va_P D vwCl (wM cy g (va_up S 17 (upd (S 17) w (nI 1))) K) H := hP
  have hD : va_D A (wM cy g (va_up S 17 (upd (S 17) w (nI 1))) K) := hD
  refine lv_iconst (v := nI 0) hx hb dX7_perform_7 (by decide) ?_
  refine lv_istore_n (lv' := [(2, .int (nI 0)), (0, .ref (g 0)), (1, .int (nI w))]) hx hb dX7_perform_8 rfl hl (by decide) rfl (fun ls hl => ?_)
  have e0 : csF (S 18) (bcA S m) w 0 = S 18 := csF_0 _ _ _
  refine wh1 (nL := 4) (fun (p : Nat) => p ≤ nv (S 27 0)) (fun (p : Nat) => nv (S 27 0) - p) (fun (p : Nat) => [(0, .ref (g 0)), (1, .int (nI w)), (2, .int (nI p))]) (fun (p : Nat) => (wM cy g (va_up (va_up (va_up (va_up S 17 (upd (S 17) w (nI 1))) 18 (csF (S 18) (bcA S m) w p)) 9 ((dzF S (bcA S m) p).1)) 11 ((dzF S (bcA S m) p).2)) K)) (fun p hi_9 ih_9 H locs hP hD hS ls hl => ?_) 0 (Nat.zero_le _) (by rw [e0]; exact hP) (by rw [e0]; exact hD) hS (lv_sub hl [1, 2, 0] rfl)
  have hP : va_P D vwCl (wM cy g (va_up (va_up (va_up (va_up S 17 (upd (S 17) w (nI 1))) 18 (csF (S 18) (bcA S m) w p)) 9 ((dzF S (bcA S m) p).1)) 11 ((dzF S (bcA S m) p).2)) K) H := hP
  have hD : va_D A (wM cy g (va_up (va_up (va_up (va_up S 17 (upd (S 17) w (nI 1))) 18 (csF (S 18) (bcA S m) w p)) 9 ((dzF S (bcA S m) p).1)) 11 ((dzF S (bcA S m) p).2)) K) := hD
  refine lv_iload_n hx hb dX7_perform_9 rfl (lv_at hl 2 rfl) ?_
  refine lv_aload_n hx hb dX7_perform_10 rfl (lv_at hl 0 rfl) ?_
  refine va_get (D := D) (ci := 7) (v := .int (S 27 0)) (C := RX7) (T := TX7) (N := 29) hx hb hts iX7 hown hK hP 0 rfl rfl 0 (by decide) f_7 (fun _ h9 => h9) rfl dX7_perform_11 ?_
  have b_11 := (iv_27 hI).1
  refine cd_tp (y := nI (nv (S 27 0))) b_11.1 ?_
  have b_11 := b_11.2
  refine cd_icmp_ge (tgt := 92) hx hb dX7_perform_14 (by decide) (by omega) (by omega) (fun c_14 => ?_) (fun c_14 => ?_)
  · have ep : p = nv (S 27 0) := by omega
    subst ep
    have hP : va_P D vwCl (wM cy g (va_up (va_up (va_up (va_up S 17 (upd (S 17) w (nI 1))) 18 (csF (S 18) (bcA S m) w (nv (S 27 0)))) 9 ((dzF S (bcA S m) (nv (S 27 0))).1)) 11 ((dzF S (bcA S m) (nv (S 27 0))).2)) K) H := hP
    have hD : va_D A (wM cy g (va_up (va_up (va_up (va_up S 17 (upd (S 17) w (nI 1))) 18 (csF (S 18) (bcA S m) w (nv (S 27 0)))) 9 ((dzF S (bcA S m) (nv (S 27 0))).1)) 11 ((dzF S (bcA S m) (nv (S 27 0))).2)) K) := hD
    exact W.vret hx hb hr (fun t ht hW => ⟨⟨(), rfl, trivial, by rw [ht]; exact hP, hD⟩, hS.F ht⟩) hS.2.2 dX7_perform_92
  · have hba := bcA_bd hI hb0 c_14
    have hba2 := hba.2
    refine lv_aload_n hx hb dX7_perform_17 rfl (lv_at hl 0 rfl) ?_
    refine va_get (D := D) (ci := 7) (v := .ref (g 12)) (C := RX7) (T := TX7) (N := 29) hx hb hts iX7 hown hK hP 0 rfl rfl 12 (by decide) f_44 (fun _ h9 => h9) rfl dX7_perform_18 ?_
    refine lv_bipush (v := nI 8) hx hb dX7_perform_21 (by decide) ?_
    refine lv_iload_n hx hb dX7_perform_23 rfl (lv_at hl 1 rfl) ?_
    refine cd_imul hx hb dX7_perform_24 ?_
    refine lv_iload_n hx hb dX7_perform_25 rfl (lv_at hl 2 rfl) ?_
    refine cd_iadd hx hb dX7_perform_26 ?_
    refine lv_aload_n hx hb dX7_perform_27 rfl (lv_at hl 0 rfl) ?_
    refine va_get (D := D) (ci := 7) (v := .ref (g 24)) (C := RX7) (T := TX7) (N := 29) hx hb hts iX7 hown hK hP 0 rfl rfl 24 (by decide) f_68 (fun _ h9 => h9) rfl dX7_perform_28 ?_
    refine lv_iload_n hx hb dX7_perform_31 rfl (lv_at hl 2 rfl) ?_
    refine cd_iald (f := K 24) hx hb hK hP 19 rfl (by omega) (by decide) dX7_perform_32 ?_
    refine cd_tp (y := bcA S m p) (h24 _ (by omega)) ?_
    refine cd_iast (f := scM (csF (S 18) (bcA S m) w p) (S 30 0)) hx hb hK hP hD hS 11 rfl (by omega) (by decide) dX7_perform_33 (fun H locs hP hD hS => ?_)
    have hP : va_P D vwCl (wMg cy g (va_up (va_up (va_up (va_up S 17 (upd (S 17) w (nI 1))) 18 (csF (S 18) (bcA S m) w p)) 9 ((dzF S (bcA S m) p).1)) 11 ((dzF S (bcA S m) p).2)) K (illM (S 4)) (upd (scM (csF (S 18) (bcA S m) w p) (S 30 0)) ((8 * w) + p) (bcA S m p))) H := hP
    have hD : va_D A (wMg cy g (va_up (va_up (va_up (va_up S 17 (upd (S 17) w (nI 1))) 18 (csF (S 18) (bcA S m) w p)) 9 ((dzF S (bcA S m) p).1)) 11 ((dzF S (bcA S m) p).2)) K (illM (S 4)) (upd (scM (csF (S 18) (bcA S m) w p) (S 30 0)) ((8 * w) + p) (bcA S m p))) := hD
    have e_33 : (upd (scM (csF (S 18) (bcA S m) w p) (S 30 0)) ((8 * w) + p) (bcA S m p)) = (scM (csF (S 18) (bcA S m) w (p + 1)) (S 30 0)) := sc_w2 (iv_30 hI) hw (by omega)
    rw [e_33] at hP hD
    have hP : va_P D vwCl (wM cy g (va_up (va_up (va_up (va_up S 17 (upd (S 17) w (nI 1))) 18 (csF (S 18) (bcA S m) w (p + 1))) 9 ((dzF S (bcA S m) p).1)) 11 ((dzF S (bcA S m) p).2)) K) H := hP
    have hD : va_D A (wM cy g (va_up (va_up (va_up (va_up S 17 (upd (S 17) w (nI 1))) 18 (csF (S 18) (bcA S m) w (p + 1))) 9 ((dzF S (bcA S m) p).1)) 11 ((dzF S (bcA S m) p).2)) K) := hD
    refine lv_aload_n hx hb dX7_perform_34 rfl (lv_at hl 0 rfl) ?_
    refine lv_aload_n hx hb dX7_perform_35 rfl (lv_at hl 0 rfl) ?_
    refine va_get (D := D) (ci := 7) (v := .ref (g 24)) (C := RX7) (T := TX7) (N := 29) hx hb hts iX7 hown hK hP 0 rfl rfl 24 (by decide) f_68 (fun _ h9 => h9) rfl dX7_perform_36 ?_
    refine lv_iload_n hx hb dX7_perform_39 rfl (lv_at hl 2 rfl) ?_
    refine cd_iald (f := K 24) hx hb hK hP 19 rfl (by omega) (by decide) dX7_perform_40 ?_
    refine cd_tp (y := nI (nv (bcA S m p))) ((h24 _ (by omega)).trans hba.1) ?_
    refine lv_iload_n hx hb dX7_perform_41 rfl (lv_at hl 2 rfl) ?_
    have M_42 := c_X7_fits l D cy g (va_up (va_up (va_up (va_up S 17 (upd (S 17) w (nI 1))) 18 (csF (S 18) (bcA S m) w (p + 1))) 9 ((dzF S (bcA S m) p).1)) 11 ((dzF S (bcA S m) p).2)) K (inv_pf hI (up_17 hI hw _) (csF_18 hI hw _ (show p + 1 ≤ 8 by omega)) (dzF_01 (iv_11 hI) _ _)) (nv (bcA S m p)) p hba2
    refine cd_roi (va_runV (As := [.int (nI (nv (bcA S m p))), .int (nI p)]) (rest := []) ⟨hx, hb, hml, hown, hts⟩ M_42 (cwV 2 hts gX7_perform_X7_fits rfl rfl rfl (by decide +kernel) ⟨Nat.le_of_ble_eq_true rfl, Nat.le_of_ble_eq_true rfl⟩) ⟨roB.bl, va_recv hK hP (ci := 7) (q0 := 0) rfl rfl, fun U hU hW => ⟨rfl, by rw [hU]; exact hP, hG.warm hW⟩⟩ rfl rfl hl.1 rfl (lv_room (Nat.le_of_ble_eq_true rfl)) dX7_perform_42 (by exact ⟨Nat.zero_le _, Nat.zero_le _⟩)) (fun r_42 hr_42 => ?_)
    subst hr_42
    refine cd_tp (y := bI (ftB (va_up (va_up (va_up (va_up S 17 (upd (S 17) w (nI 1))) 18 (csF (S 18) (bcA S m) w (p + 1))) 9 ((dzF S (bcA S m) p).1)) 11 ((dzF S (bcA S m) p).2)) p ((S 2) (nv (bcA S m p))))) rfl ?_
    refine cd_ifB_eq (tgt := 52) hx hb dX7_perform_45 (by decide) (fun c_45 => ?_) (fun c_45 => ?_)
    · refine lv_aload_n hx hb dX7_perform_52 rfl (lv_at hl 0 rfl) ?_
      refine lv_aload_n hx hb dX7_perform_53 rfl (lv_at hl 0 rfl) ?_
      refine va_get (D := D) (ci := 7) (v := .ref (g 24)) (C := RX7) (T := TX7) (N := 29) hx hb hts iX7 hown hK hP 0 rfl rfl 24 (by decide) f_68 (fun _ h9 => h9) rfl dX7_perform_54 ?_
      refine lv_iload_n hx hb dX7_perform_57 rfl (lv_at hl 2 rfl) ?_
      refine cd_iald (f := K 24) hx hb hK hP 19 rfl (by omega) (by decide) dX7_perform_58 ?_
      refine cd_tp (y := nI (nv (bcA S m p))) ((h24 _ (by omega)).trans hba.1) ?_
      refine lv_iload_n hx hb dX7_perform_59 rfl (lv_at hl 2 rfl) ?_
      have M_60 := c_X7_toLetOut l D cy g (va_up (va_up (va_up (va_up S 17 (upd (S 17) w (nI 1))) 18 (csF (S 18) (bcA S m) w (p + 1))) 9 ((dzF S (bcA S m) p).1)) 11 ((dzF S (bcA S m) p).2)) K (inv_pf hI (up_17 hI hw _) (csF_18 hI hw _ (show p + 1 ≤ 8 by omega)) (dzF_01 (iv_11 hI) _ _)) (nv (bcA S m p)) p hba2
      refine cd_roi (va_runV (As := [.int (nI (nv (bcA S m p))), .int (nI p)]) (rest := []) ⟨hx, hb, hml, hown, hts⟩ M_60 (cwV 2 hts gX7_perform_X7_toLetOut rfl rfl rfl (by decide +kernel) ⟨Nat.le_of_ble_eq_true rfl, Nat.le_of_ble_eq_true rfl⟩) ⟨roB.bl, va_recv hK hP (ci := 7) (q0 := 0) rfl rfl, fun U hU hW => ⟨rfl, by rw [hU]; exact hP, hG.warm hW⟩⟩ rfl rfl hl.1 rfl (lv_room (Nat.le_of_ble_eq_true rfl)) dX7_perform_60 (by exact ⟨Nat.zero_le _, Nat.zero_le _⟩)) (fun r_60 hr_60 => ?_)
      subst hr_60
      refine cd_tp (y := loI (va_up (va_up (va_up (va_up S 17 (upd (S 17) w (nI 1))) 18 (csF (S 18) (bcA S m) w (p + 1))) 9 ((dzF S (bcA S m) p).1)) 11 ((dzF S (bcA S m) p).2)) p ((S 2) (nv (bcA S m p)))) rfl ?_
      refine lv_istore_n (lv' := [(3, .int (loI (va_up (va_up (va_up (va_up S 17 (upd (S 17) w (nI 1))) 18 (csF (S 18) (bcA S m) w (p + 1))) 9 ((dzF S (bcA S m) p).1)) 11 ((dzF S (bcA S m) p).2)) p ((S 2) (nv (bcA S m p))))), (0, .ref (g 0)), (1, .int (nI w)), (2, .int (nI p))]) hx hb dX7_perform_63 rfl hl (by decide) rfl (fun ls hl => ?_)
      refine lv_iload_n hx hb dX7_perform_64 rfl (lv_at hl 0 rfl) ?_
      refine lv_iconst (v := (-1)) hx hb dX7_perform_65 (by decide) ?_
      refine lv_icmp_eq (tgt := 86) hx hb dX7_perform_66 (by decide) (fun c_66 => ?_) (fun c_66 => ?_)
      · refine lv_iinc (v := nI (p + 1)) (lv' := [(2, .int (nI (p + 1))), (3, .int (loI (va_up (va_up (va_up (va_up S 17 (upd (S 17) w (nI 1))) 18 (csF (S 18) (bcA S m) w (p + 1))) 9 ((dzF S (bcA S m) p).1)) 11 ((dzF S (bcA S m) p).2)) p ((S 2) (nv (bcA S m p))))), (0, .ref (g 0)), (1, .int (nI w))]) hx hb dX7_perform_86 hl (k := 3) rfl (cd_i1 _) (by decide) rfl (fun ls hl => ?_)
        refine lv_goto (tgt := 9) hx hb dX7_perform_89 (by decide) ?_
        rw [show ((dzF S (bcA S m) p).1) = ((dzF S (bcA S m) (p + 1)).1) from (dz_n c_45 c_66).1] at hP hD
        have hP : va_P D vwCl (wM cy g (va_up (va_up (va_up (va_up S 17 (upd (S 17) w (nI 1))) 18 (csF (S 18) (bcA S m) w (p + 1))) 9 ((dzF S (bcA S m) (p + 1)).1)) 11 ((dzF S (bcA S m) p).2)) K) H := hP
        have hD : va_D A (wM cy g (va_up (va_up (va_up (va_up S 17 (upd (S 17) w (nI 1))) 18 (csF (S 18) (bcA S m) w (p + 1))) 9 ((dzF S (bcA S m) (p + 1)).1)) 11 ((dzF S (bcA S m) p).2)) K) := hD
        rw [show ((dzF S (bcA S m) p).2) = ((dzF S (bcA S m) (p + 1)).2) from (dz_n c_45 c_66).2] at hP hD
        have hP : va_P D vwCl (wM cy g (va_up (va_up (va_up (va_up S 17 (upd (S 17) w (nI 1))) 18 (csF (S 18) (bcA S m) w (p + 1))) 9 ((dzF S (bcA S m) (p + 1)).1)) 11 ((dzF S (bcA S m) (p + 1)).2)) K) H := hP
        have hD : va_D A (wM cy g (va_up (va_up (va_up (va_up S 17 (upd (S 17) w (nI 1))) 18 (csF (S 18) (bcA S m) w (p + 1))) 9 ((dzF S (bcA S m) (p + 1)).1)) 11 ((dzF S (bcA S m) (p + 1)).2)) K) := hD
        exact ih_9 (p + 1) (by omega) (by omega) _ _ hP hD hS _ (lv_sub hl [2, 3, 0] rfl)
      · obtain ⟨k, hk, hke⟩ := lo_rng c_66
        have hk40 : k < 40 := by have h29 : k < nv (S 29 0) := hk; have := (iv_29 hI).2; omega
        have hl : lv_has ls 4 [(3, .int (nI k)), (0, .ref (g 0)), (1, .int (nI w)), (2, .int (nI p))] := Eq.mp (congrArg (fun z9 : Int32 => lv_has ls 4 [(3, .int z9), (0, .ref (g 0)), (1, .int (nI w)), (2, .int (nI p))]) (show (loI (va_up (va_up (va_up (va_up S 17 (upd (S 17) w (nI 1))) 18 (csF (S 18) (bcA S m) w (p + 1))) 9 ((dzF S (bcA S m) p).1)) 11 ((dzF S (bcA S m) p).2)) p ((S 2) (nv (bcA S m p))) : Int32) = nI k from hke)) hl
        refine lv_aload_n hx hb dX7_perform_69 rfl (lv_at hl 1 rfl) ?_
        refine va_get (D := D) (ci := 7) (v := .ref (g 6)) (C := RX7) (T := TX7) (N := 29) hx hb hts iX7 hown hK hP 0 rfl rfl 6 (by decide) f_29 (fun _ h9 => h9) rfl dX7_perform_70 ?_
        refine lv_iload_n hx hb dX7_perform_73 rfl (lv_at hl 0 rfl) ?_
        refine lv_dup2_11 hx hb dX7_perform_74 rfl rfl ?_
        refine cd_iald (f := (dzF S (bcA S m) p).1) hx hb hK hP 6 rfl (by omega) (by decide) dX7_perform_75 ?_
        refine lv_iconst (v := nI 1) hx hb dX7_perform_76 (by decide) ?_
        refine lv_iadd hx hb dX7_perform_77 ?_
        refine cd_iast (f := (dzF S (bcA S m) p).1) hx hb hK hP hD hS 6 rfl (by omega) (by decide) dX7_perform_78 (fun H locs hP hD hS => ?_)
        have hP : va_P D vwCl (wM cy g (va_up (va_up (va_up (va_up S 17 (upd (S 17) w (nI 1))) 18 (csF (S 18) (bcA S m) w (p + 1))) 9 (upd ((dzF S (bcA S m) p).1) k ((((dzF S (bcA S m) p).1) k) + (nI 1)))) 11 ((dzF S (bcA S m) p).2)) K) H := hP
        have hD : va_D A (wM cy g (va_up (va_up (va_up (va_up S 17 (upd (S 17) w (nI 1))) 18 (csF (S 18) (bcA S m) w (p + 1))) 9 (upd ((dzF S (bcA S m) p).1) k ((((dzF S (bcA S m) p).1) k) + (nI 1)))) 11 ((dzF S (bcA S m) p).2)) K) := hD
        have e_78 : (upd ((dzF S (bcA S m) p).1) k ((((dzF S (bcA S m) p).1) k) + (nI 1))) = ((dzF S (bcA S m) (p + 1)).1) := (dz_u c_45 hke hk40).1
        rw [e_78] at hP hD
        have hP : va_P D vwCl (wM cy g (va_up (va_up (va_up (va_up S 17 (upd (S 17) w (nI 1))) 18 (csF (S 18) (bcA S m) w (p + 1))) 9 ((dzF S (bcA S m) (p + 1)).1)) 11 ((dzF S (bcA S m) p).2)) K) H := hP
        have hD : va_D A (wM cy g (va_up (va_up (va_up (va_up S 17 (upd (S 17) w (nI 1))) 18 (csF (S 18) (bcA S m) w (p + 1))) 9 ((dzF S (bcA S m) (p + 1)).1)) 11 ((dzF S (bcA S m) p).2)) K) := hD
        refine lv_aload_n hx hb dX7_perform_79 rfl (lv_at hl 1 rfl) ?_
        refine va_get (D := D) (ci := 7) (v := .ref (g 7)) (C := RX7) (T := TX7) (N := 29) hx hb hts iX7 hown hK hP 0 rfl rfl 7 (by decide) f_32 (fun _ h9 => h9) rfl dX7_perform_80 ?_
        refine lv_iload_n hx hb dX7_perform_83 rfl (lv_at hl 0 rfl) ?_
        refine lv_iconst (v := nI 1) hx hb dX7_perform_84 (by decide) ?_
        refine cd_iast (f := (dzF S (bcA S m) p).2) hx hb hK hP hD hS 7 rfl (by omega) (by decide) dX7_perform_85 (fun H locs hP hD hS => ?_)
        have hP : va_P D vwCl (wM cy g (va_up (va_up (va_up (va_up S 17 (upd (S 17) w (nI 1))) 18 (csF (S 18) (bcA S m) w (p + 1))) 9 ((dzF S (bcA S m) (p + 1)).1)) 11 (upd ((dzF S (bcA S m) p).2) k (nI 1))) K) H := hP
        have hD : va_D A (wM cy g (va_up (va_up (va_up (va_up S 17 (upd (S 17) w (nI 1))) 18 (csF (S 18) (bcA S m) w (p + 1))) 9 ((dzF S (bcA S m) (p + 1)).1)) 11 (upd ((dzF S (bcA S m) p).2) k (nI 1))) K) := hD
        have e_85 : (upd ((dzF S (bcA S m) p).2) k (nI 1)) = ((dzF S (bcA S m) (p + 1)).2) := (dz_u c_45 hke hk40).2
        rw [e_85] at hP hD
        have hP : va_P D vwCl (wM cy g (va_up (va_up (va_up (va_up S 17 (upd (S 17) w (nI 1))) 18 (csF (S 18) (bcA S m) w (p + 1))) 9 ((dzF S (bcA S m) (p + 1)).1)) 11 ((dzF S (bcA S m) (p + 1)).2)) K) H := hP
        have hD : va_D A (wM cy g (va_up (va_up (va_up (va_up S 17 (upd (S 17) w (nI 1))) 18 (csF (S 18) (bcA S m) w (p + 1))) 9 ((dzF S (bcA S m) (p + 1)).1)) 11 ((dzF S (bcA S m) (p + 1)).2)) K) := hD
        refine lv_iinc (v := nI (p + 1)) (lv' := [(2, .int (nI (p + 1))), (3, .int (nI k)), (0, .ref (g 0)), (1, .int (nI w))]) hx hb dX7_perform_86 hl (k := 3) rfl (cd_i1 _) (by decide) rfl (fun ls hl => ?_)
        refine lv_goto (tgt := 9) hx hb dX7_perform_89 (by decide) ?_
        exact ih_9 (p + 1) (by omega) (by omega) _ _ hP hD hS _ (lv_sub hl [2, 3, 0] rfl)
    · refine lv_iconst (v := (-1)) hx hb dX7_perform_48 (by decide) ?_
      refine lv_goto (tgt := 63) hx hb dX7_perform_49 (by decide) ?_
      refine lv_istore_n (lv' := [(3, .int (-1)), (0, .ref (g 0)), (1, .int (nI w)), (2, .int (nI p))]) hx hb dX7_perform_63 rfl hl (by decide) rfl (fun ls hl => ?_)
      refine lv_iload_n hx hb dX7_perform_64 rfl (lv_at hl 0 rfl) ?_
      refine lv_iconst (v := (-1)) hx hb dX7_perform_65 (by decide) ?_
      refine lv_icmp_eq (tgt := 86) hx hb dX7_perform_66 (by decide) (fun c_66 => ?_) (fun c_66 => ?_)
      · refine lv_iinc (v := nI (p + 1)) (lv' := [(2, .int (nI (p + 1))), (3, .int (-1)), (0, .ref (g 0)), (1, .int (nI w))]) hx hb dX7_perform_86 hl (k := 3) rfl (cd_i1 _) (by decide) rfl (fun ls hl => ?_)
        refine lv_goto (tgt := 9) hx hb dX7_perform_89 (by decide) ?_
        rw [show ((dzF S (bcA S m) p).1) = ((dzF S (bcA S m) (p + 1)).1) from (dz_t c_45).1] at hP hD
        have hP : va_P D vwCl (wM cy g (va_up (va_up (va_up (va_up S 17 (upd (S 17) w (nI 1))) 18 (csF (S 18) (bcA S m) w (p + 1))) 9 ((dzF S (bcA S m) (p + 1)).1)) 11 ((dzF S (bcA S m) p).2)) K) H := hP
        have hD : va_D A (wM cy g (va_up (va_up (va_up (va_up S 17 (upd (S 17) w (nI 1))) 18 (csF (S 18) (bcA S m) w (p + 1))) 9 ((dzF S (bcA S m) (p + 1)).1)) 11 ((dzF S (bcA S m) p).2)) K) := hD
        rw [show ((dzF S (bcA S m) p).2) = ((dzF S (bcA S m) (p + 1)).2) from (dz_t c_45).2] at hP hD
        have hP : va_P D vwCl (wM cy g (va_up (va_up (va_up (va_up S 17 (upd (S 17) w (nI 1))) 18 (csF (S 18) (bcA S m) w (p + 1))) 9 ((dzF S (bcA S m) (p + 1)).1)) 11 ((dzF S (bcA S m) (p + 1)).2)) K) H := hP
        have hD : va_D A (wM cy g (va_up (va_up (va_up (va_up S 17 (upd (S 17) w (nI 1))) 18 (csF (S 18) (bcA S m) w (p + 1))) 9 ((dzF S (bcA S m) (p + 1)).1)) 11 ((dzF S (bcA S m) (p + 1)).2)) K) := hD
        exact ih_9 (p + 1) (by omega) (by omega) _ _ hP hD hS _ (lv_sub hl [2, 3, 0] rfl)
      · exact absurd rfl c_66
