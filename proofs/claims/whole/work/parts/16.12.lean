set_option maxHeartbeats 4000000 in
set_option maxRecDepth 100000 in
theorem c_X7_learn (l : Launch) (D : va_G) (cy : qT) (g : Nat → Nat) (S : qS) (K : qS) (hI : Inv S) (a : Int32) (p : Int32) (kb : Bool) (sz : Nat) : Met l yX7_learn wsX7_learn ({ frames := 2, cells := 0, slots := 0, locals := 42 }) (va_Pc [.ref (g 0), .int a, .int p, .int (bI kb)] (wrB D cy (wM cy g S K) sz)) (va_Qi (fun (r9 : Int32) (u : qS × qS) => mO (th2 (inI a (nI 0) (nI 11) && inI p (nI 0) (nI 7)) (decide (pcn 12 (knF kb (nv (S 3 (nv a))) (nv p)) ≤ 4))) (nI (pcn 12 (knF kb (nv (S 3 (nv a))) (nv p)))) (va_up S 3 (upd (S 3) (nv a) (nI (knF kb (nv (S 3 (nv a))) (nv p))))) S r9 u) (wrQ D (va_A (wM cy g S K) sz) (fun u : qS × qS => wM cy g u.1 u.2)) (va_A (wM cy g S K) sz)) 0 0 (va_A (wM cy g S K) sz) := by
  refine Met.ofW (cc := cX7_learn) (maxL := 4) (ret := (some .int)) (by decide) rfl ?_
  intro pp e9 s m9 args9 bl9 meth9 c9 s9 B hml hv
  obtain ⟨rfl, hsz, hP, hG, hD0⟩ := hv
  have hx := B.exec
  have hb := B.bytes
  have hr := B.returns
  have hts := atoms_spec (ws := wsX7_learn) B.pre
  have hown : s.vm.findClass RX7 = some m9.cls := findClass_of_methodNamed B.named
  have hlocks := B.notSynchronized
  have hK := hG.K
  subst hsz
  have hD := hD0.self (sz := s.heap.size)
  generalize hAe : (va_A (wM cy g S K) s.heap.size) = A at hD ⊢
  have hA : ∀ q : Nat, s.heap.size ≤ q → A q := fun q h9 => by rw [← hAe]; exact Or.inr h9
  have hS : va_S A s.heap s.heap [] := va_S.rf
  have hP : va_P D vwCl (wM cy g S K) s.heap := hP
  have f_74 := hts (.fieldLink RX7 74 "CastDeskModel" "thrown" "I") (by decide +kernel)
  have f_17 := hts (.fieldLink RX7 17 "CastDeskModel" "known" "[I") (by decide +kernel)
  have iX7 : ∀ w ∈ wsX70, w ∈ wsX7_learn := by decide +kernel
  have hl := lv_entry ([.ref (g 0), .int a, .int p, .int (bI kb)]) (n := 4) (Nat.le_of_ble_eq_true rfl)
  rw [lg_entry_eq]
  generalize (lg_sl ([.ref (g 0), .int a, .int p, .int (bI kb)]) ++ List.replicate (4 - (lg_sl ([.ref (g 0), .int a, .int p, .int (bI kb)])).length) Slot.unset).toArray = ls at hl ⊢
  have hl : lv_has ls 4 [(0, .ref (g 0)), (1, .int a), (2, .int p), (3, .int (bI kb))] := hl
  refine lv_aload_n hx hb dX7_learn_0 rfl (lv_at hl 0 rfl) ?_
  refine lv_iconst (v := nI 0) hx hb dX7_learn_1 (by decide) ?_
  refine va_put (D := D) (ci := 7) (v := .int (nI 0)) (ty := .int) (C := RX7) (T := TX7) (N := 29) hx hb hts iX7 tyX7 tyX7_ok nmX7 hown hK hP hD hS 0 rfl rfl 28 (by decide) f_74 (fun _ h9 => h9) rfl (by decide +kernel) rfl rfl (Nat.le_of_ble_eq_true rfl) dX7_learn_2 (fun H locs hP hD hS => ?_)
  have hP : va_P D vwCl (wM cy g S (va_up K 28 (fun _ => nI 0))) H := hP
  have hD : va_D A (wM cy g S (va_up K 28 (fun _ => nI 0))) := hD
  refine lv_iload_n hx hb dX7_learn_5 rfl (lv_at hl 1 rfl) ?_
  have M_6 := c_X7_isActor l a
  refine cd_roi (va_runS (As := [.int a]) (rest := []) ⟨hx, hb, hml, hown, hts⟩ M_6 (va_cwS 1 hts gX7_learn_X7_isActor rfl rfl rfl (by decide +kernel) ⟨Nat.le_of_ble_eq_true rfl, Nat.le_of_ble_eq_true rfl⟩) ⟨nuB.bl, fun U hU hW => ⟨rfl, trivial⟩⟩ rfl rfl hl.1 rfl (lv_room (Nat.le_of_ble_eq_true rfl)) dX7_learn_6 (by exact ⟨Nat.zero_le _, Nat.zero_le _⟩)) (fun r_6 hr_6 => ?_)
  subst hr_6
  refine cd_ifB_eq (tgt := 19) hx hb dX7_learn_9 (by decide) (fun c_9 => ?_) (fun c_9 => ?_)
  · refine lv_aload_n hx hb dX7_learn_19 rfl (lv_at hl 0 rfl) ?_
    refine lv_iconst (v := nI 1) hx hb dX7_learn_20 (by decide) ?_
    have M_21 := c_X7_fails l D cy g S (va_up K 28 (fun _ => nI 0)) (nI 1) H.size
    refine cd_fri (S := Unit) (W1 := fun u => (wM cy g S (va_up (va_up K 28 (fun _ => nI 0)) 28 (fun _ => (nI 1))))) (ws' := fun u => (wM cy g S (va_up K 28 (fun _ => (nI 1))))) (wc := (wM cy g S (va_up K 28 (fun _ => nI 0)))) (wr := []) (va_runV (As := [.int (nI 1)]) (rest := []) ⟨hx, hb, hml, hown, hts⟩ M_21 (cwV 1 hts gX7_learn_X7_fails rfl rfl rfl (by decide +kernel) ⟨Nat.le_of_ble_eq_true rfl, Nat.le_of_ble_eq_true rfl⟩) ⟨wrB.bl, va_recv hK hP (ci := 7) (q0 := 0) rfl rfl, fun U hU hW => ⟨rfl, by rw [hU], by rw [hU]; exact hP, hG.warm hW, hD.weaken (fun _ _ _ _ => trivial)⟩⟩ rfl rfl hl.1 rfl (lv_room (Nat.le_of_ble_eq_true rfl)) dX7_learn_21 (by exact ⟨Nat.zero_le _, Nat.zero_le _⟩)) hP hD hS hA [0, 1, 2, 3, 4, 5, 6, 7, 8, 9, 10, 11, 12, 13, 14, 15, 16, 17, 18, 19, 20] [] [0, 1, 2, 3, 4, 5, 6, 7, 8, 9, 10, 11, 12, 13, 14, 15, 16, 17, 18, 19, 20] rfl rfl (by decide) (by decide) (by decide) (fun _ => rfl) (fun r_21 _ H locs hw_21 hP hD hS => ?_)
    subst hw_21
    have hP : va_P D vwCl (wM cy g S (va_up K 28 (fun _ => (nI 1)))) H := hP
    have hD : va_D A (wM cy g S (va_up K 28 (fun _ => (nI 1)))) := hD
    exact W.iret (v := nI 0) hx hb hr (fun t ht hW => ⟨⟨nI 0, (S, (va_up K 28 (fun _ => (nI 1)))), rfl, mO_no (k := 1) (by decide) (by decide) (by rw [c_9]; rfl) rfl, by rw [ht]; exact hP, hD⟩, hS.F ht⟩) hS.2.2 dX7_learn_24
  · obtain ⟨ja, hja, rfl⟩ := inI_nat (by decide) c_9
    try rw [nv_nI (show ja < 2147483648 by omega)]
    refine lv_iload_n hx hb dX7_learn_12 rfl (lv_at hl 2 rfl) ?_
    have M_13 := c_X7_isPart l p
    refine cd_roi (va_runS (As := [.int p]) (rest := []) ⟨hx, hb, hml, hown, hts⟩ M_13 (va_cwS 1 hts gX7_learn_X7_isPart rfl rfl rfl (by decide +kernel) ⟨Nat.le_of_ble_eq_true rfl, Nat.le_of_ble_eq_true rfl⟩) ⟨nuB.bl, fun U hU hW => ⟨rfl, trivial⟩⟩ rfl rfl hl.1 rfl (lv_room (Nat.le_of_ble_eq_true rfl)) dX7_learn_13 (by exact ⟨Nat.zero_le _, Nat.zero_le _⟩)) (fun r_13 hr_13 => ?_)
    subst hr_13
    refine cd_ifB_ne (tgt := 25) hx hb dX7_learn_16 (by decide) (fun c_16 => ?_) (fun c_16 => ?_)
    · obtain ⟨jp, hjp, rfl⟩ := inI_nat (by decide) c_16
      try rw [nv_nI (show jp < 2147483648 by omega)]
      have hk3 := iv_3 hI ja (by omega)
      have hk3b := hk3.1.2
      have hk3p : pcn 12 (nv (S 3 ja)) ≤ 4 := hk3.2
      have hp8 := pcn_8 hk3b
      have hjp8 : jp < 8 := by omega
      have hkn := knF_lt kb hk3b hjp8
      have hkn8 := pcn_8 hkn
      refine lv_iload_n hx hb dX7_learn_25 rfl (lv_at hl 3 rfl) ?_
      refine cd_ifB_eq (tgt := 53) hx hb dX7_learn_26 (by decide) (fun c_26 => ?_) (fun c_26 => ?_)
      · refine lv_iload_n hx hb dX7_learn_53 rfl (lv_at hl 3 rfl) ?_
        refine lv_aload_n hx hb dX7_learn_54 rfl (lv_at hl 0 rfl) ?_
        refine lv_iload_n hx hb dX7_learn_55 rfl (lv_at hl 1 rfl) ?_
        refine lv_iload_n hx hb dX7_learn_56 rfl (lv_at hl 2 rfl) ?_
        have M_57 := c_X7_knows l D cy g S (va_up K 28 (fun _ => nI 0)) hI ja jp (by omega) (by omega)
        refine cd_roi (va_runV (As := [.int (nI ja), .int (nI jp)]) (rest := [.int (bI kb)]) ⟨hx, hb, hml, hown, hts⟩ M_57 (cwV 2 hts gX7_learn_X7_knows rfl rfl rfl (by decide +kernel) ⟨Nat.le_of_ble_eq_true rfl, Nat.le_of_ble_eq_true rfl⟩) ⟨roB.bl, va_recv hK hP (ci := 7) (q0 := 0) rfl rfl, fun U hU hW => ⟨rfl, by rw [hU]; exact hP, hG.warm hW⟩⟩ rfl rfl hl.1 rfl (lv_room (Nat.le_of_ble_eq_true rfl)) dX7_learn_57 (by exact ⟨Nat.zero_le _, Nat.zero_le _⟩)) (fun r_57 hr_57 => ?_)
        subst hr_57
        refine cd_tp (y := bI ((nv ((S 3) ja)).testBit jp)) rfl ?_
        refine lv_icmp_eq (tgt := 75) hx hb dX7_learn_60 (by decide) (fun c_60 => ?_) (fun c_60 => ?_)
        · have ekb := bI_inj c_60
          have eS3_69 : S 3 = upd (S 3) ja (nI (knF kb (nv (S 3 ja)) jp)) := by rw [ekb, knF_id]; exact (upd_eq hk3.1.1).symm
          have hP : va_P D vwCl (wM cy g (va_up S 3 (upd (S 3) ja (nI (knF kb (nv (S 3 ja)) jp)))) (va_up K 28 (fun _ => nI 0))) H := by rw [← eS3_69]; exact hP
          have hD : va_D A (wM cy g (va_up S 3 (upd (S 3) ja (nI (knF kb (nv (S 3 ja)) jp)))) (va_up K 28 (fun _ => nI 0))) := by rw [← eS3_69]; exact hD
          refine lv_aload_n hx hb dX7_learn_75 rfl (lv_at hl 0 rfl) ?_
          refine lv_iload_n hx hb dX7_learn_76 rfl (lv_at hl 1 rfl) ?_
          have M_77 := c_X7_knownBy l D cy g (va_up S 3 (upd (S 3) ja (nI (knF kb (nv (S 3 ja)) jp)))) (va_up K 28 (fun _ => nI 0)) ja (by omega) (show bd (upd (S 3) ja (nI (knF kb (nv (S 3 ja)) jp)) ja) 256 by rw [upd_s]; exact bd_nI hkn (by decide))
          refine cd_roi (va_runV (As := [.int (nI ja)]) (rest := []) ⟨hx, hb, hml, hown, hts⟩ M_77 (cwV 1 hts gX7_learn_X7_knownBy rfl rfl rfl (by decide +kernel) ⟨Nat.le_of_ble_eq_true rfl, Nat.le_of_ble_eq_true rfl⟩) ⟨roB.bl, va_recv hK hP (ci := 7) (q0 := 0) rfl rfl, fun U hU hW => ⟨rfl, by rw [hU]; exact hP, hG.warm hW⟩⟩ rfl rfl hl.1 rfl (lv_room (Nat.le_of_ble_eq_true rfl)) dX7_learn_77 (by exact ⟨Nat.zero_le _, Nat.zero_le _⟩)) (fun r_77 hr_77 => ?_)
          subst hr_77
          refine cd_tp (y := nI (pcn 8 (nv ((upd (S 3) ja (nI (knF kb (nv (S 3 ja)) jp))) ja)))) rfl ?_
          refine cd_tp (y := nI (pcn 8 (knF kb (nv (S 3 ja)) jp))) (by rw [upd_s, nv_nI (by omega)]) ?_
          exact W.iret (v := nI (pcn 8 (knF kb (nv (S 3 ja)) jp))) hx hb hr (fun t ht hW => ⟨⟨nI (pcn 8 (knF kb (nv (S 3 ja)) jp)), (_, (va_up K 28 (fun _ => nI 0))), rfl, mO_ok (by rw [c_9, c_16, kn_yes hk3b hjp8 hk3p (fun q => by rw [c_26] at q; cases q)]; rfl) (by rw [hkn8]) rfl, by rw [ht]; exact hP, hD⟩, hS.F ht⟩) hS.2.2 dX7_learn_80
        · refine lv_aload_n hx hb dX7_learn_63 rfl (lv_at hl 0 rfl) ?_
          refine va_get (D := D) (ci := 7) (v := .ref (g 2)) (C := RX7) (T := TX7) (N := 29) hx hb hts iX7 hown hK hP 0 rfl rfl 2 (by decide) f_17 (fun _ h9 => h9) rfl dX7_learn_64 ?_
          refine lv_iload_n hx hb dX7_learn_67 rfl (lv_at hl 1 rfl) ?_
          refine lv_dup2_11 hx hb dX7_learn_68 rfl rfl ?_
          refine cd_iald (f := S 3) hx hb hK hP 2 rfl (by omega) (by decide) dX7_learn_69 ?_
          have b_69 := (iv_3 hI ja (by omega)).1
          refine cd_tp (y := nI (nv (S 3 ja))) b_69.1 ?_
          have b_69 := b_69.2
          refine lv_iconst (v := nI 1) hx hb dX7_learn_70 (by decide) ?_
          refine lv_iload_n hx hb dX7_learn_71 rfl (lv_at hl 2 rfl) ?_
          refine cd_ishl hx hb (by omega) (by have := Nat.pow_lt_pow_right (a := 2) (n := 8) (by decide) hjp8; omega) dX7_learn_72 ?_
          refine lv_ixor hx hb dX7_learn_73 ?_
          have ekb : kb = !((nv (S 3 ja)).testBit jp) := bI_ne c_60
          refine cd_tp (y := nI (knF kb (nv (S 3 ja)) jp)) (by rw [ekb]; exact xor_J _ hk3b _ hjp8) ?_
          refine cd_iast (f := S 3) hx hb hK hP hD hS 2 rfl (by omega) (by decide) dX7_learn_74 (fun H locs hP hD hS => ?_)
          have hP : va_P D vwCl (wM cy g (va_up S 3 (upd (S 3) ja (nI (knF kb (nv (S 3 ja)) jp)))) (va_up K 28 (fun _ => nI 0))) H := hP
          have hD : va_D A (wM cy g (va_up S 3 (upd (S 3) ja (nI (knF kb (nv (S 3 ja)) jp)))) (va_up K 28 (fun _ => nI 0))) := hD
          refine lv_aload_n hx hb dX7_learn_75 rfl (lv_at hl 0 rfl) ?_
          refine lv_iload_n hx hb dX7_learn_76 rfl (lv_at hl 1 rfl) ?_
          have M_77 := c_X7_knownBy l D cy g (va_up S 3 (upd (S 3) ja (nI (knF kb (nv (S 3 ja)) jp)))) (va_up K 28 (fun _ => nI 0)) ja (by omega) (show bd (upd (S 3) ja (nI (knF kb (nv (S 3 ja)) jp)) ja) 256 by rw [upd_s]; exact bd_nI hkn (by decide))
          refine cd_roi (va_runV (As := [.int (nI ja)]) (rest := []) ⟨hx, hb, hml, hown, hts⟩ M_77 (cwV 1 hts gX7_learn_X7_knownBy rfl rfl rfl (by decide +kernel) ⟨Nat.le_of_ble_eq_true rfl, Nat.le_of_ble_eq_true rfl⟩) ⟨roB.bl, va_recv hK hP (ci := 7) (q0 := 0) rfl rfl, fun U hU hW => ⟨rfl, by rw [hU]; exact hP, hG.warm hW⟩⟩ rfl rfl hl.1 rfl (lv_room (Nat.le_of_ble_eq_true rfl)) dX7_learn_77 (by exact ⟨Nat.zero_le _, Nat.zero_le _⟩)) (fun r_77 hr_77 => ?_)
          subst hr_77
          refine cd_tp (y := nI (pcn 8 (nv ((upd (S 3) ja (nI (knF kb (nv (S 3 ja)) jp))) ja)))) rfl ?_
          refine cd_tp (y := nI (pcn 8 (knF kb (nv (S 3 ja)) jp))) (by rw [upd_s, nv_nI (by omega)]) ?_
          exact W.iret (v := nI (pcn 8 (knF kb (nv (S 3 ja)) jp))) hx hb hr (fun t ht hW => ⟨⟨nI (pcn 8 (knF kb (nv (S 3 ja)) jp)), (_, (va_up K 28 (fun _ => nI 0))), rfl, mO_ok (by rw [c_9, c_16, kn_yes hk3b hjp8 hk3p (fun q => by rw [c_26] at q; cases q)]; rfl) (by rw [hkn8]) rfl, by rw [ht]; exact hP, hD⟩, hS.F ht⟩) hS.2.2 dX7_learn_80
      · refine lv_aload_n hx hb dX7_learn_29 rfl (lv_at hl 0 rfl) ?_
        refine lv_iload_n hx hb dX7_learn_30 rfl (lv_at hl 1 rfl) ?_
        refine lv_iload_n hx hb dX7_learn_31 rfl (lv_at hl 2 rfl) ?_
        have M_32 := c_X7_knows l D cy g S (va_up K 28 (fun _ => nI 0)) hI ja jp (by omega) (by omega)
        refine cd_roi (va_runV (As := [.int (nI ja), .int (nI jp)]) (rest := []) ⟨hx, hb, hml, hown, hts⟩ M_32 (cwV 2 hts gX7_learn_X7_knows rfl rfl rfl (by decide +kernel) ⟨Nat.le_of_ble_eq_true rfl, Nat.le_of_ble_eq_true rfl⟩) ⟨roB.bl, va_recv hK hP (ci := 7) (q0 := 0) rfl rfl, fun U hU hW => ⟨rfl, by rw [hU]; exact hP, hG.warm hW⟩⟩ rfl rfl hl.1 rfl (lv_room (Nat.le_of_ble_eq_true rfl)) dX7_learn_32 (by exact ⟨Nat.zero_le _, Nat.zero_le _⟩)) (fun r_32 hr_32 => ?_)
        subst hr_32
        refine cd_tp (y := bI ((nv ((S 3) ja)).testBit jp)) rfl ?_
        refine cd_ifB_ne (tgt := 53) hx hb dX7_learn_35 (by decide) (fun c_35 => ?_) (fun c_35 => ?_)
        · refine lv_iload_n hx hb dX7_learn_53 rfl (lv_at hl 3 rfl) ?_
          refine lv_aload_n hx hb dX7_learn_54 rfl (lv_at hl 0 rfl) ?_
          refine lv_iload_n hx hb dX7_learn_55 rfl (lv_at hl 1 rfl) ?_
          refine lv_iload_n hx hb dX7_learn_56 rfl (lv_at hl 2 rfl) ?_
          have M_57 := c_X7_knows l D cy g S (va_up K 28 (fun _ => nI 0)) hI ja jp (by omega) (by omega)
          refine cd_roi (va_runV (As := [.int (nI ja), .int (nI jp)]) (rest := [.int (bI kb)]) ⟨hx, hb, hml, hown, hts⟩ M_57 (cwV 2 hts gX7_learn_X7_knows rfl rfl rfl (by decide +kernel) ⟨Nat.le_of_ble_eq_true rfl, Nat.le_of_ble_eq_true rfl⟩) ⟨roB.bl, va_recv hK hP (ci := 7) (q0 := 0) rfl rfl, fun U hU hW => ⟨rfl, by rw [hU]; exact hP, hG.warm hW⟩⟩ rfl rfl hl.1 rfl (lv_room (Nat.le_of_ble_eq_true rfl)) dX7_learn_57 (by exact ⟨Nat.zero_le _, Nat.zero_le _⟩)) (fun r_57 hr_57 => ?_)
          subst hr_57
          refine cd_tp (y := bI ((nv ((S 3) ja)).testBit jp)) rfl ?_
          refine lv_icmp_eq (tgt := 75) hx hb dX7_learn_60 (by decide) (fun c_60 => ?_) (fun c_60 => ?_)
          · have ekb := bI_inj c_60
            have eS3_123 : S 3 = upd (S 3) ja (nI (knF kb (nv (S 3 ja)) jp)) := by rw [ekb, knF_id]; exact (upd_eq hk3.1.1).symm
            have hP : va_P D vwCl (wM cy g (va_up S 3 (upd (S 3) ja (nI (knF kb (nv (S 3 ja)) jp)))) (va_up K 28 (fun _ => nI 0))) H := by rw [← eS3_123]; exact hP
            have hD : va_D A (wM cy g (va_up S 3 (upd (S 3) ja (nI (knF kb (nv (S 3 ja)) jp)))) (va_up K 28 (fun _ => nI 0))) := by rw [← eS3_123]; exact hD
            refine lv_aload_n hx hb dX7_learn_75 rfl (lv_at hl 0 rfl) ?_
            refine lv_iload_n hx hb dX7_learn_76 rfl (lv_at hl 1 rfl) ?_
            have M_77 := c_X7_knownBy l D cy g (va_up S 3 (upd (S 3) ja (nI (knF kb (nv (S 3 ja)) jp)))) (va_up K 28 (fun _ => nI 0)) ja (by omega) (show bd (upd (S 3) ja (nI (knF kb (nv (S 3 ja)) jp)) ja) 256 by rw [upd_s]; exact bd_nI hkn (by decide))
            refine cd_roi (va_runV (As := [.int (nI ja)]) (rest := []) ⟨hx, hb, hml, hown, hts⟩ M_77 (cwV 1 hts gX7_learn_X7_knownBy rfl rfl rfl (by decide +kernel) ⟨Nat.le_of_ble_eq_true rfl, Nat.le_of_ble_eq_true rfl⟩) ⟨roB.bl, va_recv hK hP (ci := 7) (q0 := 0) rfl rfl, fun U hU hW => ⟨rfl, by rw [hU]; exact hP, hG.warm hW⟩⟩ rfl rfl hl.1 rfl (lv_room (Nat.le_of_ble_eq_true rfl)) dX7_learn_77 (by exact ⟨Nat.zero_le _, Nat.zero_le _⟩)) (fun r_77 hr_77 => ?_)
            subst hr_77
            refine cd_tp (y := nI (pcn 8 (nv ((upd (S 3) ja (nI (knF kb (nv (S 3 ja)) jp))) ja)))) rfl ?_
            refine cd_tp (y := nI (pcn 8 (knF kb (nv (S 3 ja)) jp))) (by rw [upd_s, nv_nI (by omega)]) ?_
            exact W.iret (v := nI (pcn 8 (knF kb (nv (S 3 ja)) jp))) hx hb hr (fun t ht hW => ⟨⟨nI (pcn 8 (knF kb (nv (S 3 ja)) jp)), (_, (va_up K 28 (fun _ => nI 0))), rfl, mO_ok (by rw [c_9, c_16, kn_yes hk3b hjp8 hk3p (fun _ q => by rw [c_35] at q; cases q)]; rfl) (by rw [hkn8]) rfl, by rw [ht]; exact hP, hD⟩, hS.F ht⟩) hS.2.2 dX7_learn_80
          · refine lv_aload_n hx hb dX7_learn_63 rfl (lv_at hl 0 rfl) ?_
            refine va_get (D := D) (ci := 7) (v := .ref (g 2)) (C := RX7) (T := TX7) (N := 29) hx hb hts iX7 hown hK hP 0 rfl rfl 2 (by decide) f_17 (fun _ h9 => h9) rfl dX7_learn_64 ?_
            refine lv_iload_n hx hb dX7_learn_67 rfl (lv_at hl 1 rfl) ?_
            refine lv_dup2_11 hx hb dX7_learn_68 rfl rfl ?_
            refine cd_iald (f := S 3) hx hb hK hP 2 rfl (by omega) (by decide) dX7_learn_69 ?_
            have b_69 := (iv_3 hI ja (by omega)).1
            refine cd_tp (y := nI (nv (S 3 ja))) b_69.1 ?_
            have b_69 := b_69.2
            refine lv_iconst (v := nI 1) hx hb dX7_learn_70 (by decide) ?_
            refine lv_iload_n hx hb dX7_learn_71 rfl (lv_at hl 2 rfl) ?_
            refine cd_ishl hx hb (by omega) (by have := Nat.pow_lt_pow_right (a := 2) (n := 8) (by decide) hjp8; omega) dX7_learn_72 ?_
            refine lv_ixor hx hb dX7_learn_73 ?_
            have ekb : kb = !((nv (S 3 ja)).testBit jp) := bI_ne c_60
            refine cd_tp (y := nI (knF kb (nv (S 3 ja)) jp)) (by rw [ekb]; exact xor_J _ hk3b _ hjp8) ?_
            refine cd_iast (f := S 3) hx hb hK hP hD hS 2 rfl (by omega) (by decide) dX7_learn_74 (fun H locs hP hD hS => ?_)
            have hP : va_P D vwCl (wM cy g (va_up S 3 (upd (S 3) ja (nI (knF kb (nv (S 3 ja)) jp)))) (va_up K 28 (fun _ => nI 0))) H := hP
            have hD : va_D A (wM cy g (va_up S 3 (upd (S 3) ja (nI (knF kb (nv (S 3 ja)) jp)))) (va_up K 28 (fun _ => nI 0))) := hD
            refine lv_aload_n hx hb dX7_learn_75 rfl (lv_at hl 0 rfl) ?_
            refine lv_iload_n hx hb dX7_learn_76 rfl (lv_at hl 1 rfl) ?_
            have M_77 := c_X7_knownBy l D cy g (va_up S 3 (upd (S 3) ja (nI (knF kb (nv (S 3 ja)) jp)))) (va_up K 28 (fun _ => nI 0)) ja (by omega) (show bd (upd (S 3) ja (nI (knF kb (nv (S 3 ja)) jp)) ja) 256 by rw [upd_s]; exact bd_nI hkn (by decide))
            refine cd_roi (va_runV (As := [.int (nI ja)]) (rest := []) ⟨hx, hb, hml, hown, hts⟩ M_77 (cwV 1 hts gX7_learn_X7_knownBy rfl rfl rfl (by decide +kernel) ⟨Nat.le_of_ble_eq_true rfl, Nat.le_of_ble_eq_true rfl⟩) ⟨roB.bl, va_recv hK hP (ci := 7) (q0 := 0) rfl rfl, fun U hU hW => ⟨rfl, by rw [hU]; exact hP, hG.warm hW⟩⟩ rfl rfl hl.1 rfl (lv_room (Nat.le_of_ble_eq_true rfl)) dX7_learn_77 (by exact ⟨Nat.zero_le _, Nat.zero_le _⟩)) (fun r_77 hr_77 => ?_)
            subst hr_77
            refine cd_tp (y := nI (pcn 8 (nv ((upd (S 3) ja (nI (knF kb (nv (S 3 ja)) jp))) ja)))) rfl ?_
            refine cd_tp (y := nI (pcn 8 (knF kb (nv (S 3 ja)) jp))) (by rw [upd_s, nv_nI (by omega)]) ?_
            exact W.iret (v := nI (pcn 8 (knF kb (nv (S 3 ja)) jp))) hx hb hr (fun t ht hW => ⟨⟨nI (pcn 8 (knF kb (nv (S 3 ja)) jp)), (_, (va_up K 28 (fun _ => nI 0))), rfl, mO_ok (by rw [c_9, c_16, kn_yes hk3b hjp8 hk3p (fun _ q => by rw [c_35] at q; cases q)]; rfl) (by rw [hkn8]) rfl, by rw [ht]; exact hP, hD⟩, hS.F ht⟩) hS.2.2 dX7_learn_80
        · refine lv_aload_n hx hb dX7_learn_38 rfl (lv_at hl 0 rfl) ?_
          refine lv_iload_n hx hb dX7_learn_39 rfl (lv_at hl 1 rfl) ?_
          have M_40 := c_X7_knownBy l D cy g S (va_up K 28 (fun _ => nI 0)) ja (by omega) hk3.1
          refine cd_roi (va_runV (As := [.int (nI ja)]) (rest := []) ⟨hx, hb, hml, hown, hts⟩ M_40 (cwV 1 hts gX7_learn_X7_knownBy rfl rfl rfl (by decide +kernel) ⟨Nat.le_of_ble_eq_true rfl, Nat.le_of_ble_eq_true rfl⟩) ⟨roB.bl, va_recv hK hP (ci := 7) (q0 := 0) rfl rfl, fun U hU hW => ⟨rfl, by rw [hU]; exact hP, hG.warm hW⟩⟩ rfl rfl hl.1 rfl (lv_room (Nat.le_of_ble_eq_true rfl)) dX7_learn_40 (by exact ⟨Nat.zero_le _, Nat.zero_le _⟩)) (fun r_40 hr_40 => ?_)
          subst hr_40
          refine cd_tp (y := nI (pcn 8 (nv ((S 3) ja)))) rfl ?_
          refine lv_iconst (v := nI 4) hx hb dX7_learn_43 (by decide) ?_
          refine cd_icmp_ne (tgt := 53) hx hb dX7_learn_44 (by decide) (by omega) (by omega) (fun c_44 => ?_) (fun c_44 => ?_)
          · refine lv_iload_n hx hb dX7_learn_53 rfl (lv_at hl 3 rfl) ?_
            refine lv_aload_n hx hb dX7_learn_54 rfl (lv_at hl 0 rfl) ?_
            refine lv_iload_n hx hb dX7_learn_55 rfl (lv_at hl 1 rfl) ?_
            refine lv_iload_n hx hb dX7_learn_56 rfl (lv_at hl 2 rfl) ?_
            have M_57 := c_X7_knows l D cy g S (va_up K 28 (fun _ => nI 0)) hI ja jp (by omega) (by omega)
            refine cd_roi (va_runV (As := [.int (nI ja), .int (nI jp)]) (rest := [.int (bI kb)]) ⟨hx, hb, hml, hown, hts⟩ M_57 (cwV 2 hts gX7_learn_X7_knows rfl rfl rfl (by decide +kernel) ⟨Nat.le_of_ble_eq_true rfl, Nat.le_of_ble_eq_true rfl⟩) ⟨roB.bl, va_recv hK hP (ci := 7) (q0 := 0) rfl rfl, fun U hU hW => ⟨rfl, by rw [hU]; exact hP, hG.warm hW⟩⟩ rfl rfl hl.1 rfl (lv_room (Nat.le_of_ble_eq_true rfl)) dX7_learn_57 (by exact ⟨Nat.zero_le _, Nat.zero_le _⟩)) (fun r_57 hr_57 => ?_)
            subst hr_57
            refine cd_tp (y := bI ((nv ((S 3) ja)).testBit jp)) rfl ?_
            refine lv_icmp_eq (tgt := 75) hx hb dX7_learn_60 (by decide) (fun c_60 => ?_) (fun c_60 => ?_)
            · have ekb := bI_inj c_60
              have eS3_177 : S 3 = upd (S 3) ja (nI (knF kb (nv (S 3 ja)) jp)) := by rw [ekb, knF_id]; exact (upd_eq hk3.1.1).symm
              have hP : va_P D vwCl (wM cy g (va_up S 3 (upd (S 3) ja (nI (knF kb (nv (S 3 ja)) jp)))) (va_up K 28 (fun _ => nI 0))) H := by rw [← eS3_177]; exact hP
              have hD : va_D A (wM cy g (va_up S 3 (upd (S 3) ja (nI (knF kb (nv (S 3 ja)) jp)))) (va_up K 28 (fun _ => nI 0))) := by rw [← eS3_177]; exact hD
              refine lv_aload_n hx hb dX7_learn_75 rfl (lv_at hl 0 rfl) ?_
              refine lv_iload_n hx hb dX7_learn_76 rfl (lv_at hl 1 rfl) ?_
              have M_77 := c_X7_knownBy l D cy g (va_up S 3 (upd (S 3) ja (nI (knF kb (nv (S 3 ja)) jp)))) (va_up K 28 (fun _ => nI 0)) ja (by omega) (show bd (upd (S 3) ja (nI (knF kb (nv (S 3 ja)) jp)) ja) 256 by rw [upd_s]; exact bd_nI hkn (by decide))
              refine cd_roi (va_runV (As := [.int (nI ja)]) (rest := []) ⟨hx, hb, hml, hown, hts⟩ M_77 (cwV 1 hts gX7_learn_X7_knownBy rfl rfl rfl (by decide +kernel) ⟨Nat.le_of_ble_eq_true rfl, Nat.le_of_ble_eq_true rfl⟩) ⟨roB.bl, va_recv hK hP (ci := 7) (q0 := 0) rfl rfl, fun U hU hW => ⟨rfl, by rw [hU]; exact hP, hG.warm hW⟩⟩ rfl rfl hl.1 rfl (lv_room (Nat.le_of_ble_eq_true rfl)) dX7_learn_77 (by exact ⟨Nat.zero_le _, Nat.zero_le _⟩)) (fun r_77 hr_77 => ?_)
              subst hr_77
              refine cd_tp (y := nI (pcn 8 (nv ((upd (S 3) ja (nI (knF kb (nv (S 3 ja)) jp))) ja)))) rfl ?_
              refine cd_tp (y := nI (pcn 8 (knF kb (nv (S 3 ja)) jp))) (by rw [upd_s, nv_nI (by omega)]) ?_
              exact W.iret (v := nI (pcn 8 (knF kb (nv (S 3 ja)) jp))) hx hb hr (fun t ht hW => ⟨⟨nI (pcn 8 (knF kb (nv (S 3 ja)) jp)), (_, (va_up K 28 (fun _ => nI 0))), rfl, mO_ok (by rw [c_9, c_16, kn_yes hk3b hjp8 hk3p (fun _ _ => by omega)]; rfl) (by rw [hkn8]) rfl, by rw [ht]; exact hP, hD⟩, hS.F ht⟩) hS.2.2 dX7_learn_80
            · refine lv_aload_n hx hb dX7_learn_63 rfl (lv_at hl 0 rfl) ?_
              refine va_get (D := D) (ci := 7) (v := .ref (g 2)) (C := RX7) (T := TX7) (N := 29) hx hb hts iX7 hown hK hP 0 rfl rfl 2 (by decide) f_17 (fun _ h9 => h9) rfl dX7_learn_64 ?_
              refine lv_iload_n hx hb dX7_learn_67 rfl (lv_at hl 1 rfl) ?_
              refine lv_dup2_11 hx hb dX7_learn_68 rfl rfl ?_
              refine cd_iald (f := S 3) hx hb hK hP 2 rfl (by omega) (by decide) dX7_learn_69 ?_
              have b_69 := (iv_3 hI ja (by omega)).1
              refine cd_tp (y := nI (nv (S 3 ja))) b_69.1 ?_
              have b_69 := b_69.2
              refine lv_iconst (v := nI 1) hx hb dX7_learn_70 (by decide) ?_
              refine lv_iload_n hx hb dX7_learn_71 rfl (lv_at hl 2 rfl) ?_
              refine cd_ishl hx hb (by omega) (by have := Nat.pow_lt_pow_right (a := 2) (n := 8) (by decide) hjp8; omega) dX7_learn_72 ?_
              refine lv_ixor hx hb dX7_learn_73 ?_
              have ekb : kb = !((nv (S 3 ja)).testBit jp) := bI_ne c_60
              refine cd_tp (y := nI (knF kb (nv (S 3 ja)) jp)) (by rw [ekb]; exact xor_J _ hk3b _ hjp8) ?_
              refine cd_iast (f := S 3) hx hb hK hP hD hS 2 rfl (by omega) (by decide) dX7_learn_74 (fun H locs hP hD hS => ?_)
              have hP : va_P D vwCl (wM cy g (va_up S 3 (upd (S 3) ja (nI (knF kb (nv (S 3 ja)) jp)))) (va_up K 28 (fun _ => nI 0))) H := hP
              have hD : va_D A (wM cy g (va_up S 3 (upd (S 3) ja (nI (knF kb (nv (S 3 ja)) jp)))) (va_up K 28 (fun _ => nI 0))) := hD
              refine lv_aload_n hx hb dX7_learn_75 rfl (lv_at hl 0 rfl) ?_
              refine lv_iload_n hx hb dX7_learn_76 rfl (lv_at hl 1 rfl) ?_
              have M_77 := c_X7_knownBy l D cy g (va_up S 3 (upd (S 3) ja (nI (knF kb (nv (S 3 ja)) jp)))) (va_up K 28 (fun _ => nI 0)) ja (by omega) (show bd (upd (S 3) ja (nI (knF kb (nv (S 3 ja)) jp)) ja) 256 by rw [upd_s]; exact bd_nI hkn (by decide))
              refine cd_roi (va_runV (As := [.int (nI ja)]) (rest := []) ⟨hx, hb, hml, hown, hts⟩ M_77 (cwV 1 hts gX7_learn_X7_knownBy rfl rfl rfl (by decide +kernel) ⟨Nat.le_of_ble_eq_true rfl, Nat.le_of_ble_eq_true rfl⟩) ⟨roB.bl, va_recv hK hP (ci := 7) (q0 := 0) rfl rfl, fun U hU hW => ⟨rfl, by rw [hU]; exact hP, hG.warm hW⟩⟩ rfl rfl hl.1 rfl (lv_room (Nat.le_of_ble_eq_true rfl)) dX7_learn_77 (by exact ⟨Nat.zero_le _, Nat.zero_le _⟩)) (fun r_77 hr_77 => ?_)
              subst hr_77
              refine cd_tp (y := nI (pcn 8 (nv ((upd (S 3) ja (nI (knF kb (nv (S 3 ja)) jp))) ja)))) rfl ?_
              refine cd_tp (y := nI (pcn 8 (knF kb (nv (S 3 ja)) jp))) (by rw [upd_s, nv_nI (by omega)]) ?_
              exact W.iret (v := nI (pcn 8 (knF kb (nv (S 3 ja)) jp))) hx hb hr (fun t ht hW => ⟨⟨nI (pcn 8 (knF kb (nv (S 3 ja)) jp)), (_, (va_up K 28 (fun _ => nI 0))), rfl, mO_ok (by rw [c_9, c_16, kn_yes hk3b hjp8 hk3p (fun _ _ => by omega)]; rfl) (by rw [hkn8]) rfl, by rw [ht]; exact hP, hD⟩, hS.F ht⟩) hS.2.2 dX7_learn_80
          · refine lv_aload_n hx hb dX7_learn_47 rfl (lv_at hl 0 rfl) ?_
            refine lv_iconst (v := nI 2) hx hb dX7_learn_48 (by decide) ?_
            have M_49 := c_X7_fails l D cy g S (va_up K 28 (fun _ => nI 0)) (nI 2) H.size
            refine cd_fri (S := Unit) (W1 := fun u => (wM cy g S (va_up (va_up K 28 (fun _ => nI 0)) 28 (fun _ => (nI 2))))) (ws' := fun u => (wM cy g S (va_up K 28 (fun _ => (nI 2))))) (wc := (wM cy g S (va_up K 28 (fun _ => nI 0)))) (wr := []) (va_runV (As := [.int (nI 2)]) (rest := []) ⟨hx, hb, hml, hown, hts⟩ M_49 (cwV 1 hts gX7_learn_X7_fails rfl rfl rfl (by decide +kernel) ⟨Nat.le_of_ble_eq_true rfl, Nat.le_of_ble_eq_true rfl⟩) ⟨wrB.bl, va_recv hK hP (ci := 7) (q0 := 0) rfl rfl, fun U hU hW => ⟨rfl, by rw [hU], by rw [hU]; exact hP, hG.warm hW, hD.weaken (fun _ _ _ _ => trivial)⟩⟩ rfl rfl hl.1 rfl (lv_room (Nat.le_of_ble_eq_true rfl)) dX7_learn_49 (by exact ⟨Nat.zero_le _, Nat.zero_le _⟩)) hP hD hS hA [0, 1, 2, 3, 4, 5, 6, 7, 8, 9, 10, 11, 12, 13, 14, 15, 16, 17, 18, 19, 20] [] [0, 1, 2, 3, 4, 5, 6, 7, 8, 9, 10, 11, 12, 13, 14, 15, 16, 17, 18, 19, 20] rfl rfl (by decide) (by decide) (by decide) (fun _ => rfl) (fun r_49 _ H locs hw_49 hP hD hS => ?_)
            subst hw_49
            have hP : va_P D vwCl (wM cy g S (va_up K 28 (fun _ => (nI 2)))) H := hP
            have hD : va_D A (wM cy g S (va_up K 28 (fun _ => (nI 2)))) := hD
            exact W.iret (v := nI 0) hx hb hr (fun t ht hW => ⟨⟨nI 0, (S, (va_up K 28 (fun _ => (nI 2)))), rfl, mO_no (k := 2) (by decide) (by decide) (by rw [c_9, c_16, c_26, kn_no c_35 (by omega) (by omega)]; rfl) rfl, by rw [ht]; exact hP, hD⟩, hS.F ht⟩) hS.2.2 dX7_learn_52
    · refine lv_aload_n hx hb dX7_learn_19 rfl (lv_at hl 0 rfl) ?_
      refine lv_iconst (v := nI 1) hx hb dX7_learn_20 (by decide) ?_
      have M_21 := c_X7_fails l D cy g S (va_up K 28 (fun _ => nI 0)) (nI 1) H.size
      refine cd_fri (S := Unit) (W1 := fun u => (wM cy g S (va_up (va_up K 28 (fun _ => nI 0)) 28 (fun _ => (nI 1))))) (ws' := fun u => (wM cy g S (va_up K 28 (fun _ => (nI 1))))) (wc := (wM cy g S (va_up K 28 (fun _ => nI 0)))) (wr := []) (va_runV (As := [.int (nI 1)]) (rest := []) ⟨hx, hb, hml, hown, hts⟩ M_21 (cwV 1 hts gX7_learn_X7_fails rfl rfl rfl (by decide +kernel) ⟨Nat.le_of_ble_eq_true rfl, Nat.le_of_ble_eq_true rfl⟩) ⟨wrB.bl, va_recv hK hP (ci := 7) (q0 := 0) rfl rfl, fun U hU hW => ⟨rfl, by rw [hU], by rw [hU]; exact hP, hG.warm hW, hD.weaken (fun _ _ _ _ => trivial)⟩⟩ rfl rfl hl.1 rfl (lv_room (Nat.le_of_ble_eq_true rfl)) dX7_learn_21 (by exact ⟨Nat.zero_le _, Nat.zero_le _⟩)) hP hD hS hA [0, 1, 2, 3, 4, 5, 6, 7, 8, 9, 10, 11, 12, 13, 14, 15, 16, 17, 18, 19, 20] [] [0, 1, 2, 3, 4, 5, 6, 7, 8, 9, 10, 11, 12, 13, 14, 15, 16, 17, 18, 19, 20] rfl rfl (by decide) (by decide) (by decide) (fun _ => rfl) (fun r_21 _ H locs hw_21 hP hD hS => ?_)
      subst hw_21
      have hP : va_P D vwCl (wM cy g S (va_up K 28 (fun _ => (nI 1)))) H := hP
      have hD : va_D A (wM cy g S (va_up K 28 (fun _ => (nI 1)))) := hD
      exact W.iret (v := nI 0) hx hb hr (fun t ht hW => ⟨⟨nI 0, (S, (va_up K 28 (fun _ => (nI 1)))), rfl, mO_no (k := 1) (by decide) (by decide) (by rw [c_9, c_16]; rfl) rfl, by rw [ht]; exact hP, hD⟩, hS.F ht⟩) hS.2.2 dX7_learn_24
