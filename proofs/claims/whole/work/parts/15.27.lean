set_option maxHeartbeats 4000000 in
set_option maxRecDepth 100000 in
theorem c_X7_refundOf (l : Launch) (D : va_G) (cy : qT) (g : Nat → Nat) (S : qS) (K : qS) (hI : Inv S) (k : Nat) (m : Nat) (b : Nat) (hk : k < nv (S 31 0)) (hb0 : bc S m = some b) (h26 : K 26 0 = bcS S m) (h24 : ∀ p, p < 8 → K 24 p = bcA S m p) : Met l yX7_refundOf wsX7_refundOf ({ frames := 1, cells := 0, slots := 0, locals := 23 }) (va_Pc [.ref (g 0), .int (nI k)] (roB D cy (wM cy g S K))) (vp_Si (fun r9 => r9 = gbI S k (shR S (bcI S m) k))) 0 0 (fun _ => False) := by
  refine Met.ofW (cc := cX7_refundOf) (maxL := 4) (ret := (some .int)) (by decide) rfl ?_
  intro pp e9 s m9 args9 bl9 meth9 c9 s9 B hml hv
  obtain ⟨rfl, hP, hG⟩ := hv
  have hx := B.exec
  have hb := B.bytes
  have hr := B.returns
  have hts := atoms_spec (ws := wsX7_refundOf) B.pre
  have hown : s.vm.findClass RX7 = some m9.cls := findClass_of_methodNamed B.named
  have hlocks := B.notSynchronized
  have hK := hG.K
  have f_56 := hts (.fieldLink RX7 56 "CastDeskModel" "seatPart" "[I") (by decide +kernel)
  have f_50 := hts (.fieldLink RX7 50 "CastDeskModel" "seatPrice" "[I") (by decide +kernel)
  have f_53 := hts (.fieldLink RX7 53 "CastDeskModel" "seatPromise" "[I") (by decide +kernel)
  have f_7 := hts (.fieldLink RX7 7 "CastDeskModel" "parts" "I") (by decide +kernel)
  have f_68 := hts (.fieldLink RX7 68 "CastDeskModel" "cast" "[I") (by decide +kernel)
  have f_59 := hts (.fieldLink RX7 59 "CastDeskModel" "seatStar" "[I") (by decide +kernel)
  have f_121 := hts (.fieldLink RX7 121 "CastDeskModel" "leastStrain" "I") (by decide +kernel)
  have iX7 : ∀ w ∈ wsX70, w ∈ wsX7_refundOf := by decide +kernel
  have hl := lv_entry ([.ref (g 0), .int (nI k)]) (n := 4) (Nat.le_of_ble_eq_true rfl)
  rw [lg_entry_eq]
  generalize (lg_sl ([.ref (g 0), .int (nI k)]) ++ List.replicate (4 - (lg_sl ([.ref (g 0), .int (nI k)])).length) Slot.unset).toArray = ls at hl ⊢
  have hl : lv_has ls 4 [(0, .ref (g 0)), (1, .int (nI k))] := hl
  have h31 := (iv_31 hI).2
  have h27 := (iv_27 hI).1.2
  have hsr := sr_le (c := dg (nv (S 27 0)) b) (k := nv (S 27 0)) (fun p _ => dg_lt _ b p)
  have hdg := dg_lt (nv (S 27 0)) b (nv (S 23 k))
  refine lv_aload_n hx hb dX7_refundOf_0 rfl (lv_at hl 0 rfl) ?_
  refine va_get (D := D) (ci := 7) (v := .ref (g 17)) (C := RX7) (T := TX7) (N := 29) hx hb hts iX7 hown hK hP 0 rfl rfl 17 (by decide) f_56 (fun _ h9 => h9) rfl dX7_refundOf_1 ?_
  refine lv_iload_n hx hb dX7_refundOf_4 rfl (lv_at hl 1 rfl) ?_
  refine cd_iald (f := S 23) hx hb hK hP 15 rfl (by omega) (by decide) dX7_refundOf_5 ?_
  have b_5 := (iv_22 hI k (by omega)).2
  refine cd_tp (y := nI (nv (S 23 k))) b_5.1 ?_
  have b_5 := b_5.2
  refine lv_istore_n (lv' := [(2, .int (nI (nv (S 23 k)))), (0, .ref (g 0)), (1, .int (nI k))]) hx hb dX7_refundOf_6 rfl hl (by decide) rfl (fun ls hl => ?_)
  refine lv_aload_n hx hb dX7_refundOf_7 rfl (lv_at hl 1 rfl) ?_
  refine va_get (D := D) (ci := 7) (v := .ref (g 15)) (C := RX7) (T := TX7) (N := 29) hx hb hts iX7 hown hK hP 0 rfl rfl 15 (by decide) f_50 (fun _ h9 => h9) rfl dX7_refundOf_8 ?_
  refine lv_iload_n hx hb dX7_refundOf_11 rfl (lv_at hl 2 rfl) ?_
  refine cd_iald (f := S 26) hx hb hK hP 13 rfl (by omega) (by decide) dX7_refundOf_12 ?_
  refine lv_istore_n (lv' := [(3, .int ((S 26) k)), (2, .int (nI (nv (S 23 k)))), (0, .ref (g 0)), (1, .int (nI k))]) hx hb dX7_refundOf_13 rfl hl (by decide) rfl (fun ls hl => ?_)
  refine lv_aload_n hx hb dX7_refundOf_14 rfl (lv_at hl 2 rfl) ?_
  refine va_get (D := D) (ci := 7) (v := .ref (g 16)) (C := RX7) (T := TX7) (N := 29) hx hb hts iX7 hown hK hP 0 rfl rfl 16 (by decide) f_53 (fun _ h9 => h9) rfl dX7_refundOf_15 ?_
  refine lv_iload_n hx hb dX7_refundOf_18 rfl (lv_at hl 3 rfl) ?_
  refine cd_iald (f := S 22) hx hb hK hP 14 rfl (by omega) (by decide) dX7_refundOf_19 ?_
  have b_19 := (iv_22 hI k (by omega)).1
  refine cd_tp (y := nI (nv (S 22 k))) b_19.1 ?_
  have b_19 := b_19.2
  refine lv_iconst (v := nI 2) hx hb dX7_refundOf_20 (by decide) ?_
  refine cd_icmp_ne (tgt := 41) hx hb dX7_refundOf_21 (by decide) (by omega) (by omega) (fun c_21 => ?_) (fun c_21 => ?_)
  · refine lv_aload_n hx hb dX7_refundOf_41 rfl (lv_at hl 2 rfl) ?_
    refine va_get (D := D) (ci := 7) (v := .ref (g 16)) (C := RX7) (T := TX7) (N := 29) hx hb hts iX7 hown hK hP 0 rfl rfl 16 (by decide) f_53 (fun _ h9 => h9) rfl dX7_refundOf_42 ?_
    refine lv_iload_n hx hb dX7_refundOf_45 rfl (lv_at hl 3 rfl) ?_
    refine cd_iald (f := S 22) hx hb hK hP 14 rfl (by omega) (by decide) dX7_refundOf_46 ?_
    have b_46 := (iv_22 hI k (by omega)).1
    refine cd_tp (y := nI (nv (S 22 k))) b_46.1 ?_
    have b_46 := b_46.2
    refine cd_if_eq (tgt := 58) hx hb dX7_refundOf_47 (by decide) (by omega) (fun c_47 => ?_) (fun c_47 => ?_)
    · refine lv_iconst (v := nI 0) hx hb dX7_refundOf_58 (by decide) ?_
      exact W.iret (v := nI 0) hx hb hr (fun t ht hW => ⟨_, rfl, (by rw [shR_0 hI hb0 c_21 (Or.inl c_47)]; rfl), ht⟩) (fun _ h9 => nomatch h9) dX7_refundOf_59
    · refine lv_iload_n hx hb dX7_refundOf_50 rfl (lv_at hl 1 rfl) ?_
      refine lv_aload_n hx hb dX7_refundOf_51 rfl (lv_at hl 2 rfl) ?_
      refine va_get (D := D) (ci := 7) (v := .int (S 27 0)) (C := RX7) (T := TX7) (N := 29) hx hb hts iX7 hown hK hP 0 rfl rfl 0 (by decide) f_7 (fun _ h9 => h9) rfl dX7_refundOf_52 ?_
      have b_52 := (iv_27 hI).1
      refine cd_tp (y := nI (nv (S 27 0))) b_52.1 ?_
      have b_52 := b_52.2
      refine cd_icmp_lt (tgt := 60) hx hb dX7_refundOf_55 (by decide) (by omega) (by omega) (fun c_55 => ?_) (fun c_55 => ?_)
      · refine lv_aload_n hx hb dX7_refundOf_60 rfl (lv_at hl 2 rfl) ?_
        refine va_get (D := D) (ci := 7) (v := .ref (g 16)) (C := RX7) (T := TX7) (N := 29) hx hb hts iX7 hown hK hP 0 rfl rfl 16 (by decide) f_53 (fun _ h9 => h9) rfl dX7_refundOf_61 ?_
        refine lv_iload_n hx hb dX7_refundOf_64 rfl (lv_at hl 3 rfl) ?_
        refine cd_iald (f := S 22) hx hb hK hP 14 rfl (by omega) (by decide) dX7_refundOf_65 ?_
        have b_65 := (iv_22 hI k (by omega)).1
        refine cd_tp (y := nI (nv (S 22 k))) b_65.1 ?_
        have b_65 := b_65.2
        refine lv_iconst (v := nI 1) hx hb dX7_refundOf_66 (by decide) ?_
        refine cd_icmp_ne (tgt := 95) hx hb dX7_refundOf_67 (by decide) (by omega) (by omega) (fun c_67 => ?_) (fun c_67 => ?_)
        · refine lv_aload_n hx hb dX7_refundOf_95 rfl (lv_at hl 2 rfl) ?_
          refine lv_iload_n hx hb dX7_refundOf_96 rfl (lv_at hl 1 rfl) ?_
          refine lv_aload_n hx hb dX7_refundOf_97 rfl (lv_at hl 2 rfl) ?_
          refine va_get (D := D) (ci := 7) (v := .ref (g 24)) (C := RX7) (T := TX7) (N := 29) hx hb hts iX7 hown hK hP 0 rfl rfl 24 (by decide) f_68 (fun _ h9 => h9) rfl dX7_refundOf_98 ?_
          refine lv_iload_n hx hb dX7_refundOf_101 rfl (lv_at hl 1 rfl) ?_
          refine cd_iald (f := K 24) hx hb hK hP 19 rfl (by omega) (by decide) dX7_refundOf_102 ?_
          refine cd_tp (y := bcA S m (nv (S 23 k))) (h24 _ (by omega)) ?_
          have M_103 := c_X7_rankOf l D cy g S K hI (nv (S 23 k)) (bcA S m (nv (S 23 k))) (by omega)
          refine cd_roi (va_runV (As := [.int (nI (nv (S 23 k))), .int (bcA S m (nv (S 23 k)))]) (rest := []) ⟨hx, hb, hml, hown, hts⟩ M_103 (cwV 2 hts gX7_refundOf_X7_rankOf rfl rfl rfl (by decide +kernel) ⟨Nat.le_of_ble_eq_true rfl, Nat.le_of_ble_eq_true rfl⟩) ⟨roB.bl, va_recv hK hP (ci := 7) (q0 := 0) rfl rfl, fun U hU hW => ⟨rfl, by rw [hU]; exact hP, hG.warm hW⟩⟩ rfl rfl hl.1 rfl (lv_room (Nat.le_of_ble_eq_true rfl)) dX7_refundOf_103 (by exact ⟨Nat.zero_le _, Nat.zero_le _⟩)) (fun r_103 hr_103 => ?_)
          subst hr_103
          refine cd_tp (y := nI (dg (nv (S 27 0)) b (nv (S 23 k)))) (rk_bc hI hb0 (by omega)) ?_
          refine lv_iconst (v := nI 1) hx hb dX7_refundOf_106 (by decide) ?_
          refine cd_icmp_gt (tgt := 114) hx hb dX7_refundOf_107 (by decide) (by omega) (by omega) (fun c_107 => ?_) (fun c_107 => ?_)
          · refine lv_iload_n hx hb dX7_refundOf_114 rfl (lv_at hl 0 rfl) ?_
            refine lv_bipush (v := nI 9) hx hb dX7_refundOf_115 (by decide) ?_
            refine lv_iadd hx hb dX7_refundOf_117 ?_
            refine lv_bipush (v := nI 10) hx hb dX7_refundOf_118 (by decide) ?_
            refine lv_idiv hx hb dX7_refundOf_120 (by decide) ?_
            exact W.iret (v := (((S 26) k) + (nI 9)) / (nI 10)) hx hb hr (fun t ht hW => ⟨_, rfl, (by rw [shR_3 hI hb0 (by omega) c_55, if_pos c_107]; exact gb_n (by decide) rfl), ht⟩) (fun _ h9 => nomatch h9) dX7_refundOf_121
          · refine lv_iconst (v := nI 0) hx hb dX7_refundOf_110 (by decide) ?_
            refine lv_goto (tgt := 121) hx hb dX7_refundOf_111 (by decide) ?_
            exact W.iret (v := nI 0) hx hb hr (fun t ht hW => ⟨_, rfl, (by rw [shR_3 hI hb0 (by omega) c_55, if_neg (by omega)]; rfl), ht⟩) (fun _ h9 => nomatch h9) dX7_refundOf_121
        · refine lv_aload_n hx hb dX7_refundOf_70 rfl (lv_at hl 2 rfl) ?_
          refine va_get (D := D) (ci := 7) (v := .ref (g 24)) (C := RX7) (T := TX7) (N := 29) hx hb hts iX7 hown hK hP 0 rfl rfl 24 (by decide) f_68 (fun _ h9 => h9) rfl dX7_refundOf_71 ?_
          refine lv_iload_n hx hb dX7_refundOf_74 rfl (lv_at hl 1 rfl) ?_
          refine cd_iald (f := K 24) hx hb hK hP 19 rfl (by omega) (by decide) dX7_refundOf_75 ?_
          refine cd_tp (y := bcA S m (nv (S 23 k))) (h24 _ (by omega)) ?_
          refine lv_aload_n hx hb dX7_refundOf_76 rfl (lv_at hl 2 rfl) ?_
          refine va_get (D := D) (ci := 7) (v := .ref (g 18)) (C := RX7) (T := TX7) (N := 29) hx hb hts iX7 hown hK hP 0 rfl rfl 18 (by decide) f_59 (fun _ h9 => h9) rfl dX7_refundOf_77 ?_
          refine lv_iload_n hx hb dX7_refundOf_80 rfl (lv_at hl 3 rfl) ?_
          refine cd_iald (f := S 24) hx hb hK hP 16 rfl (by omega) (by decide) dX7_refundOf_81 ?_
          refine lv_icmp_ne (tgt := 89) hx hb dX7_refundOf_82 (by decide) (fun c_82 => ?_) (fun c_82 => ?_)
          · refine lv_iload_n hx hb dX7_refundOf_89 rfl (lv_at hl 0 rfl) ?_
            refine lv_iconst (v := nI 1) hx hb dX7_refundOf_90 (by decide) ?_
            refine lv_iadd hx hb dX7_refundOf_91 ?_
            refine lv_iconst (v := nI 2) hx hb dX7_refundOf_92 (by decide) ?_
            refine lv_idiv hx hb dX7_refundOf_93 (by decide) ?_
            exact W.iret (v := (((S 26) k) + (nI 1)) / (nI 2)) hx hb hr (fun t ht hW => ⟨_, rfl, (by rw [shR_1 hI hb0 c_67 c_55, if_neg c_82]; exact gb_n (by decide) rfl), ht⟩) (fun _ h9 => nomatch h9) dX7_refundOf_94
          · refine lv_iconst (v := nI 0) hx hb dX7_refundOf_85 (by decide) ?_
            refine lv_goto (tgt := 94) hx hb dX7_refundOf_86 (by decide) ?_
            exact W.iret (v := nI 0) hx hb hr (fun t ht hW => ⟨_, rfl, (by rw [shR_1 hI hb0 c_67 c_55, if_pos c_82]; rfl), ht⟩) (fun _ h9 => nomatch h9) dX7_refundOf_94
      · refine lv_iconst (v := nI 0) hx hb dX7_refundOf_58 (by decide) ?_
        exact W.iret (v := nI 0) hx hb hr (fun t ht hW => ⟨_, rfl, (by rw [shR_0 hI hb0 c_21 (Or.inr (by omega))]; rfl), ht⟩) (fun _ h9 => nomatch h9) dX7_refundOf_59
  · refine lv_aload_n hx hb dX7_refundOf_24 rfl (lv_at hl 2 rfl) ?_
    refine va_get (D := D) (ci := 7) (v := .int (K 26 0)) (C := RX7) (T := TX7) (N := 29) hx hb hts iX7 hown hK hP 0 rfl rfl 26 (by decide) f_121 (fun _ h9 => h9) rfl dX7_refundOf_25 ?_
    refine cd_tp (y := nI (sr (dg (nv (S 27 0)) b) (nv (S 27 0)))) (h26.trans (bcS_v hb0)) ?_
    refine cd_if_ne (tgt := 35) hx hb dX7_refundOf_28 (by decide) (by omega) (fun c_28 => ?_) (fun c_28 => ?_)
    · refine lv_iload_n hx hb dX7_refundOf_35 rfl (lv_at hl 0 rfl) ?_
      refine lv_iconst (v := nI 3) hx hb dX7_refundOf_36 (by decide) ?_
      refine lv_iadd hx hb dX7_refundOf_37 ?_
      refine lv_iconst (v := nI 4) hx hb dX7_refundOf_38 (by decide) ?_
      refine lv_idiv hx hb dX7_refundOf_39 (by decide) ?_
      exact W.iret (v := (((S 26) k) + (nI 3)) / (nI 4)) hx hb hr (fun t ht hW => ⟨_, rfl, (by rw [shR_2 hI hb0 c_21, if_pos (by omega)]; exact gb_n (by decide) rfl), ht⟩) (fun _ h9 => nomatch h9) dX7_refundOf_40
    · refine lv_iconst (v := nI 0) hx hb dX7_refundOf_31 (by decide) ?_
      refine lv_goto (tgt := 40) hx hb dX7_refundOf_32 (by decide) ?_
      exact W.iret (v := nI 0) hx hb hr (fun t ht hW => ⟨_, rfl, (by rw [shR_2 hI hb0 c_21, if_neg (by omega)]; rfl), ht⟩) (fun _ h9 => nomatch h9) dX7_refundOf_40
