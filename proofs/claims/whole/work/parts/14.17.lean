set_option maxHeartbeats 4000000 in
set_option maxRecDepth 100000 in
theorem c_X6_shareBack (l : Launch) (D : va_G) (cy : qT) (h : Nat → Nat) (S : qS) (J : qS) (hI : Inv S) (k : Nat) (c : Nat) (hk : k < nv (S 31 0)) (hc : c < 2147483648) : Met l yX6_shareBack wsX6_shareBack ({ frames := 3, cells := 0, slots := 0, locals := 63 }) (va_Pc [.ref (h 0), .int (nI k), .int (nI c)] (roB D cy (wC cy h S J))) (vp_Si (fun r9 => r9 = nI (shK S k c))) 0 0 (fun _ => False) := by
  refine Met.ofW (cc := cX6_shareBack) (maxL := 5) (ret := (some .int)) (by decide) rfl ?_
  intro pp e9 s m9 args9 bl9 meth9 c9 s9 B hml hv
  obtain ⟨rfl, hP, hG⟩ := hv
  have hx := B.exec
  have hb := B.bytes
  have hr := B.returns
  have hts := atoms_spec (ws := wsX6_shareBack) B.pre
  have hown : s.vm.findClass RX6 = some m9.cls := findClass_of_methodNamed B.named
  have hlocks := B.notSynchronized
  have hK := hG.K
  have f_47 := hts (.fieldLink RX6 47 "CastDesk" "office" "LCastDesk$BoxOffice;") (by decide +kernel)
  have f_265 := hts (.fieldLink RX6 265 "CastDesk$BoxOffice" "parts" "[I") (by decide +kernel)
  have f_51 := hts (.fieldLink RX6 51 "CastDesk" "partCount" "I") (by decide +kernel)
  have f_268 := hts (.fieldLink RX6 268 "CastDesk$BoxOffice" "promises" "[I") (by decide +kernel)
  have f_271 := hts (.fieldLink RX6 271 "CastDesk$BoxOffice" "stars" "[I") (by decide +kernel)
  have iX0 : ∀ w ∈ wsX00, w ∈ wsX6_shareBack := by decide +kernel
  have iX6 : ∀ w ∈ wsX60, w ∈ wsX6_shareBack := by decide +kernel
  have hl := lv_entry ([.ref (h 0), .int (nI k), .int (nI c)]) (n := 5) (Nat.le_of_ble_eq_true rfl)
  rw [lg_entry_eq]
  generalize (lg_sl ([.ref (h 0), .int (nI k), .int (nI c)]) ++ List.replicate (5 - (lg_sl ([.ref (h 0), .int (nI k), .int (nI c)])).length) Slot.unset).toArray = ls at hl ⊢
  have hl : lv_has ls 5 [(0, .ref (h 0)), (1, .int (nI k)), (2, .int (nI c))] := hl
  have h31 := (iv_31 hI).2
  have h27 := (iv_27 hI).1.2
  refine lv_aload_n hx hb dX6_shareBack_0 rfl (lv_at hl 0 rfl) ?_
  refine va_get (D := D) (ci := 6) (v := .ref (h 20)) (C := RX6) (T := TX6) (N := 8) hx hb hts iX6 hown hK hP 0 rfl rfl 5 (by decide) f_47 (fun _ h9 => h9) rfl dX6_shareBack_1 ?_
  refine va_get (D := D) (ci := 0) (v := .ref (h 23)) (C := RX0) (T := TX0) (N := 8) hx hb hts iX0 hown hK hP 20 rfl rfl 2 (by decide) f_265 (fun _ h9 => h9) rfl dX6_shareBack_4 ?_
  refine lv_iload_n hx hb dX6_shareBack_7 rfl (lv_at hl 1 rfl) ?_
  refine cd_iald (f := S 23) hx hb hK hP 23 rfl (by omega) (by decide) dX6_shareBack_8 ?_
  have b_8 := (iv_22 hI k (by omega)).2
  refine cd_tp (y := nI (nv (S 23 k))) b_8.1 ?_
  have b_8 := b_8.2
  refine lv_istore_n (lv' := [(3, .int (nI (nv (S 23 k)))), (0, .ref (h 0)), (1, .int (nI k)), (2, .int (nI c))]) hx hb dX6_shareBack_9 rfl hl (by decide) rfl (fun ls hl => ?_)
  refine lv_iload_n hx hb dX6_shareBack_10 rfl (lv_at hl 0 rfl) ?_
  refine lv_aload_n hx hb dX6_shareBack_11 rfl (lv_at hl 1 rfl) ?_
  refine va_get (D := D) (ci := 6) (v := .int (S 27 0)) (C := RX6) (T := TX6) (N := 8) hx hb hts iX6 hown hK hP 0 rfl rfl 6 (by decide) f_51 (fun _ h9 => h9) rfl dX6_shareBack_12 ?_
  have b_12 := (iv_27 hI).1
  refine cd_tp (y := nI (nv (S 27 0))) b_12.1 ?_
  have b_12 := b_12.2
  refine cd_icmp_ge (tgt := 22) hx hb dX6_shareBack_15 (by decide) (by omega) (by omega) (fun c_15 => ?_) (fun c_15 => ?_)
  · refine lv_iconst (v := nI 0) hx hb dX6_shareBack_22 (by decide) ?_
    refine lv_istore (lv' := [(4, .int (nI 0)), (3, .int (nI (nv (S 23 k)))), (0, .ref (h 0)), (1, .int (nI k)), (2, .int (nI c))]) hx hb dX6_shareBack_23 hl (by decide) rfl (fun ls hl => ?_)
    refine lv_aload_n hx hb dX6_shareBack_25 rfl (lv_at hl 2 rfl) ?_
    refine va_get (D := D) (ci := 6) (v := .ref (h 20)) (C := RX6) (T := TX6) (N := 8) hx hb hts iX6 hown hK hP 0 rfl rfl 5 (by decide) f_47 (fun _ h9 => h9) rfl dX6_shareBack_26 ?_
    refine va_get (D := D) (ci := 0) (v := .ref (h 22)) (C := RX0) (T := TX0) (N := 8) hx hb hts iX0 hown hK hP 20 rfl rfl 1 (by decide) f_268 (fun _ h9 => h9) rfl dX6_shareBack_29 ?_
    refine lv_iload_n hx hb dX6_shareBack_32 rfl (lv_at hl 3 rfl) ?_
    refine cd_iald (f := S 22) hx hb hK hP 22 rfl (by omega) (by decide) dX6_shareBack_33 ?_
    have b_33 := (iv_22 hI k (by omega)).1
    refine cd_tp (y := nI (nv (S 22 k))) b_33.1 ?_
    have b_33 := b_33.2
    rcases (show nv (S 22 k) = 0 ∨ nv (S 22 k) = 1 ∨ nv (S 22 k) = 2 ∨ nv (S 22 k) = 3 by omega) with c_34 | c_34 | c_34 | c_34
    · refine cd_tp (y := nI 0) (by rw [c_34]) ?_
      refine lv_tableOut (tgt := 123) hx hb dX6_shareBack_34 (Or.inl (by decide)) (by decide) ?_
      refine lv_iconst (v := nI 0) hx hb dX6_shareBack_123 (by decide) ?_
      exact W.iret (v := nI 0) hx hb hr (fun t ht hW => ⟨_, rfl, (by unfold shK; rw [c_34]; rfl), ht⟩) (fun _ h9 => nomatch h9) dX6_shareBack_124
    · refine cd_tp (y := nI 1) (by rw [c_34]) ?_
      refine lv_tableIn (off := 26) (tgt := 60) hx hb dX6_shareBack_34 (by decide) (by decide) (by decide) (by decide) ?_
      refine lv_iload hx hb dX6_shareBack_60 (lv_at hl 0 rfl) ?_
      refine cd_if_eq (tgt := 87) hx hb dX6_shareBack_62 (by decide) (by omega) (fun c_62 => ?_) (fun c_62 => ?_)
      · refine lv_iconst (v := nI 0) hx hb dX6_shareBack_87 (by decide) ?_
        exact W.iret (v := nI 0) hx hb hr (fun t ht hW => ⟨_, rfl, (by unfold shK; rw [c_34, if_pos rfl, if_neg (fun q => by omega)]), ht⟩) (fun _ h9 => nomatch h9) dX6_shareBack_88
      · exact absurd c_62 (by decide)
    · refine cd_tp (y := nI 2) (by rw [c_34]) ?_
      refine lv_tableIn (off := 55) (tgt := 89) hx hb dX6_shareBack_34 (by decide) (by decide) (by decide) (by decide) ?_
      refine lv_iload_n hx hb dX6_shareBack_89 rfl (lv_at hl 4 rfl) ?_
      have M_90 := c_X1_strainOf l c hc
      refine cd_roi (va_runS (As := [.int (nI c)]) (rest := []) ⟨hx, hb, hml, hown, hts⟩ M_90 (va_cwS 1 hts gX6_shareBack_X1_strainOf rfl rfl rfl (by decide +kernel) ⟨Nat.le_of_ble_eq_true rfl, Nat.le_of_ble_eq_true rfl⟩) ⟨nuB.bl, fun U hU hW => ⟨rfl, trivial⟩⟩ rfl rfl hl.1 rfl (lv_room (Nat.le_of_ble_eq_true rfl)) dX6_shareBack_90 (by exact ⟨Nat.zero_le _, Nat.zero_le _⟩)) (fun r_90 hr_90 => ?_)
      subst hr_90
      refine cd_if_le (tgt := 100) hx hb dX6_shareBack_93 (by decide) (by omega) (fun c_93 => ?_) (fun c_93 => ?_)
      · refine lv_iconst (v := nI 0) hx hb dX6_shareBack_100 (by decide) ?_
        exact W.iret (v := nI 0) hx hb hr (fun t ht hW => ⟨_, rfl, (by unfold shK; rw [c_34, if_neg (by decide), if_pos rfl, if_neg (by omega)]), ht⟩) (fun _ h9 => nomatch h9) dX6_shareBack_101
      · refine lv_iconst (v := nI 4) hx hb dX6_shareBack_96 (by decide) ?_
        refine lv_goto (tgt := 101) hx hb dX6_shareBack_97 (by decide) ?_
        exact W.iret (v := nI 4) hx hb hr (fun t ht hW => ⟨_, rfl, (by unfold shK; rw [c_34, if_neg (by decide), if_pos rfl, if_pos c_93]), ht⟩) (fun _ h9 => nomatch h9) dX6_shareBack_101
    · refine cd_tp (y := nI 3) (by rw [c_34]) ?_
      refine lv_tableIn (off := 68) (tgt := 102) hx hb dX6_shareBack_34 (by decide) (by decide) (by decide) (by decide) ?_
      refine lv_iload hx hb dX6_shareBack_102 (lv_at hl 0 rfl) ?_
      refine cd_if_eq (tgt := 121) hx hb dX6_shareBack_104 (by decide) (by omega) (fun c_104 => ?_) (fun c_104 => ?_)
      · refine lv_iconst (v := nI 0) hx hb dX6_shareBack_121 (by decide) ?_
        exact W.iret (v := nI 0) hx hb hr (fun t ht hW => ⟨_, rfl, (by unfold shK; rw [c_34, if_neg (by decide), if_neg (by decide), if_pos rfl, if_neg (fun q => by omega)]), ht⟩) (fun _ h9 => nomatch h9) dX6_shareBack_122
      · exact absurd c_104 (by decide)
  · refine lv_iconst (v := nI 1) hx hb dX6_shareBack_18 (by decide) ?_
    refine lv_goto (tgt := 23) hx hb dX6_shareBack_19 (by decide) ?_
    refine lv_istore (lv' := [(4, .int (nI 1)), (3, .int (nI (nv (S 23 k)))), (0, .ref (h 0)), (1, .int (nI k)), (2, .int (nI c))]) hx hb dX6_shareBack_23 hl (by decide) rfl (fun ls hl => ?_)
    refine lv_aload_n hx hb dX6_shareBack_25 rfl (lv_at hl 2 rfl) ?_
    refine va_get (D := D) (ci := 6) (v := .ref (h 20)) (C := RX6) (T := TX6) (N := 8) hx hb hts iX6 hown hK hP 0 rfl rfl 5 (by decide) f_47 (fun _ h9 => h9) rfl dX6_shareBack_26 ?_
    refine va_get (D := D) (ci := 0) (v := .ref (h 22)) (C := RX0) (T := TX0) (N := 8) hx hb hts iX0 hown hK hP 20 rfl rfl 1 (by decide) f_268 (fun _ h9 => h9) rfl dX6_shareBack_29 ?_
    refine lv_iload_n hx hb dX6_shareBack_32 rfl (lv_at hl 3 rfl) ?_
    refine cd_iald (f := S 22) hx hb hK hP 22 rfl (by omega) (by decide) dX6_shareBack_33 ?_
    have b_33 := (iv_22 hI k (by omega)).1
    refine cd_tp (y := nI (nv (S 22 k))) b_33.1 ?_
    have b_33 := b_33.2
    rcases (show nv (S 22 k) = 0 ∨ nv (S 22 k) = 1 ∨ nv (S 22 k) = 2 ∨ nv (S 22 k) = 3 by omega) with c_34 | c_34 | c_34 | c_34
    · refine cd_tp (y := nI 0) (by rw [c_34]) ?_
      refine lv_tableOut (tgt := 123) hx hb dX6_shareBack_34 (Or.inl (by decide)) (by decide) ?_
      refine lv_iconst (v := nI 0) hx hb dX6_shareBack_123 (by decide) ?_
      exact W.iret (v := nI 0) hx hb hr (fun t ht hW => ⟨_, rfl, (by unfold shK; rw [c_34]; rfl), ht⟩) (fun _ h9 => nomatch h9) dX6_shareBack_124
    · refine cd_tp (y := nI 1) (by rw [c_34]) ?_
      refine lv_tableIn (off := 26) (tgt := 60) hx hb dX6_shareBack_34 (by decide) (by decide) (by decide) (by decide) ?_
      refine lv_iload hx hb dX6_shareBack_60 (lv_at hl 0 rfl) ?_
      refine cd_if_eq (tgt := 87) hx hb dX6_shareBack_62 (by decide) (by omega) (fun c_62 => ?_) (fun c_62 => ?_)
      · exact absurd c_62 (by decide)
      · refine lv_aload_n hx hb dX6_shareBack_65 rfl (lv_at hl 2 rfl) ?_
        refine lv_iload_n hx hb dX6_shareBack_66 rfl (lv_at hl 4 rfl) ?_
        refine lv_iload_n hx hb dX6_shareBack_67 rfl (lv_at hl 1 rfl) ?_
        have M_68 := c_X6_actorIn l D cy h S J hI c (nv (S 23 k)) hc (by omega)
        refine cd_roi (va_runV (As := [.int (nI c), .int (nI (nv (S 23 k)))]) (rest := []) ⟨hx, hb, hml, hown, hts⟩ M_68 (cwV 2 hts gX6_shareBack_X6_actorIn rfl rfl rfl (by decide +kernel) ⟨Nat.le_of_ble_eq_true rfl, Nat.le_of_ble_eq_true rfl⟩) ⟨roB.bl, va_recv hK hP (ci := 6) (q0 := 0) rfl rfl, fun U hU hW => ⟨rfl, by rw [hU]; exact hP, hG.warm hW⟩⟩ rfl rfl hl.1 rfl (lv_room (Nat.le_of_ble_eq_true rfl)) dX6_shareBack_68 (by exact ⟨Nat.zero_le _, Nat.zero_le _⟩)) (fun r_68 hr_68 => ?_)
        subst hr_68
        refine lv_aload_n hx hb dX6_shareBack_71 rfl (lv_at hl 2 rfl) ?_
        refine va_get (D := D) (ci := 6) (v := .ref (h 20)) (C := RX6) (T := TX6) (N := 8) hx hb hts iX6 hown hK hP 0 rfl rfl 5 (by decide) f_47 (fun _ h9 => h9) rfl dX6_shareBack_72 ?_
        refine va_get (D := D) (ci := 0) (v := .ref (h 24)) (C := RX0) (T := TX0) (N := 8) hx hb hts iX0 hown hK hP 20 rfl rfl 3 (by decide) f_271 (fun _ h9 => h9) rfl dX6_shareBack_75 ?_
        refine lv_iload_n hx hb dX6_shareBack_78 rfl (lv_at hl 3 rfl) ?_
        refine cd_iald (f := S 24) hx hb hK hP 24 rfl (by omega) (by decide) dX6_shareBack_79 ?_
        refine lv_icmp_eq (tgt := 87) hx hb dX6_shareBack_80 (by decide) (fun c_80 => ?_) (fun c_80 => ?_)
        · refine lv_iconst (v := nI 0) hx hb dX6_shareBack_87 (by decide) ?_
          exact W.iret (v := nI 0) hx hb hr (fun t ht hW => ⟨_, rfl, (by unfold shK; rw [c_34, if_pos rfl, if_neg (fun q => q.2 c_80)]), ht⟩) (fun _ h9 => nomatch h9) dX6_shareBack_88
        · refine lv_iconst (v := nI 2) hx hb dX6_shareBack_83 (by decide) ?_
          refine lv_goto (tgt := 88) hx hb dX6_shareBack_84 (by decide) ?_
          exact W.iret (v := nI 2) hx hb hr (fun t ht hW => ⟨_, rfl, (by unfold shK; rw [c_34, if_pos rfl, if_pos ⟨c_15, c_80⟩]), ht⟩) (fun _ h9 => nomatch h9) dX6_shareBack_88
    · refine cd_tp (y := nI 2) (by rw [c_34]) ?_
      refine lv_tableIn (off := 55) (tgt := 89) hx hb dX6_shareBack_34 (by decide) (by decide) (by decide) (by decide) ?_
      refine lv_iload_n hx hb dX6_shareBack_89 rfl (lv_at hl 4 rfl) ?_
      have M_90 := c_X1_strainOf l c hc
      refine cd_roi (va_runS (As := [.int (nI c)]) (rest := []) ⟨hx, hb, hml, hown, hts⟩ M_90 (va_cwS 1 hts gX6_shareBack_X1_strainOf rfl rfl rfl (by decide +kernel) ⟨Nat.le_of_ble_eq_true rfl, Nat.le_of_ble_eq_true rfl⟩) ⟨nuB.bl, fun U hU hW => ⟨rfl, trivial⟩⟩ rfl rfl hl.1 rfl (lv_room (Nat.le_of_ble_eq_true rfl)) dX6_shareBack_90 (by exact ⟨Nat.zero_le _, Nat.zero_le _⟩)) (fun r_90 hr_90 => ?_)
      subst hr_90
      refine cd_if_le (tgt := 100) hx hb dX6_shareBack_93 (by decide) (by omega) (fun c_93 => ?_) (fun c_93 => ?_)
      · refine lv_iconst (v := nI 0) hx hb dX6_shareBack_100 (by decide) ?_
        exact W.iret (v := nI 0) hx hb hr (fun t ht hW => ⟨_, rfl, (by unfold shK; rw [c_34, if_neg (by decide), if_pos rfl, if_neg (by omega)]), ht⟩) (fun _ h9 => nomatch h9) dX6_shareBack_101
      · refine lv_iconst (v := nI 4) hx hb dX6_shareBack_96 (by decide) ?_
        refine lv_goto (tgt := 101) hx hb dX6_shareBack_97 (by decide) ?_
        exact W.iret (v := nI 4) hx hb hr (fun t ht hW => ⟨_, rfl, (by unfold shK; rw [c_34, if_neg (by decide), if_pos rfl, if_pos c_93]), ht⟩) (fun _ h9 => nomatch h9) dX6_shareBack_101
    · refine cd_tp (y := nI 3) (by rw [c_34]) ?_
      refine lv_tableIn (off := 68) (tgt := 102) hx hb dX6_shareBack_34 (by decide) (by decide) (by decide) (by decide) ?_
      refine lv_iload hx hb dX6_shareBack_102 (lv_at hl 0 rfl) ?_
      refine cd_if_eq (tgt := 121) hx hb dX6_shareBack_104 (by decide) (by omega) (fun c_104 => ?_) (fun c_104 => ?_)
      · exact absurd c_104 (by decide)
      · refine lv_iload_n hx hb dX6_shareBack_107 rfl (lv_at hl 4 rfl) ?_
        refine lv_iload_n hx hb dX6_shareBack_108 rfl (lv_at hl 1 rfl) ?_
        have M_109 := c_X1_rankOf l c (nv (S 23 k)) hc (by omega)
        refine cd_roi (va_runS (As := [.int (nI c), .int (nI (nv (S 23 k)))]) (rest := []) ⟨hx, hb, hml, hown, hts⟩ M_109 (va_cwS 2 hts gX6_shareBack_X1_rankOf rfl rfl rfl (by decide +kernel) ⟨Nat.le_of_ble_eq_true rfl, Nat.le_of_ble_eq_true rfl⟩) ⟨nuB.bl, fun U hU hW => ⟨rfl, trivial⟩⟩ rfl rfl hl.1 rfl (lv_room (Nat.le_of_ble_eq_true rfl)) dX6_shareBack_109 (by exact ⟨Nat.zero_le _, Nat.zero_le _⟩)) (fun r_109 hr_109 => ?_)
        subst hr_109
        refine lv_iconst (v := nI 1) hx hb dX6_shareBack_112 (by decide) ?_
        refine cd_icmp_le (tgt := 121) hx hb dX6_shareBack_113 (by decide) (by have := Nat.and_le_right (n := c / 2 ^ ((7 - nv (S 23 k)) * 2)) (m := 3); omega) (by decide) (fun c_113 => ?_) (fun c_113 => ?_)
        · refine lv_iconst (v := nI 0) hx hb dX6_shareBack_121 (by decide) ?_
          exact W.iret (v := nI 0) hx hb hr (fun t ht hW => ⟨_, rfl, (by unfold shK; rw [c_34, if_neg (by decide), if_neg (by decide), if_pos rfl, if_neg (fun q => by omega)]), ht⟩) (fun _ h9 => nomatch h9) dX6_shareBack_122
        · refine lv_bipush (v := nI 10) hx hb dX6_shareBack_116 (by decide) ?_
          refine lv_goto (tgt := 122) hx hb dX6_shareBack_118 (by decide) ?_
          exact W.iret (v := nI 10) hx hb hr (fun t ht hW => ⟨_, rfl, (by unfold shK; rw [c_34, if_neg (by decide), if_neg (by decide), if_pos rfl, if_pos ⟨c_15, c_113⟩]), ht⟩) (fun _ h9 => nomatch h9) dX6_shareBack_122
