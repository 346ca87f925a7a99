set_option maxHeartbeats 4000000 in
set_option maxRecDepth 100000 in
theorem c_X7_can (l : Launch) (D : va_G) (cy : qT) (g : Nat → Nat) (S : qS) (K : qS) (hI : Inv S) (a : Nat) (p : Nat) (d : Nat) (ha : a < 12) (hp : p < 8) (hd : d < 1001) : Met l yX7_can wsX7_can ({ frames := 1, cells := 0, slots := 0, locals := 24 }) (va_Pc [.ref (g 0), .int (nI a), .int (nI p), .int (nI d)] (roB D cy (wM cy g S K))) (vp_Si (fun r9 => r9 = bI (rkB S p (nI a) && rdy S a p (nv (S 4 d))))) 0 0 (fun _ => False) := by
  refine Met.ofW (cc := cX7_can) (maxL := 5) (ret := (some .boolean)) (by decide) rfl ?_
  intro pp e9 s m9 args9 bl9 meth9 c9 s9 B hml hv
  obtain ⟨rfl, hP, hG⟩ := hv
  have hx := B.exec
  have hb := B.bytes
  have hr := B.returns
  have hts := atoms_spec (ws := wsX7_can) B.pre
  have hown : s.vm.findClass RX7 = some m9.cls := findClass_of_methodNamed B.named
  have hlocks := B.notSynchronized
  have hK := hG.K
  have f_35 := hts (.fieldLink RX7 35 "CastDeskModel" "ill" "[I") (by decide +kernel)
  have iX7 : ∀ w ∈ wsX70, w ∈ wsX7_can := by decide +kernel
  have hl := lv_entry ([.ref (g 0), .int (nI a), .int (nI p), .int (nI d)]) (n := 5) (Nat.le_of_ble_eq_true rfl)
  rw [lg_entry_eq]
  generalize (lg_sl ([.ref (g 0), .int (nI a), .int (nI p), .int (nI d)]) ++ List.replicate (5 - (lg_sl ([.ref (g 0), .int (nI a), .int (nI p), .int (nI d)])).length) Slot.unset).toArray = ls at hl ⊢
  have hl : lv_has ls 5 [(0, .ref (g 0)), (1, .int (nI a)), (2, .int (nI p)), (3, .int (nI d))] := hl
  refine lv_aload_n hx hb dX7_can_0 rfl (lv_at hl 0 rfl) ?_
  refine lv_iload_n hx hb dX7_can_1 rfl (lv_at hl 2 rfl) ?_
  refine lv_iload_n hx hb dX7_can_2 rfl (lv_at hl 1 rfl) ?_
  have M_3 := c_X7_rankOf l D cy g S K hI p (nI a) (by omega)
  refine cd_roi (va_runV (As := [.int (nI p), .int (nI a)]) (rest := []) ⟨hx, hb, hml, hown, hts⟩ M_3 (cwV 2 hts gX7_can_X7_rankOf rfl rfl rfl (by decide +kernel) ⟨Nat.le_of_ble_eq_true rfl, Nat.le_of_ble_eq_true rfl⟩) ⟨roB.bl, va_recv hK hP (ci := 7) (q0 := 0) rfl rfl, fun U hU hW => ⟨rfl, by rw [hU]; exact hP, hG.warm hW⟩⟩ rfl rfl hl.1 rfl (lv_room (Nat.le_of_ble_eq_true rfl)) dX7_can_3 (by exact ⟨Nat.zero_le _, Nat.zero_le _⟩)) (fun r_3 hr_3 => ?_)
  subst hr_3
  refine lv_iconst (v := (-1)) hx hb dX7_can_6 (by decide) ?_
  refine lv_icmp_eq (tgt := 38) hx hb dX7_can_7 (by decide) (fun c_7 => ?_) (fun c_7 => ?_)
  · refine lv_iconst (v := nI 0) hx hb dX7_can_38 (by decide) ?_
    refine lv_istore (lv' := [(4, .int (nI 0)), (0, .ref (g 0)), (1, .int (nI a)), (2, .int (nI p)), (3, .int (nI d))]) hx hb dX7_can_39 hl (by decide) rfl (fun ls hl => ?_)
    refine lv_iload hx hb dX7_can_41 (lv_at hl 0 rfl) ?_
    refine cd_if_eq (tgt := 69) hx hb dX7_can_43 (by decide) (by omega) (fun c_43 => ?_) (fun c_43 => ?_)
    · refine lv_iconst (v := nI 0) hx hb dX7_can_69 (by decide) ?_
      exact W.zret (v := nI 0) hx hb hr rfl (fun t ht hW => ⟨_, rfl, (by rw [rk_f c_7]; rfl), ht⟩) (fun _ h9 => nomatch h9) dX7_can_70
    · exact absurd c_43 (by decide)
  · refine lv_aload_n hx hb dX7_can_10 rfl (lv_at hl 0 rfl) ?_
    refine lv_iload_n hx hb dX7_can_11 rfl (lv_at hl 1 rfl) ?_
    refine lv_iload_n hx hb dX7_can_12 rfl (lv_at hl 2 rfl) ?_
    have M_13 := c_X7_knows l D cy g S K hI a p (by omega) (by omega)
    refine cd_roi (va_runV (As := [.int (nI a), .int (nI p)]) (rest := []) ⟨hx, hb, hml, hown, hts⟩ M_13 (cwV 2 hts gX7_can_X7_knows rfl rfl rfl (by decide +kernel) ⟨Nat.le_of_ble_eq_true rfl, Nat.le_of_ble_eq_true rfl⟩) ⟨roB.bl, va_recv hK hP (ci := 7) (q0 := 0) rfl rfl, fun U hU hW => ⟨rfl, by rw [hU]; exact hP, hG.warm hW⟩⟩ rfl rfl hl.1 rfl (lv_room (Nat.le_of_ble_eq_true rfl)) dX7_can_13 (by exact ⟨Nat.zero_le _, Nat.zero_le _⟩)) (fun r_13 hr_13 => ?_)
    subst hr_13
    refine cd_tp (y := bI ((nv ((S 3) a)).testBit p)) rfl ?_
    refine cd_ifB_eq (tgt := 38) hx hb dX7_can_16 (by decide) (fun c_16 => ?_) (fun c_16 => ?_)
    · refine lv_iconst (v := nI 0) hx hb dX7_can_38 (by decide) ?_
      refine lv_istore (lv' := [(4, .int (nI 0)), (0, .ref (g 0)), (1, .int (nI a)), (2, .int (nI p)), (3, .int (nI d))]) hx hb dX7_can_39 hl (by decide) rfl (fun ls hl => ?_)
      refine lv_iload hx hb dX7_can_41 (lv_at hl 0 rfl) ?_
      refine cd_if_eq (tgt := 69) hx hb dX7_can_43 (by decide) (by omega) (fun c_43 => ?_) (fun c_43 => ?_)
      · refine lv_iconst (v := nI 0) hx hb dX7_can_69 (by decide) ?_
        exact W.zret (v := nI 0) hx hb hr rfl (fun t ht hW => ⟨_, rfl, (by rw [rdy, c_16, Bool.false_and, Bool.and_false]; rfl), ht⟩) (fun _ h9 => nomatch h9) dX7_can_70
      · exact absurd c_43 (by decide)
    · refine lv_aload_n hx hb dX7_can_19 rfl (lv_at hl 0 rfl) ?_
      refine va_get (D := D) (ci := 7) (v := .ref (g 9)) (C := RX7) (T := TX7) (N := 29) hx hb hts iX7 hown hK hP 0 rfl rfl 9 (by decide) f_35 (fun _ h9 => h9) rfl dX7_can_20 ?_
      refine lv_sipush (v := nI 1001) hx hb dX7_can_23 (by decide) ?_
      refine lv_iload_n hx hb dX7_can_26 rfl (lv_at hl 1 rfl) ?_
      refine cd_imul hx hb dX7_can_27 ?_
      refine lv_iload_n hx hb dX7_can_28 rfl (lv_at hl 3 rfl) ?_
      refine cd_iadd hx hb dX7_can_29 ?_
      refine cd_iald (f := illM (S 4)) hx hb hK hP 8 rfl (by omega) (by decide) dX7_can_30 ?_
      refine cd_tp (y := bI ((nv (S 4 d)).testBit a)) (illM_at hd) ?_
      refine cd_ifB_ne (tgt := 38) hx hb dX7_can_31 (by decide) (fun c_31 => ?_) (fun c_31 => ?_)
      · refine lv_iconst (v := nI 0) hx hb dX7_can_38 (by decide) ?_
        refine lv_istore (lv' := [(4, .int (nI 0)), (0, .ref (g 0)), (1, .int (nI a)), (2, .int (nI p)), (3, .int (nI d))]) hx hb dX7_can_39 hl (by decide) rfl (fun ls hl => ?_)
        refine lv_iload hx hb dX7_can_41 (lv_at hl 0 rfl) ?_
        refine cd_if_eq (tgt := 69) hx hb dX7_can_43 (by decide) (by omega) (fun c_43 => ?_) (fun c_43 => ?_)
        · refine lv_iconst (v := nI 0) hx hb dX7_can_69 (by decide) ?_
          exact W.zret (v := nI 0) hx hb hr rfl (fun t ht hW => ⟨_, rfl, (by rw [rdy, c_31, Bool.not_true, Bool.false_and, Bool.and_false, Bool.and_false]; rfl), ht⟩) (fun _ h9 => nomatch h9) dX7_can_70
        · exact absurd c_43 (by decide)
      · refine lv_iconst (v := nI 1) hx hb dX7_can_34 (by decide) ?_
        refine lv_goto (tgt := 39) hx hb dX7_can_35 (by decide) ?_
        refine lv_istore (lv' := [(4, .int (nI 1)), (0, .ref (g 0)), (1, .int (nI a)), (2, .int (nI p)), (3, .int (nI d))]) hx hb dX7_can_39 hl (by decide) rfl (fun ls hl => ?_)
        refine lv_iload hx hb dX7_can_41 (lv_at hl 0 rfl) ?_
        refine cd_if_eq (tgt := 69) hx hb dX7_can_43 (by decide) (by omega) (fun c_43 => ?_) (fun c_43 => ?_)
        · exact absurd c_43 (by decide)
        · refine lv_aload_n hx hb dX7_can_46 rfl (lv_at hl 1 rfl) ?_
          refine lv_iload_n hx hb dX7_can_47 rfl (lv_at hl 2 rfl) ?_
          refine lv_iload_n hx hb dX7_can_48 rfl (lv_at hl 3 rfl) ?_
          have M_49 := c_X7_fits l D cy g S K hI a p (by omega)
          refine cd_roi (va_runV (As := [.int (nI a), .int (nI p)]) (rest := []) ⟨hx, hb, hml, hown, hts⟩ M_49 (cwV 2 hts gX7_can_X7_fits rfl rfl rfl (by decide +kernel) ⟨Nat.le_of_ble_eq_true rfl, Nat.le_of_ble_eq_true rfl⟩) ⟨roB.bl, va_recv hK hP (ci := 7) (q0 := 0) rfl rfl, fun U hU hW => ⟨rfl, by rw [hU]; exact hP, hG.warm hW⟩⟩ rfl rfl hl.1 rfl (lv_room (Nat.le_of_ble_eq_true rfl)) dX7_can_49 (by exact ⟨Nat.zero_le _, Nat.zero_le _⟩)) (fun r_49 hr_49 => ?_)
          subst hr_49
          refine cd_tp (y := bI (ftB S p ((S 2) a))) rfl ?_
          refine cd_ifB_ne (tgt := 65) hx hb dX7_can_52 (by decide) (fun c_52 => ?_) (fun c_52 => ?_)
          · refine lv_iconst (v := nI 1) hx hb dX7_can_65 (by decide) ?_
            refine lv_goto (tgt := 70) hx hb dX7_can_66 (by decide) ?_
            exact W.zret (v := nI 1) hx hb hr rfl (fun t ht hW => ⟨_, rfl, (by rw [rk_t c_7, rdy, c_16, c_31, c_52]; rfl), ht⟩) (fun _ h9 => nomatch h9) dX7_can_70
          · refine lv_aload_n hx hb dX7_can_55 rfl (lv_at hl 1 rfl) ?_
            refine lv_iload_n hx hb dX7_can_56 rfl (lv_at hl 2 rfl) ?_
            refine lv_iload_n hx hb dX7_can_57 rfl (lv_at hl 3 rfl) ?_
            have M_58 := c_X7_toLetOut l D cy g S K hI a p (by omega)
            refine cd_roi (va_runV (As := [.int (nI a), .int (nI p)]) (rest := []) ⟨hx, hb, hml, hown, hts⟩ M_58 (cwV 2 hts gX7_can_X7_toLetOut rfl rfl rfl (by decide +kernel) ⟨Nat.le_of_ble_eq_true rfl, Nat.le_of_ble_eq_true rfl⟩) ⟨roB.bl, va_recv hK hP (ci := 7) (q0 := 0) rfl rfl, fun U hU hW => ⟨rfl, by rw [hU]; exact hP, hG.warm hW⟩⟩ rfl rfl hl.1 rfl (lv_room (Nat.le_of_ble_eq_true rfl)) dX7_can_58 (by exact ⟨Nat.zero_le _, Nat.zero_le _⟩)) (fun r_58 hr_58 => ?_)
            subst hr_58
            refine cd_tp (y := loI S p ((S 2) a)) rfl ?_
            refine lv_iconst (v := (-1)) hx hb dX7_can_61 (by decide) ?_
            refine lv_icmp_eq (tgt := 69) hx hb dX7_can_62 (by decide) (fun c_62 => ?_) (fun c_62 => ?_)
            · refine lv_iconst (v := nI 0) hx hb dX7_can_69 (by decide) ?_
              exact W.zret (v := nI 0) hx hb hr rfl (fun t ht hW => ⟨_, rfl, (by rw [rk_t c_7, rdy, c_16, c_31, c_52, lo_f c_62]; rfl), ht⟩) (fun _ h9 => nomatch h9) dX7_can_70
            · refine lv_iconst (v := nI 1) hx hb dX7_can_65 (by decide) ?_
              refine lv_goto (tgt := 70) hx hb dX7_can_66 (by decide) ?_
              exact W.zret (v := nI 1) hx hb hr rfl (fun t ht hW => ⟨_, rfl, (by rw [rk_t c_7, rdy, c_16, c_31, lo_t c_62, Bool.or_true]; rfl), ht⟩) (fun _ h9 => nomatch h9) dX7_can_70
