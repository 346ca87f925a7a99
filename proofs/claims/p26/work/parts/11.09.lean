set_option maxHeartbeats 4000000 in
set_option maxRecDepth 100000 in
theorem c_X6_isReady (l : Launch) (D : va_G) (cy : qT) (h : Nat → Nat) (S : qS) (J : qS) (hI : Inv S) (a : Nat) (p : Nat) (mk : Nat) (ha : a < 12) (hp : p < 8) (hm : mk < 4096) : Met l yX6_isReady wsX6_isReady ({ frames := 1, cells := 0, slots := 0, locals := 23 }) (va_Pc [.ref (h 0), .int (nI a), .int (nI p), .int (nI mk)] (roB D cy (wC cy h S J))) (vp_Si (fun r9 => r9 = bI (rdy S a p mk))) 0 0 (fun _ => False) := by
  refine Met.ofW (cc := cX6_isReady) (maxL := 5) (ret := (some .boolean)) (by decide) rfl ?_
  intro pp e9 s m9 args9 bl9 meth9 c9 s9 B hml hv
  obtain ⟨rfl, hP, hG⟩ := hv
  have hx := B.exec
  have hb := B.bytes
  have hr := B.returns
  have hts := atoms_spec (ws := wsX6_isReady) B.pre
  have hown : s.vm.findClass RX6 = some m9.cls := findClass_of_methodNamed B.named
  have hlocks := B.notSynchronized
  have hK := hG.K
  have f_10 := hts (.fieldLink RX6 10 "CastDesk" "troupe" "LCastDesk$Troupe;") (by decide +kernel)
  have f_72 := hts (.fieldLink RX6 72 "CastDesk$Troupe" "sizes" "[I") (by decide +kernel)
  have f_79 := hts (.fieldLink RX6 79 "CastDesk$Troupe" "known" "[I") (by decide +kernel)
  have f_26 := hts (.fieldLink RX6 26 "CastDesk" "wardrobe" "LCastDesk$Wardrobe;") (by decide +kernel)
  have iX4 : ∀ w ∈ wsX40, w ∈ wsX6_isReady := by decide +kernel
  have iX6 : ∀ w ∈ wsX60, w ∈ wsX6_isReady := by decide +kernel
  have hl := lv_entry ([.ref (h 0), .int (nI a), .int (nI p), .int (nI mk)]) (n := 5) (Nat.le_of_ble_eq_true rfl)
  rw [lg_entry_eq]
  generalize (lg_sl ([.ref (h 0), .int (nI a), .int (nI p), .int (nI mk)]) ++ List.replicate (5 - (lg_sl ([.ref (h 0), .int (nI a), .int (nI p), .int (nI mk)])).length) Slot.unset).toArray = ls at hl ⊢
  have hl : lv_has ls 5 [(0, .ref (h 0)), (1, .int (nI a)), (2, .int (nI p)), (3, .int (nI mk))] := hl
  refine lv_aload_n hx hb dX6_isReady_0 rfl (lv_at hl 0 rfl) ?_
  refine va_get (D := D) (ci := 6) (v := .ref (h 1)) (C := RX6) (T := TX6) (N := 8) hx hb hts iX6 hown hK hP 0 rfl rfl 0 (by decide) f_10 (fun _ h9 => h9) rfl dX6_isReady_1 ?_
  refine va_get (D := D) (ci := 4) (v := .ref (h 2)) (C := RX4) (T := TX4) (N := 3) hx hb hts iX4 hown hK hP 1 rfl rfl 0 (by decide) f_72 (fun _ h9 => h9) rfl dX6_isReady_4 ?_
  refine lv_iload_n hx hb dX6_isReady_7 rfl (lv_at hl 1 rfl) ?_
  refine cd_iald (f := S 2) hx hb hK hP 2 rfl (by omega) (by decide) dX6_isReady_8 ?_
  refine lv_istore (lv' := [(4, .int ((S 2) a)), (0, .ref (h 0)), (1, .int (nI a)), (2, .int (nI p)), (3, .int (nI mk))]) hx hb dX6_isReady_9 hl (by decide) rfl (fun ls hl => ?_)
  refine lv_aload_n hx hb dX6_isReady_11 rfl (lv_at hl 1 rfl) ?_
  refine va_get (D := D) (ci := 6) (v := .ref (h 1)) (C := RX6) (T := TX6) (N := 8) hx hb hts iX6 hown hK hP 0 rfl rfl 0 (by decide) f_10 (fun _ h9 => h9) rfl dX6_isReady_12 ?_
  refine va_get (D := D) (ci := 4) (v := .ref (h 3)) (C := RX4) (T := TX4) (N := 3) hx hb hts iX4 hown hK hP 1 rfl rfl 1 (by decide) f_79 (fun _ h9 => h9) rfl dX6_isReady_15 ?_
  refine lv_iload_n hx hb dX6_isReady_18 rfl (lv_at hl 2 rfl) ?_
  refine cd_iald (f := S 3) hx hb hK hP 3 rfl (by omega) (by decide) dX6_isReady_19 ?_
  have b_19 := (iv_3 hI a (by omega)).1
  refine cd_tp (y := nI (nv (S 3 a))) b_19.1 ?_
  have b_19 := b_19.2
  refine lv_iload_n hx hb dX6_isReady_20 rfl (lv_at hl 3 rfl) ?_
  have M_21 := c_X6_has l (nv (S 3 a)) p (by omega) (by omega)
  refine cd_roi (va_runS (As := [.int (nI (nv (S 3 a))), .int (nI p)]) (rest := []) ⟨hx, hb, hml, hown, hts⟩ M_21 (va_cwS 2 hts gX6_isReady_X6_has rfl rfl rfl (by decide +kernel) ⟨Nat.le_of_ble_eq_true rfl, Nat.le_of_ble_eq_true rfl⟩) ⟨nuB.bl, fun U hU hW => ⟨rfl, trivial⟩⟩ rfl rfl hl.1 rfl (lv_room (Nat.le_of_ble_eq_true rfl)) dX6_isReady_21 (by exact ⟨Nat.zero_le _, Nat.zero_le _⟩)) (fun r_21 hr_21 => ?_)
  subst hr_21
  refine cd_ifB_eq (tgt := 67) hx hb dX6_isReady_24 (by decide) (fun c_24 => ?_) (fun c_24 => ?_)
  · refine lv_iconst (v := nI 0) hx hb dX6_isReady_67 (by decide) ?_
    exact W.zret (v := nI 0) hx hb hr rfl (fun t ht hW => ⟨_, rfl, (by unfold rdy; rw [c_24]; rfl), ht⟩) (fun _ h9 => nomatch h9) dX6_isReady_68
  · refine lv_iload_n hx hb dX6_isReady_27 rfl (lv_at hl 4 rfl) ?_
    refine lv_iload_n hx hb dX6_isReady_28 rfl (lv_at hl 2 rfl) ?_
    have M_29 := c_X6_has l mk a (by omega) (by omega)
    refine cd_roi (va_runS (As := [.int (nI mk), .int (nI a)]) (rest := []) ⟨hx, hb, hml, hown, hts⟩ M_29 (va_cwS 2 hts gX6_isReady_X6_has rfl rfl rfl (by decide +kernel) ⟨Nat.le_of_ble_eq_true rfl, Nat.le_of_ble_eq_true rfl⟩) ⟨nuB.bl, fun U hU hW => ⟨rfl, trivial⟩⟩ rfl rfl hl.1 rfl (lv_room (Nat.le_of_ble_eq_true rfl)) dX6_isReady_29 (by exact ⟨Nat.zero_le _, Nat.zero_le _⟩)) (fun r_29 hr_29 => ?_)
    subst hr_29
    refine cd_ifB_ne (tgt := 67) hx hb dX6_isReady_32 (by decide) (fun c_32 => ?_) (fun c_32 => ?_)
    · refine lv_iconst (v := nI 0) hx hb dX6_isReady_67 (by decide) ?_
      exact W.zret (v := nI 0) hx hb hr rfl (fun t ht hW => ⟨_, rfl, (by unfold rdy; rw [c_24, c_32]; rfl), ht⟩) (fun _ h9 => nomatch h9) dX6_isReady_68
    · refine lv_aload_n hx hb dX6_isReady_35 rfl (lv_at hl 1 rfl) ?_
      refine va_get (D := D) (ci := 6) (v := .ref (h 8)) (C := RX6) (T := TX6) (N := 8) hx hb hts iX6 hown hK hP 0 rfl rfl 2 (by decide) f_26 (fun _ h9 => h9) rfl dX6_isReady_36 ?_
      refine lv_iload_n hx hb dX6_isReady_39 rfl (lv_at hl 3 rfl) ?_
      refine lv_iload hx hb dX6_isReady_40 (lv_at hl 0 rfl) ?_
      have M_42 := c_X5_lowestFitting l D cy h S hI p ((S 2) a)
      have hPc := hP.sub (ws' := (wX5 cy h S)) [8, 9, 10, 11] rfl
      refine cd_roi (va_runV (As := [.int (nI p), .int ((S 2) a)]) (rest := []) ⟨hx, hb, hml, hown, hts⟩ M_42 (cwV 2 hts gX6_isReady_X5_lowestFitting rfl rfl rfl (by decide +kernel) ⟨Nat.le_of_ble_eq_true rfl, Nat.le_of_ble_eq_true rfl⟩) ⟨roB.bl, va_recv hK hP (ci := 5) (q0 := 8) rfl rfl, fun U hU hW => ⟨rfl, by rw [hU]; exact hPc, hG.warm hW⟩⟩ rfl rfl hl.1 rfl (lv_room (Nat.le_of_ble_eq_true rfl)) dX6_isReady_42 (by exact ⟨Nat.zero_le _, Nat.zero_le _⟩)) (fun r_42 hr_42 => ?_)
      subst hr_42
      refine lv_iconst (v := (-1)) hx hb dX6_isReady_45 (by decide) ?_
      refine lv_icmp_ne (tgt := 63) hx hb dX6_isReady_46 (by decide) (fun c_46 => ?_) (fun c_46 => ?_)
      · refine lv_iconst (v := nI 1) hx hb dX6_isReady_63 (by decide) ?_
        refine lv_goto (tgt := 68) hx hb dX6_isReady_64 (by decide) ?_
        exact W.zret (v := nI 1) hx hb hr rfl (fun t ht hW => ⟨_, rfl, (by unfold rdy; rw [c_24, c_32, ft_t c_46]; rfl), ht⟩) (fun _ h9 => nomatch h9) dX6_isReady_68
      · refine lv_aload_n hx hb dX6_isReady_49 rfl (lv_at hl 1 rfl) ?_
        refine va_get (D := D) (ci := 6) (v := .ref (h 8)) (C := RX6) (T := TX6) (N := 8) hx hb hts iX6 hown hK hP 0 rfl rfl 2 (by decide) f_26 (fun _ h9 => h9) rfl dX6_isReady_50 ?_
        refine lv_iload_n hx hb dX6_isReady_53 rfl (lv_at hl 3 rfl) ?_
        refine lv_iload hx hb dX6_isReady_54 (lv_at hl 0 rfl) ?_
        have M_56 := c_X5_lowestToLetOut l D cy h S hI p ((S 2) a)
        have hPc := hP.sub (ws' := (wX5 cy h S)) [8, 9, 10, 11] rfl
        refine cd_roi (va_runV (As := [.int (nI p), .int ((S 2) a)]) (rest := []) ⟨hx, hb, hml, hown, hts⟩ M_56 (cwV 2 hts gX6_isReady_X5_lowestToLetOut rfl rfl rfl (by decide +kernel) ⟨Nat.le_of_ble_eq_true rfl, Nat.le_of_ble_eq_true rfl⟩) ⟨roB.bl, va_recv hK hP (ci := 5) (q0 := 8) rfl rfl, fun U hU hW => ⟨rfl, by rw [hU]; exact hPc, hG.warm hW⟩⟩ rfl rfl hl.1 rfl (lv_room (Nat.le_of_ble_eq_true rfl)) dX6_isReady_56 (by exact ⟨Nat.zero_le _, Nat.zero_le _⟩)) (fun r_56 hr_56 => ?_)
        subst hr_56
        refine lv_iconst (v := (-1)) hx hb dX6_isReady_59 (by decide) ?_
        refine lv_icmp_eq (tgt := 67) hx hb dX6_isReady_60 (by decide) (fun c_60 => ?_) (fun c_60 => ?_)
        · refine lv_iconst (v := nI 0) hx hb dX6_isReady_67 (by decide) ?_
          exact W.zret (v := nI 0) hx hb hr rfl (fun t ht hW => ⟨_, rfl, (by unfold rdy; rw [c_24, c_32, ft_f c_46, lo_f c_60]; rfl), ht⟩) (fun _ h9 => nomatch h9) dX6_isReady_68
        · refine lv_iconst (v := nI 1) hx hb dX6_isReady_63 (by decide) ?_
          refine lv_goto (tgt := 68) hx hb dX6_isReady_64 (by decide) ?_
          exact W.zret (v := nI 1) hx hb hr rfl (fun t ht hW => ⟨_, rfl, (by unfold rdy; rw [c_24, c_32, ft_f c_46, lo_t c_60]; rfl), ht⟩) (fun _ h9 => nomatch h9) dX6_isReady_68
