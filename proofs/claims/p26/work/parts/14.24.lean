set_option maxHeartbeats 4000000 in
set_option maxRecDepth 100000 in
theorem c_X6_canPlay (l : Launch) (D : va_G) (cy : qT) (h : Nat → Nat) (S : qS) (J : qS) (hI : Inv S) (a : Nat) (p : Nat) (d : Nat) (ha1 : a < 12) (hp1 : p < 8) (hd1 : d ≤ 1000) : Met l yX6_canPlay wsX6_canPlay ({ frames := 2, cells := 0, slots := 0, locals := 47 }) (va_Pc [.ref (h 0), .int (nI a), .int (nI p), .int (nI d)] (roB D cy (wC cy h S J))) (vp_Si (fun r9 => r9 = bI (rkB S p (nI a) && rdy S a p (nv (S 4 d))))) 0 0 (fun _ => False) := by
  refine Met.ofW (cc := cX6_canPlay) (maxL := 4) (ret := (some .boolean)) (by decide) rfl ?_
  intro pp e9 s m9 args9 bl9 meth9 c9 s9 B hml hv
  obtain ⟨rfl, hP, hG⟩ := hv
  have hx := B.exec
  have hb := B.bytes
  have hr := B.returns
  have hts := atoms_spec (ws := wsX6_canPlay) B.pre
  have hown : s.vm.findClass RX6 = some m9.cls := findClass_of_methodNamed B.named
  have hlocks := B.notSynchronized
  have hK := hG.K
  have f_19 := hts (.fieldLink RX6 19 "CastDesk" "rows" "LCastDesk$Rows;") (by decide +kernel)
  have f_10 := hts (.fieldLink RX6 10 "CastDesk" "troupe" "LCastDesk$Troupe;") (by decide +kernel)
  have f_139 := hts (.fieldLink RX6 139 "CastDesk$Troupe" "ill" "[I") (by decide +kernel)
  have iX4 : ∀ w ∈ wsX40, w ∈ wsX6_canPlay := by decide +kernel
  have iX6 : ∀ w ∈ wsX60, w ∈ wsX6_canPlay := by decide +kernel
  have hl := lv_entry ([.ref (h 0), .int (nI a), .int (nI p), .int (nI d)]) (n := 4) (Nat.le_of_ble_eq_true rfl)
  rw [lg_entry_eq]
  generalize (lg_sl ([.ref (h 0), .int (nI a), .int (nI p), .int (nI d)]) ++ List.replicate (4 - (lg_sl ([.ref (h 0), .int (nI a), .int (nI p), .int (nI d)])).length) Slot.unset).toArray = ls at hl ⊢
  have hl : lv_has ls 4 [(0, .ref (h 0)), (1, .int (nI a)), (2, .int (nI p)), (3, .int (nI d))] := hl
  refine lv_iload_n hx hb dX6_canPlay_0 rfl (lv_at hl 1 rfl) ?_
  have M_1 := c_X6_needActor l a (by omega)
  refine cd_rov (va_runS (As := [.int (nI a)]) (rest := []) ⟨hx, hb, hml, hown, hts⟩ M_1 (va_cwS 1 hts gX6_canPlay_X6_needActor rfl rfl rfl (by decide +kernel) ⟨Nat.le_of_ble_eq_true rfl, Nat.le_of_ble_eq_true rfl⟩) ⟨nuB.bl, fun U hU hW => ⟨rfl, trivial⟩⟩ rfl rfl hl.1 rfl (lv_room (Nat.le_of_ble_eq_true rfl)) dX6_canPlay_1 (by exact ⟨Nat.zero_le _, Nat.zero_le _⟩)) ?_
  refine lv_iload_n hx hb dX6_canPlay_4 rfl (lv_at hl 2 rfl) ?_
  have M_5 := c_X6_needPart l p (by omega)
  refine cd_rov (va_runS (As := [.int (nI p)]) (rest := []) ⟨hx, hb, hml, hown, hts⟩ M_5 (va_cwS 1 hts gX6_canPlay_X6_needPart rfl rfl rfl (by decide +kernel) ⟨Nat.le_of_ble_eq_true rfl, Nat.le_of_ble_eq_true rfl⟩) ⟨nuB.bl, fun U hU hW => ⟨rfl, trivial⟩⟩ rfl rfl hl.1 rfl (lv_room (Nat.le_of_ble_eq_true rfl)) dX6_canPlay_5 (by exact ⟨Nat.zero_le _, Nat.zero_le _⟩)) ?_
  refine lv_iload_n hx hb dX6_canPlay_8 rfl (lv_at hl 3 rfl) ?_
  refine lv_iconst (v := nI 0) hx hb dX6_canPlay_9 (by decide) ?_
  have M_10 := c_X6_needDay l d 0 (by omega) (by omega)
  refine cd_rov (va_runS (As := [.int (nI d), .int (nI 0)]) (rest := []) ⟨hx, hb, hml, hown, hts⟩ M_10 (va_cwS 2 hts gX6_canPlay_X6_needDay rfl rfl rfl (by decide +kernel) ⟨Nat.le_of_ble_eq_true rfl, Nat.le_of_ble_eq_true rfl⟩) ⟨nuB.bl, fun U hU hW => ⟨rfl, trivial⟩⟩ rfl rfl hl.1 rfl (lv_room (Nat.le_of_ble_eq_true rfl)) dX6_canPlay_10 (by exact ⟨Nat.zero_le _, Nat.zero_le _⟩)) ?_
  refine lv_aload_n hx hb dX6_canPlay_13 rfl (lv_at hl 0 rfl) ?_
  refine va_get (D := D) (ci := 6) (v := .ref (h 5)) (C := RX6) (T := TX6) (N := 8) hx hb hts iX6 hown hK hP 0 rfl rfl 1 (by decide) f_19 (fun _ h9 => h9) rfl dX6_canPlay_14 ?_
  refine lv_iload_n hx hb dX6_canPlay_17 rfl (lv_at hl 2 rfl) ?_
  refine lv_iload_n hx hb dX6_canPlay_18 rfl (lv_at hl 1 rfl) ?_
  have M_19 := c_X3_rankIn l D cy h S hI p (nI a) (by omega)
  have hPc := hP.sub (ws' := (wX3 cy h S)) [5, 6, 7] rfl
  refine cd_roi (va_runV (As := [.int (nI p), .int (nI a)]) (rest := []) ⟨hx, hb, hml, hown, hts⟩ M_19 (cwV 2 hts gX6_canPlay_X3_rankIn rfl rfl rfl (by decide +kernel) ⟨Nat.le_of_ble_eq_true rfl, Nat.le_of_ble_eq_true rfl⟩) ⟨roB.bl, va_recv hK hP (ci := 3) (q0 := 5) rfl rfl, fun U hU hW => ⟨rfl, by rw [hU]; exact hPc, hG.warm hW⟩⟩ rfl rfl hl.1 rfl (lv_room (Nat.le_of_ble_eq_true rfl)) dX6_canPlay_19 (by exact ⟨Nat.zero_le _, Nat.zero_le _⟩)) (fun r_19 hr_19 => ?_)
  subst hr_19
  refine lv_iconst (v := (-1)) hx hb dX6_canPlay_22 (by decide) ?_
  refine lv_icmp_eq (tgt := 48) hx hb dX6_canPlay_23 (by decide) (fun c_23 => ?_) (fun c_23 => ?_)
  · refine lv_iconst (v := nI 0) hx hb dX6_canPlay_48 (by decide) ?_
    exact W.zret (v := nI 0) hx hb hr rfl (fun t ht hW => ⟨_, rfl, (by rw [rk_f c_23]; rfl), ht⟩) (fun _ h9 => nomatch h9) dX6_canPlay_49
  · refine lv_aload_n hx hb dX6_canPlay_26 rfl (lv_at hl 0 rfl) ?_
    refine lv_iload_n hx hb dX6_canPlay_27 rfl (lv_at hl 1 rfl) ?_
    refine lv_iload_n hx hb dX6_canPlay_28 rfl (lv_at hl 2 rfl) ?_
    refine lv_aload_n hx hb dX6_canPlay_29 rfl (lv_at hl 0 rfl) ?_
    refine va_get (D := D) (ci := 6) (v := .ref (h 1)) (C := RX6) (T := TX6) (N := 8) hx hb hts iX6 hown hK hP 0 rfl rfl 0 (by decide) f_10 (fun _ h9 => h9) rfl dX6_canPlay_30 ?_
    refine va_get (D := D) (ci := 4) (v := .ref (h 4)) (C := RX4) (T := TX4) (N := 3) hx hb hts iX4 hown hK hP 1 rfl rfl 2 (by decide) f_139 (fun _ h9 => h9) rfl dX6_canPlay_33 ?_
    refine lv_iload_n hx hb dX6_canPlay_36 rfl (lv_at hl 3 rfl) ?_
    refine cd_iald (f := S 4) hx hb hK hP 4 rfl (by omega) (by decide) dX6_canPlay_37 ?_
    have b_37 := iv_4 hI d (by omega)
    refine cd_tp (y := nI (nv (S 4 d))) b_37.1 ?_
    have b_37 := b_37.2
    have M_38 := c_X6_isReady l D cy h S J hI a p (nv (S 4 d)) (by omega) (by omega) (by omega)
    refine cd_roi (va_runV (As := [.int (nI a), .int (nI p), .int (nI (nv (S 4 d)))]) (rest := []) ⟨hx, hb, hml, hown, hts⟩ M_38 (cwV 3 hts gX6_canPlay_X6_isReady rfl rfl rfl (by decide +kernel) ⟨Nat.le_of_ble_eq_true rfl, Nat.le_of_ble_eq_true rfl⟩) ⟨roB.bl, va_recv hK hP (ci := 6) (q0 := 0) rfl rfl, fun U hU hW => ⟨rfl, by rw [hU]; exact hP, hG.warm hW⟩⟩ rfl rfl hl.1 rfl (lv_room (Nat.le_of_ble_eq_true rfl)) dX6_canPlay_38 (by exact ⟨Nat.zero_le _, Nat.zero_le _⟩)) (fun r_38 hr_38 => ?_)
    subst hr_38
    refine cd_ifB_eq (tgt := 48) hx hb dX6_canPlay_41 (by decide) (fun c_41 => ?_) (fun c_41 => ?_)
    · refine lv_iconst (v := nI 0) hx hb dX6_canPlay_48 (by decide) ?_
      exact W.zret (v := nI 0) hx hb hr rfl (fun t ht hW => ⟨_, rfl, (by rw [c_41, Bool.and_false]; rfl), ht⟩) (fun _ h9 => nomatch h9) dX6_canPlay_49
    · refine lv_iconst (v := nI 1) hx hb dX6_canPlay_44 (by decide) ?_
      refine lv_goto (tgt := 49) hx hb dX6_canPlay_45 (by decide) ?_
      exact W.zret (v := nI 1) hx hb hr rfl (fun t ht hW => ⟨_, rfl, (by rw [rk_t c_23, c_41]; rfl), ht⟩) (fun _ h9 => nomatch h9) dX6_canPlay_49
