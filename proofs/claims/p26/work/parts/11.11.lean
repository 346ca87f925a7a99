set_option maxHeartbeats 4000000 in
set_option maxRecDepth 100000 in
theorem c_X6_countOthers (l : Launch) (D : va_G) (cy : qT) (h : Nat → Nat) (S : qS) (J : qS) (hI : Inv S) (k : Nat) (k2 : Nat) (hk : k < 2147483648) (hk2 : k2 < 2147483648) : Met l yX6_countOthers wsX6_countOthers ({ frames := 3, cells := 0, slots := 0, locals := 63 }) (va_Pc [.ref (h 0), .int (nI k), .int (nI k2)] (roB D cy (wC cy h S J))) (vp_Si (fun r9 => r9 = nI (coN S k k2 (nv (S 27 0))))) 0 0 (fun _ => False) := by
  refine Met.ofW (cc := cX6_countOthers) (maxL := 5) (ret := (some .int)) (by decide) rfl ?_
  intro pp e9 s m9 args9 bl9 meth9 c9 s9 B hml hv
  obtain ⟨rfl, hP, hG⟩ := hv
  have hx := B.exec
  have hb := B.bytes
  have hr := B.returns
  have hts := atoms_spec (ws := wsX6_countOthers) B.pre
  have hown : s.vm.findClass RX6 = some m9.cls := findClass_of_methodNamed B.named
  have hlocks := B.notSynchronized
  have hK := hG.K
  have f_51 := hts (.fieldLink RX6 51 "CastDesk" "partCount" "I") (by decide +kernel)
  have iX6 : ∀ w ∈ wsX60, w ∈ wsX6_countOthers := by decide +kernel
  have hl := lv_entry ([.ref (h 0), .int (nI k), .int (nI k2)]) (n := 5) (Nat.le_of_ble_eq_true rfl)
  rw [lg_entry_eq]
  generalize (lg_sl ([.ref (h 0), .int (nI k), .int (nI k2)]) ++ List.replicate (5 - (lg_sl ([.ref (h 0), .int (nI k), .int (nI k2)])).length) Slot.unset).toArray = ls at hl ⊢
  have hl : lv_has ls 5 [(0, .ref (h 0)), (1, .int (nI k)), (2, .int (nI k2))] := hl
  have h27 := (iv_27 hI).1.2
  refine lv_iconst (v := nI 0) hx hb dX6_countOthers_0 (by decide) ?_
  refine lv_istore_n (lv' := [(3, .int (nI 0)), (0, .ref (h 0)), (1, .int (nI k)), (2, .int (nI k2))]) hx hb dX6_countOthers_1 rfl hl (by decide) rfl (fun ls hl => ?_)
  refine lv_iconst (v := nI 0) hx hb dX6_countOthers_2 (by decide) ?_
  refine lv_istore (lv' := [(4, .int (nI 0)), (3, .int (nI 0)), (0, .ref (h 0)), (1, .int (nI k)), (2, .int (nI k2))]) hx hb dX6_countOthers_3 hl (by decide) rfl (fun ls hl => ?_)
  refine wl1 (nL := 5) (fun (i : Nat) => i ≤ nv (S 27 0)) (fun (i : Nat) => nv (S 27 0) - i) (fun (i : Nat) => [(0, .ref (h 0)), (1, .int (nI k)), (2, .int (nI k2)), (3, .int (nI (coN S k k2 i))), (4, .int (nI i))]) (fun i hi_5 ih_5 ls hl => ?_) 0 (Nat.zero_le _) (lv_sub hl [2, 3, 4, 1, 0] rfl)
  refine lv_iload hx hb dX6_countOthers_5 (lv_at hl 4 rfl) ?_
  refine lv_aload_n hx hb dX6_countOthers_7 rfl (lv_at hl 0 rfl) ?_
  refine va_get (D := D) (ci := 6) (v := .int (S 27 0)) (C := RX6) (T := TX6) (N := 8) hx hb hts iX6 hown hK hP 0 rfl rfl 6 (by decide) f_51 (fun _ h9 => h9) rfl dX6_countOthers_8 ?_
  have b_8 := (iv_27 hI).1
  refine cd_tp (y := nI (nv (S 27 0))) b_8.1 ?_
  have b_8 := b_8.2
  refine cd_icmp_ge (tgt := 40) hx hb dX6_countOthers_11 (by decide) (by omega) (by omega) (fun c_11 => ?_) (fun c_11 => ?_)
  · refine lv_iload_n hx hb dX6_countOthers_40 rfl (lv_at hl 3 rfl) ?_
    exact W.iret (v := nI (coN S k k2 i)) hx hb hr (fun t ht hW => ⟨_, rfl, (by rw [show i = nv (S 27 0) by omega]), ht⟩) (fun _ h9 => nomatch h9) dX6_countOthers_41
  · refine lv_aload_n hx hb dX6_countOthers_14 rfl (lv_at hl 0 rfl) ?_
    refine lv_iload_n hx hb dX6_countOthers_15 rfl (lv_at hl 1 rfl) ?_
    refine lv_iload hx hb dX6_countOthers_16 (lv_at hl 4 rfl) ?_
    have M_18 := c_X6_actorIn l D cy h S J hI k i hk (by omega)
    refine cd_roi (va_runV (As := [.int (nI k), .int (nI i)]) (rest := []) ⟨hx, hb, hml, hown, hts⟩ M_18 (cwV 2 hts gX6_countOthers_X6_actorIn rfl rfl rfl (by decide +kernel) ⟨Nat.le_of_ble_eq_true rfl, Nat.le_of_ble_eq_true rfl⟩) ⟨roB.bl, va_recv hK hP (ci := 6) (q0 := 0) rfl rfl, fun U hU hW => ⟨rfl, by rw [hU]; exact hP, hG.warm hW⟩⟩ rfl rfl hl.1 rfl (lv_room (Nat.le_of_ble_eq_true rfl)) dX6_countOthers_18 (by exact ⟨Nat.zero_le _, Nat.zero_le _⟩)) (fun r_18 hr_18 => ?_)
    subst hr_18
    refine lv_aload_n hx hb dX6_countOthers_21 rfl (lv_at hl 0 rfl) ?_
    refine lv_iload_n hx hb dX6_countOthers_22 rfl (lv_at hl 2 rfl) ?_
    refine lv_iload hx hb dX6_countOthers_23 (lv_at hl 4 rfl) ?_
    have M_25 := c_X6_actorIn l D cy h S J hI k2 i hk2 (by omega)
    refine cd_roi (va_runV (As := [.int (nI k2), .int (nI i)]) (rest := [.int (acI S i (k / 2 ^ ((7 - i) * 2) &&& 3))]) ⟨hx, hb, hml, hown, hts⟩ M_25 (cwV 2 hts gX6_countOthers_X6_actorIn rfl rfl rfl (by decide +kernel) ⟨Nat.le_of_ble_eq_true rfl, Nat.le_of_ble_eq_true rfl⟩) ⟨roB.bl, va_recv hK hP (ci := 6) (q0 := 0) rfl rfl, fun U hU hW => ⟨rfl, by rw [hU]; exact hP, hG.warm hW⟩⟩ rfl rfl hl.1 rfl (lv_room (Nat.le_of_ble_eq_true rfl)) dX6_countOthers_25 (by exact ⟨Nat.zero_le _, Nat.zero_le _⟩)) (fun r_25 hr_25 => ?_)
    subst hr_25
    refine lv_icmp_eq (tgt := 34) hx hb dX6_countOthers_28 (by decide) (fun c_28 => ?_) (fun c_28 => ?_)
    · refine lv_iinc (v := nI (i + 1)) (lv' := [(4, .int (nI (i + 1))), (0, .ref (h 0)), (1, .int (nI k)), (2, .int (nI k2)), (3, .int (nI (coN S k k2 i)))]) hx hb dX6_countOthers_34 hl (k := 4) rfl (cd_i1 _) (by decide) rfl (fun ls hl => ?_)
      refine lv_goto (tgt := 5) hx hb dX6_countOthers_37 (by decide) ?_
      have hl : lv_has ls 5 [(4, .int (nI (i + 1))), (0, .ref (h 0)), (1, .int (nI k)), (2, .int (nI k2)), (3, .int (nI (coN S k k2 (i + 1))))] := by rw [← (by rw [coN_e c_28] : (nI (coN S k k2 i) : Int32) = nI (coN S k k2 (i + 1)))]; exact hl
      exact ih_5 (i + 1) (by omega) (by omega) _ (lv_sub hl [1, 2, 3, 4, 0] rfl)
    · refine lv_iinc (v := nI (coN S k k2 i + 1)) (lv' := [(3, .int (nI (coN S k k2 i + 1))), (0, .ref (h 0)), (1, .int (nI k)), (2, .int (nI k2)), (4, .int (nI i))]) hx hb dX6_countOthers_31 hl (k := 3) rfl (cd_i1 _) (by decide) rfl (fun ls hl => ?_)
      refine lv_iinc (v := nI (i + 1)) (lv' := [(4, .int (nI (i + 1))), (3, .int (nI (coN S k k2 i + 1))), (0, .ref (h 0)), (1, .int (nI k)), (2, .int (nI k2))]) hx hb dX6_countOthers_34 hl (k := 4) rfl (cd_i1 _) (by decide) rfl (fun ls hl => ?_)
      refine lv_goto (tgt := 5) hx hb dX6_countOthers_37 (by decide) ?_
      have hl : lv_has ls 5 [(4, .int (nI (i + 1))), (3, .int (nI (coN S k k2 (i + 1)))), (0, .ref (h 0)), (1, .int (nI k)), (2, .int (nI k2))] := by rw [← (by rw [coN_n c_28] : (nI (coN S k k2 i + 1) : Int32) = nI (coN S k k2 (i + 1)))]; exact hl
      exact ih_5 (i + 1) (by omega) (by omega) _ (lv_sub hl [2, 3, 4, 1, 0] rfl)
