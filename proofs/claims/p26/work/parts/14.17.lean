set_option maxHeartbeats 4000000 in
set_option maxRecDepth 100000 in
theorem c_X6_learn (l : Launch) (D : va_G) (cy : qT) (h : Nat → Nat) (S : qS) (J : qS) (hI : Inv S) (a : Nat) (p : Nat) (ha1 : a < 12) (hp1 : p < 8) (hk1 : pcn 12 (nv (S 3 a) ||| 2 ^ p) ≤ 4) (sz : Nat) : Met l yX6_learn wsX6_learn ({ frames := 1, cells := 0, slots := 0, locals := 21 }) (va_Pc [.ref (h 0), .int (nI a), .int (nI p), .int (nI 1)] (wrB D cy (wC cy h S J) sz)) (va_Qi (fun (r9 : Int32) (u : Unit) => r9 = nI (pcn 12 (nv (S 3 a) ||| 2 ^ p))) (wrQ D (va_A (wC cy h S J) sz) (fun u : Unit => (wC cy h (va_up S 3 (upd (S 3) a (nI (nv (S 3 a) ||| 2 ^ p)))) J))) (va_A (wC cy h S J) sz)) 0 0 (va_A (wC cy h S J) sz) := by
  refine Met.ofW (cc := cX6_learn) (maxL := 6) (ret := (some .int)) (by decide) rfl ?_
  intro pp e9 s m9 args9 bl9 meth9 c9 s9 B hml hv
  obtain ⟨rfl, hsz, hP, hG, hD0⟩ := hv
  have hx := B.exec
  have hb := B.bytes
  have hr := B.returns
  have hts := atoms_spec (ws := wsX6_learn) B.pre
  have hown : s.vm.findClass RX6 = some m9.cls := findClass_of_methodNamed B.named
  have hlocks := B.notSynchronized
  have hK := hG.K
  subst hsz
  have hD := hD0.self (sz := s.heap.size)
  generalize hAe : (va_A (wC cy h S J) s.heap.size) = A at hD ⊢
  have hA : ∀ q : Nat, s.heap.size ≤ q → A q := fun q h9 => by rw [← hAe]; exact Or.inr h9
  have hS : va_S A s.heap s.heap [] := va_S.rf
  have hP : va_P D vwCl (wC cy h S J) s.heap := hP
  have f_10 := hts (.fieldLink RX6 10 "CastDesk" "troupe" "LCastDesk$Troupe;") (by decide +kernel)
  have f_79 := hts (.fieldLink RX6 79 "CastDesk$Troupe" "known" "[I") (by decide +kernel)
  have iX4 : ∀ w ∈ wsX40, w ∈ wsX6_learn := by decide +kernel
  have iX6 : ∀ w ∈ wsX60, w ∈ wsX6_learn := by decide +kernel
  have hl := lv_entry ([.ref (h 0), .int (nI a), .int (nI p), .int (nI 1)]) (n := 6) (Nat.le_of_ble_eq_true rfl)
  rw [lg_entry_eq]
  generalize (lg_sl ([.ref (h 0), .int (nI a), .int (nI p), .int (nI 1)]) ++ List.replicate (6 - (lg_sl ([.ref (h 0), .int (nI a), .int (nI p), .int (nI 1)])).length) Slot.unset).toArray = ls at hl ⊢
  have hl : lv_has ls 6 [(0, .ref (h 0)), (1, .int (nI a)), (2, .int (nI p)), (3, .int (nI 1))] := hl
  have hk3 := iv_3 hI a (by omega)
  have hk3b := hk3.1.2
  have hkn := or_lt (n := 8) hk3b hp1
  refine lv_iload_n hx hb dX6_learn_0 rfl (lv_at hl 1 rfl) ?_
  have M_1 := c_X6_needActor l a (by omega)
  refine cd_rov (va_runS (As := [.int (nI a)]) (rest := []) ⟨hx, hb, hml, hown, hts⟩ M_1 (va_cwS 1 hts gX6_learn_X6_needActor rfl rfl rfl (by decide +kernel) ⟨Nat.le_of_ble_eq_true rfl, Nat.le_of_ble_eq_true rfl⟩) ⟨nuB.bl, fun U hU hW => ⟨rfl, trivial⟩⟩ rfl rfl hl.1 rfl (lv_room (Nat.le_of_ble_eq_true rfl)) dX6_learn_1 (by exact ⟨Nat.zero_le _, Nat.zero_le _⟩)) ?_
  refine lv_iload_n hx hb dX6_learn_4 rfl (lv_at hl 2 rfl) ?_
  have M_5 := c_X6_needPart l p (by omega)
  refine cd_rov (va_runS (As := [.int (nI p)]) (rest := []) ⟨hx, hb, hml, hown, hts⟩ M_5 (va_cwS 1 hts gX6_learn_X6_needPart rfl rfl rfl (by decide +kernel) ⟨Nat.le_of_ble_eq_true rfl, Nat.le_of_ble_eq_true rfl⟩) ⟨nuB.bl, fun U hU hW => ⟨rfl, trivial⟩⟩ rfl rfl hl.1 rfl (lv_room (Nat.le_of_ble_eq_true rfl)) dX6_learn_5 (by exact ⟨Nat.zero_le _, Nat.zero_le _⟩)) ?_
  refine lv_iload_n hx hb dX6_learn_8 rfl (lv_at hl 3 rfl) ?_
  refine cd_if_eq (tgt := 28) hx hb dX6_learn_9 (by decide) (by omega) (fun c_9 => ?_) (fun c_9 => ?_)
  · exact absurd c_9 (by decide)
  · refine lv_aload_n hx hb dX6_learn_12 rfl (lv_at hl 0 rfl) ?_
    refine va_get (D := D) (ci := 6) (v := .ref (h 1)) (C := RX6) (T := TX6) (N := 8) hx hb hts iX6 hown hK hP 0 rfl rfl 0 (by decide) f_10 (fun _ h9 => h9) rfl dX6_learn_13 ?_
    refine va_get (D := D) (ci := 4) (v := .ref (h 3)) (C := RX4) (T := TX4) (N := 3) hx hb hts iX4 hown hK hP 1 rfl rfl 1 (by decide) f_79 (fun _ h9 => h9) rfl dX6_learn_16 ?_
    refine lv_iload_n hx hb dX6_learn_19 rfl (lv_at hl 1 rfl) ?_
    refine cd_iald (f := S 3) hx hb hK hP 3 rfl (by omega) (by decide) dX6_learn_20 ?_
    have b_20 := (iv_3 hI a (by omega)).1
    refine cd_tp (y := nI (nv (S 3 a))) b_20.1 ?_
    have b_20 := b_20.2
    refine lv_iload_n hx hb dX6_learn_21 rfl (lv_at hl 2 rfl) ?_
    have M_22 := c_X6_with l (nv (S 3 a)) p (by omega)
    refine cd_roi (va_runS (As := [.int (nI (nv (S 3 a))), .int (nI p)]) (rest := []) ⟨hx, hb, hml, hown, hts⟩ M_22 (va_cwS 2 hts gX6_learn_X6_with rfl rfl rfl (by decide +kernel) ⟨Nat.le_of_ble_eq_true rfl, Nat.le_of_ble_eq_true rfl⟩) ⟨nuB.bl, fun U hU hW => ⟨rfl, trivial⟩⟩ rfl rfl hl.1 rfl (lv_room (Nat.le_of_ble_eq_true rfl)) dX6_learn_22 (by exact ⟨Nat.zero_le _, Nat.zero_le _⟩)) (fun r_22 hr_22 => ?_)
    subst hr_22
    refine lv_goto (tgt := 41) hx hb dX6_learn_25 (by decide) ?_
    refine lv_istore (lv' := [(4, .int (nI ((nv (S 3 a)) ||| 2 ^ p))), (0, .ref (h 0)), (1, .int (nI a)), (2, .int (nI p)), (3, .int (nI 1))]) hx hb dX6_learn_41 hl (by decide) rfl (fun ls hl => ?_)
    refine lv_iload hx hb dX6_learn_43 (lv_at hl 0 rfl) ?_
    have M_45 := c_J6_bitCount_0f7a4 l ((nv (S 3 a)) ||| 2 ^ p) (by omega)
    refine cd_roi (va_runS (As := [.int (nI ((nv (S 3 a)) ||| 2 ^ p))]) (rest := []) ⟨hx, hb, hml, hown, hts⟩ M_45 (va_cwS 1 hts gX6_learn_J6_bitCount_0f7a4 rfl rfl rfl (by decide +kernel) ⟨Nat.le_of_ble_eq_true rfl, Nat.le_of_ble_eq_true rfl⟩) ⟨nuB.bl, fun U hU hW => ⟨rfl, trivial⟩⟩ rfl rfl hl.1 rfl (lv_room (Nat.le_of_ble_eq_true rfl)) dX6_learn_45 (by exact ⟨Nat.zero_le _, Nat.zero_le _⟩)) (fun r_45 hr_45 => ?_)
    subst hr_45
    have hpc := pcn_le (nv (S 3 a) ||| 2 ^ p) 12
    refine lv_istore (lv' := [(5, .int (nI (pcn 12 ((nv (S 3 a)) ||| 2 ^ p)))), (4, .int (nI ((nv (S 3 a)) ||| 2 ^ p))), (0, .ref (h 0)), (1, .int (nI a)), (2, .int (nI p)), (3, .int (nI 1))]) hx hb dX6_learn_48 hl (by decide) rfl (fun ls hl => ?_)
    refine lv_iload hx hb dX6_learn_50 (lv_at hl 0 rfl) ?_
    refine lv_iconst (v := nI 4) hx hb dX6_learn_52 (by decide) ?_
    refine cd_icmp_le (tgt := 66) hx hb dX6_learn_53 (by decide) (by omega) (by omega) (fun c_53 => ?_) (fun c_53 => ?_)
    · refine lv_aload_n hx hb dX6_learn_66 rfl (lv_at hl 2 rfl) ?_
      refine va_get (D := D) (ci := 6) (v := .ref (h 1)) (C := RX6) (T := TX6) (N := 8) hx hb hts iX6 hown hK hP 0 rfl rfl 0 (by decide) f_10 (fun _ h9 => h9) rfl dX6_learn_67 ?_
      refine va_get (D := D) (ci := 4) (v := .ref (h 3)) (C := RX4) (T := TX4) (N := 3) hx hb hts iX4 hown hK hP 1 rfl rfl 1 (by decide) f_79 (fun _ h9 => h9) rfl dX6_learn_70 ?_
      refine lv_iload_n hx hb dX6_learn_73 rfl (lv_at hl 3 rfl) ?_
      refine lv_iload hx hb dX6_learn_74 (lv_at hl 1 rfl) ?_
      refine cd_iast (f := S 3) hx hb hK hP hD hS 3 rfl (by omega) (by decide) dX6_learn_76 (fun H locs hP hD hS => ?_)
      have hP : va_P D vwCl (wC cy h (va_up S 3 (upd (S 3) a (nI ((nv (S 3 a)) ||| 2 ^ p)))) J) H := hP
      have hD : va_D A (wC cy h (va_up S 3 (upd (S 3) a (nI ((nv (S 3 a)) ||| 2 ^ p)))) J) := hD
      refine lv_iload hx hb dX6_learn_77 (lv_at hl 0 rfl) ?_
      exact W.iret (v := nI (pcn 12 ((nv (S 3 a)) ||| 2 ^ p))) hx hb hr (fun t ht hW => ⟨⟨_, (), rfl, rfl, by rw [ht]; exact hP, hD⟩, hS.F ht⟩) hS.2.2 dX6_learn_79
    · omega
