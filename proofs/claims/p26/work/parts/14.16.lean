set_option maxHeartbeats 4000000 in
set_option maxRecDepth 100000 in
theorem c_X6_setSize (l : Launch) (D : va_G) (cy : qT) (h : Nat → Nat) (S : qS) (J : qS) (hI : Inv S) (a : Nat) (z : Nat) (ha1 : a < 12) (hz1 : z < 10) (sz : Nat) : Met l yX6_setSize wsX6_setSize ({ frames := 1, cells := 0, slots := 0, locals := 20 }) (va_Pc [.ref (h 0), .int (nI a), .int (nI z)] (wrB D cy (wC cy h S J) sz)) (va_Qi (fun (r9 : Int32) (u : Unit) => r9 = S 2 a) (wrQ D (va_A (wC cy h S J) sz) (fun u : Unit => (wC cy h (va_up S 2 (upd (S 2) a (nI z))) J))) (va_A (wC cy h S J) sz)) 0 0 (va_A (wC cy h S J) sz) := by
  refine Met.ofW (cc := cX6_setSize) (maxL := 4) (ret := (some .int)) (by decide) rfl ?_
  intro pp e9 s m9 args9 bl9 meth9 c9 s9 B hml hv
  obtain ⟨rfl, hsz, hP, hG, hD0⟩ := hv
  have hx := B.exec
  have hb := B.bytes
  have hr := B.returns
  have hts := atoms_spec (ws := wsX6_setSize) B.pre
  have hown : s.vm.findClass RX6 = some m9.cls := findClass_of_methodNamed B.named
  have hlocks := B.notSynchronized
  have hK := hG.K
  subst hsz
  have hD := hD0.self (sz := s.heap.size)
  generalize hAe : (va_A (wC cy h S J) s.heap.size) = A at hD ⊢
  have hA : ∀ q : Nat, s.heap.size ≤ q → A q := fun q h9 => by rw [← hAe]; exact Or.inr h9
  have hS : va_S A s.heap s.heap [] := va_S.rf
  have hP : va_P D vwCl (wC cy h S J) s.heap := hP
  have f_10 := hts (.fieldLink RX6 10 "CastDesk" "troupe" "LCastDesk$Troupe;") (by decide +kernel)
  have f_72 := hts (.fieldLink RX6 72 "CastDesk$Troupe" "sizes" "[I") (by decide +kernel)
  have iX4 : ∀ w ∈ wsX40, w ∈ wsX6_setSize := by decide +kernel
  have iX6 : ∀ w ∈ wsX60, w ∈ wsX6_setSize := by decide +kernel
  have hl := lv_entry ([.ref (h 0), .int (nI a), .int (nI z)]) (n := 4) (Nat.le_of_ble_eq_true rfl)
  rw [lg_entry_eq]
  generalize (lg_sl ([.ref (h 0), .int (nI a), .int (nI z)]) ++ List.replicate (4 - (lg_sl ([.ref (h 0), .int (nI a), .int (nI z)])).length) Slot.unset).toArray = ls at hl ⊢
  have hl : lv_has ls 4 [(0, .ref (h 0)), (1, .int (nI a)), (2, .int (nI z))] := hl
  refine lv_iload_n hx hb dX6_setSize_0 rfl (lv_at hl 1 rfl) ?_
  have M_1 := c_X6_needActor l a (by omega)
  refine cd_rov (va_runS (As := [.int (nI a)]) (rest := []) ⟨hx, hb, hml, hown, hts⟩ M_1 (va_cwS 1 hts gX6_setSize_X6_needActor rfl rfl rfl (by decide +kernel) ⟨Nat.le_of_ble_eq_true rfl, Nat.le_of_ble_eq_true rfl⟩) ⟨nuB.bl, fun U hU hW => ⟨rfl, trivial⟩⟩ rfl rfl hl.1 rfl (lv_room (Nat.le_of_ble_eq_true rfl)) dX6_setSize_1 (by exact ⟨Nat.zero_le _, Nat.zero_le _⟩)) ?_
  refine lv_iload_n hx hb dX6_setSize_4 rfl (lv_at hl 2 rfl) ?_
  have M_5 := c_X6_needSize l z (by omega)
  refine cd_rov (va_runS (As := [.int (nI z)]) (rest := []) ⟨hx, hb, hml, hown, hts⟩ M_5 (va_cwS 1 hts gX6_setSize_X6_needSize rfl rfl rfl (by decide +kernel) ⟨Nat.le_of_ble_eq_true rfl, Nat.le_of_ble_eq_true rfl⟩) ⟨nuB.bl, fun U hU hW => ⟨rfl, trivial⟩⟩ rfl rfl hl.1 rfl (lv_room (Nat.le_of_ble_eq_true rfl)) dX6_setSize_5 (by exact ⟨Nat.zero_le _, Nat.zero_le _⟩)) ?_
  refine lv_aload_n hx hb dX6_setSize_8 rfl (lv_at hl 0 rfl) ?_
  refine va_get (D := D) (ci := 6) (v := .ref (h 1)) (C := RX6) (T := TX6) (N := 8) hx hb hts iX6 hown hK hP 0 rfl rfl 0 (by decide) f_10 (fun _ h9 => h9) rfl dX6_setSize_9 ?_
  refine va_get (D := D) (ci := 4) (v := .ref (h 2)) (C := RX4) (T := TX4) (N := 3) hx hb hts iX4 hown hK hP 1 rfl rfl 0 (by decide) f_72 (fun _ h9 => h9) rfl dX6_setSize_12 ?_
  refine lv_iload_n hx hb dX6_setSize_15 rfl (lv_at hl 1 rfl) ?_
  refine cd_iald (f := S 2) hx hb hK hP 2 rfl (by omega) (by decide) dX6_setSize_16 ?_
  refine lv_istore_n (lv' := [(3, .int ((S 2) a)), (0, .ref (h 0)), (1, .int (nI a)), (2, .int (nI z))]) hx hb dX6_setSize_17 rfl hl (by decide) rfl (fun ls hl => ?_)
  refine lv_aload_n hx hb dX6_setSize_18 rfl (lv_at hl 1 rfl) ?_
  refine va_get (D := D) (ci := 6) (v := .ref (h 1)) (C := RX6) (T := TX6) (N := 8) hx hb hts iX6 hown hK hP 0 rfl rfl 0 (by decide) f_10 (fun _ h9 => h9) rfl dX6_setSize_19 ?_
  refine va_get (D := D) (ci := 4) (v := .ref (h 2)) (C := RX4) (T := TX4) (N := 3) hx hb hts iX4 hown hK hP 1 rfl rfl 0 (by decide) f_72 (fun _ h9 => h9) rfl dX6_setSize_22 ?_
  refine lv_iload_n hx hb dX6_setSize_25 rfl (lv_at hl 2 rfl) ?_
  refine lv_iload_n hx hb dX6_setSize_26 rfl (lv_at hl 3 rfl) ?_
  refine cd_iast (f := S 2) hx hb hK hP hD hS 2 rfl (by omega) (by decide) dX6_setSize_27 (fun H locs hP hD hS => ?_)
  have hP : va_P D vwCl (wC cy h (va_up S 2 (upd (S 2) a (nI z))) J) H := hP
  have hD : va_D A (wC cy h (va_up S 2 (upd (S 2) a (nI z))) J) := hD
  refine lv_iload_n hx hb dX6_setSize_28 rfl (lv_at hl 0 rfl) ?_
  exact W.iret (v := (S 2) a) hx hb hr (fun t ht hW => ⟨⟨_, (), rfl, rfl, by rw [ht]; exact hP, hD⟩, hS.F ht⟩) hS.2.2 dX6_setSize_29
