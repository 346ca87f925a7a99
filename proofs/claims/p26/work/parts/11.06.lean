set_option maxHeartbeats 4000000 in
set_option maxRecDepth 100000 in
theorem c_X1_offer (l : Launch) (D : va_G) (cy : qT) (h : Nat → Nat) (J : qS) (p : Nat) (r : Nat) (a : Nat) (w : Nat) (b : Nat) (hp : p < 8) (hr4 : r < 4) (ha : a < 12) (hw : w < 2) (hbb : J 12 0 = nI b) (hb4 : b ≤ 4096) (sz : Nat) : Met l yX1_offer wsX1_offer ({ frames := 1, cells := 0, slots := 0, locals := 21 }) (va_Pc [.ref (h 12), .int (nI p), .int (nI r), .int (nI a), .int (nI w)] (wrB D cy (wX1 cy h J) sz)) (va_Qv (fun (u : Unit) => True) (wrQ D (va_A (wX1 cy h J) sz) (fun u : Unit => (wX1 cy h (va_up (va_up (va_up J 13 (upd (J 13) (p * 4 + r) (nI a))) 14 (upd (J 14) (p * 4 + r) (nI (r * 2 ^ 20 + w * 2 ^ 16 + r * 2 ^ ((7 - p) * 2))))) 12 (fun _ => nI (max b (2 * 2 ^ a))))))) (va_A (wX1 cy h J) sz)) 0 0 (va_A (wX1 cy h J) sz) := by
  refine Met.ofW (cc := cX1_offer) (maxL := 6) (ret := none) (by decide) rfl ?_
  intro pp e9 s m9 args9 bl9 meth9 c9 s9 B hml hv
  obtain ⟨rfl, hsz, hP, hG, hD0⟩ := hv
  have hx := B.exec
  have hb := B.bytes
  have hr := B.returns
  have hts := atoms_spec (ws := wsX1_offer) B.pre
  have hown : s.vm.findClass RX1 = some m9.cls := findClass_of_methodNamed B.named
  have hlocks := B.notSynchronized
  have hK := hG.K
  subst hsz
  have hD := hD0.self (sz := s.heap.size)
  generalize hAe : (va_A (wX1 cy h J) s.heap.size) = A at hD ⊢
  have hA : ∀ q : Nat, s.heap.size ≤ q → A q := fun q h9 => by rw [← hAe]; exact Or.inr h9
  have hS : va_S A s.heap s.heap [] := va_S.rf
  have hP : va_P D vwCl (wX1 cy h J) s.heap := hP
  have f_11 := hts (.fieldLink RX1 11 "CastDesk$Casting" "actors" "[I") (by decide +kernel)
  have f_15 := hts (.fieldLink RX1 15 "CastDesk$Casting" "keys" "[I") (by decide +kernel)
  have f_25 := hts (.fieldLink RX1 25 "CastDesk$Casting" "setsBound" "I") (by decide +kernel)
  have mx_1 := hts (.methodLink RX1 29 Lib.Math.max.name) (by decide +kernel)
  have mx_2 := hts (.static Lib.Math.max.name) (by decide +kernel)
  have mx_3 := hts (.initialized "java/lang/Math") (by decide +kernel)
  have mx_4 := hts (.code Lib.Math.max.name Lib.Math.max.code 2 (some .int)) (by decide +kernel)
  have iX1 : ∀ w ∈ wsX10, w ∈ wsX1_offer := by decide +kernel
  have hl := lv_entry ([.ref (h 12), .int (nI p), .int (nI r), .int (nI a), .int (nI w)]) (n := 6) (Nat.le_of_ble_eq_true rfl)
  rw [lg_entry_eq]
  generalize (lg_sl ([.ref (h 12), .int (nI p), .int (nI r), .int (nI a), .int (nI w)]) ++ List.replicate (6 - (lg_sl ([.ref (h 12), .int (nI p), .int (nI r), .int (nI a), .int (nI w)])).length) Slot.unset).toArray = ls at hl ⊢
  have hl : lv_has ls 6 [(0, .ref (h 12)), (1, .int (nI p)), (2, .int (nI r)), (3, .int (nI a)), (4, .int (nI w))] := hl
  refine lv_iload_n hx hb dX1_offer_0 rfl (lv_at hl 1 rfl) ?_
  refine lv_iconst (v := nI 4) hx hb dX1_offer_1 (by decide) ?_
  refine cd_imul hx hb dX1_offer_2 ?_
  refine lv_iload_n hx hb dX1_offer_3 rfl (lv_at hl 2 rfl) ?_
  refine cd_iadd hx hb dX1_offer_4 ?_
  refine lv_istore (lv' := [(5, .int (nI ((p * 4) + r))), (0, .ref (h 12)), (1, .int (nI p)), (2, .int (nI r)), (3, .int (nI a)), (4, .int (nI w))]) hx hb dX1_offer_5 hl (by decide) rfl (fun ls hl => ?_)
  refine lv_aload_n hx hb dX1_offer_7 rfl (lv_at hl 1 rfl) ?_
  refine va_get (D := D) (ci := 1) (v := .ref (h 13)) (C := RX1) (T := TX1) (N := 4) hx hb hts iX1 hown hK hP 0 rfl rfl 0 (by decide) f_11 (fun _ h9 => h9) rfl dX1_offer_8 ?_
  refine lv_iload hx hb dX1_offer_11 (lv_at hl 0 rfl) ?_
  refine lv_iload_n hx hb dX1_offer_13 rfl (lv_at hl 4 rfl) ?_
  refine cd_iast (f := J 13) hx hb hK hP hD hS 1 rfl (by omega) (by decide) dX1_offer_14 (fun H locs hP hD hS => ?_)
  have hP : va_P D vwCl (wX1 cy h (va_up J 13 (upd (J 13) ((p * 4) + r) (nI a)))) H := hP
  have hD : va_D A (wX1 cy h (va_up J 13 (upd (J 13) ((p * 4) + r) (nI a)))) := hD
  refine lv_aload_n hx hb dX1_offer_15 rfl (lv_at hl 1 rfl) ?_
  refine va_get (D := D) (ci := 1) (v := .ref (h 14)) (C := RX1) (T := TX1) (N := 4) hx hb hts iX1 hown hK hP 0 rfl rfl 1 (by decide) f_15 (fun _ h9 => h9) rfl dX1_offer_16 ?_
  refine lv_iload hx hb dX1_offer_19 (lv_at hl 0 rfl) ?_
  refine lv_iload_n hx hb dX1_offer_21 rfl (lv_at hl 3 rfl) ?_
  refine lv_bipush (v := nI 20) hx hb dX1_offer_22 (by decide) ?_
  refine cd_ishl hx hb (by decide) (by omega) dX1_offer_24 ?_
  refine lv_iload hx hb dX1_offer_25 (lv_at hl 5 rfl) ?_
  refine lv_bipush (v := nI 16) hx hb dX1_offer_27 (by decide) ?_
  refine cd_ishl hx hb (by decide) (by omega) dX1_offer_29 ?_
  refine cd_iadd hx hb dX1_offer_30 ?_
  refine lv_iload_n hx hb dX1_offer_31 rfl (lv_at hl 3 rfl) ?_
  refine lv_iload_n hx hb dX1_offer_32 rfl (lv_at hl 2 rfl) ?_
  have M_33 := c_X1_rankShift l p (by omega)
  refine cd_roi (va_runS (As := [.int (nI p)]) (rest := [.int (nI r), .int (nI ((r * 2 ^ 20) + (w * 2 ^ 16))), .int (nI ((p * 4) + r)), .ref (h 14)]) ⟨hx, hb, hml, hown, hts⟩ M_33 (va_cwS 1 hts gX1_offer_X1_rankShift rfl rfl rfl (by decide +kernel) ⟨Nat.le_of_ble_eq_true rfl, Nat.le_of_ble_eq_true rfl⟩) ⟨nuB.bl, fun U hU hW => ⟨rfl, trivial⟩⟩ rfl rfl hl.1 rfl (lv_room (Nat.le_of_ble_eq_true rfl)) dX1_offer_33 (by exact ⟨Nat.zero_le _, Nat.zero_le _⟩)) (fun r_33 hr_33 => ?_)
  subst hr_33
  refine cd_ishl hx hb (by omega) (by have := Nat.pow_le_pow_right (n := 2) (by decide) (show (7 - p) * 2 ≤ 14 by omega); have h2 : r * 2 ^ ((7 - p) * 2) ≤ 3 * 2 ^ 14 := Nat.mul_le_mul (by omega) this; omega) dX1_offer_36 ?_
  refine cd_iadd hx hb dX1_offer_37 ?_
  refine cd_iast (f := J 14) hx hb hK hP hD hS 2 rfl (by omega) (by decide) dX1_offer_38 (fun H locs hP hD hS => ?_)
  have hP : va_P D vwCl (wX1 cy h (va_up (va_up J 13 (upd (J 13) ((p * 4) + r) (nI a))) 14 (upd (J 14) ((p * 4) + r) (nI (((r * 2 ^ 20) + (w * 2 ^ 16)) + (r * 2 ^ ((7 - p) * 2))))))) H := hP
  have hD : va_D A (wX1 cy h (va_up (va_up J 13 (upd (J 13) ((p * 4) + r) (nI a))) 14 (upd (J 14) ((p * 4) + r) (nI (((r * 2 ^ 20) + (w * 2 ^ 16)) + (r * 2 ^ ((7 - p) * 2))))))) := hD
  refine lv_aload_n hx hb dX1_offer_39 rfl (lv_at hl 1 rfl) ?_
  refine lv_aload_n hx hb dX1_offer_40 rfl (lv_at hl 1 rfl) ?_
  refine va_get (D := D) (ci := 1) (v := .int (J 12 0)) (C := RX1) (T := TX1) (N := 4) hx hb hts iX1 hown hK hP 0 rfl rfl 3 (by decide) f_25 (fun _ h9 => h9) rfl dX1_offer_41 ?_
  refine cd_tp (y := nI b) (hbb) ?_
  refine lv_iconst (v := nI 2) hx hb dX1_offer_44 (by decide) ?_
  refine lv_iload_n hx hb dX1_offer_45 rfl (lv_at hl 4 rfl) ?_
  refine cd_ishl hx hb (by omega) (by have := Nat.pow_le_pow_right (n := 2) (by decide) (show a ≤ 11 by omega); omega) dX1_offer_46 ?_
  refine va_mmax hx hb (by rw [hml]; exact hl.1.symm) hown mx_1 mx_2 mx_3 mx_4 (Nat.le_of_ble_eq_true rfl) (Nat.le_of_ble_eq_true rfl) (Nat.le_of_ble_eq_true rfl) (Nat.le_of_ble_eq_true rfl) dX1_offer_47 ?_
  refine cd_tp (y := nI (max b (2 * 2 ^ a))) (max_J (by omega) (by have := Nat.pow_le_pow_right (n := 2) (by decide) (show a ≤ 11 by omega); omega)) ?_
  refine va_put (D := D) (ci := 1) (v := .int (nI (max b (2 * 2 ^ a)))) (ty := .int) (C := RX1) (T := TX1) (N := 4) hx hb hts iX1 tyX1 tyX1_ok nmX1 hown hK hP hD hS 0 rfl rfl 3 (by decide) f_25 (fun _ h9 => h9) rfl (by decide +kernel) rfl rfl (Nat.le_of_ble_eq_true rfl) dX1_offer_50 (fun H locs hP hD hS => ?_)
  have hP : va_P D vwCl (wX1 cy h (va_up (va_up (va_up J 13 (upd (J 13) ((p * 4) + r) (nI a))) 14 (upd (J 14) ((p * 4) + r) (nI (((r * 2 ^ 20) + (w * 2 ^ 16)) + (r * 2 ^ ((7 - p) * 2)))))) 12 (fun _ => nI (max b (2 * 2 ^ a))))) H := hP
  have hD : va_D A (wX1 cy h (va_up (va_up (va_up J 13 (upd (J 13) ((p * 4) + r) (nI a))) 14 (upd (J 14) ((p * 4) + r) (nI (((r * 2 ^ 20) + (w * 2 ^ 16)) + (r * 2 ^ ((7 - p) * 2)))))) 12 (fun _ => nI (max b (2 * 2 ^ a))))) := hD
  exact W.vret hx hb hr (fun t ht hW => ⟨⟨(), rfl, trivial, by rw [ht]; exact hP, hD⟩, hS.F ht⟩) hS.2.2 dX1_offer_53
