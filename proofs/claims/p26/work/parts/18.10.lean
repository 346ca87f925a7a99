set_option maxHeartbeats 4000000 in
set_option maxRecDepth 100000 in
theorem c_X0_init (l : Launch) (D : va_G) (cy : qT) (q : Nat) (sz : Nat) : Met l yX0_init wsX0_init ({ frames := 1, cells := 6, slots := 600, locals := 12 }) (va_Pc [.ref q] (wrB D cy [(q, .inr (0, [.null, .null, .null, .null, .null, .null, .int (nI 0), .int (nI 0)]))] sz)) (va_Qv (fun (u : Nat → Nat) => u 20 = q) (wrQ D (va_A [(q, .inr (0, [.null, .null, .null, .null, .null, .null, .int (nI 0), .int (nI 0)]))] sz) (fun u : Nat → Nat => (wX0 cy u S0i))) (va_A [(q, .inr (0, [.null, .null, .null, .null, .null, .null, .int (nI 0), .int (nI 0)]))] sz)) 6 600 (va_A [(q, .inr (0, [.null, .null, .null, .null, .null, .null, .int (nI 0), .int (nI 0)]))] sz) := by
  refine Met.ofW (cc := cX0_init) (maxL := 1) (ret := none) (by decide) rfl ?_
  intro pp e9 s m9 args9 bl9 meth9 c9 s9 B hml hv
  obtain ⟨rfl, hsz, hP, hG, hD0⟩ := hv
  have hx := B.exec
  have hb := B.bytes
  have hr := B.returns
  have hts := atoms_spec (ws := wsX0_init) B.pre
  have hown : s.vm.findClass RX0 = some m9.cls := findClass_of_methodNamed B.named
  have hlocks := B.notSynchronized
  have hK := hG.K
  subst hsz
  have hD := hD0.self (sz := s.heap.size)
  generalize hAe : (va_A [(q, .inr (0, [.null, .null, .null, .null, .null, .null, .int (nI 0), .int (nI 0)]))] s.heap.size) = A at hD ⊢
  have hA : ∀ q : Nat, s.heap.size ≤ q → A q := fun q h9 => by rw [← hAe]; exact Or.inr h9
  have hS : va_S A s.heap s.heap [] := va_S.rf
  have hP : va_P D vwCl [(q, .inr (0, [.null, .null, .null, .null, .null, .null, .int (nI 0), .int (nI 0)]))] s.heap := hP
  have ol_3 := hts (.methodLink RX0 3 objectInit) (by decide +kernel)
  have oi_ := hts (.instanceMethod objectInit) (by decide +kernel)
  have oc_ := hts (.code objectInit ⟨#[0xb1]⟩ 1 none) (by decide +kernel)
  have ac_int := hts (.arrayClass .int) (by decide +kernel)
  have f_9 := hts (.fieldLink RX0 9 "CastDesk$BoxOffice" "shows" "[I") (by decide +kernel)
  have f_15 := hts (.fieldLink RX0 15 "CastDesk$BoxOffice" "promises" "[I") (by decide +kernel)
  have f_18 := hts (.fieldLink RX0 18 "CastDesk$BoxOffice" "parts" "[I") (by decide +kernel)
  have f_21 := hts (.fieldLink RX0 21 "CastDesk$BoxOffice" "stars" "[I") (by decide +kernel)
  have f_24 := hts (.fieldLink RX0 24 "CastDesk$BoxOffice" "refunds" "[I") (by decide +kernel)
  have f_27 := hts (.fieldLink RX0 27 "CastDesk$BoxOffice" "prices" "[I") (by decide +kernel)
  have iX0 : ∀ w ∈ wsX00, w ∈ wsX0_init := by decide +kernel
  have hl := lv_entry ([.ref q]) (n := 1) (Nat.le_of_ble_eq_true rfl)
  rw [lg_entry_eq]
  generalize (lg_sl ([.ref q]) ++ List.replicate (1 - (lg_sl ([.ref q])).length) Slot.unset).toArray = ls at hl ⊢
  have hl : lv_has ls 1 [(0, .ref q)] := hl
  have hin9 : meth9.name = "<init>" := (name_of_methodNamed B.named B.method).1
  refine lv_aload_n hx hb dX0_init_0 rfl (lv_at hl 0 rfl) ?_
  refine W.objInit hx hb hown ol_3 oi_ oc_ rfl (by rw [hml]; exact hl.1) rfl dX0_init_1 (Nat.le_of_ble_eq_true rfl) (Nat.le_of_ble_eq_true rfl) ?_
  refine W.eq (g2 := F0 m9 4 ls []) rfl ?_
  refine lv_aload_n hx hb dX0_init_4 rfl (lv_at hl 0 rfl) ?_
  refine lv_bipush (v := nI 100) hx hb dX0_init_5 (by decide) ?_
  refine cd_newI hx hb ac_int hK hP hD hS hA (by decide) (by exact Nat.le_of_ble_eq_true rfl) (by exact Nat.le_of_ble_eq_true rfl) dX0_init_7 (fun q7 H hP hD hS => ?_)
  have hP : va_P D vwCl [(q, .inr (0, [.null, .null, .null, .null, .null, .null, .int (nI 0), .int (nI 0)])), (q7, aI cy 100 (fun _ => 0))] H := hP
  have hD : va_D A [(q, .inr (0, [.null, .null, .null, .null, .null, .null, .int (nI 0), .int (nI 0)])), (q7, aI cy 100 (fun _ => 0))] := hD
  refine va_putF (D := D) (ci := 0) (v := .ref q7) (ty := .array .int) (C := RX0) (T := TX0) (N := 8) hx hb hts iX0 tyX0 tyX0_ok nmX0 hown hK hP hD hS 0 rfl rfl 0 (by decide) f_9 (fun _ h9 => h9) rfl hin9 rfl (by decide +kernel) rfl rfl (Nat.le_of_ble_eq_true rfl) dX0_init_9 (fun H locs hP hD hS => ?_)
  have hP : va_P D vwCl [(q, .inr (0, [.ref q7, .null, .null, .null, .null, .null, .int (nI 0), .int (nI 0)])), (q7, aI cy 100 (fun _ => 0))] H := hP
  have hD : va_D A [(q, .inr (0, [.ref q7, .null, .null, .null, .null, .null, .int (nI 0), .int (nI 0)])), (q7, aI cy 100 (fun _ => 0))] := hD
  refine lv_aload_n hx hb dX0_init_12 rfl (lv_at hl 0 rfl) ?_
  refine lv_bipush (v := nI 100) hx hb dX0_init_13 (by decide) ?_
  refine cd_newI hx hb ac_int hK hP hD hS hA (by decide) (by exact Nat.le_of_ble_eq_true rfl) (by exact Nat.le_of_ble_eq_true rfl) dX0_init_15 (fun q15 H hP hD hS => ?_)
  have hP : va_P D vwCl [(q, .inr (0, [.ref q7, .null, .null, .null, .null, .null, .int (nI 0), .int (nI 0)])), (q7, aI cy 100 (fun _ => 0)), (q15, aI cy 100 (fun _ => 0))] H := hP
  have hD : va_D A [(q, .inr (0, [.ref q7, .null, .null, .null, .null, .null, .int (nI 0), .int (nI 0)])), (q7, aI cy 100 (fun _ => 0)), (q15, aI cy 100 (fun _ => 0))] := hD
  refine va_putF (D := D) (ci := 0) (v := .ref q15) (ty := .array .int) (C := RX0) (T := TX0) (N := 8) hx hb hts iX0 tyX0 tyX0_ok nmX0 hown hK hP hD hS 0 rfl rfl 1 (by decide) f_15 (fun _ h9 => h9) rfl hin9 rfl (by decide +kernel) rfl rfl (Nat.le_of_ble_eq_true rfl) dX0_init_17 (fun H locs hP hD hS => ?_)
  have hP : va_P D vwCl [(q, .inr (0, [.ref q7, .ref q15, .null, .null, .null, .null, .int (nI 0), .int (nI 0)])), (q7, aI cy 100 (fun _ => 0)), (q15, aI cy 100 (fun _ => 0))] H := hP
  have hD : va_D A [(q, .inr (0, [.ref q7, .ref q15, .null, .null, .null, .null, .int (nI 0), .int (nI 0)])), (q7, aI cy 100 (fun _ => 0)), (q15, aI cy 100 (fun _ => 0))] := hD
  refine lv_aload_n hx hb dX0_init_20 rfl (lv_at hl 0 rfl) ?_
  refine lv_bipush (v := nI 100) hx hb dX0_init_21 (by decide) ?_
  refine cd_newI hx hb ac_int hK hP hD hS hA (by decide) (by exact Nat.le_of_ble_eq_true rfl) (by exact Nat.le_of_ble_eq_true rfl) dX0_init_23 (fun q23 H hP hD hS => ?_)
  have hP : va_P D vwCl [(q, .inr (0, [.ref q7, .ref q15, .null, .null, .null, .null, .int (nI 0), .int (nI 0)])), (q7, aI cy 100 (fun _ => 0)), (q15, aI cy 100 (fun _ => 0)), (q23, aI cy 100 (fun _ => 0))] H := hP
  have hD : va_D A [(q, .inr (0, [.ref q7, .ref q15, .null, .null, .null, .null, .int (nI 0), .int (nI 0)])), (q7, aI cy 100 (fun _ => 0)), (q15, aI cy 100 (fun _ => 0)), (q23, aI cy 100 (fun _ => 0))] := hD
  refine va_putF (D := D) (ci := 0) (v := .ref q23) (ty := .array .int) (C := RX0) (T := TX0) (N := 8) hx hb hts iX0 tyX0 tyX0_ok nmX0 hown hK hP hD hS 0 rfl rfl 2 (by decide) f_18 (fun _ h9 => h9) rfl hin9 rfl (by decide +kernel) rfl rfl (Nat.le_of_ble_eq_true rfl) dX0_init_25 (fun H locs hP hD hS => ?_)
  have hP : va_P D vwCl [(q, .inr (0, [.ref q7, .ref q15, .ref q23, .null, .null, .null, .int (nI 0), .int (nI 0)])), (q7, aI cy 100 (fun _ => 0)), (q15, aI cy 100 (fun _ => 0)), (q23, aI cy 100 (fun _ => 0))] H := hP
  have hD : va_D A [(q, .inr (0, [.ref q7, .ref q15, .ref q23, .null, .null, .null, .int (nI 0), .int (nI 0)])), (q7, aI cy 100 (fun _ => 0)), (q15, aI cy 100 (fun _ => 0)), (q23, aI cy 100 (fun _ => 0))] := hD
  refine lv_aload_n hx hb dX0_init_28 rfl (lv_at hl 0 rfl) ?_
  refine lv_bipush (v := nI 100) hx hb dX0_init_29 (by decide) ?_
  refine cd_newI hx hb ac_int hK hP hD hS hA (by decide) (by exact Nat.le_of_ble_eq_true rfl) (by exact Nat.le_of_ble_eq_true rfl) dX0_init_31 (fun q31 H hP hD hS => ?_)
  have hP : va_P D vwCl [(q, .inr (0, [.ref q7, .ref q15, .ref q23, .null, .null, .null, .int (nI 0), .int (nI 0)])), (q7, aI cy 100 (fun _ => 0)), (q15, aI cy 100 (fun _ => 0)), (q23, aI cy 100 (fun _ => 0)), (q31, aI cy 100 (fun _ => 0))] H := hP
  have hD : va_D A [(q, .inr (0, [.ref q7, .ref q15, .ref q23, .null, .null, .null, .int (nI 0), .int (nI 0)])), (q7, aI cy 100 (fun _ => 0)), (q15, aI cy 100 (fun _ => 0)), (q23, aI cy 100 (fun _ => 0)), (q31, aI cy 100 (fun _ => 0))] := hD
  refine va_putF (D := D) (ci := 0) (v := .ref q31) (ty := .array .int) (C := RX0) (T := TX0) (N := 8) hx hb hts iX0 tyX0 tyX0_ok nmX0 hown hK hP hD hS 0 rfl rfl 3 (by decide) f_21 (fun _ h9 => h9) rfl hin9 rfl (by decide +kernel) rfl rfl (Nat.le_of_ble_eq_true rfl) dX0_init_33 (fun H locs hP hD hS => ?_)
  have hP : va_P D vwCl [(q, .inr (0, [.ref q7, .ref q15, .ref q23, .ref q31, .null, .null, .int (nI 0), .int (nI 0)])), (q7, aI cy 100 (fun _ => 0)), (q15, aI cy 100 (fun _ => 0)), (q23, aI cy 100 (fun _ => 0)), (q31, aI cy 100 (fun _ => 0))] H := hP
  have hD : va_D A [(q, .inr (0, [.ref q7, .ref q15, .ref q23, .ref q31, .null, .null, .int (nI 0), .int (nI 0)])), (q7, aI cy 100 (fun _ => 0)), (q15, aI cy 100 (fun _ => 0)), (q23, aI cy 100 (fun _ => 0)), (q31, aI cy 100 (fun _ => 0))] := hD
  refine lv_aload_n hx hb dX0_init_36 rfl (lv_at hl 0 rfl) ?_
  refine lv_bipush (v := nI 100) hx hb dX0_init_37 (by decide) ?_
  refine cd_newI hx hb ac_int hK hP hD hS hA (by decide) (by exact Nat.le_of_ble_eq_true rfl) (by exact Nat.le_of_ble_eq_true rfl) dX0_init_39 (fun q39 H hP hD hS => ?_)
  have hP : va_P D vwCl [(q, .inr (0, [.ref q7, .ref q15, .ref q23, .ref q31, .null, .null, .int (nI 0), .int (nI 0)])), (q7, aI cy 100 (fun _ => 0)), (q15, aI cy 100 (fun _ => 0)), (q23, aI cy 100 (fun _ => 0)), (q31, aI cy 100 (fun _ => 0)), (q39, aI cy 100 (fun _ => 0))] H := hP
  have hD : va_D A [(q, .inr (0, [.ref q7, .ref q15, .ref q23, .ref q31, .null, .null, .int (nI 0), .int (nI 0)])), (q7, aI cy 100 (fun _ => 0)), (q15, aI cy 100 (fun _ => 0)), (q23, aI cy 100 (fun _ => 0)), (q31, aI cy 100 (fun _ => 0)), (q39, aI cy 100 (fun _ => 0))] := hD
  refine va_putF (D := D) (ci := 0) (v := .ref q39) (ty := .array .int) (C := RX0) (T := TX0) (N := 8) hx hb hts iX0 tyX0 tyX0_ok nmX0 hown hK hP hD hS 0 rfl rfl 4 (by decide) f_24 (fun _ h9 => h9) rfl hin9 rfl (by decide +kernel) rfl rfl (Nat.le_of_ble_eq_true rfl) dX0_init_41 (fun H locs hP hD hS => ?_)
  have hP : va_P D vwCl [(q, .inr (0, [.ref q7, .ref q15, .ref q23, .ref q31, .ref q39, .null, .int (nI 0), .int (nI 0)])), (q7, aI cy 100 (fun _ => 0)), (q15, aI cy 100 (fun _ => 0)), (q23, aI cy 100 (fun _ => 0)), (q31, aI cy 100 (fun _ => 0)), (q39, aI cy 100 (fun _ => 0))] H := hP
  have hD : va_D A [(q, .inr (0, [.ref q7, .ref q15, .ref q23, .ref q31, .ref q39, .null, .int (nI 0), .int (nI 0)])), (q7, aI cy 100 (fun _ => 0)), (q15, aI cy 100 (fun _ => 0)), (q23, aI cy 100 (fun _ => 0)), (q31, aI cy 100 (fun _ => 0)), (q39, aI cy 100 (fun _ => 0))] := hD
  refine lv_aload_n hx hb dX0_init_44 rfl (lv_at hl 0 rfl) ?_
  refine lv_bipush (v := nI 100) hx hb dX0_init_45 (by decide) ?_
  refine cd_newI hx hb ac_int hK hP hD hS hA (by decide) (by exact Nat.le_of_ble_eq_true rfl) (by exact Nat.le_of_ble_eq_true rfl) dX0_init_47 (fun q47 H hP hD hS => ?_)
  have hP : va_P D vwCl [(q, .inr (0, [.ref q7, .ref q15, .ref q23, .ref q31, .ref q39, .null, .int (nI 0), .int (nI 0)])), (q7, aI cy 100 (fun _ => 0)), (q15, aI cy 100 (fun _ => 0)), (q23, aI cy 100 (fun _ => 0)), (q31, aI cy 100 (fun _ => 0)), (q39, aI cy 100 (fun _ => 0)), (q47, aI cy 100 (fun _ => 0))] H := hP
  have hD : va_D A [(q, .inr (0, [.ref q7, .ref q15, .ref q23, .ref q31, .ref q39, .null, .int (nI 0), .int (nI 0)])), (q7, aI cy 100 (fun _ => 0)), (q15, aI cy 100 (fun _ => 0)), (q23, aI cy 100 (fun _ => 0)), (q31, aI cy 100 (fun _ => 0)), (q39, aI cy 100 (fun _ => 0)), (q47, aI cy 100 (fun _ => 0))] := hD
  refine va_putF (D := D) (ci := 0) (v := .ref q47) (ty := .array .int) (C := RX0) (T := TX0) (N := 8) hx hb hts iX0 tyX0 tyX0_ok nmX0 hown hK hP hD hS 0 rfl rfl 5 (by decide) f_27 (fun _ h9 => h9) rfl hin9 rfl (by decide +kernel) rfl rfl (Nat.le_of_ble_eq_true rfl) dX0_init_49 (fun H locs hP hD hS => ?_)
  have hP : va_P D vwCl [(q, .inr (0, [.ref q7, .ref q15, .ref q23, .ref q31, .ref q39, .ref q47, .int (nI 0), .int (nI 0)])), (q7, aI cy 100 (fun _ => 0)), (q15, aI cy 100 (fun _ => 0)), (q23, aI cy 100 (fun _ => 0)), (q31, aI cy 100 (fun _ => 0)), (q39, aI cy 100 (fun _ => 0)), (q47, aI cy 100 (fun _ => 0))] H := hP
  have hD : va_D A [(q, .inr (0, [.ref q7, .ref q15, .ref q23, .ref q31, .ref q39, .ref q47, .int (nI 0), .int (nI 0)])), (q7, aI cy 100 (fun _ => 0)), (q15, aI cy 100 (fun _ => 0)), (q23, aI cy 100 (fun _ => 0)), (q31, aI cy 100 (fun _ => 0)), (q39, aI cy 100 (fun _ => 0)), (q47, aI cy 100 (fun _ => 0))] := hD
  exact W.vret hx hb hr (fun t ht hW => ⟨⟨fun i => if i = 20 then q else if i = 21 then q7 else if i = 22 then q15 else if i = 23 then q23 else if i = 24 then q31 else if i = 25 then q39 else if i = 26 then q47 else 0, rfl, rfl, by rw [ht]; exact hP, hD⟩, hS.F ht⟩) hS.2.2 dX0_init_52
