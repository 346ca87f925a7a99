set_option maxHeartbeats 4000000 in
set_option maxRecDepth 100000 in
theorem c_X4_init (l : Launch) (D : va_G) (cy : qT) (q : Nat) (sz : Nat) : Met l yX4_init wsX4_init ({ frames := 1, cells := 3, slots := 1025, locals := 12 }) (va_Pc [.ref q] (wrB D cy [(q, .inr (4, [.null, .null, .null]))] sz)) (va_Qv (fun (u : Nat → Nat) => u 1 = q) (wrQ D (va_A [(q, .inr (4, [.null, .null, .null]))] sz) (fun u : Nat → Nat => (wX4 cy u S0i))) (va_A [(q, .inr (4, [.null, .null, .null]))] sz)) 3 1025 (va_A [(q, .inr (4, [.null, .null, .null]))] sz) := by
  refine Met.ofW (cc := cX4_init) (maxL := 2) (ret := none) (by decide) rfl ?_
  intro pp e9 s m9 args9 bl9 meth9 c9 s9 B hml hv
  obtain ⟨rfl, hsz, hP, hG, hD0⟩ := hv
  have hx := B.exec
  have hb := B.bytes
  have hr := B.returns
  have hts := atoms_spec (ws := wsX4_init) B.pre
  have hown : s.vm.findClass RX4 = some m9.cls := findClass_of_methodNamed B.named
  have hlocks := B.notSynchronized
  have hK := hG.K
  subst hsz
  have hD := hD0.self (sz := s.heap.size)
  generalize hAe : (va_A [(q, .inr (4, [.null, .null, .null]))] s.heap.size) = A at hD ⊢
  have hA : ∀ q : Nat, s.heap.size ≤ q → A q := fun q h9 => by rw [← hAe]; exact Or.inr h9
  have hS : va_S A s.heap s.heap [] := va_S.rf
  have hP : va_P D vwCl [(q, .inr (4, [.null, .null, .null]))] s.heap := hP
  have ol_3 := hts (.methodLink RX4 3 objectInit) (by decide +kernel)
  have oi_ := hts (.instanceMethod objectInit) (by decide +kernel)
  have oc_ := hts (.code objectInit ⟨#[0xb1]⟩ 1 none) (by decide +kernel)
  have ac_int := hts (.arrayClass .int) (by decide +kernel)
  have f_9 := hts (.fieldLink RX4 9 "CastDesk$Troupe" "sizes" "[I") (by decide +kernel)
  have f_15 := hts (.fieldLink RX4 15 "CastDesk$Troupe" "known" "[I") (by decide +kernel)
  have f_18 := hts (.fieldLink RX4 18 "CastDesk$Troupe" "ill" "[I") (by decide +kernel)
  have iX4 : ∀ w ∈ wsX40, w ∈ wsX4_init := by decide +kernel
  have hl := lv_entry ([.ref q]) (n := 2) (Nat.le_of_ble_eq_true rfl)
  rw [lg_entry_eq]
  generalize (lg_sl ([.ref q]) ++ List.replicate (2 - (lg_sl ([.ref q])).length) Slot.unset).toArray = ls at hl ⊢
  have hl : lv_has ls 2 [(0, .ref q)] := hl
  have hin9 : meth9.name = "<init>" := (name_of_methodNamed B.named B.method).1
  refine lv_aload_n hx hb dX4_init_0 rfl (lv_at hl 0 rfl) ?_
  refine W.objInit hx hb hown ol_3 oi_ oc_ rfl (by rw [hml]; exact hl.1) rfl dX4_init_1 (Nat.le_of_ble_eq_true rfl) (Nat.le_of_ble_eq_true rfl) ?_
  refine W.eq (g2 := F0 m9 4 ls []) rfl ?_
  refine lv_aload_n hx hb dX4_init_4 rfl (lv_at hl 0 rfl) ?_
  refine lv_bipush (v := nI 12) hx hb dX4_init_5 (by decide) ?_
  refine cd_newI hx hb ac_int hK hP hD hS hA (by decide) (by exact Nat.le_of_ble_eq_true rfl) (by exact Nat.le_of_ble_eq_true rfl) dX4_init_7 (fun q7 H hP hD hS => ?_)
  have hP : va_P D vwCl [(q, .inr (4, [.null, .null, .null])), (q7, aI cy 12 (fun _ => 0))] H := hP
  have hD : va_D A [(q, .inr (4, [.null, .null, .null])), (q7, aI cy 12 (fun _ => 0))] := hD
  refine va_putF (D := D) (ci := 4) (v := .ref q7) (ty := .array .int) (C := RX4) (T := TX4) (N := 3) hx hb hts iX4 tyX4 tyX4_ok nmX4 hown hK hP hD hS 0 rfl rfl 0 (by decide) f_9 (fun _ h9 => h9) rfl hin9 rfl (by decide +kernel) rfl rfl (Nat.le_of_ble_eq_true rfl) dX4_init_9 (fun H locs hP hD hS => ?_)
  have hP : va_P D vwCl [(q, .inr (4, [.ref q7, .null, .null])), (q7, aI cy 12 (fun _ => 0))] H := hP
  have hD : va_D A [(q, .inr (4, [.ref q7, .null, .null])), (q7, aI cy 12 (fun _ => 0))] := hD
  refine lv_aload_n hx hb dX4_init_12 rfl (lv_at hl 0 rfl) ?_
  refine lv_bipush (v := nI 12) hx hb dX4_init_13 (by decide) ?_
  refine cd_newI hx hb ac_int hK hP hD hS hA (by decide) (by exact Nat.le_of_ble_eq_true rfl) (by exact Nat.le_of_ble_eq_true rfl) dX4_init_15 (fun q15 H hP hD hS => ?_)
  have hP : va_P D vwCl [(q, .inr (4, [.ref q7, .null, .null])), (q7, aI cy 12 (fun _ => 0)), (q15, aI cy 12 (fun _ => 0))] H := hP
  have hD : va_D A [(q, .inr (4, [.ref q7, .null, .null])), (q7, aI cy 12 (fun _ => 0)), (q15, aI cy 12 (fun _ => 0))] := hD
  refine va_putF (D := D) (ci := 4) (v := .ref q15) (ty := .array .int) (C := RX4) (T := TX4) (N := 3) hx hb hts iX4 tyX4 tyX4_ok nmX4 hown hK hP hD hS 0 rfl rfl 1 (by decide) f_15 (fun _ h9 => h9) rfl hin9 rfl (by decide +kernel) rfl rfl (Nat.le_of_ble_eq_true rfl) dX4_init_17 (fun H locs hP hD hS => ?_)
  have hP : va_P D vwCl [(q, .inr (4, [.ref q7, .ref q15, .null])), (q7, aI cy 12 (fun _ => 0)), (q15, aI cy 12 (fun _ => 0))] H := hP
  have hD : va_D A [(q, .inr (4, [.ref q7, .ref q15, .null])), (q7, aI cy 12 (fun _ => 0)), (q15, aI cy 12 (fun _ => 0))] := hD
  refine lv_aload_n hx hb dX4_init_20 rfl (lv_at hl 0 rfl) ?_
  refine lv_sipush (v := nI 1001) hx hb dX4_init_21 (by decide) ?_
  refine cd_newI hx hb ac_int hK hP hD hS hA (by decide) (by exact Nat.le_of_ble_eq_true rfl) (by exact Nat.le_of_ble_eq_true rfl) dX4_init_24 (fun q24 H hP hD hS => ?_)
  have hP : va_P D vwCl [(q, .inr (4, [.ref q7, .ref q15, .null])), (q7, aI cy 12 (fun _ => 0)), (q15, aI cy 12 (fun _ => 0)), (q24, aI cy 1001 (fun _ => 0))] H := hP
  have hD : va_D A [(q, .inr (4, [.ref q7, .ref q15, .null])), (q7, aI cy 12 (fun _ => 0)), (q15, aI cy 12 (fun _ => 0)), (q24, aI cy 1001 (fun _ => 0))] := hD
  refine va_putF (D := D) (ci := 4) (v := .ref q24) (ty := .array .int) (C := RX4) (T := TX4) (N := 3) hx hb hts iX4 tyX4 tyX4_ok nmX4 hown hK hP hD hS 0 rfl rfl 2 (by decide) f_18 (fun _ h9 => h9) rfl hin9 rfl (by decide +kernel) rfl rfl (Nat.le_of_ble_eq_true rfl) dX4_init_26 (fun H locs hP hD hS => ?_)
  have hP : va_P D vwCl [(q, .inr (4, [.ref q7, .ref q15, .ref q24])), (q7, aI cy 12 (fun _ => 0)), (q15, aI cy 12 (fun _ => 0)), (q24, aI cy 1001 (fun _ => 0))] H := hP
  have hD : va_D A [(q, .inr (4, [.ref q7, .ref q15, .ref q24])), (q7, aI cy 12 (fun _ => 0)), (q15, aI cy 12 (fun _ => 0)), (q24, aI cy 1001 (fun _ => 0))] := hD
  refine lv_iconst (v := nI 0) hx hb dX4_init_29 (by decide) ?_
  refine lv_istore_n (lv' := [(1, .int (nI 0)), (0, .ref q)]) hx hb dX4_init_30 rfl hl (by decide) rfl (fun ls hl => ?_)
  have e0 : fuF (nI 5) 0 = (fun _ => 0) := fuF_0 _
  refine wh1 (nL := 2) (fun (i : Nat) => i ≤ 12) (fun (i : Nat) => 12 - i) (fun (i : Nat) => [(0, .ref q), (1, .int (nI i))]) (fun (i : Nat) => [(q, .inr (4, [.ref q7, .ref q15, .ref q24])), (q7, aI cy 12 (fuF (nI 5) i)), (q15, aI cy 12 (fun _ => 0)), (q24, aI cy 1001 (fun _ => 0))]) (fun i hi_31 ih_31 H locs hP hD hS ls hl => ?_) 0 (Nat.zero_le _) (by rw [e0]; exact hP) (by rw [e0]; exact hD) hS (lv_sub hl [1, 0] rfl)
  have hP : va_P D vwCl [(q, .inr (4, [.ref q7, .ref q15, .ref q24])), (q7, aI cy 12 (fuF (nI 5) i)), (q15, aI cy 12 (fun _ => 0)), (q24, aI cy 1001 (fun _ => 0))] H := hP
  have hD : va_D A [(q, .inr (4, [.ref q7, .ref q15, .ref q24])), (q7, aI cy 12 (fuF (nI 5) i)), (q15, aI cy 12 (fun _ => 0)), (q24, aI cy 1001 (fun _ => 0))] := hD
  refine lv_iload_n hx hb dX4_init_31 rfl (lv_at hl 1 rfl) ?_
  refine lv_bipush (v := nI 12) hx hb dX4_init_32 (by decide) ?_
  refine cd_icmp_ge (tgt := 50) hx hb dX4_init_34 (by decide) (by omega) (by omega) (fun c_34 => ?_) (fun c_34 => ?_)
  · have ei : i = 12 := by omega
    subst ei
    have hP : va_P D vwCl [(q, .inr (4, [.ref q7, .ref q15, .ref q24])), (q7, aI cy 12 (fuF (nI 5) 12)), (q15, aI cy 12 (fun _ => 0)), (q24, aI cy 1001 (fun _ => 0))] H := hP
    have hD : va_D A [(q, .inr (4, [.ref q7, .ref q15, .ref q24])), (q7, aI cy 12 (fuF (nI 5) 12)), (q15, aI cy 12 (fun _ => 0)), (q24, aI cy 1001 (fun _ => 0))] := hD
    exact W.vret hx hb hr (fun t ht hW => ⟨⟨fun i => if i = 1 then q else if i = 2 then q7 else if i = 3 then q15 else if i = 4 then q24 else 0, rfl, rfl, by rw [ht]; exact hP, hD⟩, hS.F ht⟩) hS.2.2 dX4_init_50
  · refine lv_aload_n hx hb dX4_init_37 rfl (lv_at hl 0 rfl) ?_
    refine va_get (D := D) (ci := 4) (v := .ref q7) (C := RX4) (T := TX4) (N := 3) hx hb hts iX4 hown hK hP 0 rfl rfl 0 (by decide) f_9 (fun _ h9 => h9) rfl dX4_init_38 ?_
    refine lv_iload_n hx hb dX4_init_41 rfl (lv_at hl 1 rfl) ?_
    refine lv_iconst (v := nI 5) hx hb dX4_init_42 (by decide) ?_
    refine cd_iast (f := fuF (nI 5) i) hx hb hK hP hD hS 1 rfl (by omega) (by decide) dX4_init_43 (fun H locs hP hD hS => ?_)
    have hP : va_P D vwCl [(q, .inr (4, [.ref q7, .ref q15, .ref q24])), (q7, aI cy 12 (upd (fuF (nI 5) i) i (nI 5))), (q15, aI cy 12 (fun _ => 0)), (q24, aI cy 1001 (fun _ => 0))] H := hP
    have hD : va_D A [(q, .inr (4, [.ref q7, .ref q15, .ref q24])), (q7, aI cy 12 (upd (fuF (nI 5) i) i (nI 5))), (q15, aI cy 12 (fun _ => 0)), (q24, aI cy 1001 (fun _ => 0))] := hD
    have e_43 : (upd (fuF (nI 5) i) i (nI 5)) = (fuF (nI 5) (i + 1)) := fuF_s _ _
    rw [e_43] at hP hD
    have hP : va_P D vwCl [(q, .inr (4, [.ref q7, .ref q15, .ref q24])), (q7, aI cy 12 (fuF (nI 5) (i + 1))), (q15, aI cy 12 (fun _ => 0)), (q24, aI cy 1001 (fun _ => 0))] H := hP
    have hD : va_D A [(q, .inr (4, [.ref q7, .ref q15, .ref q24])), (q7, aI cy 12 (fuF (nI 5) (i + 1))), (q15, aI cy 12 (fun _ => 0)), (q24, aI cy 1001 (fun _ => 0))] := hD
    refine lv_iinc (v := nI (i + 1)) (lv' := [(1, .int (nI (i + 1))), (0, .ref q)]) hx hb dX4_init_44 hl (k := 1) rfl (cd_i1 _) (by decide) rfl (fun ls hl => ?_)
    refine lv_goto (tgt := 31) hx hb dX4_init_47 (by decide) ?_
    exact ih_31 (i + 1) (by omega) (by omega) _ _ hP hD hS _ (lv_sub hl [1, 0] rfl)
