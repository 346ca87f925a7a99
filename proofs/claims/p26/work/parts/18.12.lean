set_option maxHeartbeats 4000000 in
set_option maxRecDepth 100000 in
theorem c_X2_init (l : Launch) (D : va_G) (cy : qT) (q : Nat) (sz : Nat) : Met l yX2_init wsX2_init ({ frames := 1, cells := 3, slots := 400, locals := 12 }) (va_Pc [.ref q] (wrB D cy [(q, .inr (2, [.null, .null, .null, .int (nI 0)]))] sz)) (va_Qv (fun (u : Nat → Nat) => u 16 = q) (wrQ D (va_A [(q, .inr (2, [.null, .null, .null, .int (nI 0)]))] sz) (fun u : Nat → Nat => (wX2 cy u S0i))) (va_A [(q, .inr (2, [.null, .null, .null, .int (nI 0)]))] sz)) 3 400 (va_A [(q, .inr (2, [.null, .null, .null, .int (nI 0)]))] sz) := by
  refine Met.ofW (cc := cX2_init) (maxL := 2) (ret := none) (by decide) rfl ?_
  intro pp e9 s m9 args9 bl9 meth9 c9 s9 B hml hv
  obtain ⟨rfl, hsz, hP, hG, hD0⟩ := hv
  have hx := B.exec
  have hb := B.bytes
  have hr := B.returns
  have hts := atoms_spec (ws := wsX2_init) B.pre
  have hown : s.vm.findClass RX2 = some m9.cls := findClass_of_methodNamed B.named
  have hlocks := B.notSynchronized
  have hK := hG.K
  subst hsz
  have hD := hD0.self (sz := s.heap.size)
  generalize hAe : (va_A [(q, .inr (2, [.null, .null, .null, .int (nI 0)]))] s.heap.size) = A at hD ⊢
  have hA : ∀ q : Nat, s.heap.size ≤ q → A q := fun q h9 => by rw [← hAe]; exact Or.inr h9
  have hS : va_S A s.heap s.heap [] := va_S.rf
  have hP : va_P D vwCl [(q, .inr (2, [.null, .null, .null, .int (nI 0)]))] s.heap := hP
  have ol_3 := hts (.methodLink RX2 3 objectInit) (by decide +kernel)
  have oi_ := hts (.instanceMethod objectInit) (by decide +kernel)
  have oc_ := hts (.code objectInit ⟨#[0xb1]⟩ 1 none) (by decide +kernel)
  have ac_int := hts (.arrayClass .int) (by decide +kernel)
  have f_9 := hts (.fieldLink RX2 9 "CastDesk$Programme" "states" "[I") (by decide +kernel)
  have f_15 := hts (.fieldLink RX2 15 "CastDesk$Programme" "casts" "[I") (by decide +kernel)
  have f_18 := hts (.fieldLink RX2 18 "CastDesk$Programme" "days" "[I") (by decide +kernel)
  have iX2 : ∀ w ∈ wsX20, w ∈ wsX2_init := by decide +kernel
  have hl := lv_entry ([.ref q]) (n := 2) (Nat.le_of_ble_eq_true rfl)
  rw [lg_entry_eq]
  generalize (lg_sl ([.ref q]) ++ List.replicate (2 - (lg_sl ([.ref q])).length) Slot.unset).toArray = ls at hl ⊢
  have hl : lv_has ls 2 [(0, .ref q)] := hl
  have hin9 : meth9.name = "<init>" := (name_of_methodNamed B.named B.method).1
  refine lv_aload_n hx hb dX2_init_0 rfl (lv_at hl 0 rfl) ?_
  refine W.objInit hx hb hown ol_3 oi_ oc_ rfl (by rw [hml]; exact hl.1) rfl dX2_init_1 (Nat.le_of_ble_eq_true rfl) (Nat.le_of_ble_eq_true rfl) ?_
  refine W.eq (g2 := F0 m9 4 ls []) rfl ?_
  refine lv_aload_n hx hb dX2_init_4 rfl (lv_at hl 0 rfl) ?_
  refine lv_bipush (v := nI 40) hx hb dX2_init_5 (by decide) ?_
  refine cd_newI hx hb ac_int hK hP hD hS hA (by decide) (by exact Nat.le_of_ble_eq_true rfl) (by exact Nat.le_of_ble_eq_true rfl) dX2_init_7 (fun q7 H hP hD hS => ?_)
  have hP : va_P D vwCl [(q, .inr (2, [.null, .null, .null, .int (nI 0)])), (q7, aI cy 40 (fun _ => 0))] H := hP
  have hD : va_D A [(q, .inr (2, [.null, .null, .null, .int (nI 0)])), (q7, aI cy 40 (fun _ => 0))] := hD
  refine va_putF (D := D) (ci := 2) (v := .ref q7) (ty := .array .int) (C := RX2) (T := TX2) (N := 4) hx hb hts iX2 tyX2 tyX2_ok nmX2 hown hK hP hD hS 0 rfl rfl 0 (by decide) f_9 (fun _ h9 => h9) rfl hin9 rfl (by decide +kernel) rfl rfl (Nat.le_of_ble_eq_true rfl) dX2_init_9 (fun H locs hP hD hS => ?_)
  have hP : va_P D vwCl [(q, .inr (2, [.ref q7, .null, .null, .int (nI 0)])), (q7, aI cy 40 (fun _ => 0))] H := hP
  have hD : va_D A [(q, .inr (2, [.ref q7, .null, .null, .int (nI 0)])), (q7, aI cy 40 (fun _ => 0))] := hD
  refine lv_aload_n hx hb dX2_init_12 rfl (lv_at hl 0 rfl) ?_
  refine lv_sipush (v := nI 320) hx hb dX2_init_13 (by decide) ?_
  refine cd_newI hx hb ac_int hK hP hD hS hA (by decide) (by exact Nat.le_of_ble_eq_true rfl) (by exact Nat.le_of_ble_eq_true rfl) dX2_init_16 (fun q16 H hP hD hS => ?_)
  have hP : va_P D vwCl [(q, .inr (2, [.ref q7, .null, .null, .int (nI 0)])), (q7, aI cy 40 (fun _ => 0)), (q16, aI cy 320 (fun _ => 0))] H := hP
  have hD : va_D A [(q, .inr (2, [.ref q7, .null, .null, .int (nI 0)])), (q7, aI cy 40 (fun _ => 0)), (q16, aI cy 320 (fun _ => 0))] := hD
  refine va_putF (D := D) (ci := 2) (v := .ref q16) (ty := .array .int) (C := RX2) (T := TX2) (N := 4) hx hb hts iX2 tyX2 tyX2_ok nmX2 hown hK hP hD hS 0 rfl rfl 1 (by decide) f_15 (fun _ h9 => h9) rfl hin9 rfl (by decide +kernel) rfl rfl (Nat.le_of_ble_eq_true rfl) dX2_init_18 (fun H locs hP hD hS => ?_)
  have hP : va_P D vwCl [(q, .inr (2, [.ref q7, .ref q16, .null, .int (nI 0)])), (q7, aI cy 40 (fun _ => 0)), (q16, aI cy 320 (fun _ => 0))] H := hP
  have hD : va_D A [(q, .inr (2, [.ref q7, .ref q16, .null, .int (nI 0)])), (q7, aI cy 40 (fun _ => 0)), (q16, aI cy 320 (fun _ => 0))] := hD
  refine lv_aload_n hx hb dX2_init_21 rfl (lv_at hl 0 rfl) ?_
  refine lv_bipush (v := nI 40) hx hb dX2_init_22 (by decide) ?_
  refine cd_newI hx hb ac_int hK hP hD hS hA (by decide) (by exact Nat.le_of_ble_eq_true rfl) (by exact Nat.le_of_ble_eq_true rfl) dX2_init_24 (fun q24 H hP hD hS => ?_)
  have hP : va_P D vwCl [(q, .inr (2, [.ref q7, .ref q16, .null, .int (nI 0)])), (q7, aI cy 40 (fun _ => 0)), (q16, aI cy 320 (fun _ => 0)), (q24, aI cy 40 (fun _ => 0))] H := hP
  have hD : va_D A [(q, .inr (2, [.ref q7, .ref q16, .null, .int (nI 0)])), (q7, aI cy 40 (fun _ => 0)), (q16, aI cy 320 (fun _ => 0)), (q24, aI cy 40 (fun _ => 0))] := hD
  refine va_putF (D := D) (ci := 2) (v := .ref q24) (ty := .array .int) (C := RX2) (T := TX2) (N := 4) hx hb hts iX2 tyX2 tyX2_ok nmX2 hown hK hP hD hS 0 rfl rfl 2 (by decide) f_18 (fun _ h9 => h9) rfl hin9 rfl (by decide +kernel) rfl rfl (Nat.le_of_ble_eq_true rfl) dX2_init_26 (fun H locs hP hD hS => ?_)
  have hP : va_P D vwCl [(q, .inr (2, [.ref q7, .ref q16, .ref q24, .int (nI 0)])), (q7, aI cy 40 (fun _ => 0)), (q16, aI cy 320 (fun _ => 0)), (q24, aI cy 40 (fun _ => 0))] H := hP
  have hD : va_D A [(q, .inr (2, [.ref q7, .ref q16, .ref q24, .int (nI 0)])), (q7, aI cy 40 (fun _ => 0)), (q16, aI cy 320 (fun _ => 0)), (q24, aI cy 40 (fun _ => 0))] := hD
  refine lv_iconst (v := nI 0) hx hb dX2_init_29 (by decide) ?_
  refine lv_istore_n (lv' := [(1, .int (nI 0)), (0, .ref q)]) hx hb dX2_init_30 rfl hl (by decide) rfl (fun ls hl => ?_)
  have e0 : fuF (-1) 0 = (fun _ => 0) := fuF_0 _
  refine wh1 (nL := 2) (fun (i : Nat) => i ≤ 320) (fun (i : Nat) => 320 - i) (fun (i : Nat) => [(0, .ref q), (1, .int (nI i))]) (fun (i : Nat) => [(q, .inr (2, [.ref q7, .ref q16, .ref q24, .int (nI 0)])), (q7, aI cy 40 (fun _ => 0)), (q16, aI cy 320 (fuF (-1) i)), (q24, aI cy 40 (fun _ => 0))]) (fun i hi_31 ih_31 H locs hP hD hS ls hl => ?_) 0 (Nat.zero_le _) (by rw [e0]; exact hP) (by rw [e0]; exact hD) hS (lv_sub hl [1, 0] rfl)
  have hP : va_P D vwCl [(q, .inr (2, [.ref q7, .ref q16, .ref q24, .int (nI 0)])), (q7, aI cy 40 (fun _ => 0)), (q16, aI cy 320 (fuF (-1) i)), (q24, aI cy 40 (fun _ => 0))] H := hP
  have hD : va_D A [(q, .inr (2, [.ref q7, .ref q16, .ref q24, .int (nI 0)])), (q7, aI cy 40 (fun _ => 0)), (q16, aI cy 320 (fuF (-1) i)), (q24, aI cy 40 (fun _ => 0))] := hD
  refine lv_iload_n hx hb dX2_init_31 rfl (lv_at hl 1 rfl) ?_
  refine lv_aload_n hx hb dX2_init_32 rfl (lv_at hl 0 rfl) ?_
  refine va_get (D := D) (ci := 2) (v := .ref q16) (C := RX2) (T := TX2) (N := 4) hx hb hts iX2 hown hK hP 0 rfl rfl 1 (by decide) f_15 (fun _ h9 => h9) rfl dX2_init_33 ?_
  refine va_alen (v := nI 320) hx hb hK hP 2 0 rfl rfl rfl dX2_init_36 ?_
  refine cd_icmp_ge (tgt := 53) hx hb dX2_init_37 (by decide) (by omega) (by omega) (fun c_37 => ?_) (fun c_37 => ?_)
  · have ei : i = 320 := by omega
    subst ei
    have hP : va_P D vwCl [(q, .inr (2, [.ref q7, .ref q16, .ref q24, .int (nI 0)])), (q7, aI cy 40 (fun _ => 0)), (q16, aI cy 320 (fuF (-1) 320)), (q24, aI cy 40 (fun _ => 0))] H := hP
    have hD : va_D A [(q, .inr (2, [.ref q7, .ref q16, .ref q24, .int (nI 0)])), (q7, aI cy 40 (fun _ => 0)), (q16, aI cy 320 (fuF (-1) 320)), (q24, aI cy 40 (fun _ => 0))] := hD
    exact W.vret hx hb hr (fun t ht hW => ⟨⟨fun i => if i = 16 then q else if i = 17 then q7 else if i = 18 then q16 else if i = 19 then q24 else 0, rfl, rfl, by rw [ht]; exact hP, hD⟩, hS.F ht⟩) hS.2.2 dX2_init_53
  · refine lv_aload_n hx hb dX2_init_40 rfl (lv_at hl 0 rfl) ?_
    refine va_get (D := D) (ci := 2) (v := .ref q16) (C := RX2) (T := TX2) (N := 4) hx hb hts iX2 hown hK hP 0 rfl rfl 1 (by decide) f_15 (fun _ h9 => h9) rfl dX2_init_41 ?_
    refine lv_iload_n hx hb dX2_init_44 rfl (lv_at hl 1 rfl) ?_
    refine lv_iconst (v := (-1)) hx hb dX2_init_45 (by decide) ?_
    refine cd_iast (f := fuF (-1) i) hx hb hK hP hD hS 2 rfl (by omega) (by decide) dX2_init_46 (fun H locs hP hD hS => ?_)
    have hP : va_P D vwCl [(q, .inr (2, [.ref q7, .ref q16, .ref q24, .int (nI 0)])), (q7, aI cy 40 (fun _ => 0)), (q16, aI cy 320 (upd (fuF (-1) i) i (-1))), (q24, aI cy 40 (fun _ => 0))] H := hP
    have hD : va_D A [(q, .inr (2, [.ref q7, .ref q16, .ref q24, .int (nI 0)])), (q7, aI cy 40 (fun _ => 0)), (q16, aI cy 320 (upd (fuF (-1) i) i (-1))), (q24, aI cy 40 (fun _ => 0))] := hD
    have e_46 : (upd (fuF (-1) i) i (-1)) = (fuF (-1) (i + 1)) := fuF_s _ _
    rw [e_46] at hP hD
    have hP : va_P D vwCl [(q, .inr (2, [.ref q7, .ref q16, .ref q24, .int (nI 0)])), (q7, aI cy 40 (fun _ => 0)), (q16, aI cy 320 (fuF (-1) (i + 1))), (q24, aI cy 40 (fun _ => 0))] H := hP
    have hD : va_D A [(q, .inr (2, [.ref q7, .ref q16, .ref q24, .int (nI 0)])), (q7, aI cy 40 (fun _ => 0)), (q16, aI cy 320 (fuF (-1) (i + 1))), (q24, aI cy 40 (fun _ => 0))] := hD
    refine lv_iinc (v := nI (i + 1)) (lv' := [(1, .int (nI (i + 1))), (0, .ref q)]) hx hb dX2_init_47 hl (k := 1) rfl (cd_i1 _) (by decide) rfl (fun ls hl => ?_)
    refine lv_goto (tgt := 31) hx hb dX2_init_50 (by decide) ?_
    exact ih_31 (i + 1) (by omega) (by omega) _ _ hP hD hS _ (lv_sub hl [1, 0] rfl)
