set_option maxHeartbeats 4000000 in
set_option maxRecDepth 100000 in
theorem c_X1_init (l : Launch) (D : va_G) (cy : qT) (q : Nat) (sz : Nat) : Met l yX1_init wsX1_init ({ frames := 1, cells := 3, slots := 4160, locals := 12 }) (va_Pc [.ref q] (wrB D cy [(q, .inr (1, [.null, .null, .null, .int (nI 0)]))] sz)) (va_Qv (fun (u : Nat → Nat) => u 12 = q) (wrQ D (va_A [(q, .inr (1, [.null, .null, .null, .int (nI 0)]))] sz) (fun u : Nat → Nat => (wX1 cy u J0i))) (va_A [(q, .inr (1, [.null, .null, .null, .int (nI 0)]))] sz)) 3 4160 (va_A [(q, .inr (1, [.null, .null, .null, .int (nI 0)]))] sz) := by
  refine Met.ofW (cc := cX1_init) (maxL := 2) (ret := none) (by decide) rfl ?_
  intro pp e9 s m9 args9 bl9 meth9 c9 s9 B hml hv
  obtain ⟨rfl, hsz, hP, hG, hD0⟩ := hv
  have hx := B.exec
  have hb := B.bytes
  have hr := B.returns
  have hts := atoms_spec (ws := wsX1_init) B.pre
  have hown : s.vm.findClass RX1 = some m9.cls := findClass_of_methodNamed B.named
  have hlocks := B.notSynchronized
  have hK := hG.K
  subst hsz
  have hD := hD0.self (sz := s.heap.size)
  generalize hAe : (va_A [(q, .inr (1, [.null, .null, .null, .int (nI 0)]))] s.heap.size) = A at hD ⊢
  have hA : ∀ q : Nat, s.heap.size ≤ q → A q := fun q h9 => by rw [← hAe]; exact Or.inr h9
  have hS : va_S A s.heap s.heap [] := va_S.rf
  have hP : va_P D vwCl [(q, .inr (1, [.null, .null, .null, .int (nI 0)]))] s.heap := hP
  have ol_5 := hts (.methodLink RX1 5 objectInit) (by decide +kernel)
  have oi_ := hts (.instanceMethod objectInit) (by decide +kernel)
  have oc_ := hts (.code objectInit ⟨#[0xb1]⟩ 1 none) (by decide +kernel)
  have ac_int := hts (.arrayClass .int) (by decide +kernel)
  have f_11 := hts (.fieldLink RX1 11 "CastDesk$Casting" "actors" "[I") (by decide +kernel)
  have f_15 := hts (.fieldLink RX1 15 "CastDesk$Casting" "keys" "[I") (by decide +kernel)
  have f_18 := hts (.fieldLink RX1 18 "CastDesk$Casting" "leastOfSet" "[I") (by decide +kernel)
  have iX1 : ∀ w ∈ wsX10, w ∈ wsX1_init := by decide +kernel
  have hl := lv_entry ([.ref q]) (n := 2) (Nat.le_of_ble_eq_true rfl)
  rw [lg_entry_eq]
  generalize (lg_sl ([.ref q]) ++ List.replicate (2 - (lg_sl ([.ref q])).length) Slot.unset).toArray = ls at hl ⊢
  have hl : lv_has ls 2 [(0, .ref q)] := hl
  have hin9 : meth9.name = "<init>" := (name_of_methodNamed B.named B.method).1
  refine lv_aload_n hx hb dX1_init_0 rfl (lv_at hl 0 rfl) ?_
  refine W.objInit hx hb hown ol_5 oi_ oc_ rfl (by rw [hml]; exact hl.1) rfl dX1_init_1 (Nat.le_of_ble_eq_true rfl) (Nat.le_of_ble_eq_true rfl) ?_
  refine W.eq (g2 := F0 m9 4 ls []) rfl ?_
  refine lv_aload_n hx hb dX1_init_4 rfl (lv_at hl 0 rfl) ?_
  refine lv_bipush (v := nI 32) hx hb dX1_init_5 (by decide) ?_
  refine cd_newI hx hb ac_int hK hP hD hS hA (by decide) (by exact Nat.le_of_ble_eq_true rfl) (by exact Nat.le_of_ble_eq_true rfl) dX1_init_7 (fun q7 H hP hD hS => ?_)
  have hP : va_P D vwCl [(q, .inr (1, [.null, .null, .null, .int (nI 0)])), (q7, aI cy 32 (fun _ => 0))] H := hP
  have hD : va_D A [(q, .inr (1, [.null, .null, .null, .int (nI 0)])), (q7, aI cy 32 (fun _ => 0))] := hD
  refine va_putF (D := D) (ci := 1) (v := .ref q7) (ty := .array .int) (C := RX1) (T := TX1) (N := 4) hx hb hts iX1 tyX1 tyX1_ok nmX1 hown hK hP hD hS 0 rfl rfl 0 (by decide) f_11 (fun _ h9 => h9) rfl hin9 rfl (by decide +kernel) rfl rfl (Nat.le_of_ble_eq_true rfl) dX1_init_9 (fun H locs hP hD hS => ?_)
  have hP : va_P D vwCl [(q, .inr (1, [.ref q7, .null, .null, .int (nI 0)])), (q7, aI cy 32 (fun _ => 0))] H := hP
  have hD : va_D A [(q, .inr (1, [.ref q7, .null, .null, .int (nI 0)])), (q7, aI cy 32 (fun _ => 0))] := hD
  refine lv_aload_n hx hb dX1_init_12 rfl (lv_at hl 0 rfl) ?_
  refine lv_bipush (v := nI 32) hx hb dX1_init_13 (by decide) ?_
  refine cd_newI hx hb ac_int hK hP hD hS hA (by decide) (by exact Nat.le_of_ble_eq_true rfl) (by exact Nat.le_of_ble_eq_true rfl) dX1_init_15 (fun q15 H hP hD hS => ?_)
  have hP : va_P D vwCl [(q, .inr (1, [.ref q7, .null, .null, .int (nI 0)])), (q7, aI cy 32 (fun _ => 0)), (q15, aI cy 32 (fun _ => 0))] H := hP
  have hD : va_D A [(q, .inr (1, [.ref q7, .null, .null, .int (nI 0)])), (q7, aI cy 32 (fun _ => 0)), (q15, aI cy 32 (fun _ => 0))] := hD
  refine va_putF (D := D) (ci := 1) (v := .ref q15) (ty := .array .int) (C := RX1) (T := TX1) (N := 4) hx hb hts iX1 tyX1 tyX1_ok nmX1 hown hK hP hD hS 0 rfl rfl 1 (by decide) f_15 (fun _ h9 => h9) rfl hin9 rfl (by decide +kernel) rfl rfl (Nat.le_of_ble_eq_true rfl) dX1_init_17 (fun H locs hP hD hS => ?_)
  have hP : va_P D vwCl [(q, .inr (1, [.ref q7, .ref q15, .null, .int (nI 0)])), (q7, aI cy 32 (fun _ => 0)), (q15, aI cy 32 (fun _ => 0))] H := hP
  have hD : va_D A [(q, .inr (1, [.ref q7, .ref q15, .null, .int (nI 0)])), (q7, aI cy 32 (fun _ => 0)), (q15, aI cy 32 (fun _ => 0))] := hD
  refine lv_aload_n hx hb dX1_init_20 rfl (lv_at hl 0 rfl) ?_
  refine lv_sipush (v := nI 4096) hx hb dX1_init_21 (by decide) ?_
  refine cd_newI hx hb ac_int hK hP hD hS hA (by decide) (by exact Nat.le_of_ble_eq_true rfl) (by exact Nat.le_of_ble_eq_true rfl) dX1_init_24 (fun q24 H hP hD hS => ?_)
  have hP : va_P D vwCl [(q, .inr (1, [.ref q7, .ref q15, .null, .int (nI 0)])), (q7, aI cy 32 (fun _ => 0)), (q15, aI cy 32 (fun _ => 0)), (q24, aI cy 4096 (fun _ => 0))] H := hP
  have hD : va_D A [(q, .inr (1, [.ref q7, .ref q15, .null, .int (nI 0)])), (q7, aI cy 32 (fun _ => 0)), (q15, aI cy 32 (fun _ => 0)), (q24, aI cy 4096 (fun _ => 0))] := hD
  refine va_putF (D := D) (ci := 1) (v := .ref q24) (ty := .array .int) (C := RX1) (T := TX1) (N := 4) hx hb hts iX1 tyX1 tyX1_ok nmX1 hown hK hP hD hS 0 rfl rfl 2 (by decide) f_18 (fun _ h9 => h9) rfl hin9 rfl (by decide +kernel) rfl rfl (Nat.le_of_ble_eq_true rfl) dX1_init_26 (fun H locs hP hD hS => ?_)
  have hP : va_P D vwCl [(q, .inr (1, [.ref q7, .ref q15, .ref q24, .int (nI 0)])), (q7, aI cy 32 (fun _ => 0)), (q15, aI cy 32 (fun _ => 0)), (q24, aI cy 4096 (fun _ => 0))] H := hP
  have hD : va_D A [(q, .inr (1, [.ref q7, .ref q15, .ref q24, .int (nI 0)])), (q7, aI cy 32 (fun _ => 0)), (q15, aI cy 32 (fun _ => 0)), (q24, aI cy 4096 (fun _ => 0))] := hD
  refine lv_iconst (v := nI 0) hx hb dX1_init_29 (by decide) ?_
  refine lv_istore_n (lv' := [(1, .int (nI 0)), (0, .ref q)]) hx hb dX1_init_30 rfl hl (by decide) rfl (fun ls hl => ?_)
  have e0 : fuF (-1) 0 = (fun _ => 0) := fuF_0 _
  refine wh1 (nL := 2) (fun (i : Nat) => i ≤ 4096) (fun (i : Nat) => 4096 - i) (fun (i : Nat) => [(0, .ref q), (1, .int (nI i))]) (fun (i : Nat) => [(q, .inr (1, [.ref q7, .ref q15, .ref q24, .int (nI 0)])), (q7, aI cy 32 (fun _ => 0)), (q15, aI cy 32 (fun _ => 0)), (q24, aI cy 4096 (fuF (-1) i))]) (fun i hi_31 ih_31 H locs hP hD hS ls hl => ?_) 0 (Nat.zero_le _) (by rw [e0]; exact hP) (by rw [e0]; exact hD) hS (lv_sub hl [1, 0] rfl)
  have hP : va_P D vwCl [(q, .inr (1, [.ref q7, .ref q15, .ref q24, .int (nI 0)])), (q7, aI cy 32 (fun _ => 0)), (q15, aI cy 32 (fun _ => 0)), (q24, aI cy 4096 (fuF (-1) i))] H := hP
  have hD : va_D A [(q, .inr (1, [.ref q7, .ref q15, .ref q24, .int (nI 0)])), (q7, aI cy 32 (fun _ => 0)), (q15, aI cy 32 (fun _ => 0)), (q24, aI cy 4096 (fuF (-1) i))] := hD
  refine lv_iload_n hx hb dX1_init_31 rfl (lv_at hl 1 rfl) ?_
  refine lv_aload_n hx hb dX1_init_32 rfl (lv_at hl 0 rfl) ?_
  refine va_get (D := D) (ci := 1) (v := .ref q24) (C := RX1) (T := TX1) (N := 4) hx hb hts iX1 hown hK hP 0 rfl rfl 2 (by decide) f_18 (fun _ h9 => h9) rfl dX1_init_33 ?_
  refine va_alen (v := nI 4096) hx hb hK hP 3 0 rfl rfl rfl dX1_init_36 ?_
  refine cd_icmp_ge (tgt := 53) hx hb dX1_init_37 (by decide) (by omega) (by omega) (fun c_37 => ?_) (fun c_37 => ?_)
  · have ei : i = 4096 := by omega
    subst ei
    have hP : va_P D vwCl [(q, .inr (1, [.ref q7, .ref q15, .ref q24, .int (nI 0)])), (q7, aI cy 32 (fun _ => 0)), (q15, aI cy 32 (fun _ => 0)), (q24, aI cy 4096 (fuF (-1) 4096))] H := hP
    have hD : va_D A [(q, .inr (1, [.ref q7, .ref q15, .ref q24, .int (nI 0)])), (q7, aI cy 32 (fun _ => 0)), (q15, aI cy 32 (fun _ => 0)), (q24, aI cy 4096 (fuF (-1) 4096))] := hD
    exact W.vret hx hb hr (fun t ht hW => ⟨⟨fun i => if i = 12 then q else if i = 13 then q7 else if i = 14 then q15 else if i = 15 then q24 else 0, rfl, rfl, by rw [ht]; exact hP, hD⟩, hS.F ht⟩) hS.2.2 dX1_init_53
  · refine lv_aload_n hx hb dX1_init_40 rfl (lv_at hl 0 rfl) ?_
    refine va_get (D := D) (ci := 1) (v := .ref q24) (C := RX1) (T := TX1) (N := 4) hx hb hts iX1 hown hK hP 0 rfl rfl 2 (by decide) f_18 (fun _ h9 => h9) rfl dX1_init_41 ?_
    refine lv_iload_n hx hb dX1_init_44 rfl (lv_at hl 1 rfl) ?_
    refine lv_iconst (v := (-1)) hx hb dX1_init_45 (by decide) ?_
    refine cd_iast (f := fuF (-1) i) hx hb hK hP hD hS 3 rfl (by omega) (by decide) dX1_init_46 (fun H locs hP hD hS => ?_)
    have hP : va_P D vwCl [(q, .inr (1, [.ref q7, .ref q15, .ref q24, .int (nI 0)])), (q7, aI cy 32 (fun _ => 0)), (q15, aI cy 32 (fun _ => 0)), (q24, aI cy 4096 (upd (fuF (-1) i) i (-1)))] H := hP
    have hD : va_D A [(q, .inr (1, [.ref q7, .ref q15, .ref q24, .int (nI 0)])), (q7, aI cy 32 (fun _ => 0)), (q15, aI cy 32 (fun _ => 0)), (q24, aI cy 4096 (upd (fuF (-1) i) i (-1)))] := hD
    have e_46 : (upd (fuF (-1) i) i (-1)) = (fuF (-1) (i + 1)) := fuF_s _ _
    rw [e_46] at hP hD
    have hP : va_P D vwCl [(q, .inr (1, [.ref q7, .ref q15, .ref q24, .int (nI 0)])), (q7, aI cy 32 (fun _ => 0)), (q15, aI cy 32 (fun _ => 0)), (q24, aI cy 4096 (fuF (-1) (i + 1)))] H := hP
    have hD : va_D A [(q, .inr (1, [.ref q7, .ref q15, .ref q24, .int (nI 0)])), (q7, aI cy 32 (fun _ => 0)), (q15, aI cy 32 (fun _ => 0)), (q24, aI cy 4096 (fuF (-1) (i + 1)))] := hD
    refine lv_iinc (v := nI (i + 1)) (lv' := [(1, .int (nI (i + 1))), (0, .ref q)]) hx hb dX1_init_47 hl (k := 1) rfl (cd_i1 _) (by decide) rfl (fun ls hl => ?_)
    refine lv_goto (tgt := 31) hx hb dX1_init_50 (by decide) ?_
    exact ih_31 (i + 1) (by omega) (by omega) _ _ hP hD hS _ (lv_sub hl [1, 0] rfl)
