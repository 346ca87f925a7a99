set_option maxHeartbeats 4000000 in
set_option maxRecDepth 100000 in
theorem c_X3_init (l : Launch) (D : va_G) (cy : qT) (q : Nat) (sz : Nat) : Met l yX3_init wsX3_init ({ frames := 1, cells := 2, slots := 40, locals := 12 }) (va_Pc [.ref q] (wrB D cy [(q, .inr (3, [.null, .null]))] sz)) (va_Qv (fun (u : Nat → Nat) => u 5 = q) (wrQ D (va_A [(q, .inr (3, [.null, .null]))] sz) (fun u : Nat → Nat => (wX3 cy u S0i))) (va_A [(q, .inr (3, [.null, .null]))] sz)) 2 40 (va_A [(q, .inr (3, [.null, .null]))] sz) := by
  refine Met.ofW (cc := cX3_init) (maxL := 1) (ret := none) (by decide) rfl ?_
  intro pp e9 s m9 args9 bl9 meth9 c9 s9 B hml hv
  obtain ⟨rfl, hsz, hP, hG, hD0⟩ := hv
  have hx := B.exec
  have hb := B.bytes
  have hr := B.returns
  have hts := atoms_spec (ws := wsX3_init) B.pre
  have hown : s.vm.findClass RX3 = some m9.cls := findClass_of_methodNamed B.named
  have hlocks := B.notSynchronized
  have hK := hG.K
  subst hsz
  have hD := hD0.self (sz := s.heap.size)
  generalize hAe : (va_A [(q, .inr (3, [.null, .null]))] s.heap.size) = A at hD ⊢
  have hA : ∀ q : Nat, s.heap.size ≤ q → A q := fun q h9 => by rw [← hAe]; exact Or.inr h9
  have hS : va_S A s.heap s.heap [] := va_S.rf
  have hP : va_P D vwCl [(q, .inr (3, [.null, .null]))] s.heap := hP
  have ol_3 := hts (.methodLink RX3 3 objectInit) (by decide +kernel)
  have oi_ := hts (.instanceMethod objectInit) (by decide +kernel)
  have oc_ := hts (.code objectInit ⟨#[0xb1]⟩ 1 none) (by decide +kernel)
  have ac_int := hts (.arrayClass .int) (by decide +kernel)
  have f_9 := hts (.fieldLink RX3 9 "CastDesk$Rows" "actors" "[I") (by decide +kernel)
  have f_15 := hts (.fieldLink RX3 15 "CastDesk$Rows" "lengths" "[I") (by decide +kernel)
  have iX3 : ∀ w ∈ wsX30, w ∈ wsX3_init := by decide +kernel
  have hl := lv_entry ([.ref q]) (n := 1) (Nat.le_of_ble_eq_true rfl)
  rw [lg_entry_eq]
  generalize (lg_sl ([.ref q]) ++ List.replicate (1 - (lg_sl ([.ref q])).length) Slot.unset).toArray = ls at hl ⊢
  have hl : lv_has ls 1 [(0, .ref q)] := hl
  have hin9 : meth9.name = "<init>" := (name_of_methodNamed B.named B.method).1
  refine lv_aload_n hx hb dX3_init_0 rfl (lv_at hl 0 rfl) ?_
  refine W.objInit hx hb hown ol_3 oi_ oc_ rfl (by rw [hml]; exact hl.1) rfl dX3_init_1 (Nat.le_of_ble_eq_true rfl) (Nat.le_of_ble_eq_true rfl) ?_
  refine W.eq (g2 := F0 m9 4 ls []) rfl ?_
  refine lv_aload_n hx hb dX3_init_4 rfl (lv_at hl 0 rfl) ?_
  refine lv_bipush (v := nI 32) hx hb dX3_init_5 (by decide) ?_
  refine cd_newI hx hb ac_int hK hP hD hS hA (by decide) (by exact Nat.le_of_ble_eq_true rfl) (by exact Nat.le_of_ble_eq_true rfl) dX3_init_7 (fun q7 H hP hD hS => ?_)
  have hP : va_P D vwCl [(q, .inr (3, [.null, .null])), (q7, aI cy 32 (fun _ => 0))] H := hP
  have hD : va_D A [(q, .inr (3, [.null, .null])), (q7, aI cy 32 (fun _ => 0))] := hD
  refine va_putF (D := D) (ci := 3) (v := .ref q7) (ty := .array .int) (C := RX3) (T := TX3) (N := 2) hx hb hts iX3 tyX3 tyX3_ok nmX3 hown hK hP hD hS 0 rfl rfl 0 (by decide) f_9 (fun _ h9 => h9) rfl hin9 rfl (by decide +kernel) rfl rfl (Nat.le_of_ble_eq_true rfl) dX3_init_9 (fun H locs hP hD hS => ?_)
  have hP : va_P D vwCl [(q, .inr (3, [.ref q7, .null])), (q7, aI cy 32 (fun _ => 0))] H := hP
  have hD : va_D A [(q, .inr (3, [.ref q7, .null])), (q7, aI cy 32 (fun _ => 0))] := hD
  refine lv_aload_n hx hb dX3_init_12 rfl (lv_at hl 0 rfl) ?_
  refine lv_bipush (v := nI 8) hx hb dX3_init_13 (by decide) ?_
  refine cd_newI hx hb ac_int hK hP hD hS hA (by decide) (by exact Nat.le_of_ble_eq_true rfl) (by exact Nat.le_of_ble_eq_true rfl) dX3_init_15 (fun q15 H hP hD hS => ?_)
  have hP : va_P D vwCl [(q, .inr (3, [.ref q7, .null])), (q7, aI cy 32 (fun _ => 0)), (q15, aI cy 8 (fun _ => 0))] H := hP
  have hD : va_D A [(q, .inr (3, [.ref q7, .null])), (q7, aI cy 32 (fun _ => 0)), (q15, aI cy 8 (fun _ => 0))] := hD
  refine va_putF (D := D) (ci := 3) (v := .ref q15) (ty := .array .int) (C := RX3) (T := TX3) (N := 2) hx hb hts iX3 tyX3 tyX3_ok nmX3 hown hK hP hD hS 0 rfl rfl 1 (by decide) f_15 (fun _ h9 => h9) rfl hin9 rfl (by decide +kernel) rfl rfl (Nat.le_of_ble_eq_true rfl) dX3_init_17 (fun H locs hP hD hS => ?_)
  have hP : va_P D vwCl [(q, .inr (3, [.ref q7, .ref q15])), (q7, aI cy 32 (fun _ => 0)), (q15, aI cy 8 (fun _ => 0))] H := hP
  have hD : va_D A [(q, .inr (3, [.ref q7, .ref q15])), (q7, aI cy 32 (fun _ => 0)), (q15, aI cy 8 (fun _ => 0))] := hD
  exact W.vret hx hb hr (fun t ht hW => ⟨⟨fun i => if i = 5 then q else if i = 6 then q7 else if i = 7 then q15 else 0, rfl, rfl, by rw [ht]; exact hP, hD⟩, hS.F ht⟩) hS.2.2 dX3_init_20
