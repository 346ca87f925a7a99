set_option maxHeartbeats 4000000 in
set_option maxRecDepth 100000 in
theorem c_X5_letOut (l : Launch) (D : va_G) (cy : qT) (h : Nat → Nat) (S : qS) (x : Int32) (hx0 : ¬ x = -1 → ∃ k, k < 40 ∧ x = nI k) (sz : Nat) : Met l yX5_letOut wsX5_letOut ({ frames := 0, cells := 0, slots := 0, locals := 0 }) (va_Pc [.ref (h 8), .int x] (wrB D cy (wX5 cy h S) sz)) (va_Qv (fun (u : Unit) => True) (wrQ D (va_A (wX5 cy h S) sz) (fun u : Unit => (wX5 cy h (va_up (va_up S 9 (leZ (S 9) x)) 11 (leL (S 11) x))))) (va_A (wX5 cy h S) sz)) 0 0 (va_A (wX5 cy h S) sz) := by
  refine Met.ofW (cc := cX5_letOut) (maxL := 2) (ret := none) (by decide) rfl ?_
  intro pp e9 s m9 args9 bl9 meth9 c9 s9 B hml hv
  obtain ⟨rfl, hsz, hP, hG, hD0⟩ := hv
  have hx := B.exec
  have hb := B.bytes
  have hr := B.returns
  have hts := atoms_spec (ws := wsX5_letOut) B.pre
  have hown : s.vm.findClass RX5 = some m9.cls := findClass_of_methodNamed B.named
  have hlocks := B.notSynchronized
  have hK := hG.K
  subst hsz
  have hD := hD0.self (sz := s.heap.size)
  generalize hAe : (va_A (wX5 cy h S) s.heap.size) = A at hD ⊢
  have hA : ∀ q : Nat, s.heap.size ≤ q → A q := fun q h9 => by rw [← hAe]; exact Or.inr h9
  have hS : va_S A s.heap s.heap [] := va_S.rf
  have hP : va_P D vwCl (wX5 cy h S) s.heap := hP
  have f_9 := hts (.fieldLink RX5 9 "CastDesk$Wardrobe" "sizes" "[I") (by decide +kernel)
  have f_18 := hts (.fieldLink RX5 18 "CastDesk$Wardrobe" "isLetOut" "[Z") (by decide +kernel)
  have iX5 : ∀ w ∈ wsX50, w ∈ wsX5_letOut := by decide +kernel
  have hl := lv_entry ([.ref (h 8), .int x]) (n := 2) (Nat.le_of_ble_eq_true rfl)
  rw [lg_entry_eq]
  generalize (lg_sl ([.ref (h 8), .int x]) ++ List.replicate (2 - (lg_sl ([.ref (h 8), .int x])).length) Slot.unset).toArray = ls at hl ⊢
  have hl : lv_has ls 2 [(0, .ref (h 8)), (1, .int x)] := hl
  refine lv_iload_n hx hb dX5_letOut_0 rfl (lv_at hl 1 rfl) ?_
  refine lv_iconst (v := (-1)) hx hb dX5_letOut_1 (by decide) ?_
  refine lv_icmp_eq (tgt := 22) hx hb dX5_letOut_2 (by decide) (fun c_2 => ?_) (fun c_2 => ?_)
  · have eS9_26 : S 9 = leZ (S 9) x := (if_pos c_2).symm
    have hP : va_P D vwCl (wX5 cy h (va_up S 9 (leZ (S 9) x))) s.heap := by rw [← eS9_26]; exact hP
    have hD : va_D A (wX5 cy h (va_up S 9 (leZ (S 9) x))) := by rw [← eS9_26]; exact hD
    have eS11_29 : S 11 = leL (S 11) x := (if_pos c_2).symm
    have hP : va_P D vwCl (wX5 cy h (va_up (va_up S 9 (leZ (S 9) x)) 11 (leL (S 11) x))) s.heap := by rw [← eS11_29]; exact hP
    have hD : va_D A (wX5 cy h (va_up (va_up S 9 (leZ (S 9) x)) 11 (leL (S 11) x))) := by rw [← eS11_29]; exact hD
    exact W.vret hx hb hr (fun t ht hW => ⟨⟨(), rfl, trivial, by rw [ht]; exact hP, hD⟩, hS.F ht⟩) hS.2.2 dX5_letOut_22
  · obtain ⟨k, hk, hxk⟩ := hx0 c_2
    have hl : lv_has ls 2 [(0, .ref (h 8)), (1, .int (nI k))] := Eq.mp (congrArg (fun z9 : Int32 => lv_has ls 2 [(0, .ref (h 8)), (1, .int z9)]) (show (x : Int32) = nI k from hxk)) hl
    refine lv_aload_n hx hb dX5_letOut_5 rfl (lv_at hl 0 rfl) ?_
    refine va_get (D := D) (ci := 5) (v := .ref (h 9)) (C := RX5) (T := TX5) (N := 4) hx hb hts iX5 hown hK hP 0 rfl rfl 0 (by decide) f_9 (fun _ h9 => h9) rfl dX5_letOut_6 ?_
    refine lv_iload_n hx hb dX5_letOut_9 rfl (lv_at hl 1 rfl) ?_
    refine lv_dup2_11 hx hb dX5_letOut_10 rfl rfl ?_
    refine cd_iald (f := S 9) hx hb hK hP 1 rfl (by omega) (by decide) dX5_letOut_11 ?_
    refine lv_iconst (v := nI 1) hx hb dX5_letOut_12 (by decide) ?_
    refine lv_iadd hx hb dX5_letOut_13 ?_
    refine cd_iast (f := S 9) hx hb hK hP hD hS 1 rfl (by omega) (by decide) dX5_letOut_14 (fun H locs hP hD hS => ?_)
    have hP : va_P D vwCl (wX5 cy h (va_up S 9 (upd (S 9) k (((S 9) k) + (nI 1))))) H := hP
    have hD : va_D A (wX5 cy h (va_up S 9 (upd (S 9) k (((S 9) k) + (nI 1))))) := hD
    have e_14 : (upd (S 9) k (((S 9) k) + (nI 1))) = (leZ (S 9) x) := by rw [leZ, if_neg c_2, hxk, nv_nI (by omega)]
    rw [e_14] at hP hD
    have hP : va_P D vwCl (wX5 cy h (va_up S 9 (leZ (S 9) x))) H := hP
    have hD : va_D A (wX5 cy h (va_up S 9 (leZ (S 9) x))) := hD
    refine lv_aload_n hx hb dX5_letOut_15 rfl (lv_at hl 0 rfl) ?_
    refine va_get (D := D) (ci := 5) (v := .ref (h 11)) (C := RX5) (T := TX5) (N := 4) hx hb hts iX5 hown hK hP 0 rfl rfl 2 (by decide) f_18 (fun _ h9 => h9) rfl dX5_letOut_16 ?_
    refine lv_iload_n hx hb dX5_letOut_19 rfl (lv_at hl 1 rfl) ?_
    refine lv_iconst (v := nI 1) hx hb dX5_letOut_20 (by decide) ?_
    refine cd_zast (f := S 11) hx hb hK hP hD hS 3 rfl (by decide) (by omega) (by decide) dX5_letOut_21 (fun H locs hP hD hS => ?_)
    have hP : va_P D vwCl (wX5 cy h (va_up (va_up S 9 (leZ (S 9) x)) 11 (upd (S 11) k (nI 1)))) H := hP
    have hD : va_D A (wX5 cy h (va_up (va_up S 9 (leZ (S 9) x)) 11 (upd (S 11) k (nI 1)))) := hD
    have e_21 : (upd (S 11) k (nI 1)) = (leL (S 11) x) := by rw [leL, if_neg c_2, hxk, nv_nI (by omega)]
    rw [e_21] at hP hD
    have hP : va_P D vwCl (wX5 cy h (va_up (va_up S 9 (leZ (S 9) x)) 11 (leL (S 11) x))) H := hP
    have hD : va_D A (wX5 cy h (va_up (va_up S 9 (leZ (S 9) x)) 11 (leL (S 11) x))) := hD
    exact W.vret hx hb hr (fun t ht hW => ⟨⟨(), rfl, trivial, by rw [ht]; exact hP, hD⟩, hS.F ht⟩) hS.2.2 dX5_letOut_22
