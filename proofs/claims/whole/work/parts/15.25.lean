set_option maxHeartbeats 4000000 in
set_option maxRecDepth 100000 in
theorem c_X7_lay (l : Launch) (D : va_G) (cy : qT) (g : Nat → Nat) (S : qS) (K : qS) (hI : Inv S) (d : Nat) (x : Int32) (m : Nat) (hd : d < 1001) (hm : ∀ a, a < 12 → m.testBit a = ((nv (S 4 d)).testBit a || decide (nI a = x))) (sz : Nat) : Met l yX7_lay wsX7_lay ({ frames := 3, cells := 0, slots := 0, locals := 73 }) (va_Pc [.ref (g 0), .int (nI d), .int x] (wrB D cy (wM cy g S K) sz)) (va_Qi (fun (r9 : Int32) (u : Unit) => r9 = bI ((bc S m).isSome)) (wrQ D (va_A (wM cy g S K) sz) (fun u : Unit => (wM cy g S (va_up (va_up (va_up (va_up K 23 (abF S m (K 23) (nv (S 27 0) * 4))) 26 (fun _ => bcS S m)) 27 (fun _ => bcW S m)) 24 (caF S m (K 24)))))) (va_A (wM cy g S K) sz)) 0 0 (va_A (wM cy g S K) sz) := by
  refine Met.ofW (cc := cX7_lay) (maxL := 6) (ret := (some .boolean)) (by decide) rfl ?_
  intro pp e9 s m9 args9 bl9 meth9 c9 s9 B hml hv
  obtain ⟨rfl, hsz, hP, hG, hD0⟩ := hv
  have hx := B.exec
  have hb := B.bytes
  have hr := B.returns
  have hts := atoms_spec (ws := wsX7_lay) B.pre
  have hown : s.vm.findClass RX7 = some m9.cls := findClass_of_methodNamed B.named
  have hlocks := B.notSynchronized
  have hK := hG.K
  subst hsz
  have hD := hD0.self (sz := s.heap.size)
  generalize hAe : (va_A (wM cy g S K) s.heap.size) = A at hD ⊢
  have hA : ∀ q : Nat, s.heap.size ≤ q → A q := fun q h9 => by rw [← hAe]; exact Or.inr h9
  have hS : va_S A s.heap s.heap [] := va_S.rf
  have hP : va_P D vwCl (wM cy g S K) s.heap := hP
  have f_121 := hts (.fieldLink RX7 121 "CastDeskModel" "leastStrain" "I") (by decide +kernel)
  have f_124 := hts (.fieldLink RX7 124 "CastDeskModel" "leastWork" "I") (by decide +kernel)
  have f_7 := hts (.fieldLink RX7 7 "CastDeskModel" "parts" "I") (by decide +kernel)
  have f_68 := hts (.fieldLink RX7 68 "CastDeskModel" "cast" "[I") (by decide +kernel)
  have iX7 : ∀ w ∈ wsX70, w ∈ wsX7_lay := by decide +kernel
  have hl := lv_entry ([.ref (g 0), .int (nI d), .int x]) (n := 6) (Nat.le_of_ble_eq_true rfl)
  rw [lg_entry_eq]
  generalize (lg_sl ([.ref (g 0), .int (nI d), .int x]) ++ List.replicate (6 - (lg_sl ([.ref (g 0), .int (nI d), .int x])).length) Slot.unset).toArray = ls at hl ⊢
  have hl : lv_has ls 6 [(0, .ref (g 0)), (1, .int (nI d)), (2, .int x)] := hl
  have hn : nv (S 27 0) ≤ 8 := by have := (iv_27 hI).1.2; omega
  have h4 : 4 ^ nv (S 27 0) ≤ 65536 := p4_le (y := 8) hn
  have h40 : 0 < 4 ^ nv (S 27 0) := Nat.pow_pos (by decide)
  refine lv_aload_n hx hb dX7_lay_0 rfl (lv_at hl 0 rfl) ?_
  refine lv_iload_n hx hb dX7_lay_1 rfl (lv_at hl 1 rfl) ?_
  refine lv_iload_n hx hb dX7_lay_2 rfl (lv_at hl 2 rfl) ?_
  have M_3 := c_X7_layAble l D cy g S K hI d x m hd hm s.heap.size
  refine cd_frv (S := Unit) (W1 := fun u => (wM cy g S (va_up K 23 (abF S m (K 23) (nv (S 27 0) * 4))))) (ws' := fun u => (wM cy g S (va_up K 23 (abF S m ((K 23)) (nv (S 27 0) * 4))))) (wc := (wM cy g S K)) (wr := []) (va_runV (As := [.int (nI d), .int x]) (rest := []) ⟨hx, hb, hml, hown, hts⟩ M_3 (cwV 2 hts gX7_lay_X7_layAble rfl rfl rfl (by decide +kernel) ⟨Nat.le_of_ble_eq_true rfl, Nat.le_of_ble_eq_true rfl⟩) ⟨wrB.bl, va_recv hK hP (ci := 7) (q0 := 0) rfl rfl, fun U hU hW => ⟨rfl, by rw [hU], by rw [hU]; exact hP, hG.warm hW, hD.weaken (fun _ _ _ _ => trivial)⟩⟩ rfl rfl hl.1 rfl (lv_room (Nat.le_of_ble_eq_true rfl)) dX7_lay_3 (by exact ⟨Nat.zero_le _, Nat.zero_le _⟩)) hP hD hS hA [0, 1, 2, 3, 4, 5, 6, 7, 8, 9, 10, 11, 12, 13, 14, 15, 16, 17, 18, 19, 20] [] [0, 1, 2, 3, 4, 5, 6, 7, 8, 9, 10, 11, 12, 13, 14, 15, 16, 17, 18, 19, 20] rfl rfl (by decide) (by decide) (by decide) (fun _ => rfl) (fun _ H locs hw_3 hP hD hS => ?_)
  have hP : va_P D vwCl (wM cy g S (va_up K 23 (abF S m ((K 23)) (nv (S 27 0) * 4)))) H := hP
  have hD : va_D A (wM cy g S (va_up K 23 (abF S m ((K 23)) (nv (S 27 0) * 4)))) := hD
  refine lv_aload_n hx hb dX7_lay_6 rfl (lv_at hl 0 rfl) ?_
  refine lv_iconst (v := (-1)) hx hb dX7_lay_7 (by decide) ?_
  refine va_put (D := D) (ci := 7) (v := .int (-1)) (ty := .int) (C := RX7) (T := TX7) (N := 29) hx hb hts iX7 tyX7 tyX7_ok nmX7 hown hK hP hD hS 0 rfl rfl 26 (by decide) f_121 (fun _ h9 => h9) rfl (by decide +kernel) rfl rfl (Nat.le_of_ble_eq_true rfl) dX7_lay_8 (fun H locs hP hD hS => ?_)
  have hP : va_P D vwCl (wM cy g S (va_up (va_up K 23 (abF S m ((K 23)) (nv (S 27 0) * 4))) 26 (fun _ => (-1)))) H := hP
  have hD : va_D A (wM cy g S (va_up (va_up K 23 (abF S m ((K 23)) (nv (S 27 0) * 4))) 26 (fun _ => (-1)))) := hD
  refine lv_aload_n hx hb dX7_lay_11 rfl (lv_at hl 0 rfl) ?_
  refine lv_iconst (v := (-1)) hx hb dX7_lay_12 (by decide) ?_
  refine va_put (D := D) (ci := 7) (v := .int (-1)) (ty := .int) (C := RX7) (T := TX7) (N := 29) hx hb hts iX7 tyX7 tyX7_ok nmX7 hown hK hP hD hS 0 rfl rfl 27 (by decide) f_124 (fun _ h9 => h9) rfl (by decide +kernel) rfl rfl (Nat.le_of_ble_eq_true rfl) dX7_lay_13 (fun H locs hP hD hS => ?_)
  have hP : va_P D vwCl (wM cy g S (va_up (va_up (va_up K 23 (abF S m ((K 23)) (nv (S 27 0) * 4))) 26 (fun _ => (-1))) 27 (fun _ => (-1)))) H := hP
  have hD : va_D A (wM cy g S (va_up (va_up (va_up K 23 (abF S m ((K 23)) (nv (S 27 0) * 4))) 26 (fun _ => (-1))) 27 (fun _ => (-1)))) := hD
  refine lv_iconst (v := nI 0) hx hb dX7_lay_16 (by decide) ?_
  refine lv_istore_n (lv' := [(3, .int (nI 0)), (0, .ref (g 0)), (1, .int (nI d)), (2, .int x)]) hx hb dX7_lay_17 rfl hl (by decide) rfl (fun ls hl => ?_)
  have e0 : clF (K 24) 0 = K 24 := clF_0 _
  refine wh1 (nL := 6) (fun (i : Nat) => i ≤ 8) (fun (i : Nat) => 8 - i) (fun (i : Nat) => [(0, .ref (g 0)), (1, .int (nI d)), (2, .int x), (3, .int (nI i))]) (fun (i : Nat) => (wM cy g S (va_up (va_up (va_up (va_up K 23 (abF S m ((K 23)) (nv (S 27 0) * 4))) 26 (fun _ => (-1))) 27 (fun _ => (-1))) 24 (clF (K 24) i)))) (fun i hi_18 ih_18 H locs hP hD hS ls hl => ?_) 0 (Nat.zero_le _) (by rw [e0]; exact hP) (by rw [e0]; exact hD) hS (lv_sub hl [1, 2, 3, 0] rfl)
  have hP : va_P D vwCl (wM cy g S (va_up (va_up (va_up (va_up K 23 (abF S m ((K 23)) (nv (S 27 0) * 4))) 26 (fun _ => (-1))) 27 (fun _ => (-1))) 24 (clF (K 24) i))) H := hP
  have hD : va_D A (wM cy g S (va_up (va_up (va_up (va_up K 23 (abF S m ((K 23)) (nv (S 27 0) * 4))) 26 (fun _ => (-1))) 27 (fun _ => (-1))) 24 (clF (K 24) i))) := hD
  refine lv_iload_n hx hb dX7_lay_18 rfl (lv_at hl 3 rfl) ?_
  refine lv_bipush (v := nI 8) hx hb dX7_lay_19 (by decide) ?_
  refine cd_icmp_ge (tgt := 37) hx hb dX7_lay_21 (by decide) (by omega) (by omega) (fun c_21 => ?_) (fun c_21 => ?_)
  · have ei : i = 8 := by omega
    subst ei
    have hP : va_P D vwCl (wM cy g S (va_up (va_up (va_up (va_up K 23 (abF S m ((K 23)) (nv (S 27 0) * 4))) 26 (fun _ => (-1))) 27 (fun _ => (-1))) 24 (clF (K 24) 8))) H := hP
    have hD : va_D A (wM cy g S (va_up (va_up (va_up (va_up K 23 (abF S m ((K 23)) (nv (S 27 0) * 4))) 26 (fun _ => (-1))) 27 (fun _ => (-1))) 24 (clF (K 24) 8))) := hD
    rw [show (clF (K 24) 8) = (kcI S (nv (S 27 0)) (bcR S m (nv (S 27 0)) 0) (K 24)) from kc_0 S m (nv (S 27 0)) (K 24)] at hP hD
    have hP : va_P D vwCl (wM cy g S (va_up (va_up (va_up (va_up K 23 (abF S m ((K 23)) (nv (S 27 0) * 4))) 26 (fun _ => (-1))) 27 (fun _ => (-1))) 24 (kcI S (nv (S 27 0)) (bcR S m (nv (S 27 0)) 0) (K 24)))) H := hP
    have hD : va_D A (wM cy g S (va_up (va_up (va_up (va_up K 23 (abF S m ((K 23)) (nv (S 27 0) * 4))) 26 (fun _ => (-1))) 27 (fun _ => (-1))) 24 (kcI S (nv (S 27 0)) (bcR S m (nv (S 27 0)) 0) (K 24)))) := hD
    rw [show ((fun _ => (-1) : Nat → Int32)) = ((fun _ => ksI (nv (S 27 0)) (bcR S m (nv (S 27 0)) 0) : Nat → Int32)) from congrArg (fun (z : Int32) (_ : Nat) => z) (rfl)] at hP hD
    have hP : va_P D vwCl (wM cy g S (va_up (va_up (va_up (va_up K 23 (abF S m ((K 23)) (nv (S 27 0) * 4))) 26 (fun _ => ksI (nv (S 27 0)) (bcR S m (nv (S 27 0)) 0))) 27 (fun _ => (-1))) 24 (kcI S (nv (S 27 0)) (bcR S m (nv (S 27 0)) 0) (K 24)))) H := hP
    have hD : va_D A (wM cy g S (va_up (va_up (va_up (va_up K 23 (abF S m ((K 23)) (nv (S 27 0) * 4))) 26 (fun _ => ksI (nv (S 27 0)) (bcR S m (nv (S 27 0)) 0))) 27 (fun _ => (-1))) 24 (kcI S (nv (S 27 0)) (bcR S m (nv (S 27 0)) 0) (K 24)))) := hD
    rw [show ((fun _ => (-1) : Nat → Int32)) = ((fun _ => kwI S (nv (S 27 0)) (bcR S m (nv (S 27 0)) 0) : Nat → Int32)) from congrArg (fun (z : Int32) (_ : Nat) => z) (rfl)] at hP hD
    have hP : va_P D vwCl (wM cy g S (va_up (va_up (va_up (va_up K 23 (abF S m ((K 23)) (nv (S 27 0) * 4))) 26 (fun _ => ksI (nv (S 27 0)) (bcR S m (nv (S 27 0)) 0))) 27 (fun _ => kwI S (nv (S 27 0)) (bcR S m (nv (S 27 0)) 0))) 24 (kcI S (nv (S 27 0)) (bcR S m (nv (S 27 0)) 0) (K 24)))) H := hP
    have hD : va_D A (wM cy g S (va_up (va_up (va_up (va_up K 23 (abF S m ((K 23)) (nv (S 27 0) * 4))) 26 (fun _ => ksI (nv (S 27 0)) (bcR S m (nv (S 27 0)) 0))) 27 (fun _ => kwI S (nv (S 27 0)) (bcR S m (nv (S 27 0)) 0))) 24 (kcI S (nv (S 27 0)) (bcR S m (nv (S 27 0)) 0) (K 24)))) := hD
    refine lv_iconst (v := nI 0) hx hb dX7_lay_37 (by decide) ?_
    refine lv_istore_n (lv' := [(3, .int (nI 0)), (0, .ref (g 0)), (1, .int (nI d)), (2, .int x)]) hx hb dX7_lay_38 rfl hl (by decide) rfl (fun ls hl => ?_)
    refine wh1 (nL := 6) (fun (c : Nat) => c ≤ 4 ^ nv (S 27 0)) (fun (c : Nat) => 4 ^ nv (S 27 0) - c) (fun (c : Nat) => [(0, .ref (g 0)), (1, .int (nI d)), (2, .int x), (3, .int (nI c))]) (fun (c : Nat) => (wM cy g S (va_up (va_up (va_up (va_up K 23 (abF S m ((K 23)) (nv (S 27 0) * 4))) 26 (fun _ => ksI (nv (S 27 0)) (bcR S m (nv (S 27 0)) c))) 27 (fun _ => kwI S (nv (S 27 0)) (bcR S m (nv (S 27 0)) c))) 24 (kcI S (nv (S 27 0)) (bcR S m (nv (S 27 0)) c) (K 24))))) (fun c hi_39 ih_39 H locs hP hD hS ls hl => ?_) 0 (Nat.zero_le _) hP hD hS (lv_sub hl [1, 2, 3, 0] rfl)
    have hP : va_P D vwCl (wM cy g S (va_up (va_up (va_up (va_up K 23 (abF S m ((K 23)) (nv (S 27 0) * 4))) 26 (fun _ => ksI (nv (S 27 0)) (bcR S m (nv (S 27 0)) c))) 27 (fun _ => kwI S (nv (S 27 0)) (bcR S m (nv (S 27 0)) c))) 24 (kcI S (nv (S 27 0)) (bcR S m (nv (S 27 0)) c) (K 24)))) H := hP
    have hD : va_D A (wM cy g S (va_up (va_up (va_up (va_up K 23 (abF S m ((K 23)) (nv (S 27 0) * 4))) 26 (fun _ => ksI (nv (S 27 0)) (bcR S m (nv (S 27 0)) c))) 27 (fun _ => kwI S (nv (S 27 0)) (bcR S m (nv (S 27 0)) c))) 24 (kcI S (nv (S 27 0)) (bcR S m (nv (S 27 0)) c) (K 24)))) := hD
    refine lv_iload_n hx hb dX7_lay_39 rfl (lv_at hl 3 rfl) ?_
    refine lv_iconst (v := nI 1) hx hb dX7_lay_40 (by decide) ?_
    refine lv_iconst (v := nI 2) hx hb dX7_lay_41 (by decide) ?_
    refine lv_aload_n hx hb dX7_lay_42 rfl (lv_at hl 0 rfl) ?_
    refine va_get (D := D) (ci := 7) (v := .int (S 27 0)) (C := RX7) (T := TX7) (N := 29) hx hb hts iX7 hown hK hP 0 rfl rfl 0 (by decide) f_7 (fun _ h9 => h9) rfl dX7_lay_43 ?_
    have b_43 := (iv_27 hI).1
    refine cd_tp (y := nI (nv (S 27 0))) b_43.1 ?_
    have b_43 := b_43.2
    refine cd_imul hx hb dX7_lay_46 ?_
    refine cd_ishl hx hb (by omega) (s4_lt (by omega)) dX7_lay_47 ?_
    refine cd_tp (y := nI (4 ^ nv (S 27 0))) (congrArg nI (p4 _)) ?_
    refine cd_icmp_ge (tgt := 103) hx hb dX7_lay_48 (by decide) (by omega) (by omega) (fun c_48 => ?_) (fun c_48 => ?_)
    · have ec : c = 4 ^ nv (S 27 0) := by omega
      subst ec
      have hP : va_P D vwCl (wM cy g S (va_up (va_up (va_up (va_up K 23 (abF S m ((K 23)) (nv (S 27 0) * 4))) 26 (fun _ => ksI (nv (S 27 0)) (bcR S m (nv (S 27 0)) (4 ^ nv (S 27 0))))) 27 (fun _ => kwI S (nv (S 27 0)) (bcR S m (nv (S 27 0)) (4 ^ nv (S 27 0))))) 24 (kcI S (nv (S 27 0)) (bcR S m (nv (S 27 0)) (4 ^ nv (S 27 0))) (K 24)))) H := hP
      have hD : va_D A (wM cy g S (va_up (va_up (va_up (va_up K 23 (abF S m ((K 23)) (nv (S 27 0) * 4))) 26 (fun _ => ksI (nv (S 27 0)) (bcR S m (nv (S 27 0)) (4 ^ nv (S 27 0))))) 27 (fun _ => kwI S (nv (S 27 0)) (bcR S m (nv (S 27 0)) (4 ^ nv (S 27 0))))) 24 (kcI S (nv (S 27 0)) (bcR S m (nv (S 27 0)) (4 ^ nv (S 27 0))) (K 24)))) := hD
      rw [show ((fun _ => ksI (nv (S 27 0)) (bcR S m (nv (S 27 0)) (4 ^ nv (S 27 0))) : Nat → Int32)) = ((fun _ => bcS S m : Nat → Int32)) from congrArg (fun (z : Int32) (_ : Nat) => z) (bcS_k)] at hP hD
      have hP : va_P D vwCl (wM cy g S (va_up (va_up (va_up (va_up K 23 (abF S m ((K 23)) (nv (S 27 0) * 4))) 26 (fun _ => bcS S m)) 27 (fun _ => kwI S (nv (S 27 0)) (bcR S m (nv (S 27 0)) (4 ^ nv (S 27 0))))) 24 (kcI S (nv (S 27 0)) (bcR S m (nv (S 27 0)) (4 ^ nv (S 27 0))) (K 24)))) H := hP
      have hD : va_D A (wM cy g S (va_up (va_up (va_up (va_up K 23 (abF S m ((K 23)) (nv (S 27 0) * 4))) 26 (fun _ => bcS S m)) 27 (fun _ => kwI S (nv (S 27 0)) (bcR S m (nv (S 27 0)) (4 ^ nv (S 27 0))))) 24 (kcI S (nv (S 27 0)) (bcR S m (nv (S 27 0)) (4 ^ nv (S 27 0))) (K 24)))) := hD
      rw [show ((fun _ => kwI S (nv (S 27 0)) (bcR S m (nv (S 27 0)) (4 ^ nv (S 27 0))) : Nat → Int32)) = ((fun _ => bcW S m : Nat → Int32)) from congrArg (fun (z : Int32) (_ : Nat) => z) (bcW_k)] at hP hD
      have hP : va_P D vwCl (wM cy g S (va_up (va_up (va_up (va_up K 23 (abF S m ((K 23)) (nv (S 27 0) * 4))) 26 (fun _ => bcS S m)) 27 (fun _ => bcW S m)) 24 (kcI S (nv (S 27 0)) (bcR S m (nv (S 27 0)) (4 ^ nv (S 27 0))) (K 24)))) H := hP
      have hD : va_D A (wM cy g S (va_up (va_up (va_up (va_up K 23 (abF S m ((K 23)) (nv (S 27 0) * 4))) 26 (fun _ => bcS S m)) 27 (fun _ => bcW S m)) 24 (kcI S (nv (S 27 0)) (bcR S m (nv (S 27 0)) (4 ^ nv (S 27 0))) (K 24)))) := hD
      rw [show (kcI S (nv (S 27 0)) (bcR S m (nv (S 27 0)) (4 ^ nv (S 27 0))) (K 24)) = (caF S m (K 24)) from rfl] at hP hD
      have hP : va_P D vwCl (wM cy g S (va_up (va_up (va_up (va_up K 23 (abF S m ((K 23)) (nv (S 27 0) * 4))) 26 (fun _ => bcS S m)) 27 (fun _ => bcW S m)) 24 (caF S m (K 24)))) H := hP
      have hD : va_D A (wM cy g S (va_up (va_up (va_up (va_up K 23 (abF S m ((K 23)) (nv (S 27 0) * 4))) 26 (fun _ => bcS S m)) 27 (fun _ => bcW S m)) 24 (caF S m (K 24)))) := hD
      refine lv_aload_n hx hb dX7_lay_103 rfl (lv_at hl 0 rfl) ?_
      refine va_get (D := D) (ci := 7) (v := .int (bcS S m)) (C := RX7) (T := TX7) (N := 29) hx hb hts iX7 hown hK hP 0 rfl rfl 26 (by decide) f_121 (fun _ h9 => h9) rfl dX7_lay_104 ?_
      refine lv_iconst (v := (-1)) hx hb dX7_lay_107 (by decide) ?_
      refine lv_icmp_eq (tgt := 115) hx hb dX7_lay_108 (by decide) (fun c_108 => ?_) (fun c_108 => ?_)
      · refine lv_iconst (v := nI 0) hx hb dX7_lay_115 (by decide) ?_
        exact W.zret (v := nI 0) hx hb hr rfl (fun t ht hW => ⟨⟨_, (), rfl, (by rw [bcS_no hI c_108]; rfl), by rw [ht]; exact hP, hD⟩, hS.F ht⟩) hS.2.2 dX7_lay_116
      · refine lv_iconst (v := nI 1) hx hb dX7_lay_111 (by decide) ?_
        refine lv_goto (tgt := 116) hx hb dX7_lay_112 (by decide) ?_
        exact W.zret (v := nI 1) hx hb hr rfl (fun t ht hW => ⟨⟨_, (), rfl, (by rw [bcS_yes c_108]; rfl), by rw [ht]; exact hP, hD⟩, hS.F ht⟩) hS.2.2 dX7_lay_116
    · refine lv_aload_n hx hb dX7_lay_51 rfl (lv_at hl 0 rfl) ?_
      refine lv_iload_n hx hb dX7_lay_52 rfl (lv_at hl 3 rfl) ?_
      have M_53 := c_X7_firstBad l D cy g S (va_up (va_up (va_up (va_up K 23 (abF S m ((K 23)) (nv (S 27 0) * 4))) 26 (fun _ => ksI (nv (S 27 0)) (bcR S m (nv (S 27 0)) c))) 27 (fun _ => kwI S (nv (S 27 0)) (bcR S m (nv (S 27 0)) c))) 24 (kcI S (nv (S 27 0)) (bcR S m (nv (S 27 0)) c) (K 24))) hI c m (by omega) (fun i h9 => if_pos h9)
      refine cd_roi (va_runV (As := [.int (nI c)]) (rest := []) ⟨hx, hb, hml, hown, hts⟩ M_53 (cwV 1 hts gX7_lay_X7_firstBad rfl rfl rfl (by decide +kernel) ⟨Nat.le_of_ble_eq_true rfl, Nat.le_of_ble_eq_true rfl⟩) ⟨roB.bl, va_recv hK hP (ci := 7) (q0 := 0) rfl rfl, fun U hU hW => ⟨rfl, by rw [hU]; exact hP, hG.warm hW⟩⟩ rfl rfl hl.1 rfl (lv_room (Nat.le_of_ble_eq_true rfl)) dX7_lay_53 (by exact ⟨Nat.zero_le _, Nat.zero_le _⟩)) (fun r_53 hr_53 => ?_)
      subst hr_53
      refine lv_istore (lv' := [(4, .int (fbI S m (dg (nv (S 27 0)) c) (nv (S 27 0)))), (0, .ref (g 0)), (1, .int (nI d)), (2, .int x), (3, .int (nI c))]) hx hb dX7_lay_56 hl (by decide) rfl (fun ls hl => ?_)
      refine lv_iload hx hb dX7_lay_58 (lv_at hl 0 rfl) ?_
      refine lv_iconst (v := (-1)) hx hb dX7_lay_60 (by decide) ?_
      refine lv_icmp_ne (tgt := 75) hx hb dX7_lay_61 (by decide) (fun c_61 => ?_) (fun c_61 => ?_)
      · obtain ⟨k, hk, hke, hkb⟩ := fb_f c_61
        have hl : lv_has ls 6 [(4, .int (nI k)), (0, .ref (g 0)), (1, .int (nI d)), (2, .int x), (3, .int (nI c))] := Eq.mp (congrArg (fun z9 : Int32 => lv_has ls 6 [(4, .int z9), (0, .ref (g 0)), (1, .int (nI d)), (2, .int x), (3, .int (nI c))]) (show (fbI S m (dg (nv (S 27 0)) c) (nv (S 27 0)) : Int32) = nI k from hke)) hl
        have hsk := skip_le hk (show c < 4 ^ nv (S 27 0) by omega)
        have hp0 : 0 < 4 ^ (nv (S 27 0) - 1 - k) := Nat.pow_pos (by decide)
        have hp8 : 4 ^ (nv (S 27 0) - 1 - k) ≤ 65536 := p4_le (y := 8) (by omega)
        refine lv_iconst (v := nI 1) hx hb dX7_lay_75 (by decide) ?_
        refine lv_iconst (v := nI 2) hx hb dX7_lay_76 (by decide) ?_
        refine lv_aload_n hx hb dX7_lay_77 rfl (lv_at hl 1 rfl) ?_
        refine va_get (D := D) (ci := 7) (v := .int (S 27 0)) (C := RX7) (T := TX7) (N := 29) hx hb hts iX7 hown hK hP 0 rfl rfl 0 (by decide) f_7 (fun _ h9 => h9) rfl dX7_lay_78 ?_
        have b_78 := (iv_27 hI).1
        refine cd_tp (y := nI (nv (S 27 0))) b_78.1 ?_
        have b_78 := b_78.2
        refine lv_iconst (v := nI 1) hx hb dX7_lay_81 (by decide) ?_
        refine cd_isub hx hb (by omega) dX7_lay_82 ?_
        refine lv_iload hx hb dX7_lay_83 (lv_at hl 0 rfl) ?_
        refine cd_isub hx hb (by omega) dX7_lay_85 ?_
        refine cd_imul hx hb dX7_lay_86 ?_
        refine cd_ishl hx hb (by omega) (s4_lt (by omega)) dX7_lay_87 ?_
        refine cd_tp (y := nI (4 ^ (nv (S 27 0) - 1 - k))) (congrArg nI (p4 _)) ?_
        refine lv_istore (lv' := [(5, .int (nI (4 ^ (nv (S 27 0) - 1 - k)))), (4, .int (nI k)), (0, .ref (g 0)), (1, .int (nI d)), (2, .int x), (3, .int (nI c))]) hx hb dX7_lay_88 hl (by decide) rfl (fun ls hl => ?_)
        refine lv_iload_n hx hb dX7_lay_90 rfl (lv_at hl 5 rfl) ?_
        refine lv_iload hx hb dX7_lay_91 (lv_at hl 0 rfl) ?_
        refine cd_idiv hx hb (by omega) (by omega) (by omega) dX7_lay_93 ?_
        refine lv_iconst (v := nI 1) hx hb dX7_lay_94 (by decide) ?_
        refine cd_iadd hx hb dX7_lay_95 ?_
        refine lv_iload hx hb dX7_lay_96 (lv_at hl 0 rfl) ?_
        refine cd_imul hx hb dX7_lay_98 ?_
        refine lv_istore_n (lv' := [(3, .int (nI (((c / (4 ^ (nv (S 27 0) - 1 - k))) + 1) * (4 ^ (nv (S 27 0) - 1 - k))))), (5, .int (nI (4 ^ (nv (S 27 0) - 1 - k)))), (4, .int (nI k)), (0, .ref (g 0)), (1, .int (nI d)), (2, .int x)]) hx hb dX7_lay_99 rfl hl (by decide) rfl (fun ls hl => ?_)
        refine lv_goto (tgt := 39) hx hb dX7_lay_100 (by decide) ?_
        rw [show ((fun _ => ksI (nv (S 27 0)) (bcR S m (nv (S 27 0)) c) : Nat → Int32)) = ((fun _ => ksI (nv (S 27 0)) (bcR S m (nv (S 27 0)) ((c / 4 ^ (nv (S 27 0) - 1 - k) + 1) * 4 ^ (nv (S 27 0) - 1 - k))) : Nat → Int32)) from congrArg (fun (z : Int32) (_ : Nat) => z) (by rw [bcR_bad hk hkb (by omega)])] at hP hD
        have hP : va_P D vwCl (wM cy g S (va_up (va_up (va_up (va_up K 23 (abF S m ((K 23)) (nv (S 27 0) * 4))) 26 (fun _ => ksI (nv (S 27 0)) (bcR S m (nv (S 27 0)) ((c / 4 ^ (nv (S 27 0) - 1 - k) + 1) * 4 ^ (nv (S 27 0) - 1 - k))))) 27 (fun _ => kwI S (nv (S 27 0)) (bcR S m (nv (S 27 0)) c))) 24 (kcI S (nv (S 27 0)) (bcR S m (nv (S 27 0)) c) (K 24)))) H := hP
        have hD : va_D A (wM cy g S (va_up (va_up (va_up (va_up K 23 (abF S m ((K 23)) (nv (S 27 0) * 4))) 26 (fun _ => ksI (nv (S 27 0)) (bcR S m (nv (S 27 0)) ((c / 4 ^ (nv (S 27 0) - 1 - k) + 1) * 4 ^ (nv (S 27 0) - 1 - k))))) 27 (fun _ => kwI S (nv (S 27 0)) (bcR S m (nv (S 27 0)) c))) 24 (kcI S (nv (S 27 0)) (bcR S m (nv (S 27 0)) c) (K 24)))) := hD
        rw [show ((fun _ => kwI S (nv (S 27 0)) (bcR S m (nv (S 27 0)) c) : Nat → Int32)) = ((fun _ => kwI S (nv (S 27 0)) (bcR S m (nv (S 27 0)) ((c / 4 ^ (nv (S 27 0) - 1 - k) + 1) * 4 ^ (nv (S 27 0) - 1 - k))) : Nat → Int32)) from congrArg (fun (z : Int32) (_ : Nat) => z) (by rw [bcR_bad hk hkb (by omega)])] at hP hD
        have hP : va_P D vwCl (wM cy g S (va_up (va_up (va_up (va_up K 23 (abF S m ((K 23)) (nv (S 27 0) * 4))) 26 (fun _ => ksI (nv (S 27 0)) (bcR S m (nv (S 27 0)) ((c / 4 ^ (nv (S 27 0) - 1 - k) + 1) * 4 ^ (nv (S 27 0) - 1 - k))))) 27 (fun _ => kwI S (nv (S 27 0)) (bcR S m (nv (S 27 0)) ((c / 4 ^ (nv (S 27 0) - 1 - k) + 1) * 4 ^ (nv (S 27 0) - 1 - k))))) 24 (kcI S (nv (S 27 0)) (bcR S m (nv (S 27 0)) c) (K 24)))) H := hP
        have hD : va_D A (wM cy g S (va_up (va_up (va_up (va_up K 23 (abF S m ((K 23)) (nv (S 27 0) * 4))) 26 (fun _ => ksI (nv (S 27 0)) (bcR S m (nv (S 27 0)) ((c / 4 ^ (nv (S 27 0) - 1 - k) + 1) * 4 ^ (nv (S 27 0) - 1 - k))))) 27 (fun _ => kwI S (nv (S 27 0)) (bcR S m (nv (S 27 0)) ((c / 4 ^ (nv (S 27 0) - 1 - k) + 1) * 4 ^ (nv (S 27 0) - 1 - k))))) 24 (kcI S (nv (S 27 0)) (bcR S m (nv (S 27 0)) c) (K 24)))) := hD
        rw [show (kcI S (nv (S 27 0)) (bcR S m (nv (S 27 0)) c) (K 24)) = (kcI S (nv (S 27 0)) (bcR S m (nv (S 27 0)) ((c / 4 ^ (nv (S 27 0) - 1 - k) + 1) * 4 ^ (nv (S 27 0) - 1 - k))) (K 24)) from by rw [bcR_bad hk hkb (by omega)]] at hP hD
        have hP : va_P D vwCl (wM cy g S (va_up (va_up (va_up (va_up K 23 (abF S m ((K 23)) (nv (S 27 0) * 4))) 26 (fun _ => ksI (nv (S 27 0)) (bcR S m (nv (S 27 0)) ((c / 4 ^ (nv (S 27 0) - 1 - k) + 1) * 4 ^ (nv (S 27 0) - 1 - k))))) 27 (fun _ => kwI S (nv (S 27 0)) (bcR S m (nv (S 27 0)) ((c / 4 ^ (nv (S 27 0) - 1 - k) + 1) * 4 ^ (nv (S 27 0) - 1 - k))))) 24 (kcI S (nv (S 27 0)) (bcR S m (nv (S 27 0)) ((c / 4 ^ (nv (S 27 0) - 1 - k) + 1) * 4 ^ (nv (S 27 0) - 1 - k))) (K 24)))) H := hP
        have hD : va_D A (wM cy g S (va_up (va_up (va_up (va_up K 23 (abF S m ((K 23)) (nv (S 27 0) * 4))) 26 (fun _ => ksI (nv (S 27 0)) (bcR S m (nv (S 27 0)) ((c / 4 ^ (nv (S 27 0) - 1 - k) + 1) * 4 ^ (nv (S 27 0) - 1 - k))))) 27 (fun _ => kwI S (nv (S 27 0)) (bcR S m (nv (S 27 0)) ((c / 4 ^ (nv (S 27 0) - 1 - k) + 1) * 4 ^ (nv (S 27 0) - 1 - k))))) 24 (kcI S (nv (S 27 0)) (bcR S m (nv (S 27 0)) ((c / 4 ^ (nv (S 27 0) - 1 - k) + 1) * 4 ^ (nv (S 27 0) - 1 - k))) (K 24)))) := hD
        exact ih_39 ((c / 4 ^ (nv (S 27 0) - 1 - k) + 1) * 4 ^ (nv (S 27 0) - 1 - k)) hsk.2 (by omega) _ _ hP hD hS _ (lv_sub hl [3, 4, 5, 0] rfl)
      · have hok := fb_t hn c_61
        refine lv_aload_n hx hb dX7_lay_64 rfl (lv_at hl 1 rfl) ?_
        refine lv_iload_n hx hb dX7_lay_65 rfl (lv_at hl 4 rfl) ?_
        have M_66 := c_X7_keep l D cy g S (va_up (va_up (va_up (va_up K 23 (abF S m ((K 23)) (nv (S 27 0) * 4))) 26 (fun _ => ksI (nv (S 27 0)) (bcR S m (nv (S 27 0)) c))) 27 (fun _ => kwI S (nv (S 27 0)) (bcR S m (nv (S 27 0)) c))) 24 (kcI S (nv (S 27 0)) (bcR S m (nv (S 27 0)) c) (K 24))) hI c m (by omega) (fun i h9 => if_pos h9) hok H.size
        refine cd_frv (S := Unit) (W1 := fun u => (wM cy g S (va_up (va_up (va_up (va_up (va_up (va_up (va_up K 23 (abF S m ((K 23)) (nv (S 27 0) * 4))) 26 (fun _ => ksI (nv (S 27 0)) (bcR S m (nv (S 27 0)) c))) 27 (fun _ => kwI S (nv (S 27 0)) (bcR S m (nv (S 27 0)) c))) 24 (kcI S (nv (S 27 0)) (bcR S m (nv (S 27 0)) c) (K 24))) 26 (fun _ => kpI ((va_up (va_up (va_up (va_up K 23 (abF S m ((K 23)) (nv (S 27 0) * 4))) 26 (fun _ => ksI (nv (S 27 0)) (bcR S m (nv (S 27 0)) c))) 27 (fun _ => kwI S (nv (S 27 0)) (bcR S m (nv (S 27 0)) c))) 24 (kcI S (nv (S 27 0)) (bcR S m (nv (S 27 0)) c) (K 24))) 26 0) ((va_up (va_up (va_up (va_up K 23 (abF S m ((K 23)) (nv (S 27 0) * 4))) 26 (fun _ => ksI (nv (S 27 0)) (bcR S m (nv (S 27 0)) c))) 27 (fun _ => kwI S (nv (S 27 0)) (bcR S m (nv (S 27 0)) c))) 24 (kcI S (nv (S 27 0)) (bcR S m (nv (S 27 0)) c) (K 24))) 27 0) ((va_up (va_up (va_up (va_up K 23 (abF S m ((K 23)) (nv (S 27 0) * 4))) 26 (fun _ => ksI (nv (S 27 0)) (bcR S m (nv (S 27 0)) c))) 27 (fun _ => kwI S (nv (S 27 0)) (bcR S m (nv (S 27 0)) c))) 24 (kcI S (nv (S 27 0)) (bcR S m (nv (S 27 0)) c) (K 24))) 26 0) (sr (dg (nv (S 27 0)) c) (nv (S 27 0))) (wo S (dg (nv (S 27 0)) c) (nv (S 27 0))) (sr (dg (nv (S 27 0)) c) (nv (S 27 0))))) 27 (fun _ => kpI ((va_up (va_up (va_up (va_up K 23 (abF S m ((K 23)) (nv (S 27 0) * 4))) 26 (fun _ => ksI (nv (S 27 0)) (bcR S m (nv (S 27 0)) c))) 27 (fun _ => kwI S (nv (S 27 0)) (bcR S m (nv (S 27 0)) c))) 24 (kcI S (nv (S 27 0)) (bcR S m (nv (S 27 0)) c) (K 24))) 26 0) ((va_up (va_up (va_up (va_up K 23 (abF S m ((K 23)) (nv (S 27 0) * 4))) 26 (fun _ => ksI (nv (S 27 0)) (bcR S m (nv (S 27 0)) c))) 27 (fun _ => kwI S (nv (S 27 0)) (bcR S m (nv (S 27 0)) c))) 24 (kcI S (nv (S 27 0)) (bcR S m (nv (S 27 0)) c) (K 24))) 27 0) ((va_up (va_up (va_up (va_up K 23 (abF S m ((K 23)) (nv (S 27 0) * 4))) 26 (fun _ => ksI (nv (S 27 0)) (bcR S m (nv (S 27 0)) c))) 27 (fun _ => kwI S (nv (S 27 0)) (bcR S m (nv (S 27 0)) c))) 24 (kcI S (nv (S 27 0)) (bcR S m (nv (S 27 0)) c) (K 24))) 27 0) (sr (dg (nv (S 27 0)) c) (nv (S 27 0))) (wo S (dg (nv (S 27 0)) c) (nv (S 27 0))) (wo S (dg (nv (S 27 0)) c) (nv (S 27 0))))) 24 (kpF (S 6) ((va_up (va_up (va_up (va_up K 23 (abF S m ((K 23)) (nv (S 27 0) * 4))) 26 (fun _ => ksI (nv (S 27 0)) (bcR S m (nv (S 27 0)) c))) 27 (fun _ => kwI S (nv (S 27 0)) (bcR S m (nv (S 27 0)) c))) 24 (kcI S (nv (S 27 0)) (bcR S m (nv (S 27 0)) c) (K 24))) 24) ((va_up (va_up (va_up (va_up K 23 (abF S m ((K 23)) (nv (S 27 0) * 4))) 26 (fun _ => ksI (nv (S 27 0)) (bcR S m (nv (S 27 0)) c))) 27 (fun _ => kwI S (nv (S 27 0)) (bcR S m (nv (S 27 0)) c))) 24 (kcI S (nv (S 27 0)) (bcR S m (nv (S 27 0)) c) (K 24))) 26 0) ((va_up (va_up (va_up (va_up K 23 (abF S m ((K 23)) (nv (S 27 0) * 4))) 26 (fun _ => ksI (nv (S 27 0)) (bcR S m (nv (S 27 0)) c))) 27 (fun _ => kwI S (nv (S 27 0)) (bcR S m (nv (S 27 0)) c))) 24 (kcI S (nv (S 27 0)) (bcR S m (nv (S 27 0)) c) (K 24))) 27 0) (nv (S 27 0)) c (sr (dg (nv (S 27 0)) c) (nv (S 27 0))) (wo S (dg (nv (S 27 0)) c) (nv (S 27 0))) (nv (S 27 0)))))) (ws' := fun u => (wM cy g S (va_up (va_up (va_up (va_up K 23 (abF S m ((K 23)) (nv (S 27 0) * 4))) 26 (fun _ => kpI ((ksI (nv (S 27 0)) (bcR S m (nv (S 27 0)) c)) ) ((kwI S (nv (S 27 0)) (bcR S m (nv (S 27 0)) c)) ) ((ksI (nv (S 27 0)) (bcR S m (nv (S 27 0)) c)) ) (sr (dg (nv (S 27 0)) c) (nv (S 27 0))) (wo S (dg (nv (S 27 0)) c) (nv (S 27 0))) (sr (dg (nv (S 27 0)) c) (nv (S 27 0))))) 27 (fun _ => kpI ((ksI (nv (S 27 0)) (bcR S m (nv (S 27 0)) c)) ) ((kwI S (nv (S 27 0)) (bcR S m (nv (S 27 0)) c)) ) ((kwI S (nv (S 27 0)) (bcR S m (nv (S 27 0)) c)) ) (sr (dg (nv (S 27 0)) c) (nv (S 27 0))) (wo S (dg (nv (S 27 0)) c) (nv (S 27 0))) (wo S (dg (nv (S 27 0)) c) (nv (S 27 0))))) 24 (kpF ((S 6)) ((kcI S (nv (S 27 0)) (bcR S m (nv (S 27 0)) c) (K 24))) ((ksI (nv (S 27 0)) (bcR S m (nv (S 27 0)) c)) ) ((kwI S (nv (S 27 0)) (bcR S m (nv (S 27 0)) c)) ) (nv (S 27 0)) c (sr (dg (nv (S 27 0)) c) (nv (S 27 0))) (wo S (dg (nv (S 27 0)) c) (nv (S 27 0))) (nv (S 27 0)))))) (wc := (wM cy g S (va_up (va_up (va_up (va_up K 23 (abF S m ((K 23)) (nv (S 27 0) * 4))) 26 (fun _ => ksI (nv (S 27 0)) (bcR S m (nv (S 27 0)) c))) 27 (fun _ => kwI S (nv (S 27 0)) (bcR S m (nv (S 27 0)) c))) 24 (kcI S (nv (S 27 0)) (bcR S m (nv (S 27 0)) c) (K 24))))) (wr := []) (va_runV (As := [.int (nI c)]) (rest := []) ⟨hx, hb, hml, hown, hts⟩ M_66 (cwV 1 hts gX7_lay_X7_keep rfl rfl rfl (by decide +kernel) ⟨Nat.le_of_ble_eq_true rfl, Nat.le_of_ble_eq_true rfl⟩) ⟨wrB.bl, va_recv hK hP (ci := 7) (q0 := 0) rfl rfl, fun U hU hW => ⟨rfl, by rw [hU], by rw [hU]; exact hP, hG.warm hW, hD.weaken (fun _ _ _ _ => trivial)⟩⟩ rfl rfl hl.1 rfl (lv_room (Nat.le_of_ble_eq_true rfl)) dX7_lay_66 (by exact ⟨Nat.zero_le _, Nat.zero_le _⟩)) hP hD hS hA [0, 1, 2, 3, 4, 5, 6, 7, 8, 9, 10, 11, 12, 13, 14, 15, 16, 17, 18, 19, 20] [] [0, 1, 2, 3, 4, 5, 6, 7, 8, 9, 10, 11, 12, 13, 14, 15, 16, 17, 18, 19, 20] rfl rfl (by decide) (by decide) (by decide) (fun _ => rfl) (fun _ H locs hw_66 hP hD hS => ?_)
        have hP : va_P D vwCl (wM cy g S (va_up (va_up (va_up (va_up K 23 (abF S m ((K 23)) (nv (S 27 0) * 4))) 26 (fun _ => kpI ((ksI (nv (S 27 0)) (bcR S m (nv (S 27 0)) c)) ) ((kwI S (nv (S 27 0)) (bcR S m (nv (S 27 0)) c)) ) ((ksI (nv (S 27 0)) (bcR S m (nv (S 27 0)) c)) ) (sr (dg (nv (S 27 0)) c) (nv (S 27 0))) (wo S (dg (nv (S 27 0)) c) (nv (S 27 0))) (sr (dg (nv (S 27 0)) c) (nv (S 27 0))))) 27 (fun _ => kpI ((ksI (nv (S 27 0)) (bcR S m (nv (S 27 0)) c)) ) ((kwI S (nv (S 27 0)) (bcR S m (nv (S 27 0)) c)) ) ((kwI S (nv (S 27 0)) (bcR S m (nv (S 27 0)) c)) ) (sr (dg (nv (S 27 0)) c) (nv (S 27 0))) (wo S (dg (nv (S 27 0)) c) (nv (S 27 0))) (wo S (dg (nv (S 27 0)) c) (nv (S 27 0))))) 24 (kpF ((S 6)) ((kcI S (nv (S 27 0)) (bcR S m (nv (S 27 0)) c) (K 24))) ((ksI (nv (S 27 0)) (bcR S m (nv (S 27 0)) c)) ) ((kwI S (nv (S 27 0)) (bcR S m (nv (S 27 0)) c)) ) (nv (S 27 0)) c (sr (dg (nv (S 27 0)) c) (nv (S 27 0))) (wo S (dg (nv (S 27 0)) c) (nv (S 27 0))) (nv (S 27 0))))) H := hP
        have hD : va_D A (wM cy g S (va_up (va_up (va_up (va_up K 23 (abF S m ((K 23)) (nv (S 27 0) * 4))) 26 (fun _ => kpI ((ksI (nv (S 27 0)) (bcR S m (nv (S 27 0)) c)) ) ((kwI S (nv (S 27 0)) (bcR S m (nv (S 27 0)) c)) ) ((ksI (nv (S 27 0)) (bcR S m (nv (S 27 0)) c)) ) (sr (dg (nv (S 27 0)) c) (nv (S 27 0))) (wo S (dg (nv (S 27 0)) c) (nv (S 27 0))) (sr (dg (nv (S 27 0)) c) (nv (S 27 0))))) 27 (fun _ => kpI ((ksI (nv (S 27 0)) (bcR S m (nv (S 27 0)) c)) ) ((kwI S (nv (S 27 0)) (bcR S m (nv (S 27 0)) c)) ) ((kwI S (nv (S 27 0)) (bcR S m (nv (S 27 0)) c)) ) (sr (dg (nv (S 27 0)) c) (nv (S 27 0))) (wo S (dg (nv (S 27 0)) c) (nv (S 27 0))) (wo S (dg (nv (S 27 0)) c) (nv (S 27 0))))) 24 (kpF ((S 6)) ((kcI S (nv (S 27 0)) (bcR S m (nv (S 27 0)) c) (K 24))) ((ksI (nv (S 27 0)) (bcR S m (nv (S 27 0)) c)) ) ((kwI S (nv (S 27 0)) (bcR S m (nv (S 27 0)) c)) ) (nv (S 27 0)) c (sr (dg (nv (S 27 0)) c) (nv (S 27 0))) (wo S (dg (nv (S 27 0)) c) (nv (S 27 0))) (nv (S 27 0))))) := hD
        rw [show ((fun _ => kpI ((ksI (nv (S 27 0)) (bcR S m (nv (S 27 0)) c)) ) ((kwI S (nv (S 27 0)) (bcR S m (nv (S 27 0)) c)) ) ((ksI (nv (S 27 0)) (bcR S m (nv (S 27 0)) c)) ) (sr (dg (nv (S 27 0)) c) (nv (S 27 0))) (wo S (dg (nv (S 27 0)) c) (nv (S 27 0))) (sr (dg (nv (S 27 0)) c) (nv (S 27 0))) : Nat → Int32)) = ((fun _ => ksI (nv (S 27 0)) (bcR S m (nv (S 27 0)) (c + 1)) : Nat → Int32)) from congrArg (fun (z : Int32) (_ : Nat) => z) (kp_s hok hn)] at hP hD
        have hP : va_P D vwCl (wM cy g S (va_up (va_up (va_up (va_up K 23 (abF S m ((K 23)) (nv (S 27 0) * 4))) 26 (fun _ => ksI (nv (S 27 0)) (bcR S m (nv (S 27 0)) (c + 1)))) 27 (fun _ => kpI ((ksI (nv (S 27 0)) (bcR S m (nv (S 27 0)) c)) ) ((kwI S (nv (S 27 0)) (bcR S m (nv (S 27 0)) c)) ) ((kwI S (nv (S 27 0)) (bcR S m (nv (S 27 0)) c)) ) (sr (dg (nv (S 27 0)) c) (nv (S 27 0))) (wo S (dg (nv (S 27 0)) c) (nv (S 27 0))) (wo S (dg (nv (S 27 0)) c) (nv (S 27 0))))) 24 (kpF ((S 6)) ((kcI S (nv (S 27 0)) (bcR S m (nv (S 27 0)) c) (K 24))) ((ksI (nv (S 27 0)) (bcR S m (nv (S 27 0)) c)) ) ((kwI S (nv (S 27 0)) (bcR S m (nv (S 27 0)) c)) ) (nv (S 27 0)) c (sr (dg (nv (S 27 0)) c) (nv (S 27 0))) (wo S (dg (nv (S 27 0)) c) (nv (S 27 0))) (nv (S 27 0))))) H := hP
        have hD : va_D A (wM cy g S (va_up (va_up (va_up (va_up K 23 (abF S m ((K 23)) (nv (S 27 0) * 4))) 26 (fun _ => ksI (nv (S 27 0)) (bcR S m (nv (S 27 0)) (c + 1)))) 27 (fun _ => kpI ((ksI (nv (S 27 0)) (bcR S m (nv (S 27 0)) c)) ) ((kwI S (nv (S 27 0)) (bcR S m (nv (S 27 0)) c)) ) ((kwI S (nv (S 27 0)) (bcR S m (nv (S 27 0)) c)) ) (sr (dg (nv (S 27 0)) c) (nv (S 27 0))) (wo S (dg (nv (S 27 0)) c) (nv (S 27 0))) (wo S (dg (nv (S 27 0)) c) (nv (S 27 0))))) 24 (kpF ((S 6)) ((kcI S (nv (S 27 0)) (bcR S m (nv (S 27 0)) c) (K 24))) ((ksI (nv (S 27 0)) (bcR S m (nv (S 27 0)) c)) ) ((kwI S (nv (S 27 0)) (bcR S m (nv (S 27 0)) c)) ) (nv (S 27 0)) c (sr (dg (nv (S 27 0)) c) (nv (S 27 0))) (wo S (dg (nv (S 27 0)) c) (nv (S 27 0))) (nv (S 27 0))))) := hD
        rw [show ((fun _ => kpI ((ksI (nv (S 27 0)) (bcR S m (nv (S 27 0)) c)) ) ((kwI S (nv (S 27 0)) (bcR S m (nv (S 27 0)) c)) ) ((kwI S (nv (S 27 0)) (bcR S m (nv (S 27 0)) c)) ) (sr (dg (nv (S 27 0)) c) (nv (S 27 0))) (wo S (dg (nv (S 27 0)) c) (nv (S 27 0))) (wo S (dg (nv (S 27 0)) c) (nv (S 27 0))) : Nat → Int32)) = ((fun _ => kwI S (nv (S 27 0)) (bcR S m (nv (S 27 0)) (c + 1)) : Nat → Int32)) from congrArg (fun (z : Int32) (_ : Nat) => z) (kp_w hok hn)] at hP hD
        have hP : va_P D vwCl (wM cy g S (va_up (va_up (va_up (va_up K 23 (abF S m ((K 23)) (nv (S 27 0) * 4))) 26 (fun _ => ksI (nv (S 27 0)) (bcR S m (nv (S 27 0)) (c + 1)))) 27 (fun _ => kwI S (nv (S 27 0)) (bcR S m (nv (S 27 0)) (c + 1)))) 24 (kpF ((S 6)) ((kcI S (nv (S 27 0)) (bcR S m (nv (S 27 0)) c) (K 24))) ((ksI (nv (S 27 0)) (bcR S m (nv (S 27 0)) c)) ) ((kwI S (nv (S 27 0)) (bcR S m (nv (S 27 0)) c)) ) (nv (S 27 0)) c (sr (dg (nv (S 27 0)) c) (nv (S 27 0))) (wo S (dg (nv (S 27 0)) c) (nv (S 27 0))) (nv (S 27 0))))) H := hP
        have hD : va_D A (wM cy g S (va_up (va_up (va_up (va_up K 23 (abF S m ((K 23)) (nv (S 27 0) * 4))) 26 (fun _ => ksI (nv (S 27 0)) (bcR S m (nv (S 27 0)) (c + 1)))) 27 (fun _ => kwI S (nv (S 27 0)) (bcR S m (nv (S 27 0)) (c + 1)))) 24 (kpF ((S 6)) ((kcI S (nv (S 27 0)) (bcR S m (nv (S 27 0)) c) (K 24))) ((ksI (nv (S 27 0)) (bcR S m (nv (S 27 0)) c)) ) ((kwI S (nv (S 27 0)) (bcR S m (nv (S 27 0)) c)) ) (nv (S 27 0)) c (sr (dg (nv (S 27 0)) c) (nv (S 27 0))) (wo S (dg (nv (S 27 0)) c) (nv (S 27 0))) (nv (S 27 0))))) := hD
        rw [show (kpF ((S 6)) ((kcI S (nv (S 27 0)) (bcR S m (nv (S 27 0)) c) (K 24))) ((ksI (nv (S 27 0)) (bcR S m (nv (S 27 0)) c)) ) ((kwI S (nv (S 27 0)) (bcR S m (nv (S 27 0)) c)) ) (nv (S 27 0)) c (sr (dg (nv (S 27 0)) c) (nv (S 27 0))) (wo S (dg (nv (S 27 0)) c) (nv (S 27 0))) (nv (S 27 0))) = (kcI S (nv (S 27 0)) (bcR S m (nv (S 27 0)) (c + 1)) (K 24)) from kp_c hok hn] at hP hD
        have hP : va_P D vwCl (wM cy g S (va_up (va_up (va_up (va_up K 23 (abF S m ((K 23)) (nv (S 27 0) * 4))) 26 (fun _ => ksI (nv (S 27 0)) (bcR S m (nv (S 27 0)) (c + 1)))) 27 (fun _ => kwI S (nv (S 27 0)) (bcR S m (nv (S 27 0)) (c + 1)))) 24 (kcI S (nv (S 27 0)) (bcR S m (nv (S 27 0)) (c + 1)) (K 24)))) H := hP
        have hD : va_D A (wM cy g S (va_up (va_up (va_up (va_up K 23 (abF S m ((K 23)) (nv (S 27 0) * 4))) 26 (fun _ => ksI (nv (S 27 0)) (bcR S m (nv (S 27 0)) (c + 1)))) 27 (fun _ => kwI S (nv (S 27 0)) (bcR S m (nv (S 27 0)) (c + 1)))) 24 (kcI S (nv (S 27 0)) (bcR S m (nv (S 27 0)) (c + 1)) (K 24)))) := hD
        refine lv_iinc (v := nI (c + 1)) (lv' := [(3, .int (nI (c + 1))), (4, .int (fbI S m (dg (nv (S 27 0)) c) (nv (S 27 0)))), (0, .ref (g 0)), (1, .int (nI d)), (2, .int x)]) hx hb dX7_lay_69 hl (k := 4) rfl (cd_i1 _) (by decide) rfl (fun ls hl => ?_)
        refine lv_goto (tgt := 100) hx hb dX7_lay_72 (by decide) ?_
        refine lv_goto (tgt := 39) hx hb dX7_lay_100 (by decide) ?_
        exact ih_39 (c + 1) (by omega) (by omega) _ _ hP hD hS _ (lv_sub hl [2, 3, 4, 0] rfl)
  · refine lv_aload_n hx hb dX7_lay_24 rfl (lv_at hl 0 rfl) ?_
    refine va_get (D := D) (ci := 7) (v := .ref (g 24)) (C := RX7) (T := TX7) (N := 29) hx hb hts iX7 hown hK hP 0 rfl rfl 24 (by decide) f_68 (fun _ h9 => h9) rfl dX7_lay_25 ?_
    refine lv_iload_n hx hb dX7_lay_28 rfl (lv_at hl 3 rfl) ?_
    refine lv_iconst (v := (-1)) hx hb dX7_lay_29 (by decide) ?_
    refine cd_iast (f := clF (K 24) i) hx hb hK hP hD hS 19 rfl (by omega) (by decide) dX7_lay_30 (fun H locs hP hD hS => ?_)
    have hP : va_P D vwCl (wM cy g S (va_up (va_up (va_up (va_up K 23 (abF S m ((K 23)) (nv (S 27 0) * 4))) 26 (fun _ => (-1))) 27 (fun _ => (-1))) 24 (upd (clF (K 24) i) i (-1)))) H := hP
    have hD : va_D A (wM cy g S (va_up (va_up (va_up (va_up K 23 (abF S m ((K 23)) (nv (S 27 0) * 4))) 26 (fun _ => (-1))) 27 (fun _ => (-1))) 24 (upd (clF (K 24) i) i (-1)))) := hD
    have e_30 : (upd (clF (K 24) i) i (-1)) = (clF (K 24) (i + 1)) := clF_s _ _
    rw [e_30] at hP hD
    have hP : va_P D vwCl (wM cy g S (va_up (va_up (va_up (va_up K 23 (abF S m ((K 23)) (nv (S 27 0) * 4))) 26 (fun _ => (-1))) 27 (fun _ => (-1))) 24 (clF (K 24) (i + 1)))) H := hP
    have hD : va_D A (wM cy g S (va_up (va_up (va_up (va_up K 23 (abF S m ((K 23)) (nv (S 27 0) * 4))) 26 (fun _ => (-1))) 27 (fun _ => (-1))) 24 (clF (K 24) (i + 1)))) := hD
    refine lv_iinc (v := nI (i + 1)) (lv' := [(3, .int (nI (i + 1))), (0, .ref (g 0)), (1, .int (nI d)), (2, .int x)]) hx hb dX7_lay_31 hl (k := 3) rfl (cd_i1 _) (by decide) rfl (fun ls hl => ?_)
    refine lv_goto (tgt := 18) hx hb dX7_lay_34 (by decide) ?_
    exact ih_18 (i + 1) (by omega) (by omega) _ _ hP hD hS _ (lv_sub hl [1, 2, 3, 0] rfl)
