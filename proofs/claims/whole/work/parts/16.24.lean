set_option maxHeartbeats 4000000 in
set_option maxRecDepth 100000 in
theorem c_X7_chain (l : Launch) (D : va_G) (cy : qT) (g : Nat → Nat) (S : qS) (K : qS) (hI : Inv S) (a : Int32) (d : Int32) (sz : Nat) : Met l yX7_chain wsX7_chain ({ frames := 4, cells := 0, slots := 0, locals := 98 }) (va_Pc [.ref (g 0), .int a, .int d] (wrB D cy (wM cy g S K) sz)) (va_Qi (fun (r9 : Int32) (u : qS × qS) => mO (th2 (inI a (nI 0) (nI 11)) (inI d (nI 0) (nI 1000))) (chI S (nv (S 4 (nv d))) (nv a)) S S r9 u) (wrQ D (va_A (wM cy g S K) sz) (fun u : qS × qS => wM cy g u.1 u.2)) (va_A (wM cy g S K) sz)) 0 0 (va_A (wM cy g S K) sz) := by
  refine Met.ofW (cc := cX7_chain) (maxL := 5) (ret := (some .int)) (by decide) rfl ?_
  intro pp e9 s m9 args9 bl9 meth9 c9 s9 B hml hv
  obtain ⟨rfl, hsz, hP, hG, hD0⟩ := hv
  have hx := B.exec
  have hb := B.bytes
  have hr := B.returns
  have hts := atoms_spec (ws := wsX7_chain) B.pre
  have hown : s.vm.findClass RX7 = some m9.cls := findClass_of_methodNamed B.named
  have hlocks := B.notSynchronized
  have hK := hG.K
  subst hsz
  have hD := hD0.self (sz := s.heap.size)
  generalize hAe : (va_A (wM cy g S K) s.heap.size) = A at hD ⊢
  have hA : ∀ q : Nat, s.heap.size ≤ q → A q := fun q h9 => by rw [← hAe]; exact Or.inr h9
  have hS : va_S A s.heap s.heap [] := va_S.rf
  have hP : va_P D vwCl (wM cy g S K) s.heap := hP
  have f_74 := hts (.fieldLink RX7 74 "CastDeskModel" "thrown" "I") (by decide +kernel)
  have f_7 := hts (.fieldLink RX7 7 "CastDeskModel" "parts" "I") (by decide +kernel)
  have f_68 := hts (.fieldLink RX7 68 "CastDeskModel" "cast" "[I") (by decide +kernel)
  have f_71 := hts (.fieldLink RX7 71 "CastDeskModel" "before" "[I") (by decide +kernel)
  have iX7 : ∀ w ∈ wsX70, w ∈ wsX7_chain := by decide +kernel
  have hl := lv_entry ([.ref (g 0), .int a, .int d]) (n := 5) (Nat.le_of_ble_eq_true rfl)
  rw [lg_entry_eq]
  generalize (lg_sl ([.ref (g 0), .int a, .int d]) ++ List.replicate (5 - (lg_sl ([.ref (g 0), .int a, .int d])).length) Slot.unset).toArray = ls at hl ⊢
  have hl : lv_has ls 5 [(0, .ref (g 0)), (1, .int a), (2, .int d)] := hl
  have h27 := (iv_27 hI).1.2
  refine lv_aload_n hx hb dX7_chain_0 rfl (lv_at hl 0 rfl) ?_
  refine lv_iconst (v := nI 0) hx hb dX7_chain_1 (by decide) ?_
  refine va_put (D := D) (ci := 7) (v := .int (nI 0)) (ty := .int) (C := RX7) (T := TX7) (N := 29) hx hb hts iX7 tyX7 tyX7_ok nmX7 hown hK hP hD hS 0 rfl rfl 28 (by decide) f_74 (fun _ h9 => h9) rfl (by decide +kernel) rfl rfl (Nat.le_of_ble_eq_true rfl) dX7_chain_2 (fun H locs hP hD hS => ?_)
  have hP : va_P D vwCl (wM cy g S (va_up K 28 (fun _ => nI 0))) H := hP
  have hD : va_D A (wM cy g S (va_up K 28 (fun _ => nI 0))) := hD
  refine lv_iload_n hx hb dX7_chain_5 rfl (lv_at hl 1 rfl) ?_
  have M_6 := c_X7_isActor l a
  refine cd_roi (va_runS (As := [.int a]) (rest := []) ⟨hx, hb, hml, hown, hts⟩ M_6 (va_cwS 1 hts gX7_chain_X7_isActor rfl rfl rfl (by decide +kernel) ⟨Nat.le_of_ble_eq_true rfl, Nat.le_of_ble_eq_true rfl⟩) ⟨nuB.bl, fun U hU hW => ⟨rfl, trivial⟩⟩ rfl rfl hl.1 rfl (lv_room (Nat.le_of_ble_eq_true rfl)) dX7_chain_6 (by exact ⟨Nat.zero_le _, Nat.zero_le _⟩)) (fun r_6 hr_6 => ?_)
  subst hr_6
  refine cd_ifB_ne (tgt := 18) hx hb dX7_chain_9 (by decide) (fun c_9 => ?_) (fun c_9 => ?_)
  · obtain ⟨ja, hja, rfl⟩ := inI_nat (by decide) c_9
    try rw [nv_nI (show ja < 2147483648 by omega)]
    refine lv_iload_n hx hb dX7_chain_18 rfl (lv_at hl 2 rfl) ?_
    have M_19 := c_X7_isDay l d
    refine cd_roi (va_runS (As := [.int d]) (rest := []) ⟨hx, hb, hml, hown, hts⟩ M_19 (va_cwS 1 hts gX7_chain_X7_isDay rfl rfl rfl (by decide +kernel) ⟨Nat.le_of_ble_eq_true rfl, Nat.le_of_ble_eq_true rfl⟩) ⟨nuB.bl, fun U hU hW => ⟨rfl, trivial⟩⟩ rfl rfl hl.1 rfl (lv_room (Nat.le_of_ble_eq_true rfl)) dX7_chain_19 (by exact ⟨Nat.zero_le _, Nat.zero_le _⟩)) (fun r_19 hr_19 => ?_)
    subst hr_19
    refine cd_ifB_ne (tgt := 31) hx hb dX7_chain_22 (by decide) (fun c_22 => ?_) (fun c_22 => ?_)
    · obtain ⟨jd, hjd, rfl⟩ := inI_nat (by decide) c_22
      try rw [nv_nI (show jd < 2147483648 by omega)]
      refine lv_aload_n hx hb dX7_chain_31 rfl (lv_at hl 0 rfl) ?_
      refine lv_iload_n hx hb dX7_chain_32 rfl (lv_at hl 2 rfl) ?_
      refine lv_iconst (v := (-1)) hx hb dX7_chain_33 (by decide) ?_
      have M_34 := c_X7_lay l D cy g S (va_up K 28 (fun _ => nI 0)) hI jd (-1) (nv (S 4 jd)) (by omega) (hm_0 _) H.size
      refine cd_fri (S := Unit) (W1 := fun u => (wM cy g S (va_up (va_up (va_up (va_up (va_up K 28 (fun _ => nI 0)) 23 (abF S (nv (S 4 jd)) ((va_up K 28 (fun _ => nI 0)) 23) (nv (S 27 0) * 4))) 26 (fun _ => bcS S (nv (S 4 jd)))) 27 (fun _ => bcW S (nv (S 4 jd)))) 24 (caF S (nv (S 4 jd)) ((va_up K 28 (fun _ => nI 0)) 24))))) (ws' := fun u => (wM cy g S (va_up (va_up (va_up (va_up (va_up K 28 (fun _ => nI 0)) 23 (abF S (nv (S 4 jd)) ((K 23)) (nv (S 27 0) * 4))) 26 (fun _ => bcS S (nv (S 4 jd)))) 27 (fun _ => bcW S (nv (S 4 jd)))) 24 (caF S (nv (S 4 jd)) ((K 24)))))) (wc := (wM cy g S (va_up K 28 (fun _ => nI 0)))) (wr := []) (va_runV (As := [.int (nI jd), .int (-1)]) (rest := []) ⟨hx, hb, hml, hown, hts⟩ M_34 (cwV 2 hts gX7_chain_X7_lay rfl rfl rfl (by decide +kernel) ⟨Nat.le_of_ble_eq_true rfl, Nat.le_of_ble_eq_true rfl⟩) ⟨wrB.bl, va_recv hK hP (ci := 7) (q0 := 0) rfl rfl, fun U hU hW => ⟨rfl, by rw [hU], by rw [hU]; exact hP, hG.warm hW, hD.weaken (fun _ _ _ _ => trivial)⟩⟩ rfl rfl hl.1 rfl (lv_room (Nat.le_of_ble_eq_true rfl)) dX7_chain_34 (by exact ⟨Nat.zero_le _, Nat.zero_le _⟩)) hP hD hS hA [0, 1, 2, 3, 4, 5, 6, 7, 8, 9, 10, 11, 12, 13, 14, 15, 16, 17, 18, 19, 20] [] [0, 1, 2, 3, 4, 5, 6, 7, 8, 9, 10, 11, 12, 13, 14, 15, 16, 17, 18, 19, 20] rfl rfl (by decide) (by decide) (by decide) (fun _ => rfl) (fun r_34 _ H locs hw_34 hP hD hS => ?_)
      subst hw_34
      have hP : va_P D vwCl (wM cy g S (va_up (va_up (va_up (va_up (va_up K 28 (fun _ => nI 0)) 23 (abF S (nv (S 4 jd)) ((K 23)) (nv (S 27 0) * 4))) 26 (fun _ => bcS S (nv (S 4 jd)))) 27 (fun _ => bcW S (nv (S 4 jd)))) 24 (caF S (nv (S 4 jd)) ((K 24))))) H := hP
      have hD : va_D A (wM cy g S (va_up (va_up (va_up (va_up (va_up K 28 (fun _ => nI 0)) 23 (abF S (nv (S 4 jd)) ((K 23)) (nv (S 27 0) * 4))) 26 (fun _ => bcS S (nv (S 4 jd)))) 27 (fun _ => bcW S (nv (S 4 jd)))) 24 (caF S (nv (S 4 jd)) ((K 24))))) := hD
      refine cd_ifB_ne (tgt := 42) hx hb dX7_chain_37 (by decide) (fun c_37 => ?_) (fun c_37 => ?_)
      · obtain ⟨b, hb0⟩ := bc_is c_37
        refine lv_iconst (v := nI 0) hx hb dX7_chain_42 (by decide) ?_
        refine lv_istore_n (lv' := [(3, .int (nI 0)), (0, .ref (g 0)), (1, .int (nI ja)), (2, .int (nI jd))]) hx hb dX7_chain_43 rfl hl (by decide) rfl (fun ls hl => ?_)
        have e0 : bfF (caF S (nv (S 4 jd)) (K 24)) (K 25) 0 = K 25 := bfF_0 _ _
        refine wh1 (nL := 5) (fun (r : Nat) => r ≤ 8) (fun (r : Nat) => 8 - r) (fun (r : Nat) => [(0, .ref (g 0)), (1, .int (nI ja)), (2, .int (nI jd)), (3, .int (nI r))]) (fun (r : Nat) => (wM cy g S (va_up (va_up (va_up (va_up (va_up (va_up K 28 (fun _ => nI 0)) 23 (abF S (nv (S 4 jd)) ((K 23)) (nv (S 27 0) * 4))) 26 (fun _ => bcS S (nv (S 4 jd)))) 27 (fun _ => bcW S (nv (S 4 jd)))) 24 (caF S (nv (S 4 jd)) ((K 24)))) 25 (bfF (caF S (nv (S 4 jd)) (K 24)) (K 25) r)))) (fun r hi_44 ih_44 H locs hP hD hS ls hl => ?_) 0 (Nat.zero_le _) (by rw [e0]; exact hP) (by rw [e0]; exact hD) hS (lv_sub hl [1, 2, 3, 0] rfl)
        have hP : va_P D vwCl (wM cy g S (va_up (va_up (va_up (va_up (va_up (va_up K 28 (fun _ => nI 0)) 23 (abF S (nv (S 4 jd)) ((K 23)) (nv (S 27 0) * 4))) 26 (fun _ => bcS S (nv (S 4 jd)))) 27 (fun _ => bcW S (nv (S 4 jd)))) 24 (caF S (nv (S 4 jd)) ((K 24)))) 25 (bfF (caF S (nv (S 4 jd)) (K 24)) (K 25) r))) H := hP
        have hD : va_D A (wM cy g S (va_up (va_up (va_up (va_up (va_up (va_up K 28 (fun _ => nI 0)) 23 (abF S (nv (S 4 jd)) ((K 23)) (nv (S 27 0) * 4))) 26 (fun _ => bcS S (nv (S 4 jd)))) 27 (fun _ => bcW S (nv (S 4 jd)))) 24 (caF S (nv (S 4 jd)) ((K 24)))) 25 (bfF (caF S (nv (S 4 jd)) (K 24)) (K 25) r))) := hD
        refine lv_iload_n hx hb dX7_chain_44 rfl (lv_at hl 3 rfl) ?_
        refine lv_bipush (v := nI 8) hx hb dX7_chain_45 (by decide) ?_
        refine cd_icmp_ge (tgt := 68) hx hb dX7_chain_47 (by decide) (by omega) (by omega) (fun c_47 => ?_) (fun c_47 => ?_)
        · have er : r = 8 := by omega
          subst er
          have hP : va_P D vwCl (wM cy g S (va_up (va_up (va_up (va_up (va_up (va_up K 28 (fun _ => nI 0)) 23 (abF S (nv (S 4 jd)) ((K 23)) (nv (S 27 0) * 4))) 26 (fun _ => bcS S (nv (S 4 jd)))) 27 (fun _ => bcW S (nv (S 4 jd)))) 24 (caF S (nv (S 4 jd)) ((K 24)))) 25 (bfF (caF S (nv (S 4 jd)) (K 24)) (K 25) 8))) H := hP
          have hD : va_D A (wM cy g S (va_up (va_up (va_up (va_up (va_up (va_up K 28 (fun _ => nI 0)) 23 (abF S (nv (S 4 jd)) ((K 23)) (nv (S 27 0) * 4))) 26 (fun _ => bcS S (nv (S 4 jd)))) 27 (fun _ => bcW S (nv (S 4 jd)))) 24 (caF S (nv (S 4 jd)) ((K 24)))) 25 (bfF (caF S (nv (S 4 jd)) (K 24)) (K 25) 8))) := hD
          refine lv_aload_n hx hb dX7_chain_68 rfl (lv_at hl 0 rfl) ?_
          refine lv_iload_n hx hb dX7_chain_69 rfl (lv_at hl 2 rfl) ?_
          refine lv_iload_n hx hb dX7_chain_70 rfl (lv_at hl 1 rfl) ?_
          have M_71 := c_X7_lay l D cy g S (va_up (va_up (va_up (va_up (va_up (va_up K 28 (fun _ => nI 0)) 23 (abF S (nv (S 4 jd)) ((K 23)) (nv (S 27 0) * 4))) 26 (fun _ => bcS S (nv (S 4 jd)))) 27 (fun _ => bcW S (nv (S 4 jd)))) 24 (caF S (nv (S 4 jd)) ((K 24)))) 25 (bfF (caF S (nv (S 4 jd)) (K 24)) (K 25) 8)) hI jd (nI ja) (nv (S 4 jd) ||| 2 ^ ja) (by omega) (hm_1 _ (by omega)) H.size
          refine cd_fri (S := Unit) (W1 := fun u => (wM cy g S (va_up (va_up (va_up (va_up (va_up (va_up (va_up (va_up (va_up (va_up K 28 (fun _ => nI 0)) 23 (abF S (nv (S 4 jd)) ((K 23)) (nv (S 27 0) * 4))) 26 (fun _ => bcS S (nv (S 4 jd)))) 27 (fun _ => bcW S (nv (S 4 jd)))) 24 (caF S (nv (S 4 jd)) ((K 24)))) 25 (bfF (caF S (nv (S 4 jd)) (K 24)) (K 25) 8)) 23 (abF S (nv (S 4 jd) ||| 2 ^ ja) ((va_up (va_up (va_up (va_up (va_up (va_up K 28 (fun _ => nI 0)) 23 (abF S (nv (S 4 jd)) ((K 23)) (nv (S 27 0) * 4))) 26 (fun _ => bcS S (nv (S 4 jd)))) 27 (fun _ => bcW S (nv (S 4 jd)))) 24 (caF S (nv (S 4 jd)) ((K 24)))) 25 (bfF (caF S (nv (S 4 jd)) (K 24)) (K 25) 8)) 23) (nv (S 27 0) * 4))) 26 (fun _ => bcS S (nv (S 4 jd) ||| 2 ^ ja))) 27 (fun _ => bcW S (nv (S 4 jd) ||| 2 ^ ja))) 24 (caF S (nv (S 4 jd) ||| 2 ^ ja) ((va_up (va_up (va_up (va_up (va_up (va_up K 28 (fun _ => nI 0)) 23 (abF S (nv (S 4 jd)) ((K 23)) (nv (S 27 0) * 4))) 26 (fun _ => bcS S (nv (S 4 jd)))) 27 (fun _ => bcW S (nv (S 4 jd)))) 24 (caF S (nv (S 4 jd)) ((K 24)))) 25 (bfF (caF S (nv (S 4 jd)) (K 24)) (K 25) 8)) 24))))) (ws' := fun u => (wM cy g S (va_up (va_up (va_up (va_up (va_up (va_up K 28 (fun _ => nI 0)) 23 (abF S (nv (S 4 jd) ||| 2 ^ ja) ((abF S (nv (S 4 jd)) ((K 23)) (nv (S 27 0) * 4))) (nv (S 27 0) * 4))) 26 (fun _ => bcS S (nv (S 4 jd) ||| 2 ^ ja))) 27 (fun _ => bcW S (nv (S 4 jd) ||| 2 ^ ja))) 24 (caF S (nv (S 4 jd) ||| 2 ^ ja) ((caF S (nv (S 4 jd)) ((K 24)))))) 25 (bfF (caF S (nv (S 4 jd)) (K 24)) (K 25) 8)))) (wc := (wM cy g S (va_up (va_up (va_up (va_up (va_up (va_up K 28 (fun _ => nI 0)) 23 (abF S (nv (S 4 jd)) ((K 23)) (nv (S 27 0) * 4))) 26 (fun _ => bcS S (nv (S 4 jd)))) 27 (fun _ => bcW S (nv (S 4 jd)))) 24 (caF S (nv (S 4 jd)) ((K 24)))) 25 (bfF (caF S (nv (S 4 jd)) (K 24)) (K 25) 8)))) (wr := []) (va_runV (As := [.int (nI jd), .int (nI ja)]) (rest := []) ⟨hx, hb, hml, hown, hts⟩ M_71 (cwV 2 hts gX7_chain_X7_lay rfl rfl rfl (by decide +kernel) ⟨Nat.le_of_ble_eq_true rfl, Nat.le_of_ble_eq_true rfl⟩) ⟨wrB.bl, va_recv hK hP (ci := 7) (q0 := 0) rfl rfl, fun U hU hW => ⟨rfl, by rw [hU], by rw [hU]; exact hP, hG.warm hW, hD.weaken (fun _ _ _ _ => trivial)⟩⟩ rfl rfl hl.1 rfl (lv_room (Nat.le_of_ble_eq_true rfl)) dX7_chain_71 (by exact ⟨Nat.zero_le _, Nat.zero_le _⟩)) hP hD hS hA [0, 1, 2, 3, 4, 5, 6, 7, 8, 9, 10, 11, 12, 13, 14, 15, 16, 17, 18, 19, 20] [] [0, 1, 2, 3, 4, 5, 6, 7, 8, 9, 10, 11, 12, 13, 14, 15, 16, 17, 18, 19, 20] rfl rfl (by decide) (by decide) (by decide) (fun _ => rfl) (fun r_71 _ H locs hw_71 hP hD hS => ?_)
          subst hw_71
          have hP : va_P D vwCl (wM cy g S (va_up (va_up (va_up (va_up (va_up (va_up K 28 (fun _ => nI 0)) 23 (abF S (nv (S 4 jd) ||| 2 ^ ja) ((abF S (nv (S 4 jd)) ((K 23)) (nv (S 27 0) * 4))) (nv (S 27 0) * 4))) 26 (fun _ => bcS S (nv (S 4 jd) ||| 2 ^ ja))) 27 (fun _ => bcW S (nv (S 4 jd) ||| 2 ^ ja))) 24 (caF S (nv (S 4 jd) ||| 2 ^ ja) ((caF S (nv (S 4 jd)) ((K 24)))))) 25 (bfF (caF S (nv (S 4 jd)) (K 24)) (K 25) 8))) H := hP
          have hD : va_D A (wM cy g S (va_up (va_up (va_up (va_up (va_up (va_up K 28 (fun _ => nI 0)) 23 (abF S (nv (S 4 jd) ||| 2 ^ ja) ((abF S (nv (S 4 jd)) ((K 23)) (nv (S 27 0) * 4))) (nv (S 27 0) * 4))) 26 (fun _ => bcS S (nv (S 4 jd) ||| 2 ^ ja))) 27 (fun _ => bcW S (nv (S 4 jd) ||| 2 ^ ja))) 24 (caF S (nv (S 4 jd) ||| 2 ^ ja) ((caF S (nv (S 4 jd)) ((K 24)))))) 25 (bfF (caF S (nv (S 4 jd)) (K 24)) (K 25) 8))) := hD
          refine cd_ifB_ne (tgt := 79) hx hb dX7_chain_74 (by decide) (fun c_74 => ?_) (fun c_74 => ?_)
          · obtain ⟨z, hz0⟩ := bc_is c_74
            refine lv_iconst (v := nI 0) hx hb dX7_chain_79 (by decide) ?_
            refine lv_istore_n (lv' := [(3, .int (nI 0)), (0, .ref (g 0)), (1, .int (nI ja)), (2, .int (nI jd))]) hx hb dX7_chain_80 rfl hl (by decide) rfl (fun ls hl => ?_)
            refine lv_iconst (v := nI 0) hx hb dX7_chain_81 (by decide) ?_
            refine lv_istore (lv' := [(4, .int (nI 0)), (3, .int (nI 0)), (0, .ref (g 0)), (1, .int (nI ja)), (2, .int (nI jd))]) hx hb dX7_chain_82 hl (by decide) rfl (fun ls hl => ?_)
            refine wl1 (nL := 5) (fun (q : Nat) => q ≤ nv (S 27 0)) (fun (q : Nat) => nv (S 27 0) - q) (fun (q : Nat) => [(0, .ref (g 0)), (3, .int (nI (chN S b z q))), (4, .int (nI q))]) (fun q hi_84 ih_84 ls hl => ?_) 0 (Nat.zero_le _) (lv_sub hl [2, 1, 0] rfl)
            refine lv_iload hx hb dX7_chain_84 (lv_at hl 2 rfl) ?_
            refine lv_aload_n hx hb dX7_chain_86 rfl (lv_at hl 0 rfl) ?_
            refine va_get (D := D) (ci := 7) (v := .int (S 27 0)) (C := RX7) (T := TX7) (N := 29) hx hb hts iX7 hown hK hP 0 rfl rfl 0 (by decide) f_7 (fun _ h9 => h9) rfl dX7_chain_87 ?_
            have b_87 := (iv_27 hI).1
            refine cd_tp (y := nI (nv (S 27 0))) b_87.1 ?_
            have b_87 := b_87.2
            refine cd_icmp_ge (tgt := 124) hx hb dX7_chain_90 (by decide) (by omega) (by omega) (fun c_90 => ?_) (fun c_90 => ?_)
            · refine lv_iload_n hx hb dX7_chain_124 rfl (lv_at hl 1 rfl) ?_
              exact W.iret (v := nI (chN S b z q)) hx hb hr (fun t ht hW => ⟨⟨nI (chN S b z q), (_, (va_up (va_up (va_up (va_up (va_up (va_up K 28 (fun _ => nI 0)) 23 (abF S (nv (S 4 jd) ||| 2 ^ ja) ((abF S (nv (S 4 jd)) ((K 23)) (nv (S 27 0) * 4))) (nv (S 27 0) * 4))) 26 (fun _ => bcS S (nv (S 4 jd) ||| 2 ^ ja))) 27 (fun _ => bcW S (nv (S 4 jd) ||| 2 ^ ja))) 24 (caF S (nv (S 4 jd) ||| 2 ^ ja) ((caF S (nv (S 4 jd)) ((K 24)))))) 25 (bfF (caF S (nv (S 4 jd)) (K 24)) (K 25) 8))), rfl, mO_ok (by rw [c_9, c_22]; rfl) (by rw [chI_3 hb0 hz0, show q = nv (S 27 0) by omega]) rfl, by rw [ht]; exact hP, hD⟩, hS.F ht⟩) hS.2.2 dX7_chain_125
            · refine lv_iload_n hx hb dX7_chain_93 rfl (lv_at hl 1 rfl) ?_
              refine lv_aload_n hx hb dX7_chain_94 rfl (lv_at hl 0 rfl) ?_
              refine va_get (D := D) (ci := 7) (v := .ref (g 24)) (C := RX7) (T := TX7) (N := 29) hx hb hts iX7 hown hK hP 0 rfl rfl 24 (by decide) f_68 (fun _ h9 => h9) rfl dX7_chain_95 ?_
              refine lv_iload hx hb dX7_chain_98 (lv_at hl 2 rfl) ?_
              refine cd_iald (f := caF S (nv (S 4 jd) ||| 2 ^ ja) ((caF S (nv (S 4 jd)) ((K 24))))) hx hb hK hP 19 rfl (by omega) (by decide) dX7_chain_100 ?_
              refine cd_tp (y := bcA S (nv (S 4 jd) ||| 2 ^ ja) q) (caF_at (by omega)) ?_
              refine lv_aload_n hx hb dX7_chain_101 rfl (lv_at hl 0 rfl) ?_
              refine va_get (D := D) (ci := 7) (v := .ref (g 25)) (C := RX7) (T := TX7) (N := 29) hx hb hts iX7 hown hK hP 0 rfl rfl 25 (by decide) f_71 (fun _ h9 => h9) rfl dX7_chain_102 ?_
              refine lv_iload hx hb dX7_chain_105 (lv_at hl 2 rfl) ?_
              refine cd_iald (f := bfF (caF S (nv (S 4 jd)) (K 24)) (K 25) 8) hx hb hK hP 20 rfl (by omega) (by decide) dX7_chain_107 ?_
              refine cd_tp (y := bcA S (nv (S 4 jd)) q) ((bfF_at (by omega)).trans (caF_at (by omega))) ?_
              refine lv_icmp_ne (tgt := 115) hx hb dX7_chain_108 (by decide) (fun c_108 => ?_) (fun c_108 => ?_)
              · refine lv_iconst (v := nI 1) hx hb dX7_chain_115 (by decide) ?_
                refine cd_iadd hx hb dX7_chain_116 ?_
                refine lv_istore_n (lv' := [(3, .int (nI ((chN S b z q) + 1))), (0, .ref (g 0)), (4, .int (nI q))]) hx hb dX7_chain_117 rfl hl (by decide) rfl (fun ls hl => ?_)
                refine lv_iinc (v := nI (q + 1)) (lv' := [(4, .int (nI (q + 1))), (3, .int (nI ((chN S b z q) + 1))), (0, .ref (g 0))]) hx hb dX7_chain_118 hl (k := 2) rfl (cd_i1 _) (by decide) rfl (fun ls hl => ?_)
                refine lv_goto (tgt := 84) hx hb dX7_chain_121 (by decide) ?_
                have hl : lv_has ls 5 [(4, .int (nI (q + 1))), (3, .int (nI (chN S b z (q + 1)))), (0, .ref (g 0))] := Eq.mp (congrArg (fun z9 : Int32 => lv_has ls 5 [(4, .int (nI (q + 1))), (3, .int z9), (0, .ref (g 0))]) (show (nI ((chN S b z q) + 1) : Int32) = nI (chN S b z (q + 1)) from congrArg nI (ch_n hb0 hz0 (by omega) c_108))) hl
                exact ih_84 (q + 1) (by omega) (by omega) _ (lv_sub hl [2, 1, 0] rfl)
              · refine lv_iconst (v := nI 0) hx hb dX7_chain_111 (by decide) ?_
                refine lv_goto (tgt := 116) hx hb dX7_chain_112 (by decide) ?_
                refine cd_iadd hx hb dX7_chain_116 ?_
                refine lv_istore_n (lv' := [(3, .int (nI ((chN S b z q) + 0))), (0, .ref (g 0)), (4, .int (nI q))]) hx hb dX7_chain_117 rfl hl (by decide) rfl (fun ls hl => ?_)
                refine lv_iinc (v := nI (q + 1)) (lv' := [(4, .int (nI (q + 1))), (3, .int (nI ((chN S b z q) + 0))), (0, .ref (g 0))]) hx hb dX7_chain_118 hl (k := 2) rfl (cd_i1 _) (by decide) rfl (fun ls hl => ?_)
                refine lv_goto (tgt := 84) hx hb dX7_chain_121 (by decide) ?_
                have hl : lv_has ls 5 [(4, .int (nI (q + 1))), (3, .int (nI (chN S b z (q + 1)))), (0, .ref (g 0))] := Eq.mp (congrArg (fun z9 : Int32 => lv_has ls 5 [(4, .int (nI (q + 1))), (3, .int z9), (0, .ref (g 0))]) (show (nI ((chN S b z q) + 0) : Int32) = nI (chN S b z (q + 1)) from congrArg nI (ch_e hb0 hz0 (by omega) c_108))) hl
                exact ih_84 (q + 1) (by omega) (by omega) _ (lv_sub hl [2, 1, 0] rfl)
          · refine lv_iconst (v := (-1)) hx hb dX7_chain_77 (by decide) ?_
            exact W.iret (v := (-1)) hx hb hr (fun t ht hW => ⟨⟨(-1), (_, (va_up (va_up (va_up (va_up (va_up (va_up K 28 (fun _ => nI 0)) 23 (abF S (nv (S 4 jd) ||| 2 ^ ja) ((abF S (nv (S 4 jd)) ((K 23)) (nv (S 27 0) * 4))) (nv (S 27 0) * 4))) 26 (fun _ => bcS S (nv (S 4 jd) ||| 2 ^ ja))) 27 (fun _ => bcW S (nv (S 4 jd) ||| 2 ^ ja))) 24 (caF S (nv (S 4 jd) ||| 2 ^ ja) ((caF S (nv (S 4 jd)) ((K 24)))))) 25 (bfF (caF S (nv (S 4 jd)) (K 24)) (K 25) 8))), rfl, mO_ok (by rw [c_9, c_22]; rfl) ((chI_2 hb0 (bc_isn c_74)).symm) rfl, by rw [ht]; exact hP, hD⟩, hS.F ht⟩) hS.2.2 dX7_chain_78
        · refine lv_aload_n hx hb dX7_chain_50 rfl (lv_at hl 0 rfl) ?_
          refine va_get (D := D) (ci := 7) (v := .ref (g 25)) (C := RX7) (T := TX7) (N := 29) hx hb hts iX7 hown hK hP 0 rfl rfl 25 (by decide) f_71 (fun _ h9 => h9) rfl dX7_chain_51 ?_
          refine lv_iload_n hx hb dX7_chain_54 rfl (lv_at hl 3 rfl) ?_
          refine lv_aload_n hx hb dX7_chain_55 rfl (lv_at hl 0 rfl) ?_
          refine va_get (D := D) (ci := 7) (v := .ref (g 24)) (C := RX7) (T := TX7) (N := 29) hx hb hts iX7 hown hK hP 0 rfl rfl 24 (by decide) f_68 (fun _ h9 => h9) rfl dX7_chain_56 ?_
          refine lv_iload_n hx hb dX7_chain_59 rfl (lv_at hl 3 rfl) ?_
          refine cd_iald (f := caF S (nv (S 4 jd)) ((K 24))) hx hb hK hP 19 rfl (by omega) (by decide) dX7_chain_60 ?_
          refine cd_iast (f := bfF (caF S (nv (S 4 jd)) (K 24)) (K 25) r) hx hb hK hP hD hS 20 rfl (by omega) (by decide) dX7_chain_61 (fun H locs hP hD hS => ?_)
          have hP : va_P D vwCl (wM cy g S (va_up (va_up (va_up (va_up (va_up (va_up K 28 (fun _ => nI 0)) 23 (abF S (nv (S 4 jd)) ((K 23)) (nv (S 27 0) * 4))) 26 (fun _ => bcS S (nv (S 4 jd)))) 27 (fun _ => bcW S (nv (S 4 jd)))) 24 (caF S (nv (S 4 jd)) ((K 24)))) 25 (upd (bfF (caF S (nv (S 4 jd)) (K 24)) (K 25) r) r ((caF S (nv (S 4 jd)) ((K 24))) r)))) H := hP
          have hD : va_D A (wM cy g S (va_up (va_up (va_up (va_up (va_up (va_up K 28 (fun _ => nI 0)) 23 (abF S (nv (S 4 jd)) ((K 23)) (nv (S 27 0) * 4))) 26 (fun _ => bcS S (nv (S 4 jd)))) 27 (fun _ => bcW S (nv (S 4 jd)))) 24 (caF S (nv (S 4 jd)) ((K 24)))) 25 (upd (bfF (caF S (nv (S 4 jd)) (K 24)) (K 25) r) r ((caF S (nv (S 4 jd)) ((K 24))) r)))) := hD
          have e_61 : (upd (bfF (caF S (nv (S 4 jd)) (K 24)) (K 25) r) r ((caF S (nv (S 4 jd)) ((K 24))) r)) = (bfF (caF S (nv (S 4 jd)) (K 24)) (K 25) (r + 1)) := bfF_s _ _ _
          rw [e_61] at hP hD
          have hP : va_P D vwCl (wM cy g S (va_up (va_up (va_up (va_up (va_up (va_up K 28 (fun _ => nI 0)) 23 (abF S (nv (S 4 jd)) ((K 23)) (nv (S 27 0) * 4))) 26 (fun _ => bcS S (nv (S 4 jd)))) 27 (fun _ => bcW S (nv (S 4 jd)))) 24 (caF S (nv (S 4 jd)) ((K 24)))) 25 (bfF (caF S (nv (S 4 jd)) (K 24)) (K 25) (r + 1)))) H := hP
          have hD : va_D A (wM cy g S (va_up (va_up (va_up (va_up (va_up (va_up K 28 (fun _ => nI 0)) 23 (abF S (nv (S 4 jd)) ((K 23)) (nv (S 27 0) * 4))) 26 (fun _ => bcS S (nv (S 4 jd)))) 27 (fun _ => bcW S (nv (S 4 jd)))) 24 (caF S (nv (S 4 jd)) ((K 24)))) 25 (bfF (caF S (nv (S 4 jd)) (K 24)) (K 25) (r + 1)))) := hD
          refine lv_iinc (v := nI (r + 1)) (lv' := [(3, .int (nI (r + 1))), (0, .ref (g 0)), (1, .int (nI ja)), (2, .int (nI jd))]) hx hb dX7_chain_62 hl (k := 3) rfl (cd_i1 _) (by decide) rfl (fun ls hl => ?_)
          refine lv_goto (tgt := 44) hx hb dX7_chain_65 (by decide) ?_
          exact ih_44 (r + 1) (by omega) (by omega) _ _ hP hD hS _ (lv_sub hl [1, 2, 3, 0] rfl)
      · refine lv_iconst (v := (-1)) hx hb dX7_chain_40 (by decide) ?_
        exact W.iret (v := (-1)) hx hb hr (fun t ht hW => ⟨⟨(-1), (_, (va_up (va_up (va_up (va_up (va_up K 28 (fun _ => nI 0)) 23 (abF S (nv (S 4 jd)) ((K 23)) (nv (S 27 0) * 4))) 26 (fun _ => bcS S (nv (S 4 jd)))) 27 (fun _ => bcW S (nv (S 4 jd)))) 24 (caF S (nv (S 4 jd)) ((K 24))))), rfl, mO_ok (by rw [c_9, c_22]; rfl) ((chI_1 (bc_isn c_37)).symm) rfl, by rw [ht]; exact hP, hD⟩, hS.F ht⟩) hS.2.2 dX7_chain_41
    · refine lv_aload_n hx hb dX7_chain_25 rfl (lv_at hl 0 rfl) ?_
      refine lv_iconst (v := nI 2) hx hb dX7_chain_26 (by decide) ?_
      have M_27 := c_X7_fails l D cy g S (va_up K 28 (fun _ => nI 0)) (nI 2) H.size
      refine cd_fri (S := Unit) (W1 := fun u => (wM cy g S (va_up (va_up K 28 (fun _ => nI 0)) 28 (fun _ => (nI 2))))) (ws' := fun u => (wM cy g S (va_up K 28 (fun _ => (nI 2))))) (wc := (wM cy g S (va_up K 28 (fun _ => nI 0)))) (wr := []) (va_runV (As := [.int (nI 2)]) (rest := []) ⟨hx, hb, hml, hown, hts⟩ M_27 (cwV 1 hts gX7_chain_X7_fails rfl rfl rfl (by decide +kernel) ⟨Nat.le_of_ble_eq_true rfl, Nat.le_of_ble_eq_true rfl⟩) ⟨wrB.bl, va_recv hK hP (ci := 7) (q0 := 0) rfl rfl, fun U hU hW => ⟨rfl, by rw [hU], by rw [hU]; exact hP, hG.warm hW, hD.weaken (fun _ _ _ _ => trivial)⟩⟩ rfl rfl hl.1 rfl (lv_room (Nat.le_of_ble_eq_true rfl)) dX7_chain_27 (by exact ⟨Nat.zero_le _, Nat.zero_le _⟩)) hP hD hS hA [0, 1, 2, 3, 4, 5, 6, 7, 8, 9, 10, 11, 12, 13, 14, 15, 16, 17, 18, 19, 20] [] [0, 1, 2, 3, 4, 5, 6, 7, 8, 9, 10, 11, 12, 13, 14, 15, 16, 17, 18, 19, 20] rfl rfl (by decide) (by decide) (by decide) (fun _ => rfl) (fun r_27 _ H locs hw_27 hP hD hS => ?_)
      subst hw_27
      have hP : va_P D vwCl (wM cy g S (va_up K 28 (fun _ => (nI 2)))) H := hP
      have hD : va_D A (wM cy g S (va_up K 28 (fun _ => (nI 2)))) := hD
      exact W.iret (v := nI 0) hx hb hr (fun t ht hW => ⟨⟨nI 0, (S, (va_up K 28 (fun _ => (nI 2)))), rfl, mO_no (k := 2) (by decide) (by decide) (by rw [c_9, c_22]; rfl) rfl, by rw [ht]; exact hP, hD⟩, hS.F ht⟩) hS.2.2 dX7_chain_30
  · refine lv_aload_n hx hb dX7_chain_12 rfl (lv_at hl 0 rfl) ?_
    refine lv_iconst (v := nI 1) hx hb dX7_chain_13 (by decide) ?_
    have M_14 := c_X7_fails l D cy g S (va_up K 28 (fun _ => nI 0)) (nI 1) H.size
    refine cd_fri (S := Unit) (W1 := fun u => (wM cy g S (va_up (va_up K 28 (fun _ => nI 0)) 28 (fun _ => (nI 1))))) (ws' := fun u => (wM cy g S (va_up K 28 (fun _ => (nI 1))))) (wc := (wM cy g S (va_up K 28 (fun _ => nI 0)))) (wr := []) (va_runV (As := [.int (nI 1)]) (rest := []) ⟨hx, hb, hml, hown, hts⟩ M_14 (cwV 1 hts gX7_chain_X7_fails rfl rfl rfl (by decide +kernel) ⟨Nat.le_of_ble_eq_true rfl, Nat.le_of_ble_eq_true rfl⟩) ⟨wrB.bl, va_recv hK hP (ci := 7) (q0 := 0) rfl rfl, fun U hU hW => ⟨rfl, by rw [hU], by rw [hU]; exact hP, hG.warm hW, hD.weaken (fun _ _ _ _ => trivial)⟩⟩ rfl rfl hl.1 rfl (lv_room (Nat.le_of_ble_eq_true rfl)) dX7_chain_14 (by exact ⟨Nat.zero_le _, Nat.zero_le _⟩)) hP hD hS hA [0, 1, 2, 3, 4, 5, 6, 7, 8, 9, 10, 11, 12, 13, 14, 15, 16, 17, 18, 19, 20] [] [0, 1, 2, 3, 4, 5, 6, 7, 8, 9, 10, 11, 12, 13, 14, 15, 16, 17, 18, 19, 20] rfl rfl (by decide) (by decide) (by decide) (fun _ => rfl) (fun r_14 _ H locs hw_14 hP hD hS => ?_)
    subst hw_14
    have hP : va_P D vwCl (wM cy g S (va_up K 28 (fun _ => (nI 1)))) H := hP
    have hD : va_D A (wM cy g S (va_up K 28 (fun _ => (nI 1)))) := hD
    exact W.iret (v := nI 0) hx hb hr (fun t ht hW => ⟨⟨nI 0, (S, (va_up K 28 (fun _ => (nI 1)))), rfl, mO_no (k := 1) (by decide) (by decide) (by rw [c_9]; rfl) rfl, by rw [ht]; exact hP, hD⟩, hS.F ht⟩) hS.2.2 dX7_chain_17
