set_option maxHeartbeats 4000000 in
set_option maxRecDepth 100000 in
theorem c_X7_keep (l : Launch) (D : va_G) (cy : qT) (g : Nat → Nat) (S : qS) (K : qS) (hI : Inv S) (c : Nat) (m : Nat) (hc : c < 65536) (hab : ∀ i, i < nv (S 27 0) * 4 → K 23 i = abI S m i) (hok : ok S m (dg (nv (S 27 0)) c) (nv (S 27 0)) = true) (sz : Nat) : Met l yX7_keep wsX7_keep ({ frames := 0, cells := 0, slots := 0, locals := 0 }) (va_Pc [.ref (g 0), .int (nI c)] (wrB D cy (wM cy g S K) sz)) (va_Qv (fun (u : Unit) => True) (wrQ D (va_A (wM cy g S K) sz) (fun u : Unit => (wM cy g S (va_up (va_up (va_up K 26 (fun _ => kpI (K 26 0) (K 27 0) (K 26 0) (sr (dg (nv (S 27 0)) c) (nv (S 27 0))) (wo S (dg (nv (S 27 0)) c) (nv (S 27 0))) (sr (dg (nv (S 27 0)) c) (nv (S 27 0))))) 27 (fun _ => kpI (K 26 0) (K 27 0) (K 27 0) (sr (dg (nv (S 27 0)) c) (nv (S 27 0))) (wo S (dg (nv (S 27 0)) c) (nv (S 27 0))) (wo S (dg (nv (S 27 0)) c) (nv (S 27 0))))) 24 (kpF (S 6) (K 24) (K 26 0) (K 27 0) (nv (S 27 0)) c (sr (dg (nv (S 27 0)) c) (nv (S 27 0))) (wo S (dg (nv (S 27 0)) c) (nv (S 27 0))) (nv (S 27 0))))))) (va_A (wM cy g S K) sz)) 0 0 (va_A (wM cy g S K) sz) := by
  refine Met.ofW (cc := cX7_keep) (maxL := 6) (ret := none) (by decide) rfl ?_
  intro pp e9 s m9 args9 bl9 meth9 c9 s9 B hml hv
  obtain ⟨rfl, hsz, hP, hG, hD0⟩ := hv
  have hx := B.exec
  have hb := B.bytes
  have hr := B.returns
  have hts := atoms_spec (ws := wsX7_keep) B.pre
  have hown : s.vm.findClass RX7 = some m9.cls := findClass_of_methodNamed B.named
  have hlocks := B.notSynchronized
  have hK := hG.K
  subst hsz
  have hD := hD0.self (sz := s.heap.size)
  generalize hAe : (va_A (wM cy g S K) s.heap.size) = A at hD ⊢
  have hA : ∀ q : Nat, s.heap.size ≤ q → A q := fun q h9 => by rw [← hAe]; exact Or.inr h9
  have hS : va_S A s.heap s.heap [] := va_S.rf
  have hP : va_P D vwCl (wM cy g S K) s.heap := hP
  have f_7 := hts (.fieldLink RX7 7 "CastDeskModel" "parts" "I") (by decide +kernel)
  have f_121 := hts (.fieldLink RX7 121 "CastDeskModel" "leastStrain" "I") (by decide +kernel)
  have f_124 := hts (.fieldLink RX7 124 "CastDeskModel" "leastWork" "I") (by decide +kernel)
  have f_68 := hts (.fieldLink RX7 68 "CastDeskModel" "cast" "[I") (by decide +kernel)
  have f_20 := hts (.fieldLink RX7 20 "CastDeskModel" "rows" "[I") (by decide +kernel)
  have f_65 := hts (.fieldLink RX7 65 "CastDeskModel" "able" "[I") (by decide +kernel)
  have iX7 : ∀ w ∈ wsX70, w ∈ wsX7_keep := by decide +kernel
  have hl := lv_entry ([.ref (g 0), .int (nI c)]) (n := 6) (Nat.le_of_ble_eq_true rfl)
  rw [lg_entry_eq]
  generalize (lg_sl ([.ref (g 0), .int (nI c)]) ++ List.replicate (6 - (lg_sl ([.ref (g 0), .int (nI c)])).length) Slot.unset).toArray = ls at hl ⊢
  have hl : lv_has ls 6 [(0, .ref (g 0)), (1, .int (nI c))] := hl
  have h27 := (iv_27 hI).1.2
  have hs24 := sr_le (c := dg (nv (S 27 0)) c) (k := nv (S 27 0)) (fun p _ => dg_lt _ c p)
  have hw8 := wo_le S (dg (nv (S 27 0)) c) (nv (S 27 0))
  refine lv_iconst (v := nI 0) hx hb dX7_keep_0 (by decide) ?_
  refine lv_istore_n (lv' := [(2, .int (nI 0)), (0, .ref (g 0)), (1, .int (nI c))]) hx hb dX7_keep_1 rfl hl (by decide) rfl (fun ls hl => ?_)
  refine lv_iconst (v := nI 0) hx hb dX7_keep_2 (by decide) ?_
  refine lv_istore_n (lv' := [(3, .int (nI 0)), (2, .int (nI 0)), (0, .ref (g 0)), (1, .int (nI c))]) hx hb dX7_keep_3 rfl hl (by decide) rfl (fun ls hl => ?_)
  refine lv_iconst (v := nI 0) hx hb dX7_keep_4 (by decide) ?_
  refine lv_istore (lv' := [(4, .int (nI 0)), (3, .int (nI 0)), (2, .int (nI 0)), (0, .ref (g 0)), (1, .int (nI c))]) hx hb dX7_keep_5 hl (by decide) rfl (fun ls hl => ?_)
  refine wl1 (nL := 6) (fun (k : Nat) => k ≤ nv (S 27 0)) (fun (k : Nat) => nv (S 27 0) - k) (fun (k : Nat) => [(0, .ref (g 0)), (1, .int (nI c)), (2, .int (nI (sr (dg (nv (S 27 0)) c) k))), (3, .int (nI (wo S (dg (nv (S 27 0)) c) k))), (4, .int (nI k))]) (fun k hi_7 ih_7 ls hl => ?_) 0 (Nat.zero_le _) (lv_sub hl [3, 4, 2, 1, 0] rfl)
  have hdg := dg_lt (nv (S 27 0)) c k
  refine lv_iload hx hb dX7_keep_7 (lv_at hl 4 rfl) ?_
  refine lv_aload_n hx hb dX7_keep_9 rfl (lv_at hl 0 rfl) ?_
  refine va_get (D := D) (ci := 7) (v := .int (S 27 0)) (C := RX7) (T := TX7) (N := 29) hx hb hts iX7 hown hK hP 0 rfl rfl 0 (by decide) f_7 (fun _ h9 => h9) rfl dX7_keep_10 ?_
  have b_10 := (iv_27 hI).1
  refine cd_tp (y := nI (nv (S 27 0))) b_10.1 ?_
  have b_10 := b_10.2
  refine cd_icmp_ge (tgt := 61) hx hb dX7_keep_13 (by decide) (by omega) (by omega) (fun c_13 => ?_) (fun c_13 => ?_)
  · have ek : k = nv (S 27 0) := by omega
    subst ek
    refine lv_aload_n hx hb dX7_keep_61 rfl (lv_at hl 0 rfl) ?_
    refine va_get (D := D) (ci := 7) (v := .int (K 26 0)) (C := RX7) (T := TX7) (N := 29) hx hb hts iX7 hown hK hP 0 rfl rfl 26 (by decide) f_121 (fun _ h9 => h9) rfl dX7_keep_62 ?_
    refine lv_iconst (v := (-1)) hx hb dX7_keep_65 (by decide) ?_
    refine lv_icmp_eq (tgt := 93) hx hb dX7_keep_66 (by decide) (fun c_66 => ?_) (fun c_66 => ?_)
    · refine lv_iconst (v := nI 1) hx hb dX7_keep_93 (by decide) ?_
      refine lv_goto (tgt := 98) hx hb dX7_keep_94 (by decide) ?_
      refine lv_istore (lv' := [(4, .int (nI 1)), (0, .ref (g 0)), (1, .int (nI c)), (2, .int (nI (sr (dg (nv (S 27 0)) c) (nv (S 27 0))))), (3, .int (nI (wo S (dg (nv (S 27 0)) c) (nv (S 27 0)))))]) hx hb dX7_keep_98 hl (by decide) rfl (fun ls hl => ?_)
      refine lv_iload hx hb dX7_keep_100 (lv_at hl 0 rfl) ?_
      refine cd_if_eq (tgt := 165) hx hb dX7_keep_102 (by decide) (by omega) (fun c_102 => ?_) (fun c_102 => ?_)
      · exact absurd c_102 (by decide)
      · have hkp : kpB (K 26 0) (K 27 0) (sr (dg (nv (S 27 0)) c) (nv (S 27 0))) (wo S (dg (nv (S 27 0)) c) (nv (S 27 0))) = true := decide_eq_true (Or.inl c_66)
        refine lv_aload_n hx hb dX7_keep_105 rfl (lv_at hl 1 rfl) ?_
        refine lv_iload_n hx hb dX7_keep_106 rfl (lv_at hl 3 rfl) ?_
        refine va_put (D := D) (ci := 7) (v := .int (nI (sr (dg (nv (S 27 0)) c) (nv (S 27 0))))) (ty := .int) (C := RX7) (T := TX7) (N := 29) hx hb hts iX7 tyX7 tyX7_ok nmX7 hown hK hP hD hS 0 rfl rfl 26 (by decide) f_121 (fun _ h9 => h9) rfl (by decide +kernel) rfl rfl (Nat.le_of_ble_eq_true rfl) dX7_keep_107 (fun H locs hP hD hS => ?_)
        have hP : va_P D vwCl (wM cy g S (va_up K 26 (fun _ => nI (sr (dg (nv (S 27 0)) c) (nv (S 27 0)))))) H := hP
        have hD : va_D A (wM cy g S (va_up K 26 (fun _ => nI (sr (dg (nv (S 27 0)) c) (nv (S 27 0)))))) := hD
        refine lv_aload_n hx hb dX7_keep_110 rfl (lv_at hl 1 rfl) ?_
        refine lv_iload_n hx hb dX7_keep_111 rfl (lv_at hl 4 rfl) ?_
        refine va_put (D := D) (ci := 7) (v := .int (nI (wo S (dg (nv (S 27 0)) c) (nv (S 27 0))))) (ty := .int) (C := RX7) (T := TX7) (N := 29) hx hb hts iX7 tyX7 tyX7_ok nmX7 hown hK hP hD hS 0 rfl rfl 27 (by decide) f_124 (fun _ h9 => h9) rfl (by decide +kernel) rfl rfl (Nat.le_of_ble_eq_true rfl) dX7_keep_112 (fun H locs hP hD hS => ?_)
        have hP : va_P D vwCl (wM cy g S (va_up (va_up K 26 (fun _ => nI (sr (dg (nv (S 27 0)) c) (nv (S 27 0))))) 27 (fun _ => nI (wo S (dg (nv (S 27 0)) c) (nv (S 27 0)))))) H := hP
        have hD : va_D A (wM cy g S (va_up (va_up K 26 (fun _ => nI (sr (dg (nv (S 27 0)) c) (nv (S 27 0))))) 27 (fun _ => nI (wo S (dg (nv (S 27 0)) c) (nv (S 27 0)))))) := hD
        refine lv_iconst (v := nI 0) hx hb dX7_keep_115 (by decide) ?_
        refine lv_istore (lv' := [(5, .int (nI 0)), (4, .int (nI 1)), (0, .ref (g 0)), (1, .int (nI c)), (2, .int (nI (sr (dg (nv (S 27 0)) c) (nv (S 27 0))))), (3, .int (nI (wo S (dg (nv (S 27 0)) c) (nv (S 27 0)))))]) hx hb dX7_keep_116 hl (by decide) rfl (fun ls hl => ?_)
        have e0 : kpF (S 6) (K 24) (K 26 0) (K 27 0) (nv (S 27 0)) c (sr (dg (nv (S 27 0)) c) (nv (S 27 0))) (wo S (dg (nv (S 27 0)) c) (nv (S 27 0))) 0 = K 24 := kpF_0
        refine wh1 (nL := 6) (fun (q : Nat) => q ≤ nv (S 27 0)) (fun (q : Nat) => nv (S 27 0) - q) (fun (q : Nat) => [(0, .ref (g 0)), (1, .int (nI c)), (5, .int (nI q))]) (fun (q : Nat) => (wM cy g S (va_up (va_up (va_up K 26 (fun _ => nI (sr (dg (nv (S 27 0)) c) (nv (S 27 0))))) 27 (fun _ => nI (wo S (dg (nv (S 27 0)) c) (nv (S 27 0))))) 24 (kpF (S 6) (K 24) (K 26 0) (K 27 0) (nv (S 27 0)) c (sr (dg (nv (S 27 0)) c) (nv (S 27 0))) (wo S (dg (nv (S 27 0)) c) (nv (S 27 0))) q)))) (fun q hi_118 ih_118 H locs hP hD hS ls hl => ?_) 0 (Nat.zero_le _) (by rw [e0]; exact hP) (by rw [e0]; exact hD) hS (lv_sub hl [2, 3, 0] rfl)
        have hP : va_P D vwCl (wM cy g S (va_up (va_up (va_up K 26 (fun _ => nI (sr (dg (nv (S 27 0)) c) (nv (S 27 0))))) 27 (fun _ => nI (wo S (dg (nv (S 27 0)) c) (nv (S 27 0))))) 24 (kpF (S 6) (K 24) (K 26 0) (K 27 0) (nv (S 27 0)) c (sr (dg (nv (S 27 0)) c) (nv (S 27 0))) (wo S (dg (nv (S 27 0)) c) (nv (S 27 0))) q))) H := hP
        have hD : va_D A (wM cy g S (va_up (va_up (va_up K 26 (fun _ => nI (sr (dg (nv (S 27 0)) c) (nv (S 27 0))))) 27 (fun _ => nI (wo S (dg (nv (S 27 0)) c) (nv (S 27 0))))) 24 (kpF (S 6) (K 24) (K 26 0) (K 27 0) (nv (S 27 0)) c (sr (dg (nv (S 27 0)) c) (nv (S 27 0))) (wo S (dg (nv (S 27 0)) c) (nv (S 27 0))) q))) := hD
        have hdg := dg_lt (nv (S 27 0)) c q
        refine lv_iload hx hb dX7_keep_118 (lv_at hl 2 rfl) ?_
        refine lv_aload_n hx hb dX7_keep_120 rfl (lv_at hl 0 rfl) ?_
        refine va_get (D := D) (ci := 7) (v := .int (S 27 0)) (C := RX7) (T := TX7) (N := 29) hx hb hts iX7 hown hK hP 0 rfl rfl 0 (by decide) f_7 (fun _ h9 => h9) rfl dX7_keep_121 ?_
        have b_121 := (iv_27 hI).1
        refine cd_tp (y := nI (nv (S 27 0))) b_121.1 ?_
        have b_121 := b_121.2
        refine cd_icmp_ge (tgt := 165) hx hb dX7_keep_124 (by decide) (by omega) (by omega) (fun c_124 => ?_) (fun c_124 => ?_)
        · have eq : q = nv (S 27 0) := by omega
          subst eq
          have hP : va_P D vwCl (wM cy g S (va_up (va_up (va_up K 26 (fun _ => nI (sr (dg (nv (S 27 0)) c) (nv (S 27 0))))) 27 (fun _ => nI (wo S (dg (nv (S 27 0)) c) (nv (S 27 0))))) 24 (kpF (S 6) (K 24) (K 26 0) (K 27 0) (nv (S 27 0)) c (sr (dg (nv (S 27 0)) c) (nv (S 27 0))) (wo S (dg (nv (S 27 0)) c) (nv (S 27 0))) (nv (S 27 0))))) H := hP
          have hD : va_D A (wM cy g S (va_up (va_up (va_up K 26 (fun _ => nI (sr (dg (nv (S 27 0)) c) (nv (S 27 0))))) 27 (fun _ => nI (wo S (dg (nv (S 27 0)) c) (nv (S 27 0))))) 24 (kpF (S 6) (K 24) (K 26 0) (K 27 0) (nv (S 27 0)) c (sr (dg (nv (S 27 0)) c) (nv (S 27 0))) (wo S (dg (nv (S 27 0)) c) (nv (S 27 0))) (nv (S 27 0))))) := hD
          rw [show ((fun _ => nI (sr (dg (nv (S 27 0)) c) (nv (S 27 0))) : Nat → Int32)) = ((fun _ => kpI (K 26 0) (K 27 0) (K 26 0) (sr (dg (nv (S 27 0)) c) (nv (S 27 0))) (wo S (dg (nv (S 27 0)) c) (nv (S 27 0))) (sr (dg (nv (S 27 0)) c) (nv (S 27 0))) : Nat → Int32)) from congrArg (fun (z : Int32) (_ : Nat) => z) (kpI_y hkp)] at hP hD
          have hP : va_P D vwCl (wM cy g S (va_up (va_up (va_up K 26 (fun _ => kpI (K 26 0) (K 27 0) (K 26 0) (sr (dg (nv (S 27 0)) c) (nv (S 27 0))) (wo S (dg (nv (S 27 0)) c) (nv (S 27 0))) (sr (dg (nv (S 27 0)) c) (nv (S 27 0))))) 27 (fun _ => nI (wo S (dg (nv (S 27 0)) c) (nv (S 27 0))))) 24 (kpF (S 6) (K 24) (K 26 0) (K 27 0) (nv (S 27 0)) c (sr (dg (nv (S 27 0)) c) (nv (S 27 0))) (wo S (dg (nv (S 27 0)) c) (nv (S 27 0))) (nv (S 27 0))))) H := hP
          have hD : va_D A (wM cy g S (va_up (va_up (va_up K 26 (fun _ => kpI (K 26 0) (K 27 0) (K 26 0) (sr (dg (nv (S 27 0)) c) (nv (S 27 0))) (wo S (dg (nv (S 27 0)) c) (nv (S 27 0))) (sr (dg (nv (S 27 0)) c) (nv (S 27 0))))) 27 (fun _ => nI (wo S (dg (nv (S 27 0)) c) (nv (S 27 0))))) 24 (kpF (S 6) (K 24) (K 26 0) (K 27 0) (nv (S 27 0)) c (sr (dg (nv (S 27 0)) c) (nv (S 27 0))) (wo S (dg (nv (S 27 0)) c) (nv (S 27 0))) (nv (S 27 0))))) := hD
          rw [show ((fun _ => nI (wo S (dg (nv (S 27 0)) c) (nv (S 27 0))) : Nat → Int32)) = ((fun _ => kpI (K 26 0) (K 27 0) (K 27 0) (sr (dg (nv (S 27 0)) c) (nv (S 27 0))) (wo S (dg (nv (S 27 0)) c) (nv (S 27 0))) (wo S (dg (nv (S 27 0)) c) (nv (S 27 0))) : Nat → Int32)) from congrArg (fun (z : Int32) (_ : Nat) => z) (kpI_y hkp)] at hP hD
          have hP : va_P D vwCl (wM cy g S (va_up (va_up (va_up K 26 (fun _ => kpI (K 26 0) (K 27 0) (K 26 0) (sr (dg (nv (S 27 0)) c) (nv (S 27 0))) (wo S (dg (nv (S 27 0)) c) (nv (S 27 0))) (sr (dg (nv (S 27 0)) c) (nv (S 27 0))))) 27 (fun _ => kpI (K 26 0) (K 27 0) (K 27 0) (sr (dg (nv (S 27 0)) c) (nv (S 27 0))) (wo S (dg (nv (S 27 0)) c) (nv (S 27 0))) (wo S (dg (nv (S 27 0)) c) (nv (S 27 0))))) 24 (kpF (S 6) (K 24) (K 26 0) (K 27 0) (nv (S 27 0)) c (sr (dg (nv (S 27 0)) c) (nv (S 27 0))) (wo S (dg (nv (S 27 0)) c) (nv (S 27 0))) (nv (S 27 0))))) H := hP
          have hD : va_D A (wM cy g S (va_up (va_up (va_up K 26 (fun _ => kpI (K 26 0) (K 27 0) (K 26 0) (sr (dg (nv (S 27 0)) c) (nv (S 27 0))) (wo S (dg (nv (S 27 0)) c) (nv (S 27 0))) (sr (dg (nv (S 27 0)) c) (nv (S 27 0))))) 27 (fun _ => kpI (K 26 0) (K 27 0) (K 27 0) (sr (dg (nv (S 27 0)) c) (nv (S 27 0))) (wo S (dg (nv (S 27 0)) c) (nv (S 27 0))) (wo S (dg (nv (S 27 0)) c) (nv (S 27 0))))) 24 (kpF (S 6) (K 24) (K 26 0) (K 27 0) (nv (S 27 0)) c (sr (dg (nv (S 27 0)) c) (nv (S 27 0))) (wo S (dg (nv (S 27 0)) c) (nv (S 27 0))) (nv (S 27 0))))) := hD
          exact W.vret hx hb hr (fun t ht hW => ⟨⟨(), rfl, trivial, by rw [ht]; exact hP, hD⟩, hS.F ht⟩) hS.2.2 dX7_keep_165
        · refine lv_aload_n hx hb dX7_keep_127 rfl (lv_at hl 0 rfl) ?_
          refine va_get (D := D) (ci := 7) (v := .ref (g 24)) (C := RX7) (T := TX7) (N := 29) hx hb hts iX7 hown hK hP 0 rfl rfl 24 (by decide) f_68 (fun _ h9 => h9) rfl dX7_keep_128 ?_
          refine lv_iload hx hb dX7_keep_131 (lv_at hl 2 rfl) ?_
          refine lv_aload_n hx hb dX7_keep_133 rfl (lv_at hl 0 rfl) ?_
          refine va_get (D := D) (ci := 7) (v := .ref (g 3)) (C := RX7) (T := TX7) (N := 29) hx hb hts iX7 hown hK hP 0 rfl rfl 3 (by decide) f_20 (fun _ h9 => h9) rfl dX7_keep_134 ?_
          refine lv_iconst (v := nI 4) hx hb dX7_keep_137 (by decide) ?_
          refine lv_iload hx hb dX7_keep_138 (lv_at hl 2 rfl) ?_
          refine cd_imul hx hb dX7_keep_140 ?_
          refine cd_tp (y := nI (q * 4)) (m4 q) ?_
          refine lv_iload_n hx hb dX7_keep_141 rfl (lv_at hl 1 rfl) ?_
          refine lv_iconst (v := nI 2) hx hb dX7_keep_142 (by decide) ?_
          refine lv_aload_n hx hb dX7_keep_143 rfl (lv_at hl 0 rfl) ?_
          refine va_get (D := D) (ci := 7) (v := .int (S 27 0)) (C := RX7) (T := TX7) (N := 29) hx hb hts iX7 hown hK hP 0 rfl rfl 0 (by decide) f_7 (fun _ h9 => h9) rfl dX7_keep_144 ?_
          have b_144 := (iv_27 hI).1
          refine cd_tp (y := nI (nv (S 27 0))) b_144.1 ?_
          have b_144 := b_144.2
          refine lv_iconst (v := nI 1) hx hb dX7_keep_147 (by decide) ?_
          refine cd_isub hx hb (by omega) dX7_keep_148 ?_
          refine lv_iload hx hb dX7_keep_149 (lv_at hl 2 rfl) ?_
          refine cd_isub hx hb (by omega) dX7_keep_151 ?_
          refine cd_imul hx hb dX7_keep_152 ?_
          refine cd_ishr hx hb (by omega) (by omega) dX7_keep_153 ?_
          refine lv_iconst (v := nI 3) hx hb dX7_keep_154 (by decide) ?_
          refine cd_iand hx hb dX7_keep_155 ?_
          refine cd_tp (y := nI (dg (nv (S 27 0)) c q)) (congrArg nI (dg_2 _ _ _)) ?_
          refine cd_iadd hx hb dX7_keep_156 ?_
          refine cd_iald (f := S 6) hx hb hK hP 3 rfl (by omega) (by decide) dX7_keep_157 ?_
          refine cd_iast (f := kpF (S 6) (K 24) (K 26 0) (K 27 0) (nv (S 27 0)) c (sr (dg (nv (S 27 0)) c) (nv (S 27 0))) (wo S (dg (nv (S 27 0)) c) (nv (S 27 0))) q) hx hb hK hP hD hS 19 rfl (by omega) (by decide) dX7_keep_158 (fun H locs hP hD hS => ?_)
          have hP : va_P D vwCl (wM cy g S (va_up (va_up (va_up K 26 (fun _ => nI (sr (dg (nv (S 27 0)) c) (nv (S 27 0))))) 27 (fun _ => nI (wo S (dg (nv (S 27 0)) c) (nv (S 27 0))))) 24 (upd (kpF (S 6) (K 24) (K 26 0) (K 27 0) (nv (S 27 0)) c (sr (dg (nv (S 27 0)) c) (nv (S 27 0))) (wo S (dg (nv (S 27 0)) c) (nv (S 27 0))) q) q ((S 6) ((q * 4) + (dg (nv (S 27 0)) c q)))))) H := hP
          have hD : va_D A (wM cy g S (va_up (va_up (va_up K 26 (fun _ => nI (sr (dg (nv (S 27 0)) c) (nv (S 27 0))))) 27 (fun _ => nI (wo S (dg (nv (S 27 0)) c) (nv (S 27 0))))) 24 (upd (kpF (S 6) (K 24) (K 26 0) (K 27 0) (nv (S 27 0)) c (sr (dg (nv (S 27 0)) c) (nv (S 27 0))) (wo S (dg (nv (S 27 0)) c) (nv (S 27 0))) q) q ((S 6) ((q * 4) + (dg (nv (S 27 0)) c q)))))) := hD
          have e_158 : (upd (kpF (S 6) (K 24) (K 26 0) (K 27 0) (nv (S 27 0)) c (sr (dg (nv (S 27 0)) c) (nv (S 27 0))) (wo S (dg (nv (S 27 0)) c) (nv (S 27 0))) q) q ((S 6) ((q * 4) + (dg (nv (S 27 0)) c q)))) = (kpF (S 6) (K 24) (K 26 0) (K 27 0) (nv (S 27 0)) c (sr (dg (nv (S 27 0)) c) (nv (S 27 0))) (wo S (dg (nv (S 27 0)) c) (nv (S 27 0))) (q + 1)) := kpF_s hkp
          rw [e_158] at hP hD
          have hP : va_P D vwCl (wM cy g S (va_up (va_up (va_up K 26 (fun _ => nI (sr (dg (nv (S 27 0)) c) (nv (S 27 0))))) 27 (fun _ => nI (wo S (dg (nv (S 27 0)) c) (nv (S 27 0))))) 24 (kpF (S 6) (K 24) (K 26 0) (K 27 0) (nv (S 27 0)) c (sr (dg (nv (S 27 0)) c) (nv (S 27 0))) (wo S (dg (nv (S 27 0)) c) (nv (S 27 0))) (q + 1)))) H := hP
          have hD : va_D A (wM cy g S (va_up (va_up (va_up K 26 (fun _ => nI (sr (dg (nv (S 27 0)) c) (nv (S 27 0))))) 27 (fun _ => nI (wo S (dg (nv (S 27 0)) c) (nv (S 27 0))))) 24 (kpF (S 6) (K 24) (K 26 0) (K 27 0) (nv (S 27 0)) c (sr (dg (nv (S 27 0)) c) (nv (S 27 0))) (wo S (dg (nv (S 27 0)) c) (nv (S 27 0))) (q + 1)))) := hD
          refine lv_iinc (v := nI (q + 1)) (lv' := [(5, .int (nI (q + 1))), (0, .ref (g 0)), (1, .int (nI c))]) hx hb dX7_keep_159 hl (k := 2) rfl (cd_i1 _) (by decide) rfl (fun ls hl => ?_)
          refine lv_goto (tgt := 118) hx hb dX7_keep_162 (by decide) ?_
          exact ih_118 (q + 1) (by omega) (by omega) _ _ hP hD hS _ (lv_sub hl [1, 2, 0] rfl)
    · refine lv_iload_n hx hb dX7_keep_69 rfl (lv_at hl 2 rfl) ?_
      refine lv_aload_n hx hb dX7_keep_70 rfl (lv_at hl 0 rfl) ?_
      refine va_get (D := D) (ci := 7) (v := .int (K 26 0)) (C := RX7) (T := TX7) (N := 29) hx hb hts iX7 hown hK hP 0 rfl rfl 26 (by decide) f_121 (fun _ h9 => h9) rfl dX7_keep_71 ?_
      refine lv_icmp_lt (tgt := 93) hx hb dX7_keep_74 (by decide) (fun c_74 => ?_) (fun c_74 => ?_)
      · refine lv_iconst (v := nI 1) hx hb dX7_keep_93 (by decide) ?_
        refine lv_goto (tgt := 98) hx hb dX7_keep_94 (by decide) ?_
        refine lv_istore (lv' := [(4, .int (nI 1)), (0, .ref (g 0)), (1, .int (nI c)), (2, .int (nI (sr (dg (nv (S 27 0)) c) (nv (S 27 0))))), (3, .int (nI (wo S (dg (nv (S 27 0)) c) (nv (S 27 0)))))]) hx hb dX7_keep_98 hl (by decide) rfl (fun ls hl => ?_)
        refine lv_iload hx hb dX7_keep_100 (lv_at hl 0 rfl) ?_
        refine cd_if_eq (tgt := 165) hx hb dX7_keep_102 (by decide) (by omega) (fun c_102 => ?_) (fun c_102 => ?_)
        · exact absurd c_102 (by decide)
        · have hkp : kpB (K 26 0) (K 27 0) (sr (dg (nv (S 27 0)) c) (nv (S 27 0))) (wo S (dg (nv (S 27 0)) c) (nv (S 27 0))) = true := decide_eq_true (Or.inr (Or.inl c_74))
          refine lv_aload_n hx hb dX7_keep_105 rfl (lv_at hl 1 rfl) ?_
          refine lv_iload_n hx hb dX7_keep_106 rfl (lv_at hl 3 rfl) ?_
          refine va_put (D := D) (ci := 7) (v := .int (nI (sr (dg (nv (S 27 0)) c) (nv (S 27 0))))) (ty := .int) (C := RX7) (T := TX7) (N := 29) hx hb hts iX7 tyX7 tyX7_ok nmX7 hown hK hP hD hS 0 rfl rfl 26 (by decide) f_121 (fun _ h9 => h9) rfl (by decide +kernel) rfl rfl (Nat.le_of_ble_eq_true rfl) dX7_keep_107 (fun H locs hP hD hS => ?_)
          have hP : va_P D vwCl (wM cy g S (va_up K 26 (fun _ => nI (sr (dg (nv (S 27 0)) c) (nv (S 27 0)))))) H := hP
          have hD : va_D A (wM cy g S (va_up K 26 (fun _ => nI (sr (dg (nv (S 27 0)) c) (nv (S 27 0)))))) := hD
          refine lv_aload_n hx hb dX7_keep_110 rfl (lv_at hl 1 rfl) ?_
          refine lv_iload_n hx hb dX7_keep_111 rfl (lv_at hl 4 rfl) ?_
          refine va_put (D := D) (ci := 7) (v := .int (nI (wo S (dg (nv (S 27 0)) c) (nv (S 27 0))))) (ty := .int) (C := RX7) (T := TX7) (N := 29) hx hb hts iX7 tyX7 tyX7_ok nmX7 hown hK hP hD hS 0 rfl rfl 27 (by decide) f_124 (fun _ h9 => h9) rfl (by decide +kernel) rfl rfl (Nat.le_of_ble_eq_true rfl) dX7_keep_112 (fun H locs hP hD hS => ?_)
          have hP : va_P D vwCl (wM cy g S (va_up (va_up K 26 (fun _ => nI (sr (dg (nv (S 27 0)) c) (nv (S 27 0))))) 27 (fun _ => nI (wo S (dg (nv (S 27 0)) c) (nv (S 27 0)))))) H := hP
          have hD : va_D A (wM cy g S (va_up (va_up K 26 (fun _ => nI (sr (dg (nv (S 27 0)) c) (nv (S 27 0))))) 27 (fun _ => nI (wo S (dg (nv (S 27 0)) c) (nv (S 27 0)))))) := hD
          refine lv_iconst (v := nI 0) hx hb dX7_keep_115 (by decide) ?_
          refine lv_istore (lv' := [(5, .int (nI 0)), (4, .int (nI 1)), (0, .ref (g 0)), (1, .int (nI c)), (2, .int (nI (sr (dg (nv (S 27 0)) c) (nv (S 27 0))))), (3, .int (nI (wo S (dg (nv (S 27 0)) c) (nv (S 27 0)))))]) hx hb dX7_keep_116 hl (by decide) rfl (fun ls hl => ?_)
          have e0 : kpF (S 6) (K 24) (K 26 0) (K 27 0) (nv (S 27 0)) c (sr (dg (nv (S 27 0)) c) (nv (S 27 0))) (wo S (dg (nv (S 27 0)) c) (nv (S 27 0))) 0 = K 24 := kpF_0
          refine wh1 (nL := 6) (fun (q : Nat) => q ≤ nv (S 27 0)) (fun (q : Nat) => nv (S 27 0) - q) (fun (q : Nat) => [(0, .ref (g 0)), (1, .int (nI c)), (5, .int (nI q))]) (fun (q : Nat) => (wM cy g S (va_up (va_up (va_up K 26 (fun _ => nI (sr (dg (nv (S 27 0)) c) (nv (S 27 0))))) 27 (fun _ => nI (wo S (dg (nv (S 27 0)) c) (nv (S 27 0))))) 24 (kpF (S 6) (K 24) (K 26 0) (K 27 0) (nv (S 27 0)) c (sr (dg (nv (S 27 0)) c) (nv (S 27 0))) (wo S (dg (nv (S 27 0)) c) (nv (S 27 0))) q)))) (fun q hi_118 ih_118 H locs hP hD hS ls hl => ?_) 0 (Nat.zero_le _) (by rw [e0]; exact hP) (by rw [e0]; exact hD) hS (lv_sub hl [2, 3, 0] rfl)
          have hP : va_P D vwCl (wM cy g S (va_up (va_up (va_up K 26 (fun _ => nI (sr (dg (nv (S 27 0)) c) (nv (S 27 0))))) 27 (fun _ => nI (wo S (dg (nv (S 27 0)) c) (nv (S 27 0))))) 24 (kpF (S 6) (K 24) (K 26 0) (K 27 0) (nv (S 27 0)) c (sr (dg (nv (S 27 0)) c) (nv (S 27 0))) (wo S (dg (nv (S 27 0)) c) (nv (S 27 0))) q))) H := hP
          have hD : va_D A (wM cy g S (va_up (va_up (va_up K 26 (fun _ => nI (sr (dg (nv (S 27 0)) c) (nv (S 27 0))))) 27 (fun _ => nI (wo S (dg (nv (S 27 0)) c) (nv (S 27 0))))) 24 (kpF (S 6) (K 24) (K 26 0) (K 27 0) (nv (S 27 0)) c (sr (dg (nv (S 27 0)) c) (nv (S 27 0))) (wo S (dg (nv (S 27 0)) c) (nv (S 27 0))) q))) := hD
          have hdg := dg_lt (nv (S 27 0)) c q
          refine lv_iload hx hb dX7_keep_118 (lv_at hl 2 rfl) ?_
          refine lv_aload_n hx hb dX7_keep_120 rfl (lv_at hl 0 rfl) ?_
          refine va_get (D := D) (ci := 7) (v := .int (S 27 0)) (C := RX7) (T := TX7) (N := 29) hx hb hts iX7 hown hK hP 0 rfl rfl 0 (by decide) f_7 (fun _ h9 => h9) rfl dX7_keep_121 ?_
          have b_121 := (iv_27 hI).1
          refine cd_tp (y := nI (nv (S 27 0))) b_121.1 ?_
          have b_121 := b_121.2
          refine cd_icmp_ge (tgt := 165) hx hb dX7_keep_124 (by decide) (by omega) (by omega) (fun c_124 => ?_) (fun c_124 => ?_)
          · have eq : q = nv (S 27 0) := by omega
            subst eq
            have hP : va_P D vwCl (wM cy g S (va_up (va_up (va_up K 26 (fun _ => nI (sr (dg (nv (S 27 0)) c) (nv (S 27 0))))) 27 (fun _ => nI (wo S (dg (nv (S 27 0)) c) (nv (S 27 0))))) 24 (kpF (S 6) (K 24) (K 26 0) (K 27 0) (nv (S 27 0)) c (sr (dg (nv (S 27 0)) c) (nv (S 27 0))) (wo S (dg (nv (S 27 0)) c) (nv (S 27 0))) (nv (S 27 0))))) H := hP
            have hD : va_D A (wM cy g S (va_up (va_up (va_up K 26 (fun _ => nI (sr (dg (nv (S 27 0)) c) (nv (S 27 0))))) 27 (fun _ => nI (wo S (dg (nv (S 27 0)) c) (nv (S 27 0))))) 24 (kpF (S 6) (K 24) (K 26 0) (K 27 0) (nv (S 27 0)) c (sr (dg (nv (S 27 0)) c) (nv (S 27 0))) (wo S (dg (nv (S 27 0)) c) (nv (S 27 0))) (nv (S 27 0))))) := hD
            rw [show ((fun _ => nI (sr (dg (nv (S 27 0)) c) (nv (S 27 0))) : Nat → Int32)) = ((fun _ => kpI (K 26 0) (K 27 0) (K 26 0) (sr (dg (nv (S 27 0)) c) (nv (S 27 0))) (wo S (dg (nv (S 27 0)) c) (nv (S 27 0))) (sr (dg (nv (S 27 0)) c) (nv (S 27 0))) : Nat → Int32)) from congrArg (fun (z : Int32) (_ : Nat) => z) (kpI_y hkp)] at hP hD
            have hP : va_P D vwCl (wM cy g S (va_up (va_up (va_up K 26 (fun _ => kpI (K 26 0) (K 27 0) (K 26 0) (sr (dg (nv (S 27 0)) c) (nv (S 27 0))) (wo S (dg (nv (S 27 0)) c) (nv (S 27 0))) (sr (dg (nv (S 27 0)) c) (nv (S 27 0))))) 27 (fun _ => nI (wo S (dg (nv (S 27 0)) c) (nv (S 27 0))))) 24 (kpF (S 6) (K 24) (K 26 0) (K 27 0) (nv (S 27 0)) c (sr (dg (nv (S 27 0)) c) (nv (S 27 0))) (wo S (dg (nv (S 27 0)) c) (nv (S 27 0))) (nv (S 27 0))))) H := hP
            have hD : va_D A (wM cy g S (va_up (va_up (va_up K 26 (fun _ => kpI (K 26 0) (K 27 0) (K 26 0) (sr (dg (nv (S 27 0)) c) (nv (S 27 0))) (wo S (dg (nv (S 27 0)) c) (nv (S 27 0))) (sr (dg (nv (S 27 0)) c) (nv (S 27 0))))) 27 (fun _ => nI (wo S (dg (nv (S 27 0)) c) (nv (S 27 0))))) 24 (kpF (S 6) (K 24) (K 26 0) (K 27 0) (nv (S 27 0)) c (sr (dg (nv (S 27 0)) c) (nv (S 27 0))) (wo S (dg (nv (S 27 0)) c) (nv (S 27 0))) (nv (S 27 0))))) := hD
            rw [show ((fun _ => nI (wo S (dg (nv (S 27 0)) c) (nv (S 27 0))) : Nat → Int32)) = ((fun _ => kpI (K 26 0) (K 27 0) (K 27 0) (sr (dg (nv (S 27 0)) c) (nv (S 27 0))) (wo S (dg (nv (S 27 0)) c) (nv (S 27 0))) (wo S (dg (nv (S 27 0)) c) (nv (S 27 0))) : Nat → Int32)) from congrArg (fun (z : Int32) (_ : Nat) => z) (kpI_y hkp)] at hP hD
            have hP : va_P D vwCl (wM cy g S (va_up (va_up (va_up K 26 (fun _ => kpI (K 26 0) (K 27 0) (K 26 0) (sr (dg (nv (S 27 0)) c) (nv (S 27 0))) (wo S (dg (nv (S 27 0)) c) (nv (S 27 0))) (sr (dg (nv (S 27 0)) c) (nv (S 27 0))))) 27 (fun _ => kpI (K 26 0) (K 27 0) (K 27 0) (sr (dg (nv (S 27 0)) c) (nv (S 27 0))) (wo S (dg (nv (S 27 0)) c) (nv (S 27 0))) (wo S (dg (nv (S 27 0)) c) (nv (S 27 0))))) 24 (kpF (S 6) (K 24) (K 26 0) (K 27 0) (nv (S 27 0)) c (sr (dg (nv (S 27 0)) c) (nv (S 27 0))) (wo S (dg (nv (S 27 0)) c) (nv (S 27 0))) (nv (S 27 0))))) H := hP
            have hD : va_D A (wM cy g S (va_up (va_up (va_up K 26 (fun _ => kpI (K 26 0) (K 27 0) (K 26 0) (sr (dg (nv (S 27 0)) c) (nv (S 27 0))) (wo S (dg (nv (S 27 0)) c) (nv (S 27 0))) (sr (dg (nv (S 27 0)) c) (nv (S 27 0))))) 27 (fun _ => kpI (K 26 0) (K 27 0) (K 27 0) (sr (dg (nv (S 27 0)) c) (nv (S 27 0))) (wo S (dg (nv (S 27 0)) c) (nv (S 27 0))) (wo S (dg (nv (S 27 0)) c) (nv (S 27 0))))) 24 (kpF (S 6) (K 24) (K 26 0) (K 27 0) (nv (S 27 0)) c (sr (dg (nv (S 27 0)) c) (nv (S 27 0))) (wo S (dg (nv (S 27 0)) c) (nv (S 27 0))) (nv (S 27 0))))) := hD
            exact W.vret hx hb hr (fun t ht hW => ⟨⟨(), rfl, trivial, by rw [ht]; exact hP, hD⟩, hS.F ht⟩) hS.2.2 dX7_keep_165
          · refine lv_aload_n hx hb dX7_keep_127 rfl (lv_at hl 0 rfl) ?_
            refine va_get (D := D) (ci := 7) (v := .ref (g 24)) (C := RX7) (T := TX7) (N := 29) hx hb hts iX7 hown hK hP 0 rfl rfl 24 (by decide) f_68 (fun _ h9 => h9) rfl dX7_keep_128 ?_
            refine lv_iload hx hb dX7_keep_131 (lv_at hl 2 rfl) ?_
            refine lv_aload_n hx hb dX7_keep_133 rfl (lv_at hl 0 rfl) ?_
            refine va_get (D := D) (ci := 7) (v := .ref (g 3)) (C := RX7) (T := TX7) (N := 29) hx hb hts iX7 hown hK hP 0 rfl rfl 3 (by decide) f_20 (fun _ h9 => h9) rfl dX7_keep_134 ?_
            refine lv_iconst (v := nI 4) hx hb dX7_keep_137 (by decide) ?_
            refine lv_iload hx hb dX7_keep_138 (lv_at hl 2 rfl) ?_
            refine cd_imul hx hb dX7_keep_140 ?_
            refine cd_tp (y := nI (q * 4)) (m4 q) ?_
            refine lv_iload_n hx hb dX7_keep_141 rfl (lv_at hl 1 rfl) ?_
            refine lv_iconst (v := nI 2) hx hb dX7_keep_142 (by decide) ?_
            refine lv_aload_n hx hb dX7_keep_143 rfl (lv_at hl 0 rfl) ?_
            refine va_get (D := D) (ci := 7) (v := .int (S 27 0)) (C := RX7) (T := TX7) (N := 29) hx hb hts iX7 hown hK hP 0 rfl rfl 0 (by decide) f_7 (fun _ h9 => h9) rfl dX7_keep_144 ?_
            have b_144 := (iv_27 hI).1
            refine cd_tp (y := nI (nv (S 27 0))) b_144.1 ?_
            have b_144 := b_144.2
            refine lv_iconst (v := nI 1) hx hb dX7_keep_147 (by decide) ?_
            refine cd_isub hx hb (by omega) dX7_keep_148 ?_
            refine lv_iload hx hb dX7_keep_149 (lv_at hl 2 rfl) ?_
            refine cd_isub hx hb (by omega) dX7_keep_151 ?_
            refine cd_imul hx hb dX7_keep_152 ?_
            refine cd_ishr hx hb (by omega) (by omega) dX7_keep_153 ?_
            refine lv_iconst (v := nI 3) hx hb dX7_keep_154 (by decide) ?_
            refine cd_iand hx hb dX7_keep_155 ?_
            refine cd_tp (y := nI (dg (nv (S 27 0)) c q)) (congrArg nI (dg_2 _ _ _)) ?_
            refine cd_iadd hx hb dX7_keep_156 ?_
            refine cd_iald (f := S 6) hx hb hK hP 3 rfl (by omega) (by decide) dX7_keep_157 ?_
            refine cd_iast (f := kpF (S 6) (K 24) (K 26 0) (K 27 0) (nv (S 27 0)) c (sr (dg (nv (S 27 0)) c) (nv (S 27 0))) (wo S (dg (nv (S 27 0)) c) (nv (S 27 0))) q) hx hb hK hP hD hS 19 rfl (by omega) (by decide) dX7_keep_158 (fun H locs hP hD hS => ?_)
            have hP : va_P D vwCl (wM cy g S (va_up (va_up (va_up K 26 (fun _ => nI (sr (dg (nv (S 27 0)) c) (nv (S 27 0))))) 27 (fun _ => nI (wo S (dg (nv (S 27 0)) c) (nv (S 27 0))))) 24 (upd (kpF (S 6) (K 24) (K 26 0) (K 27 0) (nv (S 27 0)) c (sr (dg (nv (S 27 0)) c) (nv (S 27 0))) (wo S (dg (nv (S 27 0)) c) (nv (S 27 0))) q) q ((S 6) ((q * 4) + (dg (nv (S 27 0)) c q)))))) H := hP
            have hD : va_D A (wM cy g S (va_up (va_up (va_up K 26 (fun _ => nI (sr (dg (nv (S 27 0)) c) (nv (S 27 0))))) 27 (fun _ => nI (wo S (dg (nv (S 27 0)) c) (nv (S 27 0))))) 24 (upd (kpF (S 6) (K 24) (K 26 0) (K 27 0) (nv (S 27 0)) c (sr (dg (nv (S 27 0)) c) (nv (S 27 0))) (wo S (dg (nv (S 27 0)) c) (nv (S 27 0))) q) q ((S 6) ((q * 4) + (dg (nv (S 27 0)) c q)))))) := hD
            have e_158 : (upd (kpF (S 6) (K 24) (K 26 0) (K 27 0) (nv (S 27 0)) c (sr (dg (nv (S 27 0)) c) (nv (S 27 0))) (wo S (dg (nv (S 27 0)) c) (nv (S 27 0))) q) q ((S 6) ((q * 4) + (dg (nv (S 27 0)) c q)))) = (kpF (S 6) (K 24) (K 26 0) (K 27 0) (nv (S 27 0)) c (sr (dg (nv (S 27 0)) c) (nv (S 27 0))) (wo S (dg (nv (S 27 0)) c) (nv (S 27 0))) (q + 1)) := kpF_s hkp
            rw [e_158] at hP hD
            have hP : va_P D vwCl (wM cy g S (va_up (va_up (va_up K 26 (fun _ => nI (sr (dg (nv (S 27 0)) c) (nv (S 27 0))))) 27 (fun _ => nI (wo S (dg (nv (S 27 0)) c) (nv (S 27 0))))) 24 (kpF (S 6) (K 24) (K 26 0) (K 27 0) (nv (S 27 0)) c (sr (dg (nv (S 27 0)) c) (nv (S 27 0))) (wo S (dg (nv (S 27 0)) c) (nv (S 27 0))) (q + 1)))) H := hP
            have hD : va_D A (wM cy g S (va_up (va_up (va_up K 26 (fun _ => nI (sr (dg (nv (S 27 0)) c) (nv (S 27 0))))) 27 (fun _ => nI (wo S (dg (nv (S 27 0)) c) (nv (S 27 0))))) 24 (kpF (S 6) (K 24) (K 26 0) (K 27 0) (nv (S 27 0)) c (sr (dg (nv (S 27 0)) c) (nv (S 27 0))) (wo S (dg (nv (S 27 0)) c) (nv (S 27 0))) (q + 1)))) := hD
            refine lv_iinc (v := nI (q + 1)) (lv' := [(5, .int (nI (q + 1))), (0, .ref (g 0)), (1, .int (nI c))]) hx hb dX7_keep_159 hl (k := 2) rfl (cd_i1 _) (by decide) rfl (fun ls hl => ?_)
            refine lv_goto (tgt := 118) hx hb dX7_keep_162 (by decide) ?_
            exact ih_118 (q + 1) (by omega) (by omega) _ _ hP hD hS _ (lv_sub hl [1, 2, 0] rfl)
      · refine lv_iload_n hx hb dX7_keep_77 rfl (lv_at hl 2 rfl) ?_
        refine lv_aload_n hx hb dX7_keep_78 rfl (lv_at hl 0 rfl) ?_
        refine va_get (D := D) (ci := 7) (v := .int (K 26 0)) (C := RX7) (T := TX7) (N := 29) hx hb hts iX7 hown hK hP 0 rfl rfl 26 (by decide) f_121 (fun _ h9 => h9) rfl dX7_keep_79 ?_
        refine lv_icmp_ne (tgt := 97) hx hb dX7_keep_82 (by decide) (fun c_82 => ?_) (fun c_82 => ?_)
        · refine lv_iconst (v := nI 0) hx hb dX7_keep_97 (by decide) ?_
          refine lv_istore (lv' := [(4, .int (nI 0)), (0, .ref (g 0)), (1, .int (nI c)), (2, .int (nI (sr (dg (nv (S 27 0)) c) (nv (S 27 0))))), (3, .int (nI (wo S (dg (nv (S 27 0)) c) (nv (S 27 0)))))]) hx hb dX7_keep_98 hl (by decide) rfl (fun ls hl => ?_)
          refine lv_iload hx hb dX7_keep_100 (lv_at hl 0 rfl) ?_
          refine cd_if_eq (tgt := 165) hx hb dX7_keep_102 (by decide) (by omega) (fun c_102 => ?_) (fun c_102 => ?_)
          · have hkp : kpB (K 26 0) (K 27 0) (sr (dg (nv (S 27 0)) c) (nv (S 27 0))) (wo S (dg (nv (S 27 0)) c) (nv (S 27 0))) = false := decide_eq_false (fun q => q.elim c_66 (fun q => q.elim c_74 (fun q => c_82 q.1)))
            have eK26_218 : K 26 0 = kpI (K 26 0) (K 27 0) (K 26 0) (sr (dg (nv (S 27 0)) c) (nv (S 27 0))) (wo S (dg (nv (S 27 0)) c) (nv (S 27 0))) (sr (dg (nv (S 27 0)) c) (nv (S 27 0))) := kpI_n hkp
            have hP : va_P D vwCl (wM cy g S (va_up K 26 (fun _ => kpI (K 26 0) (K 27 0) (K 26 0) (sr (dg (nv (S 27 0)) c) (nv (S 27 0))) (wo S (dg (nv (S 27 0)) c) (nv (S 27 0))) (sr (dg (nv (S 27 0)) c) (nv (S 27 0)))))) s.heap := by rw [← eK26_218]; exact hP
            have hD : va_D A (wM cy g S (va_up K 26 (fun _ => kpI (K 26 0) (K 27 0) (K 26 0) (sr (dg (nv (S 27 0)) c) (nv (S 27 0))) (wo S (dg (nv (S 27 0)) c) (nv (S 27 0))) (sr (dg (nv (S 27 0)) c) (nv (S 27 0)))))) := by rw [← eK26_218]; exact hD
            have eK27_221 : K 27 0 = kpI (K 26 0) (K 27 0) (K 27 0) (sr (dg (nv (S 27 0)) c) (nv (S 27 0))) (wo S (dg (nv (S 27 0)) c) (nv (S 27 0))) (wo S (dg (nv (S 27 0)) c) (nv (S 27 0))) := kpI_n hkp
            have hP : va_P D vwCl (wM cy g S (va_up (va_up K 26 (fun _ => kpI (K 26 0) (K 27 0) (K 26 0) (sr (dg (nv (S 27 0)) c) (nv (S 27 0))) (wo S (dg (nv (S 27 0)) c) (nv (S 27 0))) (sr (dg (nv (S 27 0)) c) (nv (S 27 0))))) 27 (fun _ => kpI (K 26 0) (K 27 0) (K 27 0) (sr (dg (nv (S 27 0)) c) (nv (S 27 0))) (wo S (dg (nv (S 27 0)) c) (nv (S 27 0))) (wo S (dg (nv (S 27 0)) c) (nv (S 27 0)))))) s.heap := by rw [← eK27_221]; exact hP
            have hD : va_D A (wM cy g S (va_up (va_up K 26 (fun _ => kpI (K 26 0) (K 27 0) (K 26 0) (sr (dg (nv (S 27 0)) c) (nv (S 27 0))) (wo S (dg (nv (S 27 0)) c) (nv (S 27 0))) (sr (dg (nv (S 27 0)) c) (nv (S 27 0))))) 27 (fun _ => kpI (K 26 0) (K 27 0) (K 27 0) (sr (dg (nv (S 27 0)) c) (nv (S 27 0))) (wo S (dg (nv (S 27 0)) c) (nv (S 27 0))) (wo S (dg (nv (S 27 0)) c) (nv (S 27 0)))))) := by rw [← eK27_221]; exact hD
            have eK24_224 : K 24 = kpF (S 6) (K 24) (K 26 0) (K 27 0) (nv (S 27 0)) c (sr (dg (nv (S 27 0)) c) (nv (S 27 0))) (wo S (dg (nv (S 27 0)) c) (nv (S 27 0))) (nv (S 27 0)) := kpF_n hkp
            have hP : va_P D vwCl (wM cy g S (va_up (va_up (va_up K 26 (fun _ => kpI (K 26 0) (K 27 0) (K 26 0) (sr (dg (nv (S 27 0)) c) (nv (S 27 0))) (wo S (dg (nv (S 27 0)) c) (nv (S 27 0))) (sr (dg (nv (S 27 0)) c) (nv (S 27 0))))) 27 (fun _ => kpI (K 26 0) (K 27 0) (K 27 0) (sr (dg (nv (S 27 0)) c) (nv (S 27 0))) (wo S (dg (nv (S 27 0)) c) (nv (S 27 0))) (wo S (dg (nv (S 27 0)) c) (nv (S 27 0))))) 24 (kpF (S 6) (K 24) (K 26 0) (K 27 0) (nv (S 27 0)) c (sr (dg (nv (S 27 0)) c) (nv (S 27 0))) (wo S (dg (nv (S 27 0)) c) (nv (S 27 0))) (nv (S 27 0))))) s.heap := by rw [← eK24_224]; exact hP
            have hD : va_D A (wM cy g S (va_up (va_up (va_up K 26 (fun _ => kpI (K 26 0) (K 27 0) (K 26 0) (sr (dg (nv (S 27 0)) c) (nv (S 27 0))) (wo S (dg (nv (S 27 0)) c) (nv (S 27 0))) (sr (dg (nv (S 27 0)) c) (nv (S 27 0))))) 27 (fun _ => kpI (K 26 0) (K 27 0) (K 27 0) (sr (dg (nv (S 27 0)) c) (nv (S 27 0))) (wo S (dg (nv (S 27 0)) c) (nv (S 27 0))) (wo S (dg (nv (S 27 0)) c) (nv (S 27 0))))) 24 (kpF (S 6) (K 24) (K 26 0) (K 27 0) (nv (S 27 0)) c (sr (dg (nv (S 27 0)) c) (nv (S 27 0))) (wo S (dg (nv (S 27 0)) c) (nv (S 27 0))) (nv (S 27 0))))) := by rw [← eK24_224]; exact hD
            exact W.vret hx hb hr (fun t ht hW => ⟨⟨(), rfl, trivial, by rw [ht]; exact hP, hD⟩, hS.F ht⟩) hS.2.2 dX7_keep_165
          · exact absurd c_102 (by decide)
        · refine lv_iload_n hx hb dX7_keep_85 rfl (lv_at hl 3 rfl) ?_
          refine lv_aload_n hx hb dX7_keep_86 rfl (lv_at hl 0 rfl) ?_
          refine va_get (D := D) (ci := 7) (v := .int (K 27 0)) (C := RX7) (T := TX7) (N := 29) hx hb hts iX7 hown hK hP 0 rfl rfl 27 (by decide) f_124 (fun _ h9 => h9) rfl dX7_keep_87 ?_
          refine lv_icmp_ge (tgt := 97) hx hb dX7_keep_90 (by decide) (fun c_90 => ?_) (fun c_90 => ?_)
          · refine lv_iconst (v := nI 0) hx hb dX7_keep_97 (by decide) ?_
            refine lv_istore (lv' := [(4, .int (nI 0)), (0, .ref (g 0)), (1, .int (nI c)), (2, .int (nI (sr (dg (nv (S 27 0)) c) (nv (S 27 0))))), (3, .int (nI (wo S (dg (nv (S 27 0)) c) (nv (S 27 0)))))]) hx hb dX7_keep_98 hl (by decide) rfl (fun ls hl => ?_)
            refine lv_iload hx hb dX7_keep_100 (lv_at hl 0 rfl) ?_
            refine cd_if_eq (tgt := 165) hx hb dX7_keep_102 (by decide) (by omega) (fun c_102 => ?_) (fun c_102 => ?_)
            · have hkp : kpB (K 26 0) (K 27 0) (sr (dg (nv (S 27 0)) c) (nv (S 27 0))) (wo S (dg (nv (S 27 0)) c) (nv (S 27 0))) = false := decide_eq_false (fun q => q.elim c_66 (fun q => q.elim c_74 (fun q => Int32.not_lt.mpr c_90 q.2)))
              have eK26_238 : K 26 0 = kpI (K 26 0) (K 27 0) (K 26 0) (sr (dg (nv (S 27 0)) c) (nv (S 27 0))) (wo S (dg (nv (S 27 0)) c) (nv (S 27 0))) (sr (dg (nv (S 27 0)) c) (nv (S 27 0))) := kpI_n hkp
              have hP : va_P D vwCl (wM cy g S (va_up K 26 (fun _ => kpI (K 26 0) (K 27 0) (K 26 0) (sr (dg (nv (S 27 0)) c) (nv (S 27 0))) (wo S (dg (nv (S 27 0)) c) (nv (S 27 0))) (sr (dg (nv (S 27 0)) c) (nv (S 27 0)))))) s.heap := by rw [← eK26_238]; exact hP
              have hD : va_D A (wM cy g S (va_up K 26 (fun _ => kpI (K 26 0) (K 27 0) (K 26 0) (sr (dg (nv (S 27 0)) c) (nv (S 27 0))) (wo S (dg (nv (S 27 0)) c) (nv (S 27 0))) (sr (dg (nv (S 27 0)) c) (nv (S 27 0)))))) := by rw [← eK26_238]; exact hD
              have eK27_241 : K 27 0 = kpI (K 26 0) (K 27 0) (K 27 0) (sr (dg (nv (S 27 0)) c) (nv (S 27 0))) (wo S (dg (nv (S 27 0)) c) (nv (S 27 0))) (wo S (dg (nv (S 27 0)) c) (nv (S 27 0))) := kpI_n hkp
              have hP : va_P D vwCl (wM cy g S (va_up (va_up K 26 (fun _ => kpI (K 26 0) (K 27 0) (K 26 0) (sr (dg (nv (S 27 0)) c) (nv (S 27 0))) (wo S (dg (nv (S 27 0)) c) (nv (S 27 0))) (sr (dg (nv (S 27 0)) c) (nv (S 27 0))))) 27 (fun _ => kpI (K 26 0) (K 27 0) (K 27 0) (sr (dg (nv (S 27 0)) c) (nv (S 27 0))) (wo S (dg (nv (S 27 0)) c) (nv (S 27 0))) (wo S (dg (nv (S 27 0)) c) (nv (S 27 0)))))) s.heap := by rw [← eK27_241]; exact hP
              have hD : va_D A (wM cy g S (va_up (va_up K 26 (fun _ => kpI (K 26 0) (K 27 0) (K 26 0) (sr (dg (nv (S 27 0)) c) (nv (S 27 0))) (wo S (dg (nv (S 27 0)) c) (nv (S 27 0))) (sr (dg (nv (S 27 0)) c) (nv (S 27 0))))) 27 (fun _ => kpI (K 26 0) (K 27 0) (K 27 0) (sr (dg (nv (S 27 0)) c) (nv (S 27 0))) (wo S (dg (nv (S 27 0)) c) (nv (S 27 0))) (wo S (dg (nv (S 27 0)) c) (nv (S 27 0)))))) := by rw [← eK27_241]; exact hD
              have eK24_244 : K 24 = kpF (S 6) (K 24) (K 26 0) (K 27 0) (nv (S 27 0)) c (sr (dg (nv (S 27 0)) c) (nv (S 27 0))) (wo S (dg (nv (S 27 0)) c) (nv (S 27 0))) (nv (S 27 0)) := kpF_n hkp
              have hP : va_P D vwCl (wM cy g S (va_up (va_up (va_up K 26 (fun _ => kpI (K 26 0) (K 27 0) (K 26 0) (sr (dg (nv (S 27 0)) c) (nv (S 27 0))) (wo S (dg (nv (S 27 0)) c) (nv (S 27 0))) (sr (dg (nv (S 27 0)) c) (nv (S 27 0))))) 27 (fun _ => kpI (K 26 0) (K 27 0) (K 27 0) (sr (dg (nv (S 27 0)) c) (nv (S 27 0))) (wo S (dg (nv (S 27 0)) c) (nv (S 27 0))) (wo S (dg (nv (S 27 0)) c) (nv (S 27 0))))) 24 (kpF (S 6) (K 24) (K 26 0) (K 27 0) (nv (S 27 0)) c (sr (dg (nv (S 27 0)) c) (nv (S 27 0))) (wo S (dg (nv (S 27 0)) c) (nv (S 27 0))) (nv (S 27 0))))) s.heap := by rw [← eK24_244]; exact hP
              have hD : va_D A (wM cy g S (va_up (va_up (va_up K 26 (fun _ => kpI (K 26 0) (K 27 0) (K 26 0) (sr (dg (nv (S 27 0)) c) (nv (S 27 0))) (wo S (dg (nv (S 27 0)) c) (nv (S 27 0))) (sr (dg (nv (S 27 0)) c) (nv (S 27 0))))) 27 (fun _ => kpI (K 26 0) (K 27 0) (K 27 0) (sr (dg (nv (S 27 0)) c) (nv (S 27 0))) (wo S (dg (nv (S 27 0)) c) (nv (S 27 0))) (wo S (dg (nv (S 27 0)) c) (nv (S 27 0))))) 24 (kpF (S 6) (K 24) (K 26 0) (K 27 0) (nv (S 27 0)) c (sr (dg (nv (S 27 0)) c) (nv (S 27 0))) (wo S (dg (nv (S 27 0)) c) (nv (S 27 0))) (nv (S 27 0))))) := by rw [← eK24_244]; exact hD
              exact W.vret hx hb hr (fun t ht hW => ⟨⟨(), rfl, trivial, by rw [ht]; exact hP, hD⟩, hS.F ht⟩) hS.2.2 dX7_keep_165
            · exact absurd c_102 (by decide)
          · refine lv_iconst (v := nI 1) hx hb dX7_keep_93 (by decide) ?_
            refine lv_goto (tgt := 98) hx hb dX7_keep_94 (by decide) ?_
            refine lv_istore (lv' := [(4, .int (nI 1)), (0, .ref (g 0)), (1, .int (nI c)), (2, .int (nI (sr (dg (nv (S 27 0)) c) (nv (S 27 0))))), (3, .int (nI (wo S (dg (nv (S 27 0)) c) (nv (S 27 0)))))]) hx hb dX7_keep_98 hl (by decide) rfl (fun ls hl => ?_)
            refine lv_iload hx hb dX7_keep_100 (lv_at hl 0 rfl) ?_
            refine cd_if_eq (tgt := 165) hx hb dX7_keep_102 (by decide) (by omega) (fun c_102 => ?_) (fun c_102 => ?_)
            · exact absurd c_102 (by decide)
            · have hkp : kpB (K 26 0) (K 27 0) (sr (dg (nv (S 27 0)) c) (nv (S 27 0))) (wo S (dg (nv (S 27 0)) c) (nv (S 27 0))) = true := decide_eq_true (Or.inr (Or.inr ⟨c_82, Int32.not_le.mp c_90⟩))
              refine lv_aload_n hx hb dX7_keep_105 rfl (lv_at hl 1 rfl) ?_
              refine lv_iload_n hx hb dX7_keep_106 rfl (lv_at hl 3 rfl) ?_
              refine va_put (D := D) (ci := 7) (v := .int (nI (sr (dg (nv (S 27 0)) c) (nv (S 27 0))))) (ty := .int) (C := RX7) (T := TX7) (N := 29) hx hb hts iX7 tyX7 tyX7_ok nmX7 hown hK hP hD hS 0 rfl rfl 26 (by decide) f_121 (fun _ h9 => h9) rfl (by decide +kernel) rfl rfl (Nat.le_of_ble_eq_true rfl) dX7_keep_107 (fun H locs hP hD hS => ?_)
              have hP : va_P D vwCl (wM cy g S (va_up K 26 (fun _ => nI (sr (dg (nv (S 27 0)) c) (nv (S 27 0)))))) H := hP
              have hD : va_D A (wM cy g S (va_up K 26 (fun _ => nI (sr (dg (nv (S 27 0)) c) (nv (S 27 0)))))) := hD
              refine lv_aload_n hx hb dX7_keep_110 rfl (lv_at hl 1 rfl) ?_
              refine lv_iload_n hx hb dX7_keep_111 rfl (lv_at hl 4 rfl) ?_
              refine va_put (D := D) (ci := 7) (v := .int (nI (wo S (dg (nv (S 27 0)) c) (nv (S 27 0))))) (ty := .int) (C := RX7) (T := TX7) (N := 29) hx hb hts iX7 tyX7 tyX7_ok nmX7 hown hK hP hD hS 0 rfl rfl 27 (by decide) f_124 (fun _ h9 => h9) rfl (by decide +kernel) rfl rfl (Nat.le_of_ble_eq_true rfl) dX7_keep_112 (fun H locs hP hD hS => ?_)
              have hP : va_P D vwCl (wM cy g S (va_up (va_up K 26 (fun _ => nI (sr (dg (nv (S 27 0)) c) (nv (S 27 0))))) 27 (fun _ => nI (wo S (dg (nv (S 27 0)) c) (nv (S 27 0)))))) H := hP
              have hD : va_D A (wM cy g S (va_up (va_up K 26 (fun _ => nI (sr (dg (nv (S 27 0)) c) (nv (S 27 0))))) 27 (fun _ => nI (wo S (dg (nv (S 27 0)) c) (nv (S 27 0)))))) := hD
              refine lv_iconst (v := nI 0) hx hb dX7_keep_115 (by decide) ?_
              refine lv_istore (lv' := [(5, .int (nI 0)), (4, .int (nI 1)), (0, .ref (g 0)), (1, .int (nI c)), (2, .int (nI (sr (dg (nv (S 27 0)) c) (nv (S 27 0))))), (3, .int (nI (wo S (dg (nv (S 27 0)) c) (nv (S 27 0)))))]) hx hb dX7_keep_116 hl (by decide) rfl (fun ls hl => ?_)
              have e0 : kpF (S 6) (K 24) (K 26 0) (K 27 0) (nv (S 27 0)) c (sr (dg (nv (S 27 0)) c) (nv (S 27 0))) (wo S (dg (nv (S 27 0)) c) (nv (S 27 0))) 0 = K 24 := kpF_0
              refine wh1 (nL := 6) (fun (q : Nat) => q ≤ nv (S 27 0)) (fun (q : Nat) => nv (S 27 0) - q) (fun (q : Nat) => [(0, .ref (g 0)), (1, .int (nI c)), (5, .int (nI q))]) (fun (q : Nat) => (wM cy g S (va_up (va_up (va_up K 26 (fun _ => nI (sr (dg (nv (S 27 0)) c) (nv (S 27 0))))) 27 (fun _ => nI (wo S (dg (nv (S 27 0)) c) (nv (S 27 0))))) 24 (kpF (S 6) (K 24) (K 26 0) (K 27 0) (nv (S 27 0)) c (sr (dg (nv (S 27 0)) c) (nv (S 27 0))) (wo S (dg (nv (S 27 0)) c) (nv (S 27 0))) q)))) (fun q hi_118 ih_118 H locs hP hD hS ls hl => ?_) 0 (Nat.zero_le _) (by rw [e0]; exact hP) (by rw [e0]; exact hD) hS (lv_sub hl [2, 3, 0] rfl)
              have hP : va_P D vwCl (wM cy g S (va_up (va_up (va_up K 26 (fun _ => nI (sr (dg (nv (S 27 0)) c) (nv (S 27 0))))) 27 (fun _ => nI (wo S (dg (nv (S 27 0)) c) (nv (S 27 0))))) 24 (kpF (S 6) (K 24) (K 26 0) (K 27 0) (nv (S 27 0)) c (sr (dg (nv (S 27 0)) c) (nv (S 27 0))) (wo S (dg (nv (S 27 0)) c) (nv (S 27 0))) q))) H := hP
              have hD : va_D A (wM cy g S (va_up (va_up (va_up K 26 (fun _ => nI (sr (dg (nv (S 27 0)) c) (nv (S 27 0))))) 27 (fun _ => nI (wo S (dg (nv (S 27 0)) c) (nv (S 27 0))))) 24 (kpF (S 6) (K 24) (K 26 0) (K 27 0) (nv (S 27 0)) c (sr (dg (nv (S 27 0)) c) (nv (S 27 0))) (wo S (dg (nv (S 27 0)) c) (nv (S 27 0))) q))) := hD
              have hdg := dg_lt (nv (S 27 0)) c q
              refine lv_iload hx hb dX7_keep_118 (lv_at hl 2 rfl) ?_
              refine lv_aload_n hx hb dX7_keep_120 rfl (lv_at hl 0 rfl) ?_
              refine va_get (D := D) (ci := 7) (v := .int (S 27 0)) (C := RX7) (T := TX7) (N := 29) hx hb hts iX7 hown hK hP 0 rfl rfl 0 (by decide) f_7 (fun _ h9 => h9) rfl dX7_keep_121 ?_
              have b_121 := (iv_27 hI).1
              refine cd_tp (y := nI (nv (S 27 0))) b_121.1 ?_
              have b_121 := b_121.2
              refine cd_icmp_ge (tgt := 165) hx hb dX7_keep_124 (by decide) (by omega) (by omega) (fun c_124 => ?_) (fun c_124 => ?_)
              · have eq : q = nv (S 27 0) := by omega
                subst eq
                have hP : va_P D vwCl (wM cy g S (va_up (va_up (va_up K 26 (fun _ => nI (sr (dg (nv (S 27 0)) c) (nv (S 27 0))))) 27 (fun _ => nI (wo S (dg (nv (S 27 0)) c) (nv (S 27 0))))) 24 (kpF (S 6) (K 24) (K 26 0) (K 27 0) (nv (S 27 0)) c (sr (dg (nv (S 27 0)) c) (nv (S 27 0))) (wo S (dg (nv (S 27 0)) c) (nv (S 27 0))) (nv (S 27 0))))) H := hP
                have hD : va_D A (wM cy g S (va_up (va_up (va_up K 26 (fun _ => nI (sr (dg (nv (S 27 0)) c) (nv (S 27 0))))) 27 (fun _ => nI (wo S (dg (nv (S 27 0)) c) (nv (S 27 0))))) 24 (kpF (S 6) (K 24) (K 26 0) (K 27 0) (nv (S 27 0)) c (sr (dg (nv (S 27 0)) c) (nv (S 27 0))) (wo S (dg (nv (S 27 0)) c) (nv (S 27 0))) (nv (S 27 0))))) := hD
                rw [show ((fun _ => nI (sr (dg (nv (S 27 0)) c) (nv (S 27 0))) : Nat → Int32)) = ((fun _ => kpI (K 26 0) (K 27 0) (K 26 0) (sr (dg (nv (S 27 0)) c) (nv (S 27 0))) (wo S (dg (nv (S 27 0)) c) (nv (S 27 0))) (sr (dg (nv (S 27 0)) c) (nv (S 27 0))) : Nat → Int32)) from congrArg (fun (z : Int32) (_ : Nat) => z) (kpI_y hkp)] at hP hD
                have hP : va_P D vwCl (wM cy g S (va_up (va_up (va_up K 26 (fun _ => kpI (K 26 0) (K 27 0) (K 26 0) (sr (dg (nv (S 27 0)) c) (nv (S 27 0))) (wo S (dg (nv (S 27 0)) c) (nv (S 27 0))) (sr (dg (nv (S 27 0)) c) (nv (S 27 0))))) 27 (fun _ => nI (wo S (dg (nv (S 27 0)) c) (nv (S 27 0))))) 24 (kpF (S 6) (K 24) (K 26 0) (K 27 0) (nv (S 27 0)) c (sr (dg (nv (S 27 0)) c) (nv (S 27 0))) (wo S (dg (nv (S 27 0)) c) (nv (S 27 0))) (nv (S 27 0))))) H := hP
                have hD : va_D A (wM cy g S (va_up (va_up (va_up K 26 (fun _ => kpI (K 26 0) (K 27 0) (K 26 0) (sr (dg (nv (S 27 0)) c) (nv (S 27 0))) (wo S (dg (nv (S 27 0)) c) (nv (S 27 0))) (sr (dg (nv (S 27 0)) c) (nv (S 27 0))))) 27 (fun _ => nI (wo S (dg (nv (S 27 0)) c) (nv (S 27 0))))) 24 (kpF (S 6) (K 24) (K 26 0) (K 27 0) (nv (S 27 0)) c (sr (dg (nv (S 27 0)) c) (nv (S 27 0))) (wo S (dg (nv (S 27 0)) c) (nv (S 27 0))) (nv (S 27 0))))) := hD
                rw [show ((fun _ => nI (wo S (dg (nv (S 27 0)) c) (nv (S 27 0))) : Nat → Int32)) = ((fun _ => kpI (K 26 0) (K 27 0) (K 27 0) (sr (dg (nv (S 27 0)) c) (nv (S 27 0))) (wo S (dg (nv (S 27 0)) c) (nv (S 27 0))) (wo S (dg (nv (S 27 0)) c) (nv (S 27 0))) : Nat → Int32)) from congrArg (fun (z : Int32) (_ : Nat) => z) (kpI_y hkp)] at hP hD
                have hP : va_P D vwCl (wM cy g S (va_up (va_up (va_up K 26 (fun _ => kpI (K 26 0) (K 27 0) (K 26 0) (sr (dg (nv (S 27 0)) c) (nv (S 27 0))) (wo S (dg (nv (S 27 0)) c) (nv (S 27 0))) (sr (dg (nv (S 27 0)) c) (nv (S 27 0))))) 27 (fun _ => kpI (K 26 0) (K 27 0) (K 27 0) (sr (dg (nv (S 27 0)) c) (nv (S 27 0))) (wo S (dg (nv (S 27 0)) c) (nv (S 27 0))) (wo S (dg (nv (S 27 0)) c) (nv (S 27 0))))) 24 (kpF (S 6) (K 24) (K 26 0) (K 27 0) (nv (S 27 0)) c (sr (dg (nv (S 27 0)) c) (nv (S 27 0))) (wo S (dg (nv (S 27 0)) c) (nv (S 27 0))) (nv (S 27 0))))) H := hP
                have hD : va_D A (wM cy g S (va_up (va_up (va_up K 26 (fun _ => kpI (K 26 0) (K 27 0) (K 26 0) (sr (dg (nv (S 27 0)) c) (nv (S 27 0))) (wo S (dg (nv (S 27 0)) c) (nv (S 27 0))) (sr (dg (nv (S 27 0)) c) (nv (S 27 0))))) 27 (fun _ => kpI (K 26 0) (K 27 0) (K 27 0) (sr (dg (nv (S 27 0)) c) (nv (S 27 0))) (wo S (dg (nv (S 27 0)) c) (nv (S 27 0))) (wo S (dg (nv (S 27 0)) c) (nv (S 27 0))))) 24 (kpF (S 6) (K 24) (K 26 0) (K 27 0) (nv (S 27 0)) c (sr (dg (nv (S 27 0)) c) (nv (S 27 0))) (wo S (dg (nv (S 27 0)) c) (nv (S 27 0))) (nv (S 27 0))))) := hD
                exact W.vret hx hb hr (fun t ht hW => ⟨⟨(), rfl, trivial, by rw [ht]; exact hP, hD⟩, hS.F ht⟩) hS.2.2 dX7_keep_165
              · refine lv_aload_n hx hb dX7_keep_127 rfl (lv_at hl 0 rfl) ?_
                refine va_get (D := D) (ci := 7) (v := .ref (g 24)) (C := RX7) (T := TX7) (N := 29) hx hb hts iX7 hown hK hP 0 rfl rfl 24 (by decide) f_68 (fun _ h9 => h9) rfl dX7_keep_128 ?_
                refine lv_iload hx hb dX7_keep_131 (lv_at hl 2 rfl) ?_
                refine lv_aload_n hx hb dX7_keep_133 rfl (lv_at hl 0 rfl) ?_
                refine va_get (D := D) (ci := 7) (v := .ref (g 3)) (C := RX7) (T := TX7) (N := 29) hx hb hts iX7 hown hK hP 0 rfl rfl 3 (by decide) f_20 (fun _ h9 => h9) rfl dX7_keep_134 ?_
                refine lv_iconst (v := nI 4) hx hb dX7_keep_137 (by decide) ?_
                refine lv_iload hx hb dX7_keep_138 (lv_at hl 2 rfl) ?_
                refine cd_imul hx hb dX7_keep_140 ?_
                refine cd_tp (y := nI (q * 4)) (m4 q) ?_
                refine lv_iload_n hx hb dX7_keep_141 rfl (lv_at hl 1 rfl) ?_
                refine lv_iconst (v := nI 2) hx hb dX7_keep_142 (by decide) ?_
                refine lv_aload_n hx hb dX7_keep_143 rfl (lv_at hl 0 rfl) ?_
                refine va_get (D := D) (ci := 7) (v := .int (S 27 0)) (C := RX7) (T := TX7) (N := 29) hx hb hts iX7 hown hK hP 0 rfl rfl 0 (by decide) f_7 (fun _ h9 => h9) rfl dX7_keep_144 ?_
                have b_144 := (iv_27 hI).1
                refine cd_tp (y := nI (nv (S 27 0))) b_144.1 ?_
                have b_144 := b_144.2
                refine lv_iconst (v := nI 1) hx hb dX7_keep_147 (by decide) ?_
                refine cd_isub hx hb (by omega) dX7_keep_148 ?_
                refine lv_iload hx hb dX7_keep_149 (lv_at hl 2 rfl) ?_
                refine cd_isub hx hb (by omega) dX7_keep_151 ?_
                refine cd_imul hx hb dX7_keep_152 ?_
                refine cd_ishr hx hb (by omega) (by omega) dX7_keep_153 ?_
                refine lv_iconst (v := nI 3) hx hb dX7_keep_154 (by decide) ?_
                refine cd_iand hx hb dX7_keep_155 ?_
                refine cd_tp (y := nI (dg (nv (S 27 0)) c q)) (congrArg nI (dg_2 _ _ _)) ?_
                refine cd_iadd hx hb dX7_keep_156 ?_
                refine cd_iald (f := S 6) hx hb hK hP 3 rfl (by omega) (by decide) dX7_keep_157 ?_
                refine cd_iast (f := kpF (S 6) (K 24) (K 26 0) (K 27 0) (nv (S 27 0)) c (sr (dg (nv (S 27 0)) c) (nv (S 27 0))) (wo S (dg (nv (S 27 0)) c) (nv (S 27 0))) q) hx hb hK hP hD hS 19 rfl (by omega) (by decide) dX7_keep_158 (fun H locs hP hD hS => ?_)
                have hP : va_P D vwCl (wM cy g S (va_up (va_up (va_up K 26 (fun _ => nI (sr (dg (nv (S 27 0)) c) (nv (S 27 0))))) 27 (fun _ => nI (wo S (dg (nv (S 27 0)) c) (nv (S 27 0))))) 24 (upd (kpF (S 6) (K 24) (K 26 0) (K 27 0) (nv (S 27 0)) c (sr (dg (nv (S 27 0)) c) (nv (S 27 0))) (wo S (dg (nv (S 27 0)) c) (nv (S 27 0))) q) q ((S 6) ((q * 4) + (dg (nv (S 27 0)) c q)))))) H := hP
                have hD : va_D A (wM cy g S (va_up (va_up (va_up K 26 (fun _ => nI (sr (dg (nv (S 27 0)) c) (nv (S 27 0))))) 27 (fun _ => nI (wo S (dg (nv (S 27 0)) c) (nv (S 27 0))))) 24 (upd (kpF (S 6) (K 24) (K 26 0) (K 27 0) (nv (S 27 0)) c (sr (dg (nv (S 27 0)) c) (nv (S 27 0))) (wo S (dg (nv (S 27 0)) c) (nv (S 27 0))) q) q ((S 6) ((q * 4) + (dg (nv (S 27 0)) c q)))))) := hD
                have e_158 : (upd (kpF (S 6) (K 24) (K 26 0) (K 27 0) (nv (S 27 0)) c (sr (dg (nv (S 27 0)) c) (nv (S 27 0))) (wo S (dg (nv (S 27 0)) c) (nv (S 27 0))) q) q ((S 6) ((q * 4) + (dg (nv (S 27 0)) c q)))) = (kpF (S 6) (K 24) (K 26 0) (K 27 0) (nv (S 27 0)) c (sr (dg (nv (S 27 0)) c) (nv (S 27 0))) (wo S (dg (nv (S 27 0)) c) (nv (S 27 0))) (q + 1)) := kpF_s hkp
                rw [e_158] at hP hD
                have hP : va_P D vwCl (wM cy g S (va_up (va_up (va_up K 26 (fun _ => nI (sr (dg (nv (S 27 0)) c) (nv (S 27 0))))) 27 (fun _ => nI (wo S (dg (nv (S 27 0)) c) (nv (S 27 0))))) 24 (kpF (S 6) (K 24) (K 26 0) (K 27 0) (nv (S 27 0)) c (sr (dg (nv (S 27 0)) c) (nv (S 27 0))) (wo S (dg (nv (S 27 0)) c) (nv (S 27 0))) (q + 1)))) H := hP
                have hD : va_D A (wM cy g S (va_up (va_up (va_up K 26 (fun _ => nI (sr (dg (nv (S 27 0)) c) (nv (S 27 0))))) 27 (fun _ => nI (wo S (dg (nv (S 27 0)) c) (nv (S 27 0))))) 24 (kpF (S 6) (K 24) (K 26 0) (K 27 0) (nv (S 27 0)) c (sr (dg (nv (S 27 0)) c) (nv (S 27 0))) (wo S (dg (nv (S 27 0)) c) (nv (S 27 0))) (q + 1)))) := hD
                refine lv_iinc (v := nI (q + 1)) (lv' := [(5, .int (nI (q + 1))), (0, .ref (g 0)), (1, .int (nI c))]) hx hb dX7_keep_159 hl (k := 2) rfl (cd_i1 _) (by decide) rfl (fun ls hl => ?_)
                refine lv_goto (tgt := 118) hx hb dX7_keep_162 (by decide) ?_
                exact ih_118 (q + 1) (by omega) (by omega) _ _ hP hD hS _ (lv_sub hl [1, 2, 0] rfl)
  · refine lv_iload_n hx hb dX7_keep_16 rfl (lv_at hl 1 rfl) ?_
    refine lv_iconst (v := nI 2) hx hb dX7_keep_17 (by decide) ?_
    refine lv_aload_n hx hb dX7_keep_18 rfl (lv_at hl 0 rfl) ?_
    refine va_get (D := D) (ci := 7) (v := .int (S 27 0)) (C := RX7) (T := TX7) (N := 29) hx hb hts iX7 hown hK hP 0 rfl rfl 0 (by decide) f_7 (fun _ h9 => h9) rfl dX7_keep_19 ?_
    have b_19 := (iv_27 hI).1
    refine cd_tp (y := nI (nv (S 27 0))) b_19.1 ?_
    have b_19 := b_19.2
    refine lv_iconst (v := nI 1) hx hb dX7_keep_22 (by decide) ?_
    refine cd_isub hx hb (by omega) dX7_keep_23 ?_
    refine lv_iload hx hb dX7_keep_24 (lv_at hl 4 rfl) ?_
    refine cd_isub hx hb (by omega) dX7_keep_26 ?_
    refine cd_imul hx hb dX7_keep_27 ?_
    refine cd_ishr hx hb (by omega) (by omega) dX7_keep_28 ?_
    refine lv_iconst (v := nI 3) hx hb dX7_keep_29 (by decide) ?_
    refine cd_iand hx hb dX7_keep_30 ?_
    refine cd_tp (y := nI (dg (nv (S 27 0)) c k)) (congrArg nI (dg_2 _ _ _)) ?_
    refine lv_istore (lv' := [(5, .int (nI (dg (nv (S 27 0)) c k))), (0, .ref (g 0)), (1, .int (nI c)), (2, .int (nI (sr (dg (nv (S 27 0)) c) k))), (3, .int (nI (wo S (dg (nv (S 27 0)) c) k))), (4, .int (nI k))]) hx hb dX7_keep_31 hl (by decide) rfl (fun ls hl => ?_)
    refine lv_iload_n hx hb dX7_keep_33 rfl (lv_at hl 3 rfl) ?_
    refine lv_iload hx hb dX7_keep_34 (lv_at hl 0 rfl) ?_
    refine cd_iadd hx hb dX7_keep_36 ?_
    refine lv_istore_n (lv' := [(2, .int (nI ((sr (dg (nv (S 27 0)) c) k) + (dg (nv (S 27 0)) c k)))), (5, .int (nI (dg (nv (S 27 0)) c k))), (0, .ref (g 0)), (1, .int (nI c)), (3, .int (nI (wo S (dg (nv (S 27 0)) c) k))), (4, .int (nI k))]) hx hb dX7_keep_37 rfl hl (by decide) rfl (fun ls hl => ?_)
    refine lv_iload_n hx hb dX7_keep_38 rfl (lv_at hl 4 rfl) ?_
    refine lv_aload_n hx hb dX7_keep_39 rfl (lv_at hl 2 rfl) ?_
    refine va_get (D := D) (ci := 7) (v := .ref (g 23)) (C := RX7) (T := TX7) (N := 29) hx hb hts iX7 hown hK hP 0 rfl rfl 23 (by decide) f_65 (fun _ h9 => h9) rfl dX7_keep_40 ?_
    refine lv_iconst (v := nI 4) hx hb dX7_keep_43 (by decide) ?_
    refine lv_iload hx hb dX7_keep_44 (lv_at hl 5 rfl) ?_
    refine cd_imul hx hb dX7_keep_46 ?_
    refine cd_tp (y := nI (k * 4)) (m4 k) ?_
    refine lv_iload hx hb dX7_keep_47 (lv_at hl 1 rfl) ?_
    refine cd_iadd hx hb dX7_keep_49 ?_
    refine cd_iald (f := K 23) hx hb hK hP 18 rfl (by omega) (by decide) dX7_keep_50 ?_
    refine cd_tp (y := nI (wk S (k * 4 + dg (nv (S 27 0)) c k) + 1)) ((hab _ (by omega)).trans (ab_v (ok_s.mp (ok_le (k := k + 1) (by omega) hok)).2.1)) ?_
    refine lv_iconst (v := nI 1) hx hb dX7_keep_51 (by decide) ?_
    refine cd_isub hx hb (by omega) dX7_keep_52 ?_
    refine cd_iadd hx hb dX7_keep_53 ?_
    refine lv_istore_n (lv' := [(3, .int (nI ((wo S (dg (nv (S 27 0)) c) k) + ((wk S (k * 4 + dg (nv (S 27 0)) c k) + 1) - 1)))), (2, .int (nI ((sr (dg (nv (S 27 0)) c) k) + (dg (nv (S 27 0)) c k)))), (5, .int (nI (dg (nv (S 27 0)) c k))), (0, .ref (g 0)), (1, .int (nI c)), (4, .int (nI k))]) hx hb dX7_keep_54 rfl hl (by decide) rfl (fun ls hl => ?_)
    refine lv_iinc (v := nI (k + 1)) (lv' := [(4, .int (nI (k + 1))), (3, .int (nI ((wo S (dg (nv (S 27 0)) c) k) + ((wk S (k * 4 + dg (nv (S 27 0)) c k) + 1) - 1)))), (2, .int (nI ((sr (dg (nv (S 27 0)) c) k) + (dg (nv (S 27 0)) c k)))), (5, .int (nI (dg (nv (S 27 0)) c k))), (0, .ref (g 0)), (1, .int (nI c))]) hx hb dX7_keep_55 hl (k := 5) rfl (cd_i1 _) (by decide) rfl (fun ls hl => ?_)
    refine lv_goto (tgt := 7) hx hb dX7_keep_58 (by decide) ?_
    have hl : lv_has ls 6 [(4, .int (nI (k + 1))), (3, .int (nI ((wo S (dg (nv (S 27 0)) c) k) + ((wk S (k * 4 + dg (nv (S 27 0)) c k) + 1) - 1)))), (2, .int (nI (sr (dg (nv (S 27 0)) c) (k + 1)))), (5, .int (nI (dg (nv (S 27 0)) c k))), (0, .ref (g 0)), (1, .int (nI c))] := Eq.mp (congrArg (fun z9 : Int32 => lv_has ls 6 [(4, .int (nI (k + 1))), (3, .int (nI ((wo S (dg (nv (S 27 0)) c) k) + ((wk S (k * 4 + dg (nv (S 27 0)) c k) + 1) - 1)))), (2, .int z9), (5, .int (nI (dg (nv (S 27 0)) c k))), (0, .ref (g 0)), (1, .int (nI c))]) (show (nI ((sr (dg (nv (S 27 0)) c) k) + (dg (nv (S 27 0)) c k)) : Int32) = nI (sr (dg (nv (S 27 0)) c) (k + 1)) from rfl)) hl
    have hl : lv_has ls 6 [(4, .int (nI (k + 1))), (3, .int (nI (wo S (dg (nv (S 27 0)) c) (k + 1)))), (2, .int (nI (sr (dg (nv (S 27 0)) c) (k + 1)))), (5, .int (nI (dg (nv (S 27 0)) c k))), (0, .ref (g 0)), (1, .int (nI c))] := Eq.mp (congrArg (fun z9 : Int32 => lv_has ls 6 [(4, .int (nI (k + 1))), (3, .int z9), (2, .int (nI (sr (dg (nv (S 27 0)) c) (k + 1)))), (5, .int (nI (dg (nv (S 27 0)) c k))), (0, .ref (g 0)), (1, .int (nI c))]) (show (nI ((wo S (dg (nv (S 27 0)) c) k) + ((wk S (k * 4 + dg (nv (S 27 0)) c k) + 1) - 1)) : Int32) = nI (wo S (dg (nv (S 27 0)) c) (k + 1)) from by rw [Nat.add_sub_cancel]; rfl)) hl
    exact ih_7 (k + 1) (by omega) (by omega) _ (lv_sub hl [4, 5, 2, 1, 0] rfl)
