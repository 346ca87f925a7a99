set_option maxHeartbeats 4000000 in
set_option maxRecDepth 100000 in
theorem c_X7_layAble (l : Launch) (D : va_G) (cy : qT) (g : Nat → Nat) (S : qS) (K : qS) (hI : Inv S) (d : Nat) (x : Int32) (m : Nat) (hd : d < 1001) (hm : ∀ a, a < 12 → m.testBit a = ((nv (S 4 d)).testBit a || decide (nI a = x))) (sz : Nat) : Met l yX7_layAble wsX7_layAble ({ frames := 2, cells := 0, slots := 0, locals := 48 }) (va_Pc [.ref (g 0), .int (nI d), .int x] (wrB D cy (wM cy g S K) sz)) (va_Qv (fun (u : Unit) => True) (wrQ D (va_A (wM cy g S K) sz) (fun u : Unit => (wM cy g S (va_up K 23 (abF S m (K 23) (nv (S 27 0) * 4)))))) (va_A (wM cy g S K) sz)) 0 0 (va_A (wM cy g S K) sz) := by
  refine Met.ofW (cc := cX7_layAble) (maxL := 6) (ret := none) (by decide) rfl ?_
  intro pp e9 s m9 args9 bl9 meth9 c9 s9 B hml hv
  obtain ⟨rfl, hsz, hP, hG, hD0⟩ := hv
  have hx := B.exec
  have hb := B.bytes
  have hr := B.returns
  have hts := atoms_spec (ws := wsX7_layAble) B.pre
  have hown : s.vm.findClass RX7 = some m9.cls := findClass_of_methodNamed B.named
  have hlocks := B.notSynchronized
  have hK := hG.K
  subst hsz
  have hD := hD0.self (sz := s.heap.size)
  generalize hAe : (va_A (wM cy g S K) s.heap.size) = A at hD ⊢
  have hA : ∀ q : Nat, s.heap.size ≤ q → A q := fun q h9 => by rw [← hAe]; exact Or.inr h9
  have hS : va_S A s.heap s.heap [] := va_S.rf
  have hP : va_P D vwCl (wM cy g S K) s.heap := hP
  have f_7 := hts (.fieldLink RX7 7 "CastDeskModel" "parts" "I") (by decide +kernel)
  have f_23 := hts (.fieldLink RX7 23 "CastDeskModel" "lengths" "[I") (by decide +kernel)
  have f_65 := hts (.fieldLink RX7 65 "CastDeskModel" "able" "[I") (by decide +kernel)
  have f_20 := hts (.fieldLink RX7 20 "CastDeskModel" "rows" "[I") (by decide +kernel)
  have iX7 : ∀ w ∈ wsX70, w ∈ wsX7_layAble := by decide +kernel
  have hl := lv_entry ([.ref (g 0), .int (nI d), .int x]) (n := 6) (Nat.le_of_ble_eq_true rfl)
  rw [lg_entry_eq]
  generalize (lg_sl ([.ref (g 0), .int (nI d), .int x]) ++ List.replicate (6 - (lg_sl ([.ref (g 0), .int (nI d), .int x])).length) Slot.unset).toArray = ls at hl ⊢
  have hl : lv_has ls 6 [(0, .ref (g 0)), (1, .int (nI d)), (2, .int x)] := hl
  have h27 := (iv_27 hI).1.2
  refine lv_iconst (v := nI 0) hx hb dX7_layAble_0 (by decide) ?_
  refine lv_istore_n (lv' := [(3, .int (nI 0)), (0, .ref (g 0)), (1, .int (nI d)), (2, .int x)]) hx hb dX7_layAble_1 rfl hl (by decide) rfl (fun ls hl => ?_)
  have e0 : abF S m (K 23) 0 = K 23 := abF_0 _ _ _
  refine wh1 (nL := 6) (fun (i : Nat) => i ≤ nv (S 27 0) * 4) (fun (i : Nat) => nv (S 27 0) * 4 - i) (fun (i : Nat) => [(0, .ref (g 0)), (1, .int (nI d)), (2, .int x), (3, .int (nI i))]) (fun (i : Nat) => (wM cy g S (va_up K 23 (abF S m (K 23) i)))) (fun i hi_2 ih_2 H locs hP hD hS ls hl => ?_) 0 (Nat.zero_le _) (by rw [e0]; exact hP) (by rw [e0]; exact hD) hS (lv_sub hl [1, 2, 3, 0] rfl)
  have hP : va_P D vwCl (wM cy g S (va_up K 23 (abF S m (K 23) i))) H := hP
  have hD : va_D A (wM cy g S (va_up K 23 (abF S m (K 23) i))) := hD
  refine lv_iload_n hx hb dX7_layAble_2 rfl (lv_at hl 3 rfl) ?_
  refine lv_iconst (v := nI 4) hx hb dX7_layAble_3 (by decide) ?_
  refine lv_aload_n hx hb dX7_layAble_4 rfl (lv_at hl 0 rfl) ?_
  refine va_get (D := D) (ci := 7) (v := .int (S 27 0)) (C := RX7) (T := TX7) (N := 29) hx hb hts iX7 hown hK hP 0 rfl rfl 0 (by decide) f_7 (fun _ h9 => h9) rfl dX7_layAble_5 ?_
  have b_5 := (iv_27 hI).1
  refine cd_tp (y := nI (nv (S 27 0))) b_5.1 ?_
  have b_5 := b_5.2
  refine cd_imul hx hb dX7_layAble_8 ?_
  refine cd_icmp_ge (tgt := 104) hx hb dX7_layAble_9 (by decide) (by omega) (by omega) (fun c_9 => ?_) (fun c_9 => ?_)
  · have ei : i = nv (S 27 0) * 4 := by omega
    subst ei
    have hP : va_P D vwCl (wM cy g S (va_up K 23 (abF S m (K 23) (nv (S 27 0) * 4)))) H := hP
    have hD : va_D A (wM cy g S (va_up K 23 (abF S m (K 23) (nv (S 27 0) * 4)))) := hD
    exact W.vret hx hb hr (fun t ht hW => ⟨⟨(), rfl, trivial, by rw [ht]; exact hP, hD⟩, hS.F ht⟩) hS.2.2 dX7_layAble_104
  · refine lv_iload_n hx hb dX7_layAble_12 rfl (lv_at hl 3 rfl) ?_
    refine lv_iconst (v := nI 4) hx hb dX7_layAble_13 (by decide) ?_
    refine cd_idiv hx hb (by omega) (by omega) (by omega) dX7_layAble_14 ?_
    refine lv_istore (lv' := [(4, .int (nI (i / 4))), (0, .ref (g 0)), (1, .int (nI d)), (2, .int x), (3, .int (nI i))]) hx hb dX7_layAble_15 hl (by decide) rfl (fun ls hl => ?_)
    refine lv_iload_n hx hb dX7_layAble_17 rfl (lv_at hl 4 rfl) ?_
    refine lv_iconst (v := nI 4) hx hb dX7_layAble_18 (by decide) ?_
    refine cd_irem hx hb (by omega) (by omega) (by omega) dX7_layAble_19 ?_
    refine lv_aload_n hx hb dX7_layAble_20 rfl (lv_at hl 1 rfl) ?_
    refine va_get (D := D) (ci := 7) (v := .ref (g 4)) (C := RX7) (T := TX7) (N := 29) hx hb hts iX7 hown hK hP 0 rfl rfl 4 (by decide) f_23 (fun _ h9 => h9) rfl dX7_layAble_21 ?_
    refine lv_iload hx hb dX7_layAble_24 (lv_at hl 0 rfl) ?_
    refine cd_iald (f := S 7) hx hb hK hP 4 rfl (by omega) (by decide) dX7_layAble_26 ?_
    have b_26 := iv_7 hI (i / 4) (by omega)
    refine cd_tp (y := nI (nv (S 7 (i / 4)))) b_26.1 ?_
    have b_26 := b_26.2
    refine cd_icmp_ge (tgt := 60) hx hb dX7_layAble_27 (by decide) (by omega) (by omega) (fun c_27 => ?_) (fun c_27 => ?_)
    · have hav : avB S m i = false := av_l (by omega)
      refine lv_iconst (v := nI 0) hx hb dX7_layAble_60 (by decide) ?_
      refine lv_istore (lv' := [(5, .int (nI 0)), (4, .int (nI (i / 4))), (0, .ref (g 0)), (1, .int (nI d)), (2, .int x), (3, .int (nI i))]) hx hb dX7_layAble_61 hl (by decide) rfl (fun ls hl => ?_)
      refine lv_aload_n hx hb dX7_layAble_63 rfl (lv_at hl 2 rfl) ?_
      refine va_get (D := D) (ci := 7) (v := .ref (g 23)) (C := RX7) (T := TX7) (N := 29) hx hb hts iX7 hown hK hP 0 rfl rfl 23 (by decide) f_65 (fun _ h9 => h9) rfl dX7_layAble_64 ?_
      refine lv_iload_n hx hb dX7_layAble_67 rfl (lv_at hl 5 rfl) ?_
      refine lv_iload hx hb dX7_layAble_68 (lv_at hl 0 rfl) ?_
      refine cd_if_ne (tgt := 77) hx hb dX7_layAble_70 (by decide) (by omega) (fun c_70 => ?_) (fun c_70 => ?_)
      · exact absurd c_70 (by decide)
      · refine lv_iconst (v := nI 0) hx hb dX7_layAble_73 (by decide) ?_
        refine lv_goto (tgt := 97) hx hb dX7_layAble_74 (by decide) ?_
        refine cd_iast (f := abF S m (K 23) i) hx hb hK hP hD hS 18 rfl (by omega) (by decide) dX7_layAble_97 (fun H locs hP hD hS => ?_)
        have hP : va_P D vwCl (wM cy g S (va_up K 23 (upd (abF S m (K 23) i) i (nI 0)))) H := hP
        have hD : va_D A (wM cy g S (va_up K 23 (upd (abF S m (K 23) i) i (nI 0)))) := hD
        have e_97 : (upd (abF S m (K 23) i) i (nI 0)) = (abF S m (K 23) (i + 1)) := by rw [(ab_no hav : nI 0 = abI S m i)]; exact abF_s S m (K 23) i
        rw [e_97] at hP hD
        have hP : va_P D vwCl (wM cy g S (va_up K 23 (abF S m (K 23) (i + 1)))) H := hP
        have hD : va_D A (wM cy g S (va_up K 23 (abF S m (K 23) (i + 1)))) := hD
        refine lv_iinc (v := nI (i + 1)) (lv' := [(3, .int (nI (i + 1))), (5, .int (nI 0)), (4, .int (nI (i / 4))), (0, .ref (g 0)), (1, .int (nI d)), (2, .int x)]) hx hb dX7_layAble_98 hl (k := 5) rfl (cd_i1 _) (by decide) rfl (fun ls hl => ?_)
        refine lv_goto (tgt := 2) hx hb dX7_layAble_101 (by decide) ?_
        exact ih_2 (i + 1) (by omega) (by omega) _ _ hP hD hS _ (lv_sub hl [3, 4, 5, 0] rfl)
    · have hbd := iv_6 hI (i / 4) (i % 4) (by omega) (by omega)
      rw [show i / 4 * 4 + i % 4 = i by omega] at hbd
      have hbd2 := hbd.2
      have hmi := hm (nv (S 6 i)) (by omega)
      refine lv_aload_n hx hb dX7_layAble_30 rfl (lv_at hl 1 rfl) ?_
      refine va_get (D := D) (ci := 7) (v := .ref (g 3)) (C := RX7) (T := TX7) (N := 29) hx hb hts iX7 hown hK hP 0 rfl rfl 3 (by decide) f_20 (fun _ h9 => h9) rfl dX7_layAble_31 ?_
      refine lv_iload_n hx hb dX7_layAble_34 rfl (lv_at hl 4 rfl) ?_
      refine cd_iald (f := S 6) hx hb hK hP 3 rfl (by omega) (by decide) dX7_layAble_35 ?_
      refine lv_iload_n hx hb dX7_layAble_36 rfl (lv_at hl 3 rfl) ?_
      refine lv_icmp_eq (tgt := 60) hx hb dX7_layAble_37 (by decide) (fun c_37 => ?_) (fun c_37 => ?_)
      · have hav : avB S m i = false := by rw [av_r (by omega)]; exact rdy_t (by rw [hmi, decide_eq_true (hbd.1.symm.trans c_37), Bool.or_true])
        refine lv_iconst (v := nI 0) hx hb dX7_layAble_60 (by decide) ?_
        refine lv_istore (lv' := [(5, .int (nI 0)), (4, .int (nI (i / 4))), (0, .ref (g 0)), (1, .int (nI d)), (2, .int x), (3, .int (nI i))]) hx hb dX7_layAble_61 hl (by decide) rfl (fun ls hl => ?_)
        refine lv_aload_n hx hb dX7_layAble_63 rfl (lv_at hl 2 rfl) ?_
        refine va_get (D := D) (ci := 7) (v := .ref (g 23)) (C := RX7) (T := TX7) (N := 29) hx hb hts iX7 hown hK hP 0 rfl rfl 23 (by decide) f_65 (fun _ h9 => h9) rfl dX7_layAble_64 ?_
        refine lv_iload_n hx hb dX7_layAble_67 rfl (lv_at hl 5 rfl) ?_
        refine lv_iload hx hb dX7_layAble_68 (lv_at hl 0 rfl) ?_
        refine cd_if_ne (tgt := 77) hx hb dX7_layAble_70 (by decide) (by omega) (fun c_70 => ?_) (fun c_70 => ?_)
        · exact absurd c_70 (by decide)
        · refine lv_iconst (v := nI 0) hx hb dX7_layAble_73 (by decide) ?_
          refine lv_goto (tgt := 97) hx hb dX7_layAble_74 (by decide) ?_
          refine cd_iast (f := abF S m (K 23) i) hx hb hK hP hD hS 18 rfl (by omega) (by decide) dX7_layAble_97 (fun H locs hP hD hS => ?_)
          have hP : va_P D vwCl (wM cy g S (va_up K 23 (upd (abF S m (K 23) i) i (nI 0)))) H := hP
          have hD : va_D A (wM cy g S (va_up K 23 (upd (abF S m (K 23) i) i (nI 0)))) := hD
          have e_97 : (upd (abF S m (K 23) i) i (nI 0)) = (abF S m (K 23) (i + 1)) := by rw [(ab_no hav : nI 0 = abI S m i)]; exact abF_s S m (K 23) i
          rw [e_97] at hP hD
          have hP : va_P D vwCl (wM cy g S (va_up K 23 (abF S m (K 23) (i + 1)))) H := hP
          have hD : va_D A (wM cy g S (va_up K 23 (abF S m (K 23) (i + 1)))) := hD
          refine lv_iinc (v := nI (i + 1)) (lv' := [(3, .int (nI (i + 1))), (5, .int (nI 0)), (4, .int (nI (i / 4))), (0, .ref (g 0)), (1, .int (nI d)), (2, .int x)]) hx hb dX7_layAble_98 hl (k := 5) rfl (cd_i1 _) (by decide) rfl (fun ls hl => ?_)
          refine lv_goto (tgt := 2) hx hb dX7_layAble_101 (by decide) ?_
          exact ih_2 (i + 1) (by omega) (by omega) _ _ hP hD hS _ (lv_sub hl [3, 4, 5, 0] rfl)
      · have hrd : rdy S (nv (S 6 i)) (i / 4) m = rdy S (nv (S 6 i)) (i / 4) (nv (S 4 d)) := rdy_x (by rw [hmi, decide_eq_false (fun q => c_37 (hbd.1.trans q)), Bool.or_false])
        refine lv_aload_n hx hb dX7_layAble_40 rfl (lv_at hl 1 rfl) ?_
        refine lv_aload_n hx hb dX7_layAble_41 rfl (lv_at hl 1 rfl) ?_
        refine va_get (D := D) (ci := 7) (v := .ref (g 3)) (C := RX7) (T := TX7) (N := 29) hx hb hts iX7 hown hK hP 0 rfl rfl 3 (by decide) f_20 (fun _ h9 => h9) rfl dX7_layAble_42 ?_
        refine lv_iload_n hx hb dX7_layAble_45 rfl (lv_at hl 4 rfl) ?_
        refine cd_iald (f := S 6) hx hb hK hP 3 rfl (by omega) (by decide) dX7_layAble_46 ?_
        refine cd_tp (y := nI (nv (S 6 i))) (hbd.1) ?_
        refine lv_iload hx hb dX7_layAble_47 (lv_at hl 0 rfl) ?_
        refine lv_iload_n hx hb dX7_layAble_49 rfl (lv_at hl 2 rfl) ?_
        have M_50 := c_X7_can l D cy g S (va_up K 23 (abF S m (K 23) i)) hI (nv (S 6 i)) (i / 4) d (by omega) (by omega) (by omega)
        refine cd_roi (va_runV (As := [.int (nI (nv (S 6 i))), .int (nI (i / 4)), .int (nI d)]) (rest := []) ⟨hx, hb, hml, hown, hts⟩ M_50 (cwV 3 hts gX7_layAble_X7_can rfl rfl rfl (by decide +kernel) ⟨Nat.le_of_ble_eq_true rfl, Nat.le_of_ble_eq_true rfl⟩) ⟨roB.bl, va_recv hK hP (ci := 7) (q0 := 0) rfl rfl, fun U hU hW => ⟨rfl, by rw [hU]; exact hP, hG.warm hW⟩⟩ rfl rfl hl.1 rfl (lv_room (Nat.le_of_ble_eq_true rfl)) dX7_layAble_50 (by exact ⟨Nat.zero_le _, Nat.zero_le _⟩)) (fun r_50 hr_50 => ?_)
        subst hr_50
        refine cd_tp (y := bI (rkB S (i / 4) (nI (nv (S 6 i))) && rdy S (nv (S 6 i)) (i / 4) (nv ((S 4) d)))) rfl ?_
        refine cd_ifB_eq (tgt := 60) hx hb dX7_layAble_53 (by decide) (fun c_53 => ?_) (fun c_53 => ?_)
        · have hav : avB S m i = false := by rw [av_r (by omega), hrd]; rw [← hbd.1, rk_in (by omega), Bool.true_and] at c_53; exact c_53
          refine lv_iconst (v := nI 0) hx hb dX7_layAble_60 (by decide) ?_
          refine lv_istore (lv' := [(5, .int (nI 0)), (4, .int (nI (i / 4))), (0, .ref (g 0)), (1, .int (nI d)), (2, .int x), (3, .int (nI i))]) hx hb dX7_layAble_61 hl (by decide) rfl (fun ls hl => ?_)
          refine lv_aload_n hx hb dX7_layAble_63 rfl (lv_at hl 2 rfl) ?_
          refine va_get (D := D) (ci := 7) (v := .ref (g 23)) (C := RX7) (T := TX7) (N := 29) hx hb hts iX7 hown hK hP 0 rfl rfl 23 (by decide) f_65 (fun _ h9 => h9) rfl dX7_layAble_64 ?_
          refine lv_iload_n hx hb dX7_layAble_67 rfl (lv_at hl 5 rfl) ?_
          refine lv_iload hx hb dX7_layAble_68 (lv_at hl 0 rfl) ?_
          refine cd_if_ne (tgt := 77) hx hb dX7_layAble_70 (by decide) (by omega) (fun c_70 => ?_) (fun c_70 => ?_)
          · exact absurd c_70 (by decide)
          · refine lv_iconst (v := nI 0) hx hb dX7_layAble_73 (by decide) ?_
            refine lv_goto (tgt := 97) hx hb dX7_layAble_74 (by decide) ?_
            refine cd_iast (f := abF S m (K 23) i) hx hb hK hP hD hS 18 rfl (by omega) (by decide) dX7_layAble_97 (fun H locs hP hD hS => ?_)
            have hP : va_P D vwCl (wM cy g S (va_up K 23 (upd (abF S m (K 23) i) i (nI 0)))) H := hP
            have hD : va_D A (wM cy g S (va_up K 23 (upd (abF S m (K 23) i) i (nI 0)))) := hD
            have e_97 : (upd (abF S m (K 23) i) i (nI 0)) = (abF S m (K 23) (i + 1)) := by rw [(ab_no hav : nI 0 = abI S m i)]; exact abF_s S m (K 23) i
            rw [e_97] at hP hD
            have hP : va_P D vwCl (wM cy g S (va_up K 23 (abF S m (K 23) (i + 1)))) H := hP
            have hD : va_D A (wM cy g S (va_up K 23 (abF S m (K 23) (i + 1)))) := hD
            refine lv_iinc (v := nI (i + 1)) (lv' := [(3, .int (nI (i + 1))), (5, .int (nI 0)), (4, .int (nI (i / 4))), (0, .ref (g 0)), (1, .int (nI d)), (2, .int x)]) hx hb dX7_layAble_98 hl (k := 5) rfl (cd_i1 _) (by decide) rfl (fun ls hl => ?_)
            refine lv_goto (tgt := 2) hx hb dX7_layAble_101 (by decide) ?_
            exact ih_2 (i + 1) (by omega) (by omega) _ _ hP hD hS _ (lv_sub hl [3, 4, 5, 0] rfl)
        · have hav : avB S m i = true := by rw [av_r (by omega), hrd]; rw [← hbd.1, rk_in (by omega), Bool.true_and] at c_53; exact c_53
          refine lv_iconst (v := nI 1) hx hb dX7_layAble_56 (by decide) ?_
          refine lv_goto (tgt := 61) hx hb dX7_layAble_57 (by decide) ?_
          refine lv_istore (lv' := [(5, .int (nI 1)), (4, .int (nI (i / 4))), (0, .ref (g 0)), (1, .int (nI d)), (2, .int x), (3, .int (nI i))]) hx hb dX7_layAble_61 hl (by decide) rfl (fun ls hl => ?_)
          refine lv_aload_n hx hb dX7_layAble_63 rfl (lv_at hl 2 rfl) ?_
          refine va_get (D := D) (ci := 7) (v := .ref (g 23)) (C := RX7) (T := TX7) (N := 29) hx hb hts iX7 hown hK hP 0 rfl rfl 23 (by decide) f_65 (fun _ h9 => h9) rfl dX7_layAble_64 ?_
          refine lv_iload_n hx hb dX7_layAble_67 rfl (lv_at hl 5 rfl) ?_
          refine lv_iload hx hb dX7_layAble_68 (lv_at hl 0 rfl) ?_
          refine cd_if_ne (tgt := 77) hx hb dX7_layAble_70 (by decide) (by omega) (fun c_70 => ?_) (fun c_70 => ?_)
          · refine lv_aload_n hx hb dX7_layAble_77 rfl (lv_at hl 2 rfl) ?_
            refine lv_aload_n hx hb dX7_layAble_78 rfl (lv_at hl 2 rfl) ?_
            refine va_get (D := D) (ci := 7) (v := .ref (g 3)) (C := RX7) (T := TX7) (N := 29) hx hb hts iX7 hown hK hP 0 rfl rfl 3 (by decide) f_20 (fun _ h9 => h9) rfl dX7_layAble_79 ?_
            refine lv_iload_n hx hb dX7_layAble_82 rfl (lv_at hl 5 rfl) ?_
            refine cd_iald (f := S 6) hx hb hK hP 3 rfl (by omega) (by decide) dX7_layAble_83 ?_
            refine cd_tp (y := nI (nv (S 6 i))) (hbd.1) ?_
            refine lv_iload hx hb dX7_layAble_84 (lv_at hl 1 rfl) ?_
            have M_86 := c_X7_fits l D cy g S (va_up K 23 (abF S m (K 23) i)) hI (nv (S 6 i)) (i / 4) (by omega)
            refine cd_roi (va_runV (As := [.int (nI (nv (S 6 i))), .int (nI (i / 4))]) (rest := [.int (nI i), .ref (g 23)]) ⟨hx, hb, hml, hown, hts⟩ M_86 (cwV 2 hts gX7_layAble_X7_fits rfl rfl rfl (by decide +kernel) ⟨Nat.le_of_ble_eq_true rfl, Nat.le_of_ble_eq_true rfl⟩) ⟨roB.bl, va_recv hK hP (ci := 7) (q0 := 0) rfl rfl, fun U hU hW => ⟨rfl, by rw [hU]; exact hP, hG.warm hW⟩⟩ rfl rfl hl.1 rfl (lv_room (Nat.le_of_ble_eq_true rfl)) dX7_layAble_86 (by exact ⟨Nat.zero_le _, Nat.zero_le _⟩)) (fun r_86 hr_86 => ?_)
            subst hr_86
            refine cd_tp (y := bI (ftB S (i / 4) ((S 2) (nv (S 6 i))))) rfl ?_
            refine cd_ifB_eq (tgt := 96) hx hb dX7_layAble_89 (by decide) (fun c_89 => ?_) (fun c_89 => ?_)
            · refine lv_iconst (v := nI 2) hx hb dX7_layAble_96 (by decide) ?_
              refine cd_iast (f := abF S m (K 23) i) hx hb hK hP hD hS 18 rfl (by omega) (by decide) dX7_layAble_97 (fun H locs hP hD hS => ?_)
              have hP : va_P D vwCl (wM cy g S (va_up K 23 (upd (abF S m (K 23) i) i (nI 2)))) H := hP
              have hD : va_D A (wM cy g S (va_up K 23 (upd (abF S m (K 23) i) i (nI 2)))) := hD
              have e_97 : (upd (abF S m (K 23) i) i (nI 2)) = (abF S m (K 23) (i + 1)) := by rw [(ab_2 hav c_89 : nI 2 = abI S m i)]; exact abF_s S m (K 23) i
              rw [e_97] at hP hD
              have hP : va_P D vwCl (wM cy g S (va_up K 23 (abF S m (K 23) (i + 1)))) H := hP
              have hD : va_D A (wM cy g S (va_up K 23 (abF S m (K 23) (i + 1)))) := hD
              refine lv_iinc (v := nI (i + 1)) (lv' := [(3, .int (nI (i + 1))), (5, .int (nI 1)), (4, .int (nI (i / 4))), (0, .ref (g 0)), (1, .int (nI d)), (2, .int x)]) hx hb dX7_layAble_98 hl (k := 5) rfl (cd_i1 _) (by decide) rfl (fun ls hl => ?_)
              refine lv_goto (tgt := 2) hx hb dX7_layAble_101 (by decide) ?_
              exact ih_2 (i + 1) (by omega) (by omega) _ _ hP hD hS _ (lv_sub hl [3, 4, 5, 0] rfl)
            · refine lv_iconst (v := nI 1) hx hb dX7_layAble_92 (by decide) ?_
              refine lv_goto (tgt := 97) hx hb dX7_layAble_93 (by decide) ?_
              refine cd_iast (f := abF S m (K 23) i) hx hb hK hP hD hS 18 rfl (by omega) (by decide) dX7_layAble_97 (fun H locs hP hD hS => ?_)
              have hP : va_P D vwCl (wM cy g S (va_up K 23 (upd (abF S m (K 23) i) i (nI 1)))) H := hP
              have hD : va_D A (wM cy g S (va_up K 23 (upd (abF S m (K 23) i) i (nI 1)))) := hD
              have e_97 : (upd (abF S m (K 23) i) i (nI 1)) = (abF S m (K 23) (i + 1)) := by rw [(ab_1 hav c_89 : nI 1 = abI S m i)]; exact abF_s S m (K 23) i
              rw [e_97] at hP hD
              have hP : va_P D vwCl (wM cy g S (va_up K 23 (abF S m (K 23) (i + 1)))) H := hP
              have hD : va_D A (wM cy g S (va_up K 23 (abF S m (K 23) (i + 1)))) := hD
              refine lv_iinc (v := nI (i + 1)) (lv' := [(3, .int (nI (i + 1))), (5, .int (nI 1)), (4, .int (nI (i / 4))), (0, .ref (g 0)), (1, .int (nI d)), (2, .int x)]) hx hb dX7_layAble_98 hl (k := 5) rfl (cd_i1 _) (by decide) rfl (fun ls hl => ?_)
              refine lv_goto (tgt := 2) hx hb dX7_layAble_101 (by decide) ?_
              exact ih_2 (i + 1) (by omega) (by omega) _ _ hP hD hS _ (lv_sub hl [3, 4, 5, 0] rfl)
          · exact absurd c_70 (by decide)
