set_option maxHeartbeats 4000000 in
set_option maxRecDepth 100000 in
theorem c_L_canPlay (l : Launch) (D : va_G) (cy : qT) (hfl : l.stackTraces = false) (h : Nat → Nat) (S : qS) (J : qS) (o : Nat) (f : Nat → Int64) (hI : Inv S) (a : Int32) (p : Int32) (d : Int32) (hJ : jk J) (sz : Nat) : Met l yL_canPlay wsL_canPlay ({ frames := 8, cells := 4, slots := 24, locals := 136 }) (va_Pc [.ref (h 0), .int a, .int p, .int d, .ref o] (thB D cy (wCL cy h S J o f) sz)) (va_Qi (fun (r9 : Int32) (u : qS × qS × (Nat → Int64)) => lO (th2 (inI a (nI 0) (nI 11) && inI p (nI 0) (nI 7)) (inI d (nI 0) (nI 1000))) (bI (rkB S (nv p) a && rdy S (nv a) (nv p) (nv (S 4 (nv d))))).toInt64 S S r9 u) (wrQ D (va_A (wCL cy h S J o f) sz) (fun u : qS × qS × (Nat → Int64) => wCL cy h u.1 u.2.1 o u.2.2)) (va_A (wCL cy h S J o f) sz)) 4 24 (va_A (wCL cy h S J o f) sz) := by
  refine va_MetW (cc := cL_canPlay) (maxL := 6) (ret := (some .int)) (by decide) rfl ?_
  intro pp e9 s m9 args9 bl9 meth9 c9 s9 B hml hv
  obtain ⟨rfl, ⟨hsz, hP, hG, hD0⟩, hTz⟩ := hv
  have hx := B.exec
  have hb := B.bytes
  have hr := B.returns
  have hts := atoms_spec (ws := wsL_canPlay) B.pre
  have hown : s.vm.findClass RL = some m9.cls := findClass_of_methodNamed B.named
  have hlocks := B.notSynchronized
  have hK := hG.K
  subst hsz
  have hD := hD0.self (sz := s.heap.size)
  generalize hAe : (va_A (wCL cy h S J o f) s.heap.size) = A at hD hTz ⊢
  have hA : ∀ q : Nat, s.heap.size ≤ q → A q := fun q h9 => by rw [← hAe]; exact Or.inr h9
  have hS : va_S A s.heap s.heap [] := va_S.rf
  have hP : va_P D vwCl (wCL cy h S J o f) s.heap := hP
  have tab_ := hts (.codeWith yL_canPlay cL_canPlay 6 (some .int) [(0, 19, 22, 19), (0, 19, 26, 13)]) (by decide +kernel)
  have cl_19 := hts (.classLink RL 19 "java/lang/IndexOutOfBoundsException") (by decide +kernel)
  have cl_13 := hts (.classLink RL 13 "java/lang/IllegalArgumentException") (by decide +kernel)
  have hl := lv_entry ([.ref (h 0), .int a, .int p, .int d, .ref o]) (n := 6) (Nat.le_of_ble_eq_true rfl)
  rw [lg_entry_eq]
  generalize (lg_sl ([.ref (h 0), .int a, .int p, .int d, .ref o]) ++ List.replicate (6 - (lg_sl ([.ref (h 0), .int a, .int p, .int d, .ref o])).length) Slot.unset).toArray = ls at hl ⊢
  have hl : lv_has ls 6 [(0, .ref (h 0)), (1, .int a), (2, .int p), (3, .int d), (4, .ref o)] := hl
  refine lv_aload hx hb dL_canPlay_0 (lv_at hl 4 rfl) ?_
  refine lv_iconst (v := nI 0) hx hb dL_canPlay_2 (by decide) ?_
  refine lv_aload_n hx hb dL_canPlay_3 rfl (lv_at hl 0 rfl) ?_
  refine lv_iload_n hx hb dL_canPlay_4 rfl (lv_at hl 1 rfl) ?_
  refine lv_iload_n hx hb dL_canPlay_5 rfl (lv_at hl 2 rfl) ?_
  refine lv_iload_n hx hb dL_canPlay_6 rfl (lv_at hl 3 rfl) ?_
  have M_7 := c_X6_canPlay l D cy hfl h S J hI a p d hJ s.heap.size
  have hPc := hP.sub (ws' := (wC cy h S J)) [0, 1, 2, 3, 4, 5, 6, 7, 8, 9, 10, 11, 12, 13, 14, 15, 16, 17, 18, 19, 20, 21, 22, 23, 24, 25, 26] rfl
  have hDc := hD.sub (ws' := (wC cy h S J)) [0, 1, 2, 3, 4, 5, 6, 7, 8, 9, 10, 11, 12, 13, 14, 15, 16, 17, 18, 19, 20, 21, 22, 23, 24, 25, 26] (by decide) rfl
  refine cd_xri (S := qS) (W1 := fun u_7 => (wC cy h S u_7)) (ws' := fun u_7 => (wCL cy h S u_7 o f)) (wc := (wC cy h S J)) (wr := [(o, aL cy 1 f)]) (vx_runV (As := [.int a, .int p, .int d]) (rest := [.int (nI 0), .ref o]) ⟨hx, hb, hml, hown, hts⟩ M_7 (cwV 3 hts gL_canPlay_X6_canPlay rfl rfl rfl (by decide +kernel) ⟨Nat.le_of_ble_eq_true rfl, Nat.le_of_ble_eq_true rfl⟩) ⟨thB.bl, va_recv hK hP (ci := 6) (q0 := 0) rfl rfl, fun U hU hW => ⟨rfl, ⟨by rw [hU], by rw [hU]; exact hPc, hG.warm hW, hDc.weaken (fun _ _ _ _ => trivial)⟩, hTz.down hS (va_free (wc := (wC cy h S J)) hD hS hA [0, 1, 2, 3, 4, 5, 6, 7, 8, 9, 10, 11, 12, 13, 14, 15, 16, 17, 18, 19, 20, 21, 22, 23, 24, 25, 26] rfl) hU hW⟩⟩ rfl rfl hl.1 rfl (lv_room (Nat.le_of_ble_eq_true rfl)) dL_canPlay_7 (by exact ⟨Nat.le_of_ble_eq_true rfl, Nat.le_of_ble_eq_true rfl⟩)) hP hD hS hA [0, 1, 2, 3, 4, 5, 6, 7, 8, 9, 10, 11, 12, 13, 14, 15, 16, 17, 18, 19, 20, 21, 22, 23, 24, 25, 26] [27] [1, 2, 3, 4, 5, 6, 7, 8, 9, 10, 11, 12, 13, 14, 15, 16, 17, 18, 19, 20, 21, 22, 23, 24, 25, 26, 27, 0] rfl rfl (by decide) (by decide) (by decide) (fun _ => rfl) (fun E9 ce9 q9 H1 locs1 hw_7 hP1 hS1 hce hcv hcl => ?_) (fun r_7 u_7 H locs hw_7 hP hD hS => ?_)
  · rcases hw_7 with ⟨rfl, hth⟩ | ⟨rfl, hth⟩
    · refine vx_catch (name := xIO) hown [] (⟨0, 19, 22, 19⟩ : ExceptionTableEntry) [(⟨0, 19, 26, 13⟩ : ExceptionTableEntry)] ((vx_table (x := yL_canPlay) B tab_).trans rfl) (fun z hz => absurd hz List.not_mem_nil) (by decide) (by decide) cl_19 (va_Nw.use rfl hG.2.2.2.2.2.2.1) hce hcv hcl ?_
      have hP : va_P D vwCl (wCL cy h S J o f) H1 := hP1
      have hS := hS1
      refine lv_astore (lv' := [(5, .ref q9), (0, .ref (h 0)), (1, .int a), (2, .int p), (3, .int d), (4, .ref o)]) hx hb dL_canPlay_22 hl (by decide) rfl (fun ls hl => ?_)
      refine lv_iconst (v := nI 1) hx hb dL_canPlay_24 (by decide) ?_
      exact W.iret (v := nI 1) hx hb hr (fun t ht hW => ⟨⟨nI 1, (S, J, f), rfl, lO_no (k := 1) (by decide) (by decide) (hth) hJ, by rw [ht]; exact hP, hD⟩, hS.F ht⟩) hS.2.2 dL_canPlay_25
    · refine vx_catch (name := xIA) hown [(⟨0, 19, 22, 19⟩ : ExceptionTableEntry)] (⟨0, 19, 26, 13⟩ : ExceptionTableEntry) [] ((vx_table (x := yL_canPlay) B tab_).trans rfl) (fun z hz => by have hz := List.mem_singleton.mp hz; subst hz; exact Or.inr ⟨by decide, xIO, cl_19, hG.2.2.2.1⟩) (by decide) (by decide) cl_13 (va_Nw.use rfl hG.2.2.2.2.2.2.2.1) hce hcv hcl ?_
      have hP : va_P D vwCl (wCL cy h S J o f) H1 := hP1
      have hS := hS1
      refine lv_astore (lv' := [(5, .ref q9), (0, .ref (h 0)), (1, .int a), (2, .int p), (3, .int d), (4, .ref o)]) hx hb dL_canPlay_26 hl (by decide) rfl (fun ls hl => ?_)
      refine lv_iconst (v := nI 2) hx hb dL_canPlay_28 (by decide) ?_
      exact W.iret (v := nI 2) hx hb hr (fun t ht hW => ⟨⟨nI 2, (S, J, f), rfl, lO_no (k := 2) (by decide) (by decide) (hth) hJ, by rw [ht]; exact hP, hD⟩, hS.F ht⟩) hS.2.2 dL_canPlay_29
  · obtain ⟨hr_7, hw_7⟩ := hw_7
    subst hr_7
    refine cd_tp (y := bI (rkB S (nv p) a && rdy S (nv a) (nv p) (nv ((S 4) (nv d))))) rfl ?_
    have hP : va_P D vwCl (wCL cy h S u_7 o f) H := hP
    have hD : va_D A (wCL cy h S u_7 o f) := hD
    refine cd_ifB_eq (tgt := 17) hx hb dL_canPlay_10 (by decide) (fun c_10 => ?_) (fun c_10 => ?_)
    · refine lv_lconst (v := 0) hx hb dL_canPlay_17 (by decide) ?_
      refine cd_last (f := f) hx hb hK hP hD hS 27 rfl (by omega) (by decide) dL_canPlay_18 (fun H locs hP hD hS => ?_)
      have hP : va_P D vwCl (wCL cy h S u_7 o (vp_updL f 0 0)) H := hP
      have hD : va_D A (wCL cy h S u_7 o (vp_updL f 0 0)) := hD
      refine lv_goto (tgt := 30) hx hb dL_canPlay_19 (by decide) ?_
      refine lv_iconst (v := nI 0) hx hb dL_canPlay_30 (by decide) ?_
      exact W.iret (v := nI 0) hx hb hr (fun t ht hW => ⟨⟨nI 0, (_, u_7, (vp_updL f 0 0)), rfl, lO_ok (hw_7.1) (hw_7.2) (by rw [b64, c_10]; rfl), by rw [ht]; exact hP, hD⟩, hS.F ht⟩) hS.2.2 dL_canPlay_31
    · refine lv_lconst (v := 1) hx hb dL_canPlay_13 (by decide) ?_
      refine lv_goto (tgt := 18) hx hb dL_canPlay_14 (by decide) ?_
      refine cd_last (f := f) hx hb hK hP hD hS 27 rfl (by omega) (by decide) dL_canPlay_18 (fun H locs hP hD hS => ?_)
      have hP : va_P D vwCl (wCL cy h S u_7 o (vp_updL f 0 1)) H := hP
      have hD : va_D A (wCL cy h S u_7 o (vp_updL f 0 1)) := hD
      refine lv_goto (tgt := 30) hx hb dL_canPlay_19 (by decide) ?_
      refine lv_iconst (v := nI 0) hx hb dL_canPlay_30 (by decide) ?_
      exact W.iret (v := nI 0) hx hb hr (fun t ht hW => ⟨⟨nI 0, (_, u_7, (vp_updL f 0 1)), rfl, lO_ok (hw_7.1) (hw_7.2) (by rw [b64, c_10]; rfl), by rw [ht]; exact hP, hD⟩, hS.F ht⟩) hS.2.2 dL_canPlay_31
