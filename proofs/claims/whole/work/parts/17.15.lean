set_option maxHeartbeats 4000000 in
set_option maxRecDepth 100000 in
theorem c_L_costume (l : Launch) (D : va_G) (cy : qT) (hfl : l.stackTraces = false) (h : Nat → Nat) (S : qS) (J : qS) (o : Nat) (f : Nat → Int64) (hI : Inv S) (p : Int32) (z : Int32) (hJ : jk J) (sz : Nat) : Met l yL_costume wsL_costume ({ frames := 8, cells := 4, slots := 24, locals := 134 }) (va_Pc [.ref (h 0), .int p, .int z, .ref o] (thB D cy (wCL cy h S J o f) sz)) (va_Qi (fun (r9 : Int32) (u : qS × qS × (Nat → Int64)) => lO (th3 (inI p (nI 0) (nI 7)) (inI z (nI 0) (nI 9)) (decide (nv (S 29 0) < 40))) (nI (nv (S 29 0))).toInt64 (va_up (va_up (va_up S 10 (upd (S 10) (nv (S 29 0)) p)) 9 (upd (S 9) (nv (S 29 0)) z)) 29 (fun _ => nI (nv (S 29 0) + 1))) S r9 u) (wrQ D (va_A (wCL cy h S J o f) sz) (fun u : qS × qS × (Nat → Int64) => wCL cy h u.1 u.2.1 o u.2.2)) (va_A (wCL cy h S J o f) sz)) 4 24 (va_A (wCL cy h S J o f) sz) := by
  refine va_MetW (cc := cL_costume) (maxL := 5) (ret := (some .int)) (by decide) rfl ?_
  intro pp e9 s m9 args9 bl9 meth9 c9 s9 B hml hv
  obtain ⟨rfl, ⟨hsz, hP, hG, hD0⟩, hTz⟩ := hv
  have hx := B.exec
  have hb := B.bytes
  have hr := B.returns
  have hts := atoms_spec (ws := wsL_costume) B.pre
  have hown : s.vm.findClass RL = some m9.cls := findClass_of_methodNamed B.named
  have hlocks := B.notSynchronized
  have hK := hG.K
  subst hsz
  have hD := hD0.self (sz := s.heap.size)
  generalize hAe : (va_A (wCL cy h S J o f) s.heap.size) = A at hD hTz ⊢
  have hA : ∀ q : Nat, s.heap.size ≤ q → A q := fun q h9 => by rw [← hAe]; exact Or.inr h9
  have hS : va_S A s.heap s.heap [] := va_S.rf
  have hP : va_P D vwCl (wCL cy h S J o f) s.heap := hP
  have tab_ := hts (.codeWith yL_costume cL_costume 5 (some .int) [(0, 10, 13, 19), (0, 10, 17, 13), (0, 10, 21, 25)]) (by decide +kernel)
  have cl_19 := hts (.classLink RL 19 "java/lang/IndexOutOfBoundsException") (by decide +kernel)
  have cl_13 := hts (.classLink RL 13 "java/lang/IllegalArgumentException") (by decide +kernel)
  have cl_25 := hts (.classLink RL 25 "java/lang/IllegalStateException") (by decide +kernel)
  have hl := lv_entry ([.ref (h 0), .int p, .int z, .ref o]) (n := 5) (Nat.le_of_ble_eq_true rfl)
  rw [lg_entry_eq]
  generalize (lg_sl ([.ref (h 0), .int p, .int z, .ref o]) ++ List.replicate (5 - (lg_sl ([.ref (h 0), .int p, .int z, .ref o])).length) Slot.unset).toArray = ls at hl ⊢
  have hl : lv_has ls 5 [(0, .ref (h 0)), (1, .int p), (2, .int z), (3, .ref o)] := hl
  refine lv_aload_n hx hb dL_costume_0 rfl (lv_at hl 3 rfl) ?_
  refine lv_iconst (v := nI 0) hx hb dL_costume_1 (by decide) ?_
  refine lv_aload_n hx hb dL_costume_2 rfl (lv_at hl 0 rfl) ?_
  refine lv_iload_n hx hb dL_costume_3 rfl (lv_at hl 1 rfl) ?_
  refine lv_iload_n hx hb dL_costume_4 rfl (lv_at hl 2 rfl) ?_
  have M_5 := c_X6_costume l D cy hfl h S J hI p z hJ s.heap.size
  have hPc := hP.sub (ws' := (wC cy h S J)) [0, 1, 2, 3, 4, 5, 6, 7, 8, 9, 10, 11, 12, 13, 14, 15, 16, 17, 18, 19, 20, 21, 22, 23, 24, 25, 26] rfl
  have hDc := hD.sub (ws' := (wC cy h S J)) [0, 1, 2, 3, 4, 5, 6, 7, 8, 9, 10, 11, 12, 13, 14, 15, 16, 17, 18, 19, 20, 21, 22, 23, 24, 25, 26] (by decide) rfl
  refine cd_xri (S := qS) (W1 := fun u_5 => (wC cy h (va_up (va_up (va_up S 10 (upd (S 10) (nv (S 29 0)) p)) 9 (upd (S 9) (nv (S 29 0)) z)) 29 (fun _ => nI (nv (S 29 0) + 1))) u_5)) (ws' := fun u_5 => (wCL cy h (va_up (va_up (va_up S 10 (upd ((S 10)) (nv (S 29 0)) p)) 9 (upd ((S 9)) (nv (S 29 0)) z)) 29 (fun _ => nI (nv (S 29 0) + 1))) u_5 o f)) (wc := (wC cy h S J)) (wr := [(o, aL cy 1 f)]) (vx_runV (As := [.int p, .int z]) (rest := [.int (nI 0), .ref o]) ⟨hx, hb, hml, hown, hts⟩ M_5 (cwV 2 hts gL_costume_X6_costume rfl rfl rfl (by decide +kernel) ⟨Nat.le_of_ble_eq_true rfl, Nat.le_of_ble_eq_true rfl⟩) ⟨thB.bl, va_recv hK hP (ci := 6) (q0 := 0) rfl rfl, fun U hU hW => ⟨rfl, ⟨by rw [hU], by rw [hU]; exact hPc, hG.warm hW, hDc.weaken (fun _ _ _ _ => trivial)⟩, hTz.down hS (va_free (wc := (wC cy h S J)) hD hS hA [0, 1, 2, 3, 4, 5, 6, 7, 8, 9, 10, 11, 12, 13, 14, 15, 16, 17, 18, 19, 20, 21, 22, 23, 24, 25, 26] rfl) hU hW⟩⟩ rfl rfl hl.1 rfl (lv_room (Nat.le_of_ble_eq_true rfl)) dL_costume_5 (by exact ⟨Nat.le_of_ble_eq_true rfl, Nat.le_of_ble_eq_true rfl⟩)) hP hD hS hA [0, 1, 2, 3, 4, 5, 6, 7, 8, 9, 10, 11, 12, 13, 14, 15, 16, 17, 18, 19, 20, 21, 22, 23, 24, 25, 26] [27] [1, 2, 3, 4, 5, 6, 7, 8, 9, 10, 11, 12, 13, 14, 15, 16, 17, 18, 19, 20, 21, 22, 23, 24, 25, 26, 27, 0] rfl rfl (by decide) (by decide) (by decide) (fun _ => rfl) (fun E9 ce9 q9 H1 locs1 hw_5 hP1 hS1 hce hcv hcl => ?_) (fun r_5 u_5 H locs hw_5 hP hD hS => ?_)
  · rcases hw_5 with ⟨rfl, hth⟩ | ⟨rfl, hth⟩ | ⟨rfl, hth⟩
    · refine vx_catch (name := xIO) hown [] (⟨0, 10, 13, 19⟩ : ExceptionTableEntry) [(⟨0, 10, 17, 13⟩ : ExceptionTableEntry), (⟨0, 10, 21, 25⟩ : ExceptionTableEntry)] ((vx_table (x := yL_costume) B tab_).trans rfl) (fun z hz => absurd hz List.not_mem_nil) (by decide) (by decide) cl_19 (va_Nw.use rfl hG.2.2.2.2.2.2.1) hce hcv hcl ?_
      have hP : va_P D vwCl (wCL cy h S J o f) H1 := hP1
      have hS := hS1
      refine lv_astore (lv' := [(4, .ref q9), (0, .ref (h 0)), (1, .int p), (2, .int z), (3, .ref o)]) hx hb dL_costume_13 hl (by decide) rfl (fun ls hl => ?_)
      refine lv_iconst (v := nI 1) hx hb dL_costume_15 (by decide) ?_
      exact W.iret (v := nI 1) hx hb hr (fun t ht hW => ⟨⟨nI 1, (S, J, f), rfl, lO_no (k := 1) (by decide) (by decide) (hth) hJ, by rw [ht]; exact hP, hD⟩, hS.F ht⟩) hS.2.2 dL_costume_16
    · refine vx_catch (name := xIA) hown [(⟨0, 10, 13, 19⟩ : ExceptionTableEntry)] (⟨0, 10, 17, 13⟩ : ExceptionTableEntry) [(⟨0, 10, 21, 25⟩ : ExceptionTableEntry)] ((vx_table (x := yL_costume) B tab_).trans rfl) (fun z hz => by have hz := List.mem_singleton.mp hz; subst hz; exact Or.inr ⟨by decide, xIO, cl_19, hG.2.2.2.1⟩) (by decide) (by decide) cl_13 (va_Nw.use rfl hG.2.2.2.2.2.2.2.1) hce hcv hcl ?_
      have hP : va_P D vwCl (wCL cy h S J o f) H1 := hP1
      have hS := hS1
      refine lv_astore (lv' := [(4, .ref q9), (0, .ref (h 0)), (1, .int p), (2, .int z), (3, .ref o)]) hx hb dL_costume_17 hl (by decide) rfl (fun ls hl => ?_)
      refine lv_iconst (v := nI 2) hx hb dL_costume_19 (by decide) ?_
      exact W.iret (v := nI 2) hx hb hr (fun t ht hW => ⟨⟨nI 2, (S, J, f), rfl, lO_no (k := 2) (by decide) (by decide) (hth) hJ, by rw [ht]; exact hP, hD⟩, hS.F ht⟩) hS.2.2 dL_costume_20
    · refine vx_catch (name := xIS) hown [(⟨0, 10, 13, 19⟩ : ExceptionTableEntry), (⟨0, 10, 17, 13⟩ : ExceptionTableEntry)] (⟨0, 10, 21, 25⟩ : ExceptionTableEntry) [] ((vx_table (x := yL_costume) B tab_).trans rfl) (fun z hz => by
          rcases List.mem_cons.mp hz with hz | hz
          · subst hz; exact Or.inr ⟨by decide, xIO, cl_19, hG.2.2.2.2.1⟩
          · have hz := List.mem_singleton.mp hz; subst hz; exact Or.inr ⟨by decide, xIA, cl_13, hG.2.2.2.2.2.1⟩) (by decide) (by decide) cl_25 (va_Nw.use rfl hG.2.2.2.2.2.2.2.2.1) hce hcv hcl ?_
      have hP : va_P D vwCl (wCL cy h S J o f) H1 := hP1
      have hS := hS1
      refine lv_astore (lv' := [(4, .ref q9), (0, .ref (h 0)), (1, .int p), (2, .int z), (3, .ref o)]) hx hb dL_costume_21 hl (by decide) rfl (fun ls hl => ?_)
      refine lv_iconst (v := nI 3) hx hb dL_costume_23 (by decide) ?_
      exact W.iret (v := nI 3) hx hb hr (fun t ht hW => ⟨⟨nI 3, (S, J, f), rfl, lO_no (k := 3) (by decide) (by decide) (hth) hJ, by rw [ht]; exact hP, hD⟩, hS.F ht⟩) hS.2.2 dL_costume_24
  · obtain ⟨hr_5, hw_5⟩ := hw_5
    subst hr_5
    have hP : va_P D vwCl (wCL cy h (va_up (va_up (va_up S 10 (upd ((S 10)) (nv (S 29 0)) p)) 9 (upd ((S 9)) (nv (S 29 0)) z)) 29 (fun _ => nI (nv (S 29 0) + 1))) u_5 o f) H := hP
    have hD : va_D A (wCL cy h (va_up (va_up (va_up S 10 (upd ((S 10)) (nv (S 29 0)) p)) 9 (upd ((S 9)) (nv (S 29 0)) z)) 29 (fun _ => nI (nv (S 29 0) + 1))) u_5 o f) := hD
    refine lv_i2l (v := (nI (nv (S 29 0))).toInt64) hx hb dL_costume_8 rfl ?_
    refine cd_last (f := f) hx hb hK hP hD hS 27 rfl (by omega) (by decide) dL_costume_9 (fun H locs hP hD hS => ?_)
    have hP : va_P D vwCl (wCL cy h (va_up (va_up (va_up S 10 (upd ((S 10)) (nv (S 29 0)) p)) 9 (upd ((S 9)) (nv (S 29 0)) z)) 29 (fun _ => nI (nv (S 29 0) + 1))) u_5 o (vp_updL f 0 ((nI (nv (S 29 0))).toInt64))) H := hP
    have hD : va_D A (wCL cy h (va_up (va_up (va_up S 10 (upd ((S 10)) (nv (S 29 0)) p)) 9 (upd ((S 9)) (nv (S 29 0)) z)) 29 (fun _ => nI (nv (S 29 0) + 1))) u_5 o (vp_updL f 0 ((nI (nv (S 29 0))).toInt64))) := hD
    refine lv_goto (tgt := 25) hx hb dL_costume_10 (by decide) ?_
    refine lv_iconst (v := nI 0) hx hb dL_costume_25 (by decide) ?_
    exact W.iret (v := nI 0) hx hb hr (fun t ht hW => ⟨⟨nI 0, (_, u_5, (vp_updL f 0 ((nI (nv (S 29 0))).toInt64))), rfl, lO_ok (hw_5.1) (hw_5.2) (rfl), by rw [ht]; exact hP, hD⟩, hS.F ht⟩) hS.2.2 dL_costume_26
