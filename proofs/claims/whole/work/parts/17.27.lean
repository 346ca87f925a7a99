set_option maxHeartbeats 4000000 in
set_option maxRecDepth 100000 in
theorem c_L_play (l : Launch) (D : va_G) (cy : qT) (hfl : l.stackTraces = false) (h : Nat → Nat) (S : qS) (J : qS) (o : Nat) (f : Nat → Int64) (hI : Inv S) (hJ : jk J) (sz : Nat) : Met l yL_play wsL_play ({ frames := 7, cells := 4, slots := 24, locals := 158 }) (va_Pc [.ref (h 0), .ref o] (thB D cy (wCL cy h S J o f) sz)) (va_Qi (fun (r9 : Int32) (u : qS × qS × (Nat → Int64)) => lO (th1 (decide (nv (S 28 0) < 1000))) (plR S).toInt64 (va_up (va_up (va_up (va_up (va_up (va_up (va_up S 17 (pl17 S)) 18 (pl18 S)) 9 (pl9 S)) 11 (pl11 S)) 25 (pl25 S)) 32 (fun _ => pl32 S)) 28 (fun _ => nI (nv (S 28 0) + 1))) S r9 u) (wrQ D (va_A (wCL cy h S J o f) sz) (fun u : qS × qS × (Nat → Int64) => wCL cy h u.1 u.2.1 o u.2.2)) (va_A (wCL cy h S J o f) sz)) 4 24 (va_A (wCL cy h S J o f) sz) := by
  refine va_MetW (cc := cL_play) (maxL := 3) (ret := (some .int)) (by decide) rfl ?_
  intro pp e9 s m9 args9 bl9 meth9 c9 s9 B hml hv
  obtain ⟨rfl, ⟨hsz, hP, hG, hD0⟩, hTz⟩ := hv
  have hx := B.exec
  have hb := B.bytes
  have hr := B.returns
  have hts := atoms_spec (ws := wsL_play) B.pre
  have hown : s.vm.findClass RL = some m9.cls := findClass_of_methodNamed B.named
  have hlocks := B.notSynchronized
  have hK := hG.K
  subst hsz
  have hD := hD0.self (sz := s.heap.size)
  generalize hAe : (va_A (wCL cy h S J o f) s.heap.size) = A at hD hTz ⊢
  have hA : ∀ q : Nat, s.heap.size ≤ q → A q := fun q h9 => by rw [← hAe]; exact Or.inr h9
  have hS : va_S A s.heap s.heap [] := va_S.rf
  have hP : va_P D vwCl (wCL cy h S J o f) s.heap := hP
  have tab_ := hts (.codeWith yL_play cL_play 3 (some .int) [(0, 8, 11, 25)]) (by decide +kernel)
  have cl_25 := hts (.classLink RL 25 "java/lang/IllegalStateException") (by decide +kernel)
  have hl := lv_entry ([.ref (h 0), .ref o]) (n := 3) (Nat.le_of_ble_eq_true rfl)
  rw [lg_entry_eq]
  generalize (lg_sl ([.ref (h 0), .ref o]) ++ List.replicate (3 - (lg_sl ([.ref (h 0), .ref o])).length) Slot.unset).toArray = ls at hl ⊢
  have hl : lv_has ls 3 [(0, .ref (h 0)), (1, .ref o)] := hl
  refine lv_aload_n hx hb dL_play_0 rfl (lv_at hl 1 rfl) ?_
  refine lv_iconst (v := nI 0) hx hb dL_play_1 (by decide) ?_
  refine lv_aload_n hx hb dL_play_2 rfl (lv_at hl 0 rfl) ?_
  have M_3 := c_X6_play l D cy hfl h S J hI hJ s.heap.size
  have hPc := hP.sub (ws' := (wC cy h S J)) [0, 1, 2, 3, 4, 5, 6, 7, 8, 9, 10, 11, 12, 13, 14, 15, 16, 17, 18, 19, 20, 21, 22, 23, 24, 25, 26] rfl
  have hDc := hD.sub (ws' := (wC cy h S J)) [0, 1, 2, 3, 4, 5, 6, 7, 8, 9, 10, 11, 12, 13, 14, 15, 16, 17, 18, 19, 20, 21, 22, 23, 24, 25, 26] (by decide) rfl
  refine cd_xri (S := qS) (W1 := fun u_3 => (wC cy h (va_up (va_up (va_up (va_up (va_up (va_up (va_up S 17 (pl17 S)) 18 (pl18 S)) 9 (pl9 S)) 11 (pl11 S)) 25 (pl25 S)) 32 (fun _ => pl32 S)) 28 (fun _ => nI (nv (S 28 0) + 1))) u_3)) (ws' := fun u_3 => (wCL cy h (va_up (va_up (va_up (va_up (va_up (va_up (va_up S 17 (pl17 S)) 18 (pl18 S)) 9 (pl9 S)) 11 (pl11 S)) 25 (pl25 S)) 32 (fun _ => pl32 S)) 28 (fun _ => nI (nv (S 28 0) + 1))) u_3 o f)) (wc := (wC cy h S J)) (wr := [(o, aL cy 1 f)]) (vx_runV (As := []) (rest := [.int (nI 0), .ref o]) ⟨hx, hb, hml, hown, hts⟩ M_3 (cwV 0 hts gL_play_X6_play rfl rfl rfl (by decide +kernel) ⟨Nat.le_of_ble_eq_true rfl, Nat.le_of_ble_eq_true rfl⟩) ⟨thB.bl, va_recv hK hP (ci := 6) (q0 := 0) rfl rfl, fun U hU hW => ⟨rfl, ⟨by rw [hU], by rw [hU]; exact hPc, hG.warm hW, hDc.weaken (fun _ _ _ _ => trivial)⟩, hTz.down hS (va_free (wc := (wC cy h S J)) hD hS hA [0, 1, 2, 3, 4, 5, 6, 7, 8, 9, 10, 11, 12, 13, 14, 15, 16, 17, 18, 19, 20, 21, 22, 23, 24, 25, 26] rfl) hU hW⟩⟩ rfl rfl hl.1 rfl (lv_room (Nat.le_of_ble_eq_true rfl)) dL_play_3 (by exact ⟨Nat.le_of_ble_eq_true rfl, Nat.le_of_ble_eq_true rfl⟩)) hP hD hS hA [0, 1, 2, 3, 4, 5, 6, 7, 8, 9, 10, 11, 12, 13, 14, 15, 16, 17, 18, 19, 20, 21, 22, 23, 24, 25, 26] [27] [1, 2, 3, 4, 5, 6, 7, 8, 9, 10, 11, 12, 13, 14, 15, 16, 17, 18, 19, 20, 21, 22, 23, 24, 25, 26, 27, 0] rfl rfl (by decide) (by decide) (by decide) (fun _ => rfl) (fun E9 ce9 q9 H1 locs1 hw_3 hP1 hS1 hce hcv hcl => ?_) (fun r_3 u_3 H locs hw_3 hP hD hS => ?_)
  · obtain ⟨rfl, hth⟩ := hw_3
    refine vx_catch (name := xIS) hown [] (⟨0, 8, 11, 25⟩ : ExceptionTableEntry) [] ((vx_table (x := yL_play) B tab_).trans rfl) (fun z hz => absurd hz List.not_mem_nil) (by decide) (by decide) cl_25 (va_Nw.use rfl hG.2.2.2.2.2.2.2.2.1) hce hcv hcl ?_
    have hP : va_P D vwCl (wCL cy h S J o f) H1 := hP1
    have hS := hS1
    refine lv_astore_n (lv' := [(2, .ref q9), (0, .ref (h 0)), (1, .ref o)]) hx hb dL_play_11 rfl hl (by decide) rfl (fun ls hl => ?_)
    refine lv_iconst (v := nI 1) hx hb dL_play_12 (by decide) ?_
    exact W.iret (v := nI 1) hx hb hr (fun t ht hW => ⟨⟨nI 1, (S, J, f), rfl, lO_no (k := 1) (by decide) (by decide) (hth) hJ, by rw [ht]; exact hP, hD⟩, hS.F ht⟩) hS.2.2 dL_play_13
  · obtain ⟨hr_3, hw_3⟩ := hw_3
    subst hr_3
    have hP : va_P D vwCl (wCL cy h (va_up (va_up (va_up (va_up (va_up (va_up (va_up S 17 (pl17 S)) 18 (pl18 S)) 9 (pl9 S)) 11 (pl11 S)) 25 (pl25 S)) 32 (fun _ => pl32 S)) 28 (fun _ => nI (nv (S 28 0) + 1))) u_3 o f) H := hP
    have hD : va_D A (wCL cy h (va_up (va_up (va_up (va_up (va_up (va_up (va_up S 17 (pl17 S)) 18 (pl18 S)) 9 (pl9 S)) 11 (pl11 S)) 25 (pl25 S)) 32 (fun _ => pl32 S)) 28 (fun _ => nI (nv (S 28 0) + 1))) u_3 o f) := hD
    refine lv_i2l (v := (plR S).toInt64) hx hb dL_play_6 rfl ?_
    refine cd_last (f := f) hx hb hK hP hD hS 27 rfl (by omega) (by decide) dL_play_7 (fun H locs hP hD hS => ?_)
    have hP : va_P D vwCl (wCL cy h (va_up (va_up (va_up (va_up (va_up (va_up (va_up S 17 (pl17 S)) 18 (pl18 S)) 9 (pl9 S)) 11 (pl11 S)) 25 (pl25 S)) 32 (fun _ => pl32 S)) 28 (fun _ => nI (nv (S 28 0) + 1))) u_3 o (vp_updL f 0 ((plR S).toInt64))) H := hP
    have hD : va_D A (wCL cy h (va_up (va_up (va_up (va_up (va_up (va_up (va_up S 17 (pl17 S)) 18 (pl18 S)) 9 (pl9 S)) 11 (pl11 S)) 25 (pl25 S)) 32 (fun _ => pl32 S)) 28 (fun _ => nI (nv (S 28 0) + 1))) u_3 o (vp_updL f 0 ((plR S).toInt64))) := hD
    refine lv_goto (tgt := 14) hx hb dL_play_8 (by decide) ?_
    refine lv_iconst (v := nI 0) hx hb dL_play_14 (by decide) ?_
    exact W.iret (v := nI 0) hx hb hr (fun t ht hW => ⟨⟨nI 0, (_, u_3, (vp_updL f 0 ((plR S).toInt64))), rfl, lO_ok (hw_3.1) (hw_3.2) (rfl), by rw [ht]; exact hP, hD⟩, hS.F ht⟩) hS.2.2 dL_play_15
