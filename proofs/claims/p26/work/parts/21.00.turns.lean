set_option maxHeartbeats 4000000 in
set_option maxRecDepth 100000 in
/-- sixty turns, and the best casts of two days -/
theorem lw_turns (l : Launch) {p : Program} {e : Env} {s : State} {m : MethodId} {below : List Frame} {meth : Method} {c : Code} (D : va_G) (cy : qT) {b L : Nat} {xs : Nat → Int32} (hx : p.tables.exec = Jvm.exec) (hb : c.code = cL_law) (hml : c.maxLocals = 10) (hr : meth.sig.returnType = ret) (hlocks : meth.locks = false) (hown : s.vm.findClass RL = some m.cls) (hts : ∀ w ∈ wsL_law, w.before #[Value.ref b] s = true) (hG : Gk D cy s) (hX : va_X b L xs s s.heap) (hbl : b < s.heap.size) (hL : L ≤ 260) (A : Nat → Prop) (hA : ∀ q : Nat, s.heap.size ≤ q → A q) (hAe : ∀ q : Nat, A q → s.heap.size ≤ q) (hbA : ¬ A b) (h o : Nat → Nat) (u : qS × qS × (Nat → Int32)) (hU : Inv u.1 ∧ nv (u.1 28 0) = 0 ∧ (∀ i, i < 12 → bd (u.1 2 i) 10) ∧ jk u.2.1) (H : Heap) (locs : List Loc) (hP : va_P D vwCl (wLA cy h o u.1 u.2.1 (u.1 6) (u.1 7) (kF (u.1 3)) (mF (u.1 27 0) (u.1 29 0)) u.2.2) H) (hD : va_D A (wLA cy h o u.1 u.2.1 (u.1 6) (u.1 7) (kF (u.1 3)) (mF (u.1 27 0) (u.1 29 0)) u.2.2)) (hS : va_S A s.heap H locs) (ls : Array Slot) (hl : lv_has ls 10 [(0, .ref b), (1, .ref (h 0)), (2, .ref (o 0)), (3, .ref (o 1)), (4, .ref (o 2)), (5, .ref (o 3)), (6, .ref (o 4))]) : W p l e room_1 s m #[Value.ref b] below meth c H locs 1000 30000 (lw_Z below #[Value.ref b] s) (F0 m 205 ls []) := by
  have hK := hG.K
  have k_86 := hts (.constant RL 86 2147483647) (by decide +kernel)
  refine lv_iconst (v := nI 0) hx hb dL_law_205 (by decide) ?_
  refine lv_istore (lv' := [(7, .int (nI 0)), (0, .ref b), (1, .ref (h 0)), (2, .ref (o 0)), (3, .ref (o 1)), (4, .ref (o 2)), (5, .ref (o 3)), (6, .ref (o 4))]) hx hb dL_law_206 hl (by decide) rfl (fun ls hl => ?_)
  refine wh2 (nL := 10) (fun (k : Nat) (u : qS × qS × (Nat → Int32)) => k ≤ 60 ∧ Inv u.1 ∧ nv (u.1 28 0) = 0 ∧ (∀ i, i < 12 → bd (u.1 2 i) 10) ∧ jk u.2.1) (fun (k : Nat) (u : qS × qS × (Nat → Int32)) => 60 - k) (fun (k : Nat) (u : qS × qS × (Nat → Int32)) => [(0, .ref b), (1, .ref (h 0)), (2, .ref (o 0)), (3, .ref (o 1)), (4, .ref (o 2)), (5, .ref (o 3)), (6, .ref (o 4)), (7, .int (nI k))]) (fun (k : Nat) (u : qS × qS × (Nat → Int32)) => (wLA cy h o u.1 u.2.1 (u.1 6) (u.1 7) (kF (u.1 3)) (mF (u.1 27 0) (u.1 29 0)) u.2.2)) (fun k u hi_208 ih_208 H locs hP hD hS ls hl => ?_) 0 u (⟨Nat.zero_le _, hU⟩) hP hD hS (lv_sub hl [1, 2, 3, 4, 5, 6, 7, 0] rfl)
  have hP : va_P D vwCl (wLA cy h o u.1 u.2.1 (u.1 6) (u.1 7) (kF (u.1 3)) (mF (u.1 27 0) (u.1 29 0)) u.2.2) H := hP
  have hD : va_D A (wLA cy h o u.1 u.2.1 (u.1 6) (u.1 7) (kF (u.1 3)) (mF (u.1 27 0) (u.1 29 0)) u.2.2) := hD
  obtain ⟨hk1, hI, h28, hs2, hJ⟩ := hi_208
  refine lv_iload hx hb dL_law_208 (lv_at hl 7 rfl) ?_
  refine lv_bipush (v := nI 60) hx hb dL_law_210 (by decide) ?_
  refine cd_icmp_ge (tgt := 272) hx hb dL_law_212 (by decide) (by omega) (by omega) (fun c_212 => ?_) (fun c_212 => ?_)
  · refine lv_aload_n hx hb dL_law_272 rfl (lv_at hl 1 rfl) ?_
    refine lv_iconst (v := nI 0) hx hb dL_law_273 (by decide) ?_
    refine lv_aload_n hx hb dL_law_274 rfl (lv_at hl 2 rfl) ?_
    refine lv_aload_n hx hb dL_law_275 rfl (lv_at hl 3 rfl) ?_
    refine lv_aload hx hb dL_law_276 (lv_at hl 5 rfl) ?_
    have M_278 := c_L_good l D cy h o u.1 u.2.1 u.2.2 hI 0 (by omega) hJ H.size
    refine cd_fri (S := qS) (W1 := fun u_278 => (wLA cy h o u.1 u_278 (u.1 6) (u.1 7) (kF (u.1 3)) (mF (u.1 27 0) (u.1 29 0)) u.2.2)) (ws' := fun u_278 => (wLA cy h o u.1 u_278 (u.1 6) (u.1 7) (kF (u.1 3)) (mF (u.1 27 0) (u.1 29 0)) u.2.2)) (wc := (wLA cy h o u.1 u.2.1 (u.1 6) (u.1 7) (kF (u.1 3)) (mF (u.1 27 0) (u.1 29 0)) u.2.2)) (wr := []) (va_runS (As := [.ref (h 0), .int (nI 0), .ref (o 0), .ref (o 1), .ref (o 3)]) (rest := []) ⟨hx, hb, hml, hown, hts⟩ M_278 (va_cwS 5 hts gL_law_L_good rfl rfl rfl (by decide +kernel) ⟨Nat.le_of_ble_eq_true rfl, Nat.le_of_ble_eq_true rfl⟩) ⟨wrB.bl, fun U hU hW => ⟨rfl, by rw [hU], by rw [hU]; exact hP, hG.warm hW, hD.weaken (fun _ _ _ _ => trivial)⟩⟩ rfl rfl hl.1 rfl (lv_room (Nat.le_of_ble_eq_true rfl)) dL_law_278 (by exact ⟨Nat.le_of_ble_eq_true rfl, Nat.le_of_ble_eq_true rfl⟩)) hP hD hS hA [0, 1, 2, 3, 4, 5, 6, 7, 8, 9, 10, 11, 12, 13, 14, 15, 16, 17, 18, 19, 20, 21, 22, 23, 24, 25, 26, 27, 28, 29, 30, 31] [] [0, 1, 2, 3, 4, 5, 6, 7, 8, 9, 10, 11, 12, 13, 14, 15, 16, 17, 18, 19, 20, 21, 22, 23, 24, 25, 26, 27, 28, 29, 30, 31] rfl rfl (by decide) (by decide) (by decide) (fun _ => rfl) (fun r_278 u_278 H locs hw_278 hP hD hS => ?_)
    obtain ⟨hr_278, hw_278⟩ := hw_278
    subst hr_278
    have hP : va_P D vwCl (wLA cy h o u.1 u_278 (u.1 6) (u.1 7) (kF (u.1 3)) (mF (u.1 27 0) (u.1 29 0)) u.2.2) H := hP
    have hD : va_D A (wLA cy h o u.1 u_278 (u.1 6) (u.1 7) (kF (u.1 3)) (mF (u.1 27 0) (u.1 29 0)) u.2.2) := hD
    refine cd_if_eq (tgt := 300) hx hb dL_law_281 (by decide) (by omega) (fun c_281 => ?_) (fun c_281 => ?_)
    · exact absurd c_281 (by decide)
    · refine lv_aload_n hx hb dL_law_284 rfl (lv_at hl 1 rfl) ?_
      refine lv_iconst (v := nI 1) hx hb dL_law_285 (by decide) ?_
      refine lv_aload_n hx hb dL_law_286 rfl (lv_at hl 2 rfl) ?_
      refine lv_aload_n hx hb dL_law_287 rfl (lv_at hl 3 rfl) ?_
      refine lv_aload hx hb dL_law_288 (lv_at hl 5 rfl) ?_
      have M_290 := c_L_good l D cy h o u.1 u_278 u.2.2 hI 1 (by omega) hw_278 H.size
      refine cd_fri (S := qS) (W1 := fun u_290 => (wLA cy h o u.1 u_290 (u.1 6) (u.1 7) (kF (u.1 3)) (mF (u.1 27 0) (u.1 29 0)) u.2.2)) (ws' := fun u_290 => (wLA cy h o u.1 u_290 (u.1 6) (u.1 7) (kF (u.1 3)) (mF (u.1 27 0) (u.1 29 0)) u.2.2)) (wc := (wLA cy h o u.1 u_278 (u.1 6) (u.1 7) (kF (u.1 3)) (mF (u.1 27 0) (u.1 29 0)) u.2.2)) (wr := []) (va_runS (As := [.ref (h 0), .int (nI 1), .ref (o 0), .ref (o 1), .ref (o 3)]) (rest := []) ⟨hx, hb, hml, hown, hts⟩ M_290 (va_cwS 5 hts gL_law_L_good rfl rfl rfl (by decide +kernel) ⟨Nat.le_of_ble_eq_true rfl, Nat.le_of_ble_eq_true rfl⟩) ⟨wrB.bl, fun U hU hW => ⟨rfl, by rw [hU], by rw [hU]; exact hP, hG.warm hW, hD.weaken (fun _ _ _ _ => trivial)⟩⟩ rfl rfl hl.1 rfl (lv_room (Nat.le_of_ble_eq_true rfl)) dL_law_290 (by exact ⟨Nat.le_of_ble_eq_true rfl, Nat.le_of_ble_eq_true rfl⟩)) hP hD hS hA [0, 1, 2, 3, 4, 5, 6, 7, 8, 9, 10, 11, 12, 13, 14, 15, 16, 17, 18, 19, 20, 21, 22, 23, 24, 25, 26, 27, 28, 29, 30, 31] [] [0, 1, 2, 3, 4, 5, 6, 7, 8, 9, 10, 11, 12, 13, 14, 15, 16, 17, 18, 19, 20, 21, 22, 23, 24, 25, 26, 27, 28, 29, 30, 31] rfl rfl (by decide) (by decide) (by decide) (fun _ => rfl) (fun r_290 u_290 H locs hw_290 hP hD hS => ?_)
      obtain ⟨hr_290, hw_290⟩ := hw_290
      subst hr_290
      have hP : va_P D vwCl (wLA cy h o u.1 u_290 (u.1 6) (u.1 7) (kF (u.1 3)) (mF (u.1 27 0) (u.1 29 0)) u.2.2) H := hP
      have hD : va_D A (wLA cy h o u.1 u_290 (u.1 6) (u.1 7) (kF (u.1 3)) (mF (u.1 27 0) (u.1 29 0)) u.2.2) := hD
      refine cd_if_eq (tgt := 300) hx hb dL_law_293 (by decide) (by omega) (fun c_293 => ?_) (fun c_293 => ?_)
      · exact absurd c_293 (by decide)
      · refine lv_iconst (v := nI 1) hx hb dL_law_296 (by decide) ?_
        refine lv_goto (tgt := 301) hx hb dL_law_297 (by decide) ?_
        refine cd_tp (y := 1) rfl ?_
        refine W.widen (k := 600104) (n := 7301313) (by decide) (by decide) ?_
        refine va_forget (fun q h9 => hAe _ (hS.2.2 q h9)) ?_
        exact lw_ret hx hb hr hlocks dL_law_301
  · refine lv_aload_n hx hb dL_law_215 rfl (lv_at hl 0 rfl) ?_
    refine lv_iconst (v := nI 2) hx hb dL_law_216 (by decide) ?_
    refine lv_iload hx hb dL_law_217 (lv_at hl 7 rfl) ?_
    refine cd_imul hx hb dL_law_219 ?_
    refine lv_iconst (v := nI 1) hx hb dL_law_220 (by decide) ?_
    refine cd_iadd hx hb dL_law_221 ?_
    have M_222 := c_L_cell l b L xs hL ((2 * k) + 1) (by omega)
    refine cd_roi (va_runS (As := [.ref b, .int (nI ((2 * k) + 1))]) (rest := []) ⟨hx, hb, hml, hown, hts⟩ M_222 (va_cwS 2 hts gL_law_L_cell rfl rfl rfl (by decide +kernel) ⟨Nat.le_of_ble_eq_true rfl, Nat.le_of_ble_eq_true rfl⟩) ⟨clB.bl, fun U hU hW => ⟨rfl, by rw [hU]; exact va_X.moved hW.alike (hX.kept (hS.2.1 b hbl hbA)), by rw [hU]; exact Nat.lt_of_lt_of_le hbl hS.1⟩⟩ rfl rfl hl.1 rfl (lv_room (Nat.le_of_ble_eq_true rfl)) dL_law_222 (by exact ⟨Nat.le_of_ble_eq_true rfl, Nat.le_of_ble_eq_true rfl⟩)) (fun r_222 _ => ?_)
    refine lv_ldc (v := 2147483647) hx hb hown k_86 dL_law_225 ?_
    refine lv_iand hx hb dL_law_227 ?_
    refine lv_istore (lv' := [(8, .int (r_222 &&& 2147483647)), (0, .ref b), (1, .ref (h 0)), (2, .ref (o 0)), (3, .ref (o 1)), (4, .ref (o 2)), (5, .ref (o 3)), (6, .ref (o 4)), (7, .int (nI k))]) hx hb dL_law_228 hl (by decide) rfl (fun ls hl => ?_)
    refine lv_aload_n hx hb dL_law_230 rfl (lv_at hl 1 rfl) ?_
    refine lv_iconst (v := nI 2) hx hb dL_law_231 (by decide) ?_
    refine lv_iload hx hb dL_law_232 (lv_at hl 8 rfl) ?_
    refine cd_imul hx hb dL_law_234 ?_
    refine lv_iconst (v := nI 2) hx hb dL_law_235 (by decide) ?_
    refine cd_iadd hx hb dL_law_236 ?_
    have M_237 := c_L_cell l b L xs hL ((2 * k) + 2) (by omega)
    refine cd_roi (va_runS (As := [.ref b, .int (nI ((2 * k) + 2))]) (rest := []) ⟨hx, hb, hml, hown, hts⟩ M_237 (va_cwS 2 hts gL_law_L_cell rfl rfl rfl (by decide +kernel) ⟨Nat.le_of_ble_eq_true rfl, Nat.le_of_ble_eq_true rfl⟩) ⟨clB.bl, fun U hU hW => ⟨rfl, by rw [hU]; exact va_X.moved hW.alike (hX.kept (hS.2.1 b hbl hbA)), by rw [hU]; exact Nat.lt_of_lt_of_le hbl hS.1⟩⟩ rfl rfl hl.1 rfl (lv_room (Nat.le_of_ble_eq_true rfl)) dL_law_237 (by exact ⟨Nat.le_of_ble_eq_true rfl, Nat.le_of_ble_eq_true rfl⟩)) (fun r_237 _ => ?_)
    refine lv_ldc (v := 2147483647) hx hb hown k_86 dL_law_240 ?_
    refine lv_iand hx hb dL_law_242 ?_
    refine lv_istore (lv' := [(9, .int (r_237 &&& 2147483647)), (8, .int (r_222 &&& 2147483647)), (0, .ref b), (1, .ref (h 0)), (2, .ref (o 0)), (3, .ref (o 1)), (4, .ref (o 2)), (5, .ref (o 3)), (6, .ref (o 4)), (7, .int (nI k))]) hx hb dL_law_243 hl (by decide) rfl (fun ls hl => ?_)
    refine lv_aload_n hx hb dL_law_245 rfl (lv_at hl 3 rfl) ?_
    refine lv_iload hx hb dL_law_246 (lv_at hl 1 rfl) ?_
    refine lv_iload hx hb dL_law_248 (lv_at hl 0 rfl) ?_
    refine lv_aload_n hx hb dL_law_250 rfl (lv_at hl 4 rfl) ?_
    refine lv_aload_n hx hb dL_law_251 rfl (lv_at hl 5 rfl) ?_
    refine lv_aload hx hb dL_law_252 (lv_at hl 6 rfl) ?_
    refine lv_aload hx hb dL_law_254 (lv_at hl 7 rfl) ?_
    refine lv_aload hx hb dL_law_256 (lv_at hl 8 rfl) ?_
    have M_258 := c_L_act l D cy h o u.1 u.2.1 u.2.2 hI (r_222 &&& 2147483647) (r_237 &&& 2147483647) h28 hs2 hJ H.size
    refine cd_fri (S := qS × qS × (Nat → Int32)) (W1 := fun u_258 => (wLA cy h o u_258.1 u_258.2.1 (u_258.1 6) (u_258.1 7) (kF (u_258.1 3)) (mF (u_258.1 27 0) (u_258.1 29 0)) u_258.2.2)) (ws' := fun u_258 => (wLA cy h o u_258.1 u_258.2.1 (u_258.1 6) (u_258.1 7) (kF (u_258.1 3)) (mF (u_258.1 27 0) (u_258.1 29 0)) u_258.2.2)) (wc := (wLA cy h o u.1 u.2.1 (u.1 6) (u.1 7) (kF (u.1 3)) (mF (u.1 27 0) (u.1 29 0)) u.2.2)) (wr := []) (va_runS (As := [.ref (h 0), .int (r_222 &&& 2147483647), .int (r_237 &&& 2147483647), .ref (o 0), .ref (o 1), .ref (o 2), .ref (o 3), .ref (o 4)]) (rest := []) ⟨hx, hb, hml, hown, hts⟩ M_258 (va_cwS 8 hts gL_law_L_act rfl rfl rfl (by decide +kernel) ⟨Nat.le_of_ble_eq_true rfl, Nat.le_of_ble_eq_true rfl⟩) ⟨wrB.bl, fun U hU hW => ⟨rfl, by rw [hU], by rw [hU]; exact hP, hG.warm hW, hD.weaken (fun _ _ _ _ => trivial)⟩⟩ rfl rfl hl.1 rfl (lv_room (Nat.le_of_ble_eq_true rfl)) dL_law_258 (by exact ⟨Nat.le_of_ble_eq_true rfl, Nat.le_of_ble_eq_true rfl⟩)) hP hD hS hA [0, 1, 2, 3, 4, 5, 6, 7, 8, 9, 10, 11, 12, 13, 14, 15, 16, 17, 18, 19, 20, 21, 22, 23, 24, 25, 26, 27, 28, 29, 30, 31] [] [0, 1, 2, 3, 4, 5, 6, 7, 8, 9, 10, 11, 12, 13, 14, 15, 16, 17, 18, 19, 20, 21, 22, 23, 24, 25, 26, 27, 28, 29, 30, 31] rfl rfl (by decide) (by decide) (by decide) (fun _ => rfl) (fun r_258 u_258 H locs hw_258 hP hD hS => ?_)
    obtain ⟨hr_258, hw_258⟩ := hw_258
    subst hr_258
    have hP : va_P D vwCl (wLA cy h o u_258.1 u_258.2.1 (u_258.1 6) (u_258.1 7) (kF (u_258.1 3)) (mF (u_258.1 27 0) (u_258.1 29 0)) u_258.2.2) H := hP
    have hD : va_D A (wLA cy h o u_258.1 u_258.2.1 (u_258.1 6) (u_258.1 7) (kF (u_258.1 3)) (mF (u_258.1 27 0) (u_258.1 29 0)) u_258.2.2) := hD
    refine cd_if_ne (tgt := 266) hx hb dL_law_261 (by decide) (by omega) (fun c_261 => ?_) (fun c_261 => ?_)
    · refine lv_iinc (v := nI (k + 1)) (lv' := [(7, .int (nI (k + 1))), (9, .int (r_237 &&& 2147483647)), (8, .int (r_222 &&& 2147483647)), (0, .ref b), (1, .ref (h 0)), (2, .ref (o 0)), (3, .ref (o 1)), (4, .ref (o 2)), (5, .ref (o 3)), (6, .ref (o 4))]) hx hb dL_law_266 hl (k := 9) rfl (cd_i1 _) (by decide) rfl (fun ls hl => ?_)
      refine lv_goto (tgt := 208) hx hb dL_law_269 (by decide) ?_
      exact ih_208 (k + 1) u_258 (⟨by omega, hw_258⟩) (by omega) _ _ hP hD hS _ (lv_sub hl [3, 4, 5, 6, 7, 8, 9, 0] rfl)
    · exact absurd c_261 (by decide)
