set_option maxHeartbeats 4000000 in
set_option maxRecDepth 100000 in
theorem lw_c22 (l : Launch) (hfl : l.stackTraces = false) {p : Program} {e : Env} {s : State} {m : MethodId} {args : Array Value} {below : List Frame} {meth : Method} {c : Code} {Q : State → Prop} (D : va_G) (cy : qT) {b L : Nat} {xs : Nat → Int32} {A : Nat → Prop} (hx : p.tables.exec = Jvm.exec) (hb : c.code = cL_law) (hml : c.maxLocals = 7) (hown : s.vm.findClass RL = some m.cls) (hts : ∀ w ∈ wsL_law, w.before args s = true) (hG : Gk D cy s) (hTz : Tz A s s.heap) (hX : va_X b L xs s s.heap) (hbl : b < s.heap.size) (hbA : ¬ A b) (hA : ∀ q : Nat, s.heap.size ≤ q → A q) (hL : L ≤ 2560) (h g : Nat → Nat) (o : Nat) (S J K : qS) (f : Nat → Int64) (hI : Inv S) (hJ : jk J) {H : Heap} {locs : List Loc} {cells slots : Nat} (hcC : cells + 4 ≤ 601024) (hsC : slots + 24 ≤ 7293034) (hP : va_P D vwCl (wLW cy h g S J S K o f) H) (hD : va_D A (wLW cy h g S J S K o f)) (hS : va_S A s.heap H locs) {ls : Array Slot} (i : Nat) (hi : i + 5 ≤ L) (hl : lv_has ls 7 [(0, .ref b), (1, .ref (h 0)), (2, .ref (g 0)), (3, .ref o), (4, .int (nI i))]) (kk : ∀ (S J K : qS) (f : Nat → Int64) (H : Heap) (locs : List Loc) (ls : Array Slot), Inv S → jk J → va_P D vwCl (wLW cy h g S J S K o f) H → va_D A (wLW cy h g S J S K o f) → va_S A s.heap H locs → lv_has ls 7 [(0, .ref b), (1, .ref (h 0)), (2, .ref (g 0)), (3, .ref o), (4, .int (nI (i + 5)))] → W p l e room_1 s m args below meth c H locs (cells + 4) (slots + 24) Q (F0 m 23 ls [])) : W p l e room_1 s m args below meth c H locs cells slots Q (F0 m 1555 ls []) := by
  have hK := hG.K
  refine lv_aload_n hx hb dL_law_1555 rfl (lv_at hl 1 rfl) ?_
  have M_1556 := c_X6_takings l D cy h S J hI
  have hPc := hP.sub (ws' := wC cy h S J) [0, 1, 2, 3, 4, 5, 6, 7, 8, 9, 10, 11, 12, 13, 14, 15, 16, 17, 18, 19, 20, 21, 22, 23, 24, 25, 26] rfl
  refine cd_roi (va_runV (As := []) (rest := []) ⟨hx, hb, hml, hown, hts⟩ M_1556 (cwV 0 hts gL_law_X6_takings rfl rfl rfl (by decide +kernel) ⟨Nat.le_of_ble_eq_true rfl, Nat.le_of_ble_eq_true rfl⟩) ⟨roB.bl, va_recv hK hP (ci := 6) (q0 := 0) rfl rfl, fun U hU hW => ⟨rfl, by rw [hU]; exact hPc, hG.warm hW⟩⟩ rfl rfl hl.1 rfl (lv_room (Nat.le_of_ble_eq_true rfl)) dL_law_1556 (show cells + 0 ≤ 601024 ∧ slots + 0 ≤ 7293034 from ⟨by omega, by omega⟩)) (fun r_1556 hr_1556 => ?_)
  subst hr_1556
  refine lv_aload_n hx hb dL_law_1559 rfl (lv_at hl 2 rfl) ?_
  have M_1560 := c_X7_takings l D cy g S K hI  H.size
  have hPc := hP.sub (ws' := wM cy g S K) [28, 29, 30, 31, 32, 33, 34, 35, 36, 37, 38, 39, 40, 41, 42, 43, 44, 45, 46, 47, 48] rfl
  have hDc := hD.sub (ws' := wM cy g S K) [28, 29, 30, 31, 32, 33, 34, 35, 36, 37, 38, 39, 40, 41, 42, 43, 44, 45, 46, 47, 48] (by decide) rfl
  refine cd_fri (S := qS × qS) (W1 := fun v => wM cy g v.1 v.2) (ws' := fun v => wLW cy h g S J v.1 v.2 o f) (wc := wM cy g S K) (wr := wCL cy h S J o f) (va_runV (As := []) (rest := [.int (S 32 0)]) ⟨hx, hb, hml, hown, hts⟩ M_1560 (cwV 0 hts gL_law_X7_takings rfl rfl rfl (by decide +kernel) ⟨Nat.le_of_ble_eq_true rfl, Nat.le_of_ble_eq_true rfl⟩) ⟨wrB.bl, va_recv hK hP (ci := 7) (q0 := 28) rfl rfl, fun U hU hW => ⟨rfl, by rw [hU], by rw [hU]; exact hPc, hG.warm hW, hDc.weaken (fun _ _ _ _ => trivial)⟩⟩ rfl rfl hl.1 rfl (lv_room (Nat.le_of_ble_eq_true rfl)) dL_law_1560 (show cells + 0 ≤ 601024 ∧ slots + 0 ≤ 7293034 from ⟨by omega, by omega⟩)) hP hD hS hA [28, 29, 30, 31, 32, 33, 34, 35, 36, 37, 38, 39, 40, 41, 42, 43, 44, 45, 46, 47, 48] [0, 1, 2, 3, 4, 5, 6, 7, 8, 9, 10, 11, 12, 13, 14, 15, 16, 17, 18, 19, 20, 21, 22, 23, 24, 25, 26, 27] [0, 1, 2, 3, 4, 5, 6, 7, 8, 9, 10, 11, 12, 13, 14, 15, 16, 17, 18, 19, 20, 21, 22, 23, 24, 25, 26, 27, 28, 29, 30, 31, 32, 33, 34, 35, 36, 37, 38, 39, 40, 41, 42, 43, 44, 45, 46, 47, 48] rfl rfl (by decide) (by decide) (by decide) (fun _ => rfl) (fun r2 v2 H locs hw2 hP hD hS => ?_)
  have hP : va_P D vwCl (wLW cy h g S J v2.1 v2.2 o f) H := hP
  have hD : va_D A (wLW cy h g S J v2.1 v2.2 o f) := hD
  obtain ⟨y0, y1⟩ := lm_d hw2
  rw [y1] at hP hD
  have hP : va_P D vwCl (wLW cy h g S J S v2.2 o f) H := hP
  have hD : va_D A (wLW cy h g S J S v2.2 o f) := hD
  refine lv_icmp_eq (tgt := 1568) hx hb dL_law_1563 (by decide) (fun c_1563 => ?_) (fun c_1563 => ?_)
  · refine lv_iinc (v := nI (i + 5)) (lv' := [(4, .int (nI (i + 5))), (0, .ref b), (1, .ref (h 0)), (2, .ref (g 0)), (3, .ref o)]) hx hb dL_law_1568 hl (k := 4) rfl (cd_i5 _) (by decide) rfl (fun ls hl => ?_)
    refine lv_goto (tgt := 23) hx hb dL_law_1571 (by decide) ?_
    refine W.widen (k := cells + 4) (n := slots + 24) (by omega) (by omega) ?_
    exact kk S J v2.2 f _ _ _ hI hJ hP hD hS (lv_sub hl [1, 2, 3, 4, 0] rfl)
  · exact absurd (y0.symm) c_1563
