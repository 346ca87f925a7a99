set_option maxHeartbeats 4000000 in
set_option maxRecDepth 100000 in
theorem lw_c13 (l : Launch) (hfl : l.stackTraces = false) {p : Program} {e : Env} {s : State} {m : MethodId} {args : Array Value} {below : List Frame} {meth : Method} {c : Code} {Q : State → Prop} (D : va_G) (cy : qT) {b L : Nat} {xs : Nat → Int32} {A : Nat → Prop} (hx : p.tables.exec = Jvm.exec) (hb : c.code = cL_law) (hml : c.maxLocals = 7) (hown : s.vm.findClass RL = some m.cls) (hts : ∀ w ∈ wsL_law, w.before args s = true) (hG : Gk D cy s) (hTz : Tz A s s.heap) (hX : va_X b L xs s s.heap) (hbl : b < s.heap.size) (hbA : ¬ A b) (hA : ∀ q : Nat, s.heap.size ≤ q → A q) (hL : L ≤ 2560) (h g : Nat → Nat) (o : Nat) (S J K : qS) (f : Nat → Int64) (hI : Inv S) (hJ : jk J) {H : Heap} {locs : List Loc} {cells slots : Nat} (hcC : cells + 4 ≤ 601024) (hsC : slots + 24 ≤ 7293034) (hP : va_P D vwCl (wLW cy h g S J S K o f) H) (hD : va_D A (wLW cy h g S J S K o f)) (hS : va_S A s.heap H locs) {ls : Array Slot} (i : Nat) (hi : i + 5 ≤ L) (hl : lv_has ls 7 [(0, .ref b), (1, .ref (h 0)), (2, .ref (g 0)), (3, .ref o), (4, .int (nI i))]) (kk : ∀ (S J K : qS) (f : Nat → Int64) (H : Heap) (locs : List Loc) (ls : Array Slot), Inv S → jk J → va_P D vwCl (wLW cy h g S J S K o f) H → va_D A (wLW cy h g S J S K o f) → va_S A s.heap H locs → lv_has ls 7 [(0, .ref b), (1, .ref (h 0)), (2, .ref (g 0)), (3, .ref o), (4, .int (nI (i + 5)))] → W p l e room_1 s m args below meth c H locs (cells + 4) (slots + 24) Q (F0 m 23 ls [])) : W p l e room_1 s m args below meth c H locs cells slots Q (F0 m 1034 ls []) := by
  have hK := hG.K
  refine lv_aload_n hx hb dL_law_1034 rfl (lv_at hl 1 rfl) ?_
  refine lv_aload_n hx hb dL_law_1035 rfl (lv_at hl 0 rfl) ?_
  refine lv_iload hx hb dL_law_1036 (lv_at hl 4 rfl) ?_
  refine lv_iconst (v := nI 1) hx hb dL_law_1038 (by decide) ?_
  refine cd_iadd hx hb dL_law_1039 ?_
  refine cd_sld hx hb hX hbl hbA hS (show i + 1 < L by omega) hL dL_law_1040 ?_
  refine lv_aload_n hx hb dL_law_1041 rfl (lv_at hl 0 rfl) ?_
  refine lv_iload hx hb dL_law_1042 (lv_at hl 4 rfl) ?_
  refine lv_iconst (v := nI 2) hx hb dL_law_1044 (by decide) ?_
  refine cd_iadd hx hb dL_law_1045 ?_
  refine cd_sld hx hb hX hbl hbA hS (show i + 2 < L by omega) hL dL_law_1046 ?_
  refine lv_aload_n hx hb dL_law_1047 rfl (lv_at hl 3 rfl) ?_
  have M_1048 := c_L_actorFor l D cy hfl h S J o f hI (xs (i + 1)) (xs (i + 2)) hJ H.size
  have hPc := hP.sub (ws' := wCL cy h S J o f) [0, 1, 2, 3, 4, 5, 6, 7, 8, 9, 10, 11, 12, 13, 14, 15, 16, 17, 18, 19, 20, 21, 22, 23, 24, 25, 26, 27] rfl
  have hDc := hD.sub (ws' := wCL cy h S J o f) [0, 1, 2, 3, 4, 5, 6, 7, 8, 9, 10, 11, 12, 13, 14, 15, 16, 17, 18, 19, 20, 21, 22, 23, 24, 25, 26, 27] (by decide) rfl
  refine cd_fri (S := qS × qS × (Nat → Int64)) (W1 := fun u => wCL cy h u.1 u.2.1 o u.2.2) (ws' := fun u => wLW cy h g u.1 u.2.1 S K o u.2.2) (wc := wCL cy h S J o f) (wr := wM cy g S K) (vx_runSW (As := [.ref (h 0), .int (xs (i + 1)), .int (xs (i + 2)), .ref o]) (rest := []) ⟨hx, hb, hml, hown, hts⟩ M_1048 (vx_cwSW 4 hts gL_law_L_actorFor rfl rfl rfl (by decide +kernel) ⟨Nat.le_of_ble_eq_true rfl, Nat.le_of_ble_eq_true rfl⟩) ⟨thB.bl, fun U hU hW => ⟨rfl, ⟨by rw [hU], by rw [hU]; exact hPc, hG.warm hW, hDc.weaken (fun _ _ _ _ => trivial)⟩, hTz.down hS (va_free (wc := wCL cy h S J o f) hD hS hA [0, 1, 2, 3, 4, 5, 6, 7, 8, 9, 10, 11, 12, 13, 14, 15, 16, 17, 18, 19, 20, 21, 22, 23, 24, 25, 26, 27] rfl) hU hW⟩⟩ rfl rfl hl.1 rfl (lv_room (Nat.le_of_ble_eq_true rfl)) dL_law_1048 (show cells + 4 ≤ 601024 ∧ slots + 24 ≤ 7293034 from ⟨by omega, by omega⟩)) hP hD hS hA [0, 1, 2, 3, 4, 5, 6, 7, 8, 9, 10, 11, 12, 13, 14, 15, 16, 17, 18, 19, 20, 21, 22, 23, 24, 25, 26, 27] [28, 29, 30, 31, 32, 33, 34, 35, 36, 37, 38, 39, 40, 41, 42, 43, 44, 45, 46, 47, 48] [21, 22, 23, 24, 25, 26, 27, 28, 29, 30, 31, 32, 33, 34, 35, 36, 37, 38, 39, 40, 41, 42, 43, 44, 45, 46, 47, 48, 0, 1, 2, 3, 4, 5, 6, 7, 8, 9, 10, 11, 12, 13, 14, 15, 16, 17, 18, 19, 20] rfl rfl (by decide) (by decide) (by decide) (fun _ => rfl) (fun r1 u1 H locs hw1 hP hD hS => ?_)
  have hP : va_P D vwCl (wLW cy h g u1.1 u1.2.1 S K o u1.2.2) H := hP
  have hD : va_D A (wLW cy h g u1.1 u1.2.1 S K o u1.2.2) := hD
  refine lv_istore (lv' := [(5, .int r1), (0, .ref b), (1, .ref (h 0)), (2, .ref (g 0)), (3, .ref o), (4, .int (nI i))]) hx hb dL_law_1051 hl (by decide) rfl (fun ls hl => ?_)
  refine lv_aload_n hx hb dL_law_1053 rfl (lv_at hl 3 rfl) ?_
  refine lv_aload_n hx hb dL_law_1054 rfl (lv_at hl 1 rfl) ?_
  refine lv_iload hx hb dL_law_1055 (lv_at hl 5 rfl) ?_
  refine lv_iconst (v := nI 1) hx hb dL_law_1057 (by decide) ?_
  refine cd_iadd hx hb dL_law_1058 ?_
  refine cd_sld hx hb hX hbl hbA hS (show i + 1 < L by omega) hL dL_law_1059 ?_
  refine lv_aload_n hx hb dL_law_1060 rfl (lv_at hl 1 rfl) ?_
  refine lv_iload hx hb dL_law_1061 (lv_at hl 5 rfl) ?_
  refine lv_iconst (v := nI 2) hx hb dL_law_1063 (by decide) ?_
  refine cd_iadd hx hb dL_law_1064 ?_
  refine cd_sld hx hb hX hbl hbA hS (show i + 2 < L by omega) hL dL_law_1065 ?_
  have M_1066 := c_X7_actorFor l D cy g S K hI (xs (i + 1)) (xs (i + 2)) H.size
  have hPc := hP.sub (ws' := wM cy g S K) [28, 29, 30, 31, 32, 33, 34, 35, 36, 37, 38, 39, 40, 41, 42, 43, 44, 45, 46, 47, 48] rfl
  have hDc := hD.sub (ws' := wM cy g S K) [28, 29, 30, 31, 32, 33, 34, 35, 36, 37, 38, 39, 40, 41, 42, 43, 44, 45, 46, 47, 48] (by decide) rfl
  refine cd_fri (S := qS × qS) (W1 := fun v => wM cy g v.1 v.2) (ws' := fun v => wLW cy h g u1.1 u1.2.1 v.1 v.2 o u1.2.2) (wc := wM cy g S K) (wr := wCL cy h u1.1 u1.2.1 o u1.2.2) (va_runV (As := [.int (xs (i + 1)), .int (xs (i + 2))]) (rest := []) ⟨hx, hb, hml, hown, hts⟩ M_1066 (cwV 2 hts gL_law_X7_actorFor rfl rfl rfl (by decide +kernel) ⟨Nat.le_of_ble_eq_true rfl, Nat.le_of_ble_eq_true rfl⟩) ⟨wrB.bl, va_recv hK hP (ci := 7) (q0 := 28) rfl rfl, fun U hU hW => ⟨rfl, by rw [hU], by rw [hU]; exact hPc, hG.warm hW, hDc.weaken (fun _ _ _ _ => trivial)⟩⟩ rfl rfl hl.1 rfl (lv_room (Nat.le_of_ble_eq_true rfl)) dL_law_1066 (show cells + 4 + 0 ≤ 601024 ∧ slots + 24 + 0 ≤ 7293034 from ⟨by omega, by omega⟩)) hP hD hS hA [28, 29, 30, 31, 32, 33, 34, 35, 36, 37, 38, 39, 40, 41, 42, 43, 44, 45, 46, 47, 48] [0, 1, 2, 3, 4, 5, 6, 7, 8, 9, 10, 11, 12, 13, 14, 15, 16, 17, 18, 19, 20, 21, 22, 23, 24, 25, 26, 27] [0, 1, 2, 3, 4, 5, 6, 7, 8, 9, 10, 11, 12, 13, 14, 15, 16, 17, 18, 19, 20, 21, 22, 23, 24, 25, 26, 27, 28, 29, 30, 31, 32, 33, 34, 35, 36, 37, 38, 39, 40, 41, 42, 43, 44, 45, 46, 47, 48] rfl rfl (by decide) (by decide) (by decide) (fun _ => rfl) (fun r2 v2 H locs hw2 hP hD hS => ?_)
  have hP : va_P D vwCl (wLW cy h g u1.1 u1.2.1 v2.1 v2.2 o u1.2.2) H := hP
  have hD : va_D A (wLW cy h g u1.1 u1.2.1 v2.1 v2.2 o u1.2.2) := hD
  obtain ⟨y1, y2, y3, y4, y5⟩ := lm_sync hw1 hw2 hI (fun h9 => hI)
  rw [y1] at hP hD
  have hP : va_P D vwCl (wLW cy h g v2.1 u1.2.1 v2.1 v2.2 o u1.2.2) H := hP
  have hD : va_D A (wLW cy h g v2.1 u1.2.1 v2.1 v2.2 o u1.2.2) := hD
  refine lv_istore (lv' := [(6, .int r2), (5, .int r1), (0, .ref b), (1, .ref (h 0)), (2, .ref (g 0)), (3, .ref o), (4, .int (nI i))]) hx hb dL_law_1069 hl (by decide) rfl (fun ls hl => ?_)
  refine lv_aload_n hx hb dL_law_1071 rfl (lv_at hl 4 rfl) ?_
  have M_1072 := c_X7_thrown l D cy g v2.1 v2.2 y4
  have hPc := hP.sub (ws' := wM cy g v2.1 v2.2) [28, 29, 30, 31, 32, 33, 34, 35, 36, 37, 38, 39, 40, 41, 42, 43, 44, 45, 46, 47, 48] rfl
  refine cd_roi (va_runV (As := []) (rest := []) ⟨hx, hb, hml, hown, hts⟩ M_1072 (cwV 0 hts gL_law_X7_thrown rfl rfl rfl (by decide +kernel) ⟨Nat.le_of_ble_eq_true rfl, Nat.le_of_ble_eq_true rfl⟩) ⟨roB.bl, va_recv hK hP (ci := 7) (q0 := 28) rfl rfl, fun U hU hW => ⟨rfl, by rw [hU]; exact hPc, hG.warm hW⟩⟩ rfl rfl hl.1 rfl (lv_room (Nat.le_of_ble_eq_true rfl)) dL_law_1072 (show cells + 4 + 0 ≤ 601024 ∧ slots + 24 + 0 ≤ 7293034 from ⟨by omega, by omega⟩)) (fun r_1072 hr_1072 => ?_)
  subst hr_1072
  refine cd_tp (y := r1) y2 ?_
  refine lv_iload hx hb dL_law_1075 (lv_at hl 1 rfl) ?_
  refine lv_icmp_eq (tgt := 1082) hx hb dL_law_1077 (by decide) (fun c_1077 => ?_) (fun c_1077 => ?_)
  · refine lv_iload hx hb dL_law_1082 (lv_at hl 1 rfl) ?_
    refine lv_if_ne (tgt := 1099) hx hb dL_law_1084 (by decide) (fun c_1084 => ?_) (fun c_1084 => ?_)
    · refine lv_goto (tgt := 1568) hx hb dL_law_1099 (by decide) ?_
      refine lv_iinc (v := nI (i + 5)) (lv' := [(4, .int (nI (i + 5))), (6, .int r2), (5, .int r1), (0, .ref b), (1, .ref (h 0)), (2, .ref (g 0)), (3, .ref o)]) hx hb dL_law_1568 hl (k := 6) rfl (cd_i5 _) (by decide) rfl (fun ls hl => ?_)
      refine lv_goto (tgt := 23) hx hb dL_law_1571 (by decide) ?_
      exact kk v2.1 u1.2.1 v2.2 u1.2.2 _ _ _ y4 y5 hP hD hS (lv_sub hl [3, 4, 5, 6, 0] rfl)
    · refine lv_aload_n hx hb dL_law_1087 rfl (lv_at hl 5 rfl) ?_
      refine lv_iconst (v := nI 0) hx hb dL_law_1088 (by decide) ?_
      refine cd_lald (f := u1.2.2) hx hb hK hP 27 rfl (by decide) (by decide) dL_law_1089 ?_
      refine lv_iload hx hb dL_law_1090 (lv_at hl 0 rfl) ?_
      refine lv_i2l (v := r2.toInt64) hx hb dL_law_1092 rfl ?_
      refine cd_lcmpE hx hb (y3 c_1084) dL_law_1093 ?_
      refine cd_if_eq (tgt := 1099) hx hb dL_law_1094 (by decide) (by decide) (fun c_1094 => ?_) (fun c_1094 => ?_)
      · refine lv_goto (tgt := 1568) hx hb dL_law_1099 (by decide) ?_
        refine lv_iinc (v := nI (i + 5)) (lv' := [(4, .int (nI (i + 5))), (6, .int r2), (5, .int r1), (0, .ref b), (1, .ref (h 0)), (2, .ref (g 0)), (3, .ref o)]) hx hb dL_law_1568 hl (k := 6) rfl (cd_i5 _) (by decide) rfl (fun ls hl => ?_)
        refine lv_goto (tgt := 23) hx hb dL_law_1571 (by decide) ?_
        exact kk v2.1 u1.2.1 v2.2 u1.2.2 _ _ _ y4 y5 hP hD hS (lv_sub hl [3, 4, 5, 6, 0] rfl)
      · exact absurd c_1094 (by decide)
  · exact absurd (rfl) c_1077
