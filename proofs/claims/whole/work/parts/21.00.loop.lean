set_option maxHeartbeats 4000000 in
set_option maxRecDepth 100000 in
/-- the law goes round, five ints a time -/
theorem lw_loop (l : Launch) (hfl : l.stackTraces = false) {p : Program} {e : Env} {s : State} {m : MethodId} {below : List Frame} {meth : Method} {c : Code} (D : va_G) (cy : qT) {b L : Nat} {xs : Nat → Int32} (hx : p.tables.exec = Jvm.exec) (hb : c.code = cL_law) (hml : c.maxLocals = 7) (hr : meth.sig.returnType = ret) (hlocks : meth.locks = false) (hown : s.vm.findClass RL = some m.cls) (hts : ∀ w ∈ wsL_law, w.before #[Value.ref b] s = true) (hG : Gk D cy s) (hTz : Tz (fun q : Nat => s.heap.size ≤ q) s s.heap) (hX : va_X b L xs s s.heap) (hbl : b < s.heap.size) (hL : L ≤ 2560) (h g : Nat → Nat) (o : Nat) :
    ∀ (n k : Nat) (S J K : qS) (f : Nat → Int64) (H : Heap) (locs : List Loc) (ls : Array Slot), k + n = 520 → Inv S → jk J → va_P D vwCl (wLW cy h g S J S K o f) H → va_D (fun q : Nat => s.heap.size ≤ q) (wLW cy h g S J S K o f) → va_S (fun q : Nat => s.heap.size ≤ q) s.heap H locs → lv_has ls 7 [(0, .ref b), (1, .ref (h 0)), (2, .ref (g 0)), (3, .ref o), (4, .int (nI (5 * k)))] →
      5 * k ≤ 2560 → W p l e room_1 s m #[Value.ref b] below meth c H locs (1000 + 4 * k) (30000 + 24 * k) (lw_Z below #[Value.ref b] s) (F0 m 23 ls []) := by
  have hbA : ¬ (fun q : Nat => s.heap.size ≤ q) b := Nat.not_le.mpr hbl
  have hA : ∀ q : Nat, s.heap.size ≤ q → (fun q : Nat => s.heap.size ≤ q) q := fun _ h9 => h9
  intro n
  induction n with
  | zero => intro k S J K f H locs ls hn hI hJ hP hD hS hl hk; omega
  | succ n ih =>
    intro k S J K f H locs ls hn hI hJ hP hD hS hl hk
    refine lv_iload hx hb dL_law_23 (lv_at hl 4 rfl) ?_
    refine lv_aload_n hx hb dL_law_25 rfl (lv_at hl 0 rfl) ?_
    refine va_slen hx hb hX hbl hbA hS dL_law_26 ?_
    refine lv_iconst (v := nI 5) hx hb dL_law_27 (by decide) ?_
    refine lv_isub hx hb dL_law_28 ?_
    refine lv_icmp_gt (tgt := 1574) hx hb dL_law_29 (by decide) (fun c_29 => ?_) (fun c_29 => ?_)
    · refine lv_iconst (v := 1) hx hb dL_law_1574 (by decide) ?_
      refine W.widen (k := 601024) (n := 7293034) (by omega) (by omega) ?_
      refine va_forget (fun q h9 => hS.2.2 q h9) ?_
      exact lw_ret hx hb hr hlocks dL_law_1575
    · have hi := lw_more hL hk c_29
      refine lv_aload_n hx hb dL_law_32 rfl (lv_at hl 0 rfl) ?_
      refine lv_iload hx hb dL_law_33 (lv_at hl 4 rfl) ?_
      refine cd_sld hx hb hX hbl hbA hS (show 5 * k < L by omega) hL dL_law_35 ?_
      refine lv_bipush (v := nI 31) hx hb dL_law_36 (by decide) ?_
      refine lv_iand hx hb dL_law_38 ?_
      have kk : ∀ (S J K : qS) (f : Nat → Int64) (H : Heap) (locs : List Loc) (ls : Array Slot), Inv S → jk J → va_P D vwCl (wLW cy h g S J S K o f) H → va_D (fun q : Nat => s.heap.size ≤ q) (wLW cy h g S J S K o f) → va_S (fun q : Nat => s.heap.size ≤ q) s.heap H locs → lv_has ls 7 [(0, .ref b), (1, .ref (h 0)), (2, .ref (g 0)), (3, .ref o), (4, .int (nI (5 * k + 5)))] → W p l e room_1 s m #[Value.ref b] below meth c H locs (1000 + 4 * k + 4) (30000 + 24 * k + 24) (lw_Z below #[Value.ref b] s) (F0 m 23 ls []) := by
        intro S J K f H locs ls hI hJ hP hD hS hl
        rw [show 1000 + 4 * k + 4 = 1000 + 4 * (k + 1) by omega, show 30000 + 24 * k + 24 = 30000 + 24 * (k + 1) by omega]
        rw [show 5 * k + 5 = 5 * (k + 1) by omega] at hl
        exact ih (k + 1) S J K f H locs ls (by omega) hI hJ hP hD hS hl (by omega)
      obtain ⟨w, hw, ew⟩ := and31 (xs (5 * k))
      refine cd_tp ew ?_
      rcases (show w = 0 ∨ w = 1 ∨ w = 2 ∨ w = 3 ∨ w = 4 ∨ w = 5 ∨ w = 6 ∨ w = 7 ∨ w = 8 ∨ w = 9 ∨ w = 10 ∨ w = 11 ∨ w = 12 ∨ w = 13 ∨ w = 14 ∨ w = 15 ∨ w = 16 ∨ w = 17 ∨ w = 18 ∨ w = 19 ∨ w = 20 ∨ w = 21 ∨ w = 22 ∨ (23 ≤ w ∧ w < 32) by omega) with rfl | rfl | rfl | rfl | rfl | rfl | rfl | rfl | rfl | rfl | rfl | rfl | rfl | rfl | rfl | rfl | rfl | rfl | rfl | rfl | rfl | rfl | rfl | hw9
      · refine lv_tableIn (off := 105) (tgt := 144) hx hb dL_law_39 (by decide) (by decide) (by decide) (by decide) ?_
        exact lw_c0 l hfl D cy hx hb hml hown hts hG hTz hX hbl hbA hA hL h g o S J K f hI hJ (by omega) (by omega) hP hD hS (5 * k) hi hl kk
      · refine lv_tableIn (off := 161) (tgt := 200) hx hb dL_law_39 (by decide) (by decide) (by decide) (by decide) ?_
        exact lw_c1 l hfl D cy hx hb hml hown hts hG hTz hX hbl hbA hA hL h g o S J K f hI hJ (by omega) (by omega) hP hD hS (5 * k) hi hl kk
      · refine lv_tableIn (off := 229) (tgt := 268) hx hb dL_law_39 (by decide) (by decide) (by decide) (by decide) ?_
        exact lw_c2 l hfl D cy hx hb hml hown hts hG hTz hX hbl hbA hA hL h g o S J K f hI hJ (by omega) (by omega) hP hD hS (5 * k) hi hl kk
      · refine lv_tableIn (off := 325) (tgt := 364) hx hb dL_law_39 (by decide) (by decide) (by decide) (by decide) ?_
        exact lw_c3 l hfl D cy hx hb hml hown hts hG hTz hX hbl hbA hA hL h g o S J K f hI hJ (by omega) (by omega) hP hD hS (5 * k) hi hl kk
      · refine lv_tableIn (off := 393) (tgt := 432) hx hb dL_law_39 (by decide) (by decide) (by decide) (by decide) ?_
        exact lw_c4 l hfl D cy hx hb hml hown hts hG hTz hX hbl hbA hA hL h g o S J K f hI hJ (by omega) (by omega) hP hD hS (5 * k) hi hl kk
      · refine lv_tableIn (off := 461) (tgt := 500) hx hb dL_law_39 (by decide) (by decide) (by decide) (by decide) ?_
        exact lw_c5 l hfl D cy hx hb hml hown hts hG hTz hX hbl hbA hA hL h g o S J K f hI hJ (by omega) (by omega) hP hD hS (5 * k) hi hl kk
      · refine lv_tableIn (off := 529) (tgt := 568) hx hb dL_law_39 (by decide) (by decide) (by decide) (by decide) ?_
        exact lw_c6 l hfl D cy hx hb hml hown hts hG hTz hX hbl hbA hA hL h g o S J K f hI hJ (by omega) (by omega) hP hD hS (5 * k) hi hl kk
      · refine lv_tableIn (off := 585) (tgt := 624) hx hb dL_law_39 (by decide) (by decide) (by decide) (by decide) ?_
        exact lw_c7 l hfl D cy hx hb hml hown hts hG hTz hX hbl hbA hA hL h g o S J K f hI hJ (by omega) (by omega) hP hD hS (5 * k) hi hl kk
      · refine lv_tableIn (off := 665) (tgt := 704) hx hb dL_law_39 (by decide) (by decide) (by decide) (by decide) ?_
        exact lw_c8 l hfl D cy hx hb hml hown hts hG hTz hX hbl hbA hA hL h g o S J K f hI hJ (by omega) (by omega) hP hD hS (5 * k) hi hl kk
      · refine lv_tableIn (off := 740) (tgt := 779) hx hb dL_law_39 (by decide) (by decide) (by decide) (by decide) ?_
        exact lw_c9 l hfl D cy hx hb hml hown hts hG hTz hX hbl hbA hA hL h g o S J K f hI hJ (by omega) (by omega) hP hD hS (5 * k) hi hl kk
      · refine lv_tableIn (off := 827) (tgt := 866) hx hb dL_law_39 (by decide) (by decide) (by decide) (by decide) ?_
        exact lw_c10 l hfl D cy hx hb hml hown hts hG hTz hX hbl hbA hA hL h g o S J K f hI hJ (by omega) (by omega) hP hD hS (5 * k) hi hl kk
      · refine lv_tableIn (off := 883) (tgt := 922) hx hb dL_law_39 (by decide) (by decide) (by decide) (by decide) ?_
        exact lw_c11 l hfl D cy hx hb hml hown hts hG hTz hX hbl hbA hA hL h g o S J K f hI hJ (by omega) (by omega) hP hD hS (5 * k) hi hl kk
      · refine lv_tableIn (off := 939) (tgt := 978) hx hb dL_law_39 (by decide) (by decide) (by decide) (by decide) ?_
        exact lw_c12 l hfl D cy hx hb hml hown hts hG hTz hX hbl hbA hA hL h g o S J K f hI hJ (by omega) (by omega) hP hD hS (5 * k) hi hl kk
      · refine lv_tableIn (off := 995) (tgt := 1034) hx hb dL_law_39 (by decide) (by decide) (by decide) (by decide) ?_
        exact lw_c13 l hfl D cy hx hb hml hown hts hG hTz hX hbl hbA hA hL h g o S J K f hI hJ (by omega) (by omega) hP hD hS (5 * k) hi hl kk
      · refine lv_tableIn (off := 1063) (tgt := 1102) hx hb dL_law_39 (by decide) (by decide) (by decide) (by decide) ?_
        exact lw_c14 l hfl D cy hx hb hml hown hts hG hTz hX hbl hbA hA hL h g o S J K f hI hJ (by omega) (by omega) hP hD hS (5 * k) hi hl kk
      · refine lv_tableIn (off := 1131) (tgt := 1170) hx hb dL_law_39 (by decide) (by decide) (by decide) (by decide) ?_
        exact lw_c15 l hfl D cy hx hb hml hown hts hG hTz hX hbl hbA hA hL h g o S J K f hI hJ (by omega) (by omega) hP hD hS (5 * k) hi hl kk
      · refine lv_tableIn (off := 1187) (tgt := 1226) hx hb dL_law_39 (by decide) (by decide) (by decide) (by decide) ?_
        exact lw_c16 l hfl D cy hx hb hml hown hts hG hTz hX hbl hbA hA hL h g o S J K f hI hJ (by omega) (by omega) hP hD hS (5 * k) hi hl kk
      · refine lv_tableIn (off := 1279) (tgt := 1318) hx hb dL_law_39 (by decide) (by decide) (by decide) (by decide) ?_
        exact lw_c17 l hfl D cy hx hb hml hown hts hG hTz hX hbl hbA hA hL h g o S J K f hI hJ (by omega) (by omega) hP hD hS (5 * k) hi hl kk
      · refine lv_tableIn (off := 1323) (tgt := 1362) hx hb dL_law_39 (by decide) (by decide) (by decide) (by decide) ?_
        exact lw_c18 l hfl D cy hx hb hml hown hts hG hTz hX hbl hbA hA hL h g o S J K f hI hJ (by omega) (by omega) hP hD hS (5 * k) hi hl kk
      · refine lv_tableIn (off := 1336) (tgt := 1375) hx hb dL_law_39 (by decide) (by decide) (by decide) (by decide) ?_
        exact lw_c19 l hfl D cy hx hb hml hown hts hG hTz hX hbl hbA hA hL h g o S J K f hI hJ (by omega) (by omega) hP hD hS (5 * k) hi hl kk
      · refine lv_tableIn (off := 1392) (tgt := 1431) hx hb dL_law_39 (by decide) (by decide) (by decide) (by decide) ?_
        exact lw_c20 l hfl D cy hx hb hml hown hts hG hTz hX hbl hbA hA hL h g o S J K f hI hJ (by omega) (by omega) hP hD hS (5 * k) hi hl kk
      · refine lv_tableIn (off := 1460) (tgt := 1499) hx hb dL_law_39 (by decide) (by decide) (by decide) (by decide) ?_
        exact lw_c21 l hfl D cy hx hb hml hown hts hG hTz hX hbl hbA hA hL h g o S J K f hI hJ (by omega) (by omega) hP hD hS (5 * k) hi hl kk
      · refine lv_tableIn (off := 1516) (tgt := 1555) hx hb dL_law_39 (by decide) (by decide) (by decide) (by decide) ?_
        exact lw_c22 l hfl D cy hx hb hml hown hts hG hTz hX hbl hbA hA hL h g o S J K f hI hJ (by omega) (by omega) hP hD hS (5 * k) hi hl kk
      · have hout : (nI w).toInt < 0 ∨ 22 < (nI w).toInt := Or.inr (by rw [nI_toInt (by omega)]; omega)
        refine lv_tableOut (tgt := 1568) hx hb dL_law_39 (hout) (by decide) ?_
        refine lv_iinc (v := nI (5 * k + 5)) (lv' := [(4, .int (nI (5 * k + 5))), (0, .ref b), (1, .ref (h 0)), (2, .ref (g 0)), (3, .ref o)]) hx hb dL_law_1568 hl (k := 4) rfl (cd_i5 _) (by decide) rfl (fun ls hl => ?_)
        refine lv_goto (tgt := 23) hx hb dL_law_1571 (by decide) ?_
        refine W.widen (k := 1000 + 4 * k + 4) (n := 30000 + 24 * k + 24) (by omega) (by omega) ?_
        exact kk S J K f H locs ls hI hJ hP hD hS (lv_sub hl [1, 2, 3, 4, 0] rfl)
