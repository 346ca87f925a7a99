/-- what the start gives -/
theorem g_arr {s : State} {args : Array Value} {ty : FieldType} (h : (Cond.arrayClass ty).before args s = true) : ∃ cA : ClassId, ArrOfT s cA ty ∧ s.vm.findClass ("[" ++ ty.toString) = some cA := by
  obtain ⟨cA, kA, comp, h1, h2, h3⟩ := Cond.arrayClass_spec h
  exact ⟨cA, fun n z => ⟨fun k h => (by cases h), kA, h2, comp, h3⟩, h1⟩
theorem g_w {s : State} {args : Array Value} {w : Cond} (hc : w.onTables = true) (h : w.before args s = true) : va_Nw w s := va_tabs hc rfl h
set_option maxHeartbeats 4000000 in
set_option maxRecDepth 100000 in
theorem g_nest {b : Nat} {s : State} (hts : ∀ w ∈ lw_tbl, w.before #[Value.ref b] s = true) : Gn s :=
  ⟨g_w rfl (hts (.methodLinkNest RX6 18 yX3_init RX6) (by decide +kernel)), g_w rfl (hts (.methodLinkNest RX6 25 yX5_init RX6) (by decide +kernel)), g_w rfl (hts (.methodLinkNest RX6 46 yX0_init RX6) (by decide +kernel)), g_w rfl (hts (.methodLinkNest RX4 21 yX6_has RX6) (by decide +kernel)), g_w rfl (hts (.methodLinkNest RX4 25 yX6_with RX6) (by decide +kernel)), g_w rfl (hts (.methodLinkNest RX1 44 yX6_has RX6) (by decide +kernel)), g_w rfl (hts (.methodLinkNest RX1 48 yX6_with RX6) (by decide +kernel))⟩
set_option maxHeartbeats 4000000 in
set_option maxRecDepth 100000 in
theorem g_known {b : Nat} {s : State} (hts : ∀ w ∈ lw_tbl, w.before #[Value.ref b] s = true) : ∃ (D : va_G) (cy : qT), va_K D vwCl (TY cy) s := by
  obtain ⟨c0, j0, k0⟩ := u_known (C := RX0) (T := TX0) (N := 8) (n := 8) hts inX0 (hts (.instantiable RX0 8) (by decide +kernel))
  obtain ⟨c1, j1, k1⟩ := u_known (C := RX1) (T := TX1) (N := 4) (n := 4) hts inX1 (hts (.instantiable RX1 4) (by decide +kernel))
  obtain ⟨c2, j2, k2⟩ := u_known (C := RX2) (T := TX2) (N := 4) (n := 4) hts inX2 (hts (.instantiable RX2 4) (by decide +kernel))
  obtain ⟨c3, j3, k3⟩ := u_known (C := RX3) (T := TX3) (N := 2) (n := 2) hts inX3 (hts (.instantiable RX3 2) (by decide +kernel))
  obtain ⟨c4, j4, k4⟩ := u_known (C := RX4) (T := TX4) (N := 3) (n := 3) hts inX4 (hts (.instantiable RX4 3) (by decide +kernel))
  obtain ⟨c5, j5, k5⟩ := u_known (C := RX5) (T := TX5) (N := 4) (n := 4) hts inX5 (hts (.instantiable RX5 4) (by decide +kernel))
  obtain ⟨c6, j6, k6⟩ := u_known (C := RX6) (T := TX6) (N := 8) (n := 8) hts inX6 (hts (.instantiable RX6 8) (by decide +kernel))
  obtain ⟨a1, b1, e1⟩ := g_arr (ty := .int) (hts (.arrayClass .int) (by decide +kernel))
  obtain ⟨a2, b2, e2⟩ := g_arr (ty := .boolean) (hts (.arrayClass .boolean) (by decide +kernel))
  refine ⟨(fun k => if k = 0 then c0 else if k = 1 then c1 else if k = 2 then c2 else if k = 3 then c3 else if k = 4 then c4 else if k = 5 then c5 else c6, fun k => if k = 0 then j0 else if k = 1 then j1 else if k = 2 then j2 else if k = 3 then j3 else if k = 4 then j4 else if k = 5 then j5 else j6), (a1, a2, a1), ?_, ?_⟩
  · intro k q hq
    match k, hq with
    | 0, hq => cases hq; exact k0
    | 1, hq => cases hq; exact k1
    | 2, hq => cases hq; exact k2
    | 3, hq => cases hq; exact k3
    | 4, hq => cases hq; exact k4
    | 5, hq => cases hq; exact k5
    | 6, hq => cases hq; exact k6
    | k + 7, hq => simp [vwCl] at hq
  · intro k q hq
    match k, hq with
    | 0, hq => cases hq; exact ⟨b1, e1⟩
    | 1, hq => cases hq; exact ⟨b2, e2⟩
    | 2, hq => cases hq; exact ⟨b1, e1⟩
    | k + 3, hq => simp at hq
