/-! new arrays, new objects: how both sides begin -/
section CDW
variable {p : Program} {l : Launch} {e : Env} {R : Room} {s : State} {m : MethodId} {args : Array Value} {below : List Frame} {meth : Method} {c : Code} {H : Heap} {locs : List Loc} {cells slots : Nat} {Q : State → Prop}
variable {cc : ByteArray} {pc : Nat} {ls : Array Slot} {rest st0 : List Value} {D : va_G} {cl : List vw_C} {cy : qT} {A0 : Nat → Prop} {H0 : Heap} {ws : va_W} {a : Nat}
theorem nI_nn {N : Nat} (h : N < 2147483648) : ¬ nI N < 0 := Int32.not_lt.mpr (nI_pos' h)
theorem cd_newI (hexec : p.tables.exec = Jvm.exec) (hb : c.code = cc) (harr : (Cond.arrayClass .int).before args s = true) (hK : va_K D cl (TY cy) s) (hP : va_P D cl ws H) (hD : va_D A0 ws) (hS : va_S A0 H0 H locs) (hA : ∀ q, H0.size ≤ q → A0 q)
    {N : Nat} (hN : N ≤ 100000) (hcells : cells + 1 ≤ R.cells) (hslots : slots + N ≤ R.slots) (hdg : decode cc pc = .ok (.newarray .int, 2))
    (kk : ∀ (q : Nat) (H1 : Heap), va_P D cl (ws ++ [(q, aI cy N (fun _ => 0))]) H1 → va_D A0 (ws ++ [(q, aI cy N (fun _ => 0))]) → va_S A0 H0 H1 locs → W p l e R s m args below meth c H1 locs (cells + 1) (slots + N) Q (F0 m (pc + 2) ls (.ref q :: rest))) :
    W p l e R s m args below meth c H locs cells slots Q (F0 m pc ls (.int (nI N) :: rest)) := by
  refine va_newa (atype := .int) (ty := .int) (N' := N) (a0 := (N, .inl (fun _ => 0))) hexec hb harr rfl hK hP hD hS hA (fun cA => rfl) (nI_nn (by omega)) (nI_clamp (by omega)) (by show N * 4 ≤ _; omega) hcells hslots hdg (fun q cA H1 hK1 hP1 hD1 hS1 => ?_)
  have e1 : s.vm.findClass ("[" ++ FieldType.int.toString) = some cA := (hK1.2 3 _ rfl).2
  have e0 : s.vm.findClass ("[" ++ FieldType.int.toString) = some cy.1 := (hK.2 0 _ rfl).2
  have e2 : cA = cy.1 := Option.some.inj (e1.symm.trans e0)
  subst e2
  exact kk q H1 hP1 hD1 hS1
theorem cd_newZ (hexec : p.tables.exec = Jvm.exec) (hb : c.code = cc) (harr : (Cond.arrayClass .boolean).before args s = true) (hK : va_K D cl (TY cy) s) (hP : va_P D cl ws H) (hD : va_D A0 ws) (hS : va_S A0 H0 H locs) (hA : ∀ q, H0.size ≤ q → A0 q)
    {N : Nat} (hN : N ≤ 100000) (hcells : cells + 1 ≤ R.cells) (hslots : slots + N ≤ R.slots) (hdg : decode cc pc = .ok (.newarray .boolean, 2))
    (kk : ∀ (q : Nat) (H1 : Heap), va_P D cl (ws ++ [(q, aZ cy N (fun _ => 0))]) H1 → va_D A0 (ws ++ [(q, aZ cy N (fun _ => 0))]) → va_S A0 H0 H1 locs → W p l e R s m args below meth c H1 locs (cells + 1) (slots + N) Q (F0 m (pc + 2) ls (.ref q :: rest))) :
    W p l e R s m args below meth c H locs cells slots Q (F0 m pc ls (.int (nI N) :: rest)) := by
  refine va_newa (atype := .boolean) (ty := .boolean) (N' := N) (a0 := (N, .inl (fun _ => 0))) hexec hb harr rfl hK hP hD hS hA (fun cA => rfl) (nI_nn (by omega)) (nI_clamp (by omega)) (by show N * 1 ≤ _; omega) hcells hslots hdg (fun q cA H1 hK1 hP1 hD1 hS1 => ?_)
  have e1 : s.vm.findClass ("[" ++ FieldType.boolean.toString) = some cA := (hK1.2 3 _ rfl).2
  have e0 : s.vm.findClass ("[" ++ FieldType.boolean.toString) = some cy.2.1 := (hK.2 1 _ rfl).2
  have e2 : cA = cy.2.1 := Option.some.inj (e1.symm.trans e0)
  subst e2
  exact kk q H1 hP1 hD1 hS1
end CDW
/-- how it all begins -/
def fuF (x : Int32) (n : Nat) : Nat → Int32 := fun i => if i < n then x else 0
theorem fuF_0 (x : Int32) : fuF x 0 = (fun _ => 0) := by funext i; exact if_neg (Nat.not_lt_zero i)
theorem fuF_s (x : Int32) (n : Nat) : upd (fuF x n) n x = fuF x (n + 1) := by
  funext i; unfold upd fuF
  by_cases e : i = n
  · rw [if_pos e, if_pos (by omega)]
  · rw [if_neg e]
    by_cases q : i < n
    · rw [if_pos q, if_pos (by omega)]
    · rw [if_neg q, if_neg (by omega)]
def S0i : qS := fun k => if k = 2 then fuF (nI 5) 12 else if k = 18 then fuF (-1) 320 else if k = 27 then (fun _ => nI 1) else (fun _ => 0)
def J0i : qS := fun k => if k = 15 then fuF (-1) 4096 else (fun _ => 0)
theorem jk_0 : jk J0i := fun i h => if_pos h
theorem bd_0 {n : Nat} (h : 0 < n) : bd 0 n := ⟨rfl, h⟩
theorem inv_0 : Inv S0i := by
  refine ⟨⟨⟨rfl, by decide⟩, by decide⟩, bd_0 (by decide), bd_0 (by decide), bd_0 (by decide), bd_0 (by decide), fun i _ => ⟨bd_0 (by decide), by show pcn 12 0 ≤ 4; decide⟩, fun d _ => bd_0 (by decide), fun p _ => bd_0 (by decide), fun p r _ h => absurd h (Nat.not_lt_zero r), fun p r r' _ h => absurd h (Nat.not_lt_zero r), fun i => Or.inl rfl, fun i _ => rfl, fun i _ h => if_pos h, fun i j h => absurd h (Nat.not_lt_zero i), fun i h => absurd h (Nat.not_lt_zero i)⟩
