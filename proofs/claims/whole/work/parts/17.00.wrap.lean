/-! the law's wrappers: the class called, what it throws made a number -/
abbrev wCL (cy : qT) (h : Nat → Nat) (S J : qS) (o : Nat) (f : Nat → Int64) : va_W := [(h 0, .inr (6, [.ref (h 1), .ref (h 5), .ref (h 8), .ref (h 12), .ref (h 16), .ref (h 20), .int (S 27 0), .int (S 28 0)])),
  (h 1, .inr (4, [.ref (h 2), .ref (h 3), .ref (h 4)])), (h 2, aI cy 12 (S 2)), (h 3, aI cy 12 (S 3)), (h 4, aI cy 1001 (S 4)),
  (h 5, .inr (3, [.ref (h 6), .ref (h 7)])), (h 6, aI cy 32 (S 6)), (h 7, aI cy 8 (S 7)),
  (h 8, .inr (5, [.ref (h 9), .ref (h 10), .ref (h 11), .int (S 29 0)])), (h 9, aI cy 40 (S 9)), (h 10, aI cy 40 (S 10)), (h 11, aZ cy 40 (S 11)),
  (h 12, .inr (1, [.ref (h 13), .ref (h 14), .ref (h 15), .int (J 12 0)])), (h 13, aI cy 32 (J 13)), (h 14, aI cy 32 (J 14)), (h 15, aI cy 4096 (J 15)),
  (h 16, .inr (2, [.ref (h 17), .ref (h 18), .ref (h 19), .int (S 30 0)])), (h 17, aI cy 40 (S 17)), (h 18, aI cy 320 (S 18)), (h 19, aI cy 40 (S 19)),
  (h 20, .inr (0, [.ref (h 21), .ref (h 22), .ref (h 23), .ref (h 24), .ref (h 25), .ref (h 26), .int (S 31 0), .int (S 32 0)])), (h 21, aI cy 100 (S 21)), (h 22, aI cy 100 (S 22)), (h 23, aI cy 100 (S 23)), (h 24, aI cy 100 (S 24)), (h 25, aI cy 100 (S 25)), (h 26, aI cy 100 (S 26)),
  (o, aL cy 1 f)]
def lO (th : Int32) (res : Int64) (S1 S : qS) (r : Int32) (u : qS × qS × (Nat → Int64)) : Prop := r = th ∧ jk u.2.1 ∧ ((th = nI 0 ∧ u.1 = S1 ∧ u.2.2 0 = res) ∨ (¬ th = nI 0 ∧ u.1 = S))
theorem lO_ok {th : Int32} {res : Int64} {S1 S J1 : qS} {f1 : Nat → Int64} (h : th = nI 0) (hj : jk J1) (hf : f1 0 = res) : lO th res S1 S (nI 0) (S1, J1, f1) := ⟨h.symm, hj, Or.inl ⟨h, rfl, hf⟩⟩
theorem lO_no {th : Int32} {res : Int64} {S1 S J : qS} {f : Nat → Int64} {k : Nat} (h0 : k ≠ 0) (h1 : k < 10) (h : th = nI k) (hj : jk J) : lO th res S1 S (nI k) (S, J, f) := ⟨h.symm, hj, Or.inr ⟨fun q => h0 ((nI_eq (b := 0) (by omega) (by omega)).mp (h.symm.trans q)), rfl⟩⟩
section CDL
variable {p : Program} {l : Launch} {e : Env} {R : Room} {s : State} {m : MethodId} {args : Array Value} {below : List Frame} {meth : Method} {c : Code} {H : Heap} {locs : List Loc} {cells slots : Nat} {Q : State → Prop}
variable {cc : ByteArray} {pc : Nat} {ls : Array Slot} {rest st0 : List Value} {D : va_G} {cl : List vw_C} {cy : qT} {A0 : Nat → Prop} {H0 : Heap} {ws : va_W} {a : Nat}
theorem cd_lald (hexec : p.tables.exec = Jvm.exec) (hb : c.code = cc) (hK : va_K D cl (TY cy) s) (hP : va_P D cl ws H) (q0 : Nat) {n : Nat} {f : Nat → Int64} (ha : ws[q0]? = some (a, aL cy n f)) {i : Nat} (hi : i < n) (hn : n < 2147483648) (hdg : decode cc pc = .ok (.laload, 1))
    (kk : W p l e R s m args below meth c H locs cells slots Q (F0 m (pc + 1) ls (.long (f i) :: rest))) : W p l e R s m args below meth c H locs cells slots Q (F0 m pc ls (.int (nI i) :: .ref a :: rest)) :=
  va_lald hexec hb hK hP q0 2 ha rfl (vp_in_nI hi hn) hdg (by rw [nI_clamp (by omega)]; exact kk)
theorem cd_last (hexec : p.tables.exec = Jvm.exec) (hb : c.code = cc) (hK : va_K D cl (TY cy) s) (hP : va_P D cl ws H) (hD : va_D A0 ws) (hS : va_S A0 H0 H locs) (q0 : Nat) {n : Nat} {f : Nat → Int64} (ha : ws[q0]? = some (a, aL cy n f)) {i : Nat} {x : Int64} (hi : i < n) (hn : n < 2147483648) (hdg : decode cc pc = .ok (.lastore, 1))
    (kk : ∀ (H1 : Heap) (locs1 : List Loc), va_P D cl (ws.set q0 (a, aL cy n (vp_updL f i x))) H1 → va_D A0 (ws.set q0 (a, aL cy n (vp_updL f i x))) → va_S A0 H0 H1 locs1 → W p l e R s m args below meth c H1 locs1 cells slots Q (F0 m (pc + 1) ls rest)) : W p l e R s m args below meth c H locs cells slots Q (F0 m pc ls (.long x :: .int (nI i) :: .ref a :: rest)) :=
  va_last hexec hb hK hP hD hS q0 2 ha rfl (vp_in_nI hi hn) hdg (by rw [nI_clamp (by omega)]; exact kk)
end CDL
theorem b64 (b : Bool) : (bI b).toInt64 = if b = true then 1 else 0 := by cases b <;> decide
