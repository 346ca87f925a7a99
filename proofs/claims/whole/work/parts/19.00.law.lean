/-! the law's steps -/
section CDX
variable {p : Program} {l : Launch} {e : Env} {R : Room} {s : State} {m : MethodId} {args : Array Value} {below : List Frame} {meth : Method} {c : Code} {H : Heap} {locs : List Loc} {cells slots : Nat} {Q : State → Prop}
variable {cc : ByteArray} {pc : Nat} {ls : Array Slot} {rest st0 : List Value} {D : va_G} {cl : List vw_C} {cy : qT} {A0 : Nat → Prop} {H0 : Heap} {ws : va_W} {a : Nat}
theorem cd_lcmp (hexec : p.tables.exec = Jvm.exec) (hb : c.code = cc) {x : Int64} (hdg : decode cc pc = .ok (.lcmp, 1))
    (k : W p l e R s m args below meth c H locs cells slots Q (F0 m (pc + 1) ls (.int 0 :: rest))) : W p l e R s m args below meth c H locs cells slots Q (F0 m pc ls (.long x :: .long x :: rest)) := by
  intro T hT X
  obtain ⟨t, a, b⟩ := k T hT X
  refine ⟨t, ?_, b⟩
  have h1 : ¬ (x > x) := Int64.lt_irrefl
  have h2 : (x == x) = true := by simp
  jvm_step X.here [X.here.top, hexec, hb, hdg, h1, h2]
  exact a
theorem cd_lcmpE (hexec : p.tables.exec = Jvm.exec) (hb : c.code = cc) {x y : Int64} (h : x = y) (hdg : decode cc pc = .ok (.lcmp, 1))
    (k : W p l e R s m args below meth c H locs cells slots Q (F0 m (pc + 1) ls (.int (nI 0) :: rest))) : W p l e R s m args below meth c H locs cells slots Q (F0 m pc ls (.long y :: .long x :: rest)) := by
  subst h
  exact cd_lcmp hexec hb hdg k
theorem cd_sld (hexec : p.tables.exec = Jvm.exec) (hb : c.code = cc) {b L : Nat} {xs : Nat → Int32} (hX : va_X b L xs s H0) (hbl : b < H0.size) (hbA : ¬ A0 b) (hS : va_S A0 H0 H locs) {i : Nat} (hi : i < L) (hL : L ≤ 2560) (hdg : decode cc pc = .ok (.iaload, 1))
    (kk : W p l e R s m args below meth c H locs cells slots Q (F0 m (pc + 1) ls (.int (xs i) :: rest))) : W p l e R s m args below meth c H locs cells slots Q (F0 m pc ls (.int (nI i) :: .ref b :: rest)) :=
  va_sld hexec hb hX hbl hbA hS (vp_in_nI hi (by omega)) hdg (by rw [nI_clamp (by omega)]; exact kk)
end CDX
/-- both sides, and where the class's answers go -/
abbrev wLW (cy : qT) (h g : Nat → Nat) (S J T K : qS) (o : Nat) (f : Nat → Int64) : va_W := [(h 0, .inr (6, [.ref (h 1), .ref (h 5), .ref (h 8), .ref (h 12), .ref (h 16), .ref (h 20), .int (S 27 0), .int (S 28 0)])),
  (h 1, .inr (4, [.ref (h 2), .ref (h 3), .ref (h 4)])), (h 2, aI cy 12 (S 2)), (h 3, aI cy 12 (S 3)), (h 4, aI cy 1001 (S 4)),
  (h 5, .inr (3, [.ref (h 6), .ref (h 7)])), (h 6, aI cy 32 (S 6)), (h 7, aI cy 8 (S 7)),
  (h 8, .inr (5, [.ref (h 9), .ref (h 10), .ref (h 11), .int (S 29 0)])), (h 9, aI cy 40 (S 9)), (h 10, aI cy 40 (S 10)), (h 11, aZ cy 40 (S 11)),
  (h 12, .inr (1, [.ref (h 13), .ref (h 14), .ref (h 15), .int (J 12 0)])), (h 13, aI cy 32 (J 13)), (h 14, aI cy 32 (J 14)), (h 15, aI cy 4096 (J 15)),
  (h 16, .inr (2, [.ref (h 17), .ref (h 18), .ref (h 19), .int (S 30 0)])), (h 17, aI cy 40 (S 17)), (h 18, aI cy 320 (S 18)), (h 19, aI cy 40 (S 19)),
  (h 20, .inr (0, [.ref (h 21), .ref (h 22), .ref (h 23), .ref (h 24), .ref (h 25), .ref (h 26), .int (S 31 0), .int (S 32 0)])), (h 21, aI cy 100 (S 21)), (h 22, aI cy 100 (S 22)), (h 23, aI cy 100 (S 23)), (h 24, aI cy 100 (S 24)), (h 25, aI cy 100 (S 25)), (h 26, aI cy 100 (S 26)),
  (o, aL cy 1 f),
  (g 0, .inr (7, [.int (T 27 0), .ref (g 1), .ref (g 2), .ref (g 3), .ref (g 4), .ref (g 5), .ref (g 6), .ref (g 7), .int (T 29 0), .ref (g 9), .ref (g 10), .ref (g 11), .ref (g 12), .int (T 30 0), .ref (g 14), .ref (g 15), .ref (g 16), .ref (g 17), .ref (g 18), .ref (g 19), .int (T 31 0), .int (T 28 0), .int (T 32 0), .ref (g 23), .ref (g 24), .ref (g 25), .int (K 26 0), .int (K 27 0), .int (K 28 0)])),
  (g 1, aI cy 12 (T 2)), (g 2, aI cy 12 (T 3)), (g 3, aI cy 32 (T 6)), (g 4, aI cy 8 (T 7)), (g 5, aI cy 40 (T 10)), (g 6, aI cy 40 (T 9)), (g 7, aI cy 40 (T 11)), (g 9, aI cy 12012 (illM (T 4))), (g 10, aI cy 40 (T 19)), (g 11, aI cy 40 (T 17)), (g 12, aI cy 320 (scM (T 18) (T 30 0))),
  (g 14, aI cy 100 (T 21)), (g 15, aI cy 100 (T 26)), (g 16, aI cy 100 (T 22)), (g 17, aI cy 100 (T 23)), (g 18, aI cy 100 (T 24)), (g 19, aI cy 100 (T 25)), (g 23, aI cy 32 (K 23)), (g 24, aI cy 8 (K 24)), (g 25, aI cy 8 (K 25))]
/-- both have answered: they agree -/
theorem lm_sync {th res : Int32} {S1 S : qS} {r rb : Int32} {u : qS × qS × (Nat → Int64)} {v : qS × qS} (h1 : lO th res.toInt64 S1 S r u) (h2 : mO th res S1 S rb v) (hI : Inv S) (hI1 : th = nI 0 → Inv S1) :
    u.1 = v.1 ∧ v.2 28 0 = r ∧ (r = 0 → u.2.2 0 = rb.toInt64) ∧ Inv v.1 ∧ jk u.2.1 := by
  obtain ⟨a1, a2, a3⟩ := h1
  obtain ⟨b1, b2⟩ := h2
  rcases a3 with ⟨c1, c2, c3⟩ | ⟨c1, c2⟩ <;> rcases b2 with ⟨d1, d2, d3⟩ | ⟨d1, d2, d3⟩
  · exact ⟨c2.trans d3.symm, b1.trans a1.symm, fun _ => by rw [c3, d2], by rw [d3]; exact hI1 c1, a2⟩
  · exact absurd c1 d1
  · exact absurd d1 c1
  · exact ⟨c2.trans d3.symm, b1.trans a1.symm, fun q => absurd (a1.symm.trans q) c1, by rw [d3]; exact hI, a2⟩
/-! what a call throws not, it keeps -/
theorem th1_0 {a : Bool} (h : th1 a = nI 0) : a = true := by
  cases a with
  | true => rfl
  | false => exact absurd h (by decide)
theorem th2_0 {a b : Bool} (h : th2 a b = nI 0) : a = true ∧ b = true := by
  cases a <;> cases b <;> first | exact ⟨rfl, rfl⟩ | exact absurd h (by decide)
theorem th3_0 {a b c : Bool} (h : th3 a b c = nI 0) : a = true ∧ b = true ∧ c = true := by
  cases a <;> cases b <;> cases c <;> first | exact ⟨rfl, rfl, rfl⟩ | exact absurd h (by decide)
theorem and_t {a b : Bool} (h : (a && b) = true) : a = true ∧ b = true := (Bool.and_eq_true a b).mp h |> fun q => ⟨q.1, q.2⟩
theorem in_setParts {S : qS} (hI : Inv S) (x : Int32) (h : th1 (inI x (nI 1) (nI 8)) = nI 0) : Inv (va_up S 27 (fun _ => x)) := by
  obtain ⟨b, h1, h2, rfl⟩ := inI_two (by decide) (by decide) (th1_0 h)
  obtain ⟨a1, a2, a3, a4, a5, a6, a7, a8, a9, a10, a11, a12, a13, a14, a15⟩ := hI
  exact ⟨⟨bd_nI (by omega) (by decide), by show 1 ≤ nv (nI b); rw [nv_nI (by omega)]; exact h1⟩, a2, a3, a4, a5, a6, a7, a8, a9, a10, a11, a12, a13, a14, a15⟩
theorem in_setSize {S : qS} (hI : Inv S) (f : Nat → Int32) : Inv (va_up S 2 f) := hI
theorem in_learn {S : qS} (hI : Inv S) (a p : Int32) (kb : Bool) (h : th2 (inI a (nI 0) (nI 11) && inI p (nI 0) (nI 7)) (decide (pcn 12 (knF kb (nv (S 3 (nv a))) (nv p)) ≤ 4)) = nI 0) : Inv (va_up S 3 (upd (S 3) (nv a) (nI (knF kb (nv (S 3 (nv a))) (nv p))))) := by
  obtain ⟨h1, h2⟩ := th2_0 h
  obtain ⟨h3, h4⟩ := and_t h1
  obtain ⟨ja, hja, rfl⟩ := inI_nat (by decide) h3
  obtain ⟨jp, hjp, rfl⟩ := inI_nat (by decide) h4
  rw [nv_nI (show ja < 2147483648 by omega), nv_nI (show jp < 2147483648 by omega)] at h2 ⊢
  obtain ⟨a1, a2, a3, a4, a5, a6, a7, a8, a9, a10, a11, a12, a13, a14, a15⟩ := hI
  have hk := knF_lt kb (a6 ja (by omega)).1.2 (show jp < 8 by omega)
  refine ⟨a1, a2, a3, a4, a5, fun i hi => ?_, a7, a8, a9, a10, a11, a12, a13, a14, a15⟩
  show bd (upd (S 3) ja (nI (knF kb (nv (S 3 ja)) jp)) i) 256 ∧ pc12 (nv (upd (S 3) ja (nI (knF kb (nv (S 3 ja)) jp)) i)) ≤ 4
  by_cases e : i = ja
  · subst e
    rw [upd_s, nv_nI (by omega)]
    exact ⟨bd_nI hk (by decide), of_decide_eq_true h2⟩
  · rw [upd_n _ _ e]; exact a6 i hi
theorem in_put {S : qS} (hI : Inv S) (p a : Int32) (h : th2 (inI p (nI 0) (nI 7) && inI a (nI 0) (nI 11)) (!rkB S (nv p) a && !decide (4 ≤ nv (S 7 (nv p)))) = nI 0) : Inv (va_up (va_up S 6 (upd (S 6) (nv p * 4 + nv (S 7 (nv p))) a)) 7 (upd (S 7) (nv p) (nI (nv (S 7 (nv p)) + 1)))) := by
  obtain ⟨h1, h2⟩ := th2_0 h
  obtain ⟨h3, h4⟩ := and_t h1
  obtain ⟨h5, h6⟩ := and_t h2
  obtain ⟨jp, hjp, rfl⟩ := inI_nat (by decide) h3
  obtain ⟨ja, hja, rfl⟩ := inI_nat (by decide) h4
  rw [nv_nI (show jp < 2147483648 by omega)] at h5 h6 ⊢
  have h5 : rkB S jp (nI ja) = false := (Bool.not_eq_true' _).mp h5
  have h6 : ¬ 4 ≤ nv (S 7 jp) := of_decide_eq_false ((Bool.not_eq_true' _).mp h6)
  obtain ⟨a1, a2, a3, a4, a5, a6, a7, a8, a9, a10, a11, a12, a13, a14, a15⟩ := hI
  have old : ∀ p r, p < 8 → r < nv (S 7 p) → upd (S 6) (jp * 4 + nv (S 7 jp)) (nI ja) (p * 4 + r) = S 6 (p * 4 + r) := fun p r hp hr => upd_n _ _ (by
    have := (a8 p hp).2
    intro q
    have e : p = jp := by omega
    subst e
    omega)
  have l7 : ∀ p, p ≠ jp → upd (S 7) jp (nI (nv (S 7 jp) + 1)) p = S 7 p := fun p hp => upd_n _ _ hp
  refine ⟨a1, a2, a3, a4, a5, a6, a7, fun p hp => ?_, fun p r hp hr => ?_, fun p r r' hp hr hr' => ?_, a11, a12, a13, a14, a15⟩
  · show bd (upd (S 7) jp (nI (nv (S 7 jp) + 1)) p) 5
    by_cases e : p = jp
    · subst e; rw [upd_s]; exact bd_nI (by omega) (by decide)
    · rw [l7 p e]; exact a8 p hp
  · have hr : r < nv (upd (S 7) jp (nI (nv (S 7 jp) + 1)) p) := hr
    show bd (upd (S 6) (jp * 4 + nv (S 7 jp)) (nI ja) (p * 4 + r)) 12
    by_cases e : p = jp
    · subst e
      rw [upd_s, nv_nI (by omega)] at hr
      rcases Nat.lt_or_ge r (nv (S 7 p)) with q | q
      · rw [old p r hp q]; exact a9 p r hp q
      · rw [show r = nv (S 7 p) by omega, upd_s]; exact bd_nI (by omega) (by decide)
    · rw [l7 p e] at hr
      rw [old p r hp hr]; exact a9 p r hp hr
  · have hr : r < nv (upd (S 7) jp (nI (nv (S 7 jp) + 1)) p) := hr
    show ¬ upd (S 6) (jp * 4 + nv (S 7 jp)) (nI ja) (p * 4 + r') = upd (S 6) (jp * 4 + nv (S 7 jp)) (nI ja) (p * 4 + r)
    by_cases e : p = jp
    · subst e
      rw [upd_s, nv_nI (by omega)] at hr
      rw [old p r' hp (by omega)]
      rcases Nat.lt_or_ge r (nv (S 7 p)) with q | q
      · rw [old p r hp q]; exact a10 p r r' hp q hr'
      · rw [show r = nv (S 7 p) by omega, upd_s]
        intro q2
        rw [show rkB S p (nI ja) = true from ex_iff.mpr ⟨r', by omega, decide_eq_true q2⟩] at h5
        exact Bool.noConfusion h5
    · rw [l7 p e] at hr
      rw [old p r hp hr, old p r' hp (by omega)]; exact a10 p r r' hp hr hr'
theorem in_take {S : qS} (hI : Inv S) (p a : Int32) (h : th2 (inI p (nI 0) (nI 7) && inI a (nI 0) (nI 11)) (rkB S (nv p) a) = nI 0) : Inv (va_up (va_up S 6 (sfT (S 6) (nv p * 4 + nv (rkI S (nv p) a)) (nv p * 4 + nv (S 7 (nv p))))) 7 (upd (S 7) (nv p) (nI (nv (S 7 (nv p)) - 1)))) := by
  obtain ⟨h1, h2⟩ := th2_0 h
  obtain ⟨h3, h4⟩ := and_t h1
  obtain ⟨jp, hjp, rfl⟩ := inI_nat (by decide) h3
  rw [nv_nI (show jp < 2147483648 by omega)] at h2 ⊢
  have hne : ¬ rkI S jp a = -1 := fun q => by rw [rk_f q] at h2; exact Bool.noConfusion h2
  obtain ⟨-, hrk⟩ := rk_rng hne
  generalize nv (rkI S jp a) = t at hrk ⊢
  obtain ⟨a1, a2, a3, a4, a5, a6, a7, a8, a9, a10, a11, a12, a13, a14, a15⟩ := hI
  have hl := (a8 jp (by omega)).2
  have l7 : ∀ p, p ≠ jp → upd (S 7) jp (nI (nv (S 7 jp) - 1)) p = S 7 p := fun p hp => upd_n _ _ hp
  have old : ∀ p r, p < 8 → r < nv (S 7 p) → p ≠ jp → sfT (S 6) (jp * 4 + t) (jp * 4 + nv (S 7 jp)) (p * 4 + r) = S 6 (p * 4 + r) := fun p r hp hr e => by
    have := (a8 p hp).2
    exact if_neg (by omega)
  have new : ∀ r, r < nv (S 7 jp) - 1 → sfT (S 6) (jp * 4 + t) (jp * 4 + nv (S 7 jp)) (jp * 4 + r) = S 6 (jp * 4 + (if t ≤ r then r + 1 else r)) := fun r hr => by
    unfold sfT
    by_cases q : t ≤ r
    · rw [if_pos (by omega), if_pos q]; rfl
    · rw [if_neg (by omega), if_neg q]
  refine ⟨a1, a2, a3, a4, a5, a6, a7, fun p hp => ?_, fun p r hp hr => ?_, fun p r r' hp hr hr' => ?_, a11, a12, a13, a14, a15⟩
  · show bd (upd (S 7) jp (nI (nv (S 7 jp) - 1)) p) 5
    by_cases e : p = jp
    · subst e; rw [upd_s]; exact bd_nI (by omega) (by decide)
    · rw [l7 p e]; exact a8 p hp
  · have hr : r < nv (upd (S 7) jp (nI (nv (S 7 jp) - 1)) p) := hr
    show bd (sfT (S 6) (jp * 4 + t) (jp * 4 + nv (S 7 jp)) (p * 4 + r)) 12
    by_cases e : p = jp
    · subst e
      rw [upd_s, nv_nI (by omega)] at hr
      rw [new r hr]
      exact a9 p _ hp (by split <;> omega)
    · rw [l7 p e] at hr
      rw [old p r hp hr e]; exact a9 p r hp hr
  · have hr : r < nv (upd (S 7) jp (nI (nv (S 7 jp) - 1)) p) := hr
    show ¬ sfT (S 6) (jp * 4 + t) (jp * 4 + nv (S 7 jp)) (p * 4 + r') = sfT (S 6) (jp * 4 + t) (jp * 4 + nv (S 7 jp)) (p * 4 + r)
    by_cases e : p = jp
    · subst e
      rw [upd_s, nv_nI (by omega)] at hr
      rw [new r hr, new r' (by omega)]
      exact a10 p _ _ hp (by split <;> omega) (by split <;> split <;> omega)
    · rw [l7 p e] at hr
      rw [old p r hp hr e, old p r' hp (by omega) e]; exact a10 p r r' hp hr hr'
theorem in_costume {S : qS} (hI : Inv S) (f g : Nat → Int32) {a b : Bool} (h : th3 a b (decide (nv (S 29 0) < 40)) = nI 0) : Inv (va_up (va_up (va_up S 10 f) 9 g) 29 (fun _ => nI (nv (S 29 0) + 1))) := by
  have h3 := of_decide_eq_true (th3_0 h).2.2
  obtain ⟨a1, a2, a3, a4, a5, a6, a7, a8, a9, a10, a11, a12, a13, a14, a15⟩ := hI
  exact ⟨a1, a2, bd_nI (by omega) (by decide), a4, a5, a6, a7, a8, a9, a10, a11, a12, a13, a14, a15⟩
theorem in_cold {S : qS} (hI : Inv S) (a d0 d1 : Int32) {b : Bool} (h : th2 (inI a (nI 0) (nI 11)) b = nI 0) : Inv (va_up S 4 (ilF (S 4) (nv a) (nv d0) (nv d0 + (nv d1 + 1 - nv d0)))) := by
  obtain ⟨ja, hja, rfl⟩ := inI_nat (by decide) (th2_0 h).1
  rw [nv_nI (show ja < 2147483648 by omega)]
  obtain ⟨a1, a2, a3, a4, a5, a6, a7, a8, a9, a10, a11, a12, a13, a14, a15⟩ := hI
  refine ⟨a1, a2, a3, a4, a5, a6, fun d hd => ?_, a8, a9, a10, a11, a12, a13, a14, a15⟩
  show bd (ilF (S 4) ja (nv d0) (nv d0 + (nv d1 + 1 - nv d0)) d) 4096
  unfold ilF
  split
  · exact bd_nI (or_lt (n := 12) (a7 d hd).2 (by omega)) (by decide)
  · exact a7 d hd
theorem in_show {S : qS} (hI : Inv S) (d : Int32) {a : Bool} (h : th2 a (!shB S d && decide (nv (S 30 0) < 40)) = nI 0) : Inv (va_up (va_up S 19 (upd (S 19) (nv (S 30 0)) d)) 30 (fun _ => nI (nv (S 30 0) + 1))) := by
  obtain ⟨h1, h2⟩ := and_t (th2_0 h).2
  have h1 : shB S d = false := (Bool.not_eq_true' _).mp h1
  have h2 := of_decide_eq_true h2
  obtain ⟨a1, a2, a3, a4, a5, a6, a7, a8, a9, a10, a11, a12, a13, a14, a15⟩ := hI
  have en : nv (nI (nv (S 30 0) + 1)) = nv (S 30 0) + 1 := nv_nI (by omega)
  refine ⟨a1, a2, a3, bd_nI (by omega) (by decide), a5, a6, a7, a8, a9, a10, a11, fun i hi => ?_, fun i hi h320 => ?_, fun i j hi hj => ?_, a15⟩
  · have hi : nv (nI (nv (S 30 0) + 1)) ≤ i := hi
    exact a12 i (by omega)
  · have hi : 8 * nv (nI (nv (S 30 0) + 1)) ≤ i := hi
    exact a13 i (by omega) h320
  · have hi : i < nv (nI (nv (S 30 0) + 1)) := hi
    show ¬ upd (S 19) (nv (S 30 0)) d j = upd (S 19) (nv (S 30 0)) d i
    rw [upd_n _ _ (show j ≠ nv (S 30 0) by omega)]
    by_cases e : i = nv (S 30 0)
    · subst e
      rw [upd_s]
      intro q
      rw [show shB S d = true from ex_iff.mpr ⟨j, hj, decide_eq_true q⟩] at h1
      exact Bool.noConfusion h1
    · rw [upd_n _ _ e]; exact a14 i j (by omega) hj
theorem in_sell {S : qS} (hI : Inv S) (f g st : Nat → Int32) (q p x : Int32) {a b c1 c2 : Bool} (h : th3 (a && inI p (nI 0) (nI 7)) (b && inI q (nI 0) (nI 3)) (c1 && (decide (nv (S 31 0) < 100) && c2)) = nI 0) :
    Inv (va_up (va_up (va_up (va_up (va_up (va_up (va_up S 21 f) 26 g) 22 (upd (S 22) (nv (S 31 0)) q)) 23 (upd (S 23) (nv (S 31 0)) p)) 24 st) 32 (fun _ => x)) 31 (fun _ => nI (nv (S 31 0) + 1))) := by
  obtain ⟨h1, h2, h3⟩ := th3_0 h
  obtain ⟨jp, hjp, rfl⟩ := inI_nat (by decide) (and_t h1).2
  obtain ⟨jq, hjq, rfl⟩ := inI_nat (by decide) (and_t h2).2
  have h4 := of_decide_eq_true (and_t (and_t h3).2).1
  obtain ⟨a1, a2, a3, a4, a5, a6, a7, a8, a9, a10, a11, a12, a13, a14, a15⟩ := hI
  have en : nv (nI (nv (S 31 0) + 1)) = nv (S 31 0) + 1 := nv_nI (by omega)
  refine ⟨a1, a2, a3, a4, bd_nI (by omega) (by decide), a6, a7, a8, a9, a10, a11, a12, a13, a14, fun i hi => ?_⟩
  have hi : i < nv (nI (nv (S 31 0) + 1)) := hi
  show bd (upd (S 22) (nv (S 31 0)) (nI jq) i) 4 ∧ bd (upd (S 23) (nv (S 31 0)) (nI jp) i) 8
  by_cases e : i = nv (S 31 0)
  · subst e
    rw [upd_s, upd_s]
    exact ⟨bd_nI (by omega) (by decide), bd_nI (by omega) (by decide)⟩
  · rw [upd_n _ _ e, upd_n _ _ e]; exact a15 i (by omega)
theorem in_play {S : qS} (hI : Inv S) (f : Nat → Int32) (x : Int32) (h : th1 (decide (nv (S 28 0) < 1000)) = nI 0) : Inv (va_up (va_up (va_up (va_up (va_up (va_up (va_up S 17 (pl17 S)) 18 (pl18 S)) 9 (pl9 S)) 11 (pl11 S)) 25 f) 32 (fun _ => x)) 28 (fun _ => nI (nv (S 28 0) + 1))) := by
  have h1 := of_decide_eq_true (th1_0 h)
  have h2 : Inv (va_up (va_up (va_up (va_up S 17 (pl17 S)) 18 (pl18 S)) 9 (pl9 S)) 11 (pl11 S)) := by
    unfold pl17 pl18 pl9 pl11
    by_cases q : shB S (S 28 0) = true
    · rw [if_pos q, if_pos q, if_pos q, if_pos q]
      exact inv_pf4 hI (of_decide_eq_true q)
    · rw [if_neg q, if_neg q, if_neg q, if_neg q]
      exact hI
  obtain ⟨a1, a2, a3, a4, a5, a6, a7, a8, a9, a10, a11, a12, a13, a14, a15⟩ := h2
  exact ⟨a1, bd_nI (by omega) (by decide), a3, a4, a5, a6, a7, a8, a9, a10, a11, a12, a13, a14, a15⟩
theorem lm_b {th : Int32} {x : Bool} {S1 S : qS} {rb : Int32} {v : qS × qS} (h : mO th (bI x) S1 S rb v) : rb = 0 ∨ rb = 1 := by
  rcases h.2 with ⟨-, q, -⟩ | ⟨-, q, -⟩
  · rw [q]
    cases x with
    | true => exact Or.inr rfl
    | false => exact Or.inl rfl
  · exact Or.inl q
theorem lm_d {res : Int32} {S : qS} {rb : Int32} {v : qS × qS} (h : mO (nI 0) res S S rb v) : rb = res ∧ v.1 = S := by
  rcases h.2 with ⟨-, q, q2⟩ | ⟨q, -⟩
  · exact ⟨q, q2⟩
  · exact absurd rfl q
/-- the law goes round -/
theorem lw_more {i L : Nat} (hL : L ≤ 2560) (hi : i ≤ 2560) (h : ¬ nI i > nI L - nI 5) : i + 5 ≤ L := by
  have h1 := Int32.le_iff_toInt_le.mp (Int32.not_lt.mp h)
  rw [nI_toInt (by omega), Int32.toInt_sub, nI_toInt (by omega), nI_toInt (by decide), Int.bmod_eq_of_le (by omega) (by omega)] at h1
  omega
theorem and31 (x : Int32) : ∃ k, k < 32 ∧ x &&& nI 31 = nI k := by
  have h : (x.toBitVec &&& 31#32).toNat < 32 := by
    rw [BitVec.toNat_and]
    exact Nat.lt_of_le_of_lt Nat.and_le_right (by decide)
  refine ⟨(x.toBitVec &&& 31#32).toNat, h, ?_⟩
  apply Int32.toBitVec_inj.1
  show x.toBitVec &&& 31#32 = BitVec.ofNat 32 (x.toBitVec &&& 31#32).toNat
  rw [BitVec.ofNat_toNat, BitVec.setWidth_eq]
