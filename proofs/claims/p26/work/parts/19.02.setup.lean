/-! how the law sets the theatre up: the rows, what is known, the costumes -/
theorem mF_z (x : Int32) : upd (fun _ => (0 : Int32)) 0 x = mF x 0 := by
  funext i
  unfold mF upd
  by_cases e : i = 0
  · rw [if_pos e, if_pos e]
  · rw [if_neg e, if_neg e]
    by_cases e2 : i = 1
    · rw [if_pos e2]
    · rw [if_neg e2]
theorem kF_0 : kF (S0i 3) = (fun _ => 0) := by
  funext i
  show nI (pcn 12 (nv (0 : Int32))) = 0
  decide
def LQ (n i e : Nat) (S : qS) : Prop := Inv S ∧ nv (S 28 0) = 0 ∧ (∀ a, a < 12 → bd (S 2 a) 10) ∧ nv (S 27 0) = n ∧ nv (S 29 0) = i ∧ (∀ q, i < q → q < 8 → nv (S 7 q) = 0) ∧ nv (S 7 i) = e ∧ (∀ r, r < e → S 6 (i * 4 + r) = nI (2 * i + 3 * r)) ∧ ∀ a, a < 12 → (a % 2 = 0 ∧ 2 * i + 2 * ((e + 1) / 2) ≤ a ∨ a % 2 = 1 ∧ 2 * i + 3 + 2 * (e / 2) ≤ a) → S 3 a = 0
theorem nv_0 : nv (0 : Int32) = 0 := by decide
theorem lq_0 {n : Nat} (h1 : 1 ≤ n) (h2 : n ≤ 8) : LQ n 0 0 (va_up S0i 27 (fun _ => nI n)) := by
  refine ⟨in_setParts inv_0 h1 h2, nv_0, fun a ha => ?_, nv_nI (by omega), nv_0, fun q _ _ => nv_0, nv_0, fun r hr => absurd hr (Nat.not_lt_zero r), fun a _ _ => rfl⟩
  show bd (fuF (nI 5) 12 a) 10
  unfold fuF
  rw [if_pos ha]
  exact bd_nI (by decide) (by decide)
theorem lq_rk {n i e : Nat} {S : qS} (h : LQ n i e S) (hi : i < 8) (he : e < 2) : rkI S i (nI (2 * i + 3 * e)) = -1 ∧ rkB S i (nI (2 * i + 3 * e)) = false := by
  obtain ⟨-, -, -, -, -, -, h7, h8, -⟩ := h
  have hno : ∀ j, j < nv (S 7 i) → rkP S i (nI (2 * i + 3 * e)) j = false := fun j hj => decide_eq_false (fun q => by
    rw [h8 j (by omega)] at q
    have := (nI_eq (a := 2 * i + 3 * j) (b := 2 * i + 3 * e) (by omega) (by omega)).mp q
    omega)
  exact ⟨(fi_miss hno).symm, ex_not hno⟩
theorem lq_k {n i e : Nat} {S : qS} (h : LQ n i e S) (hi : i < 5) (he : e < 2) : pcn 12 (nv (S 3 (2 * i + 3 * e)) ||| 2 ^ i) ≤ 4 := by
  obtain ⟨-, -, -, -, -, -, -, -, h9⟩ := h
  have h0 := h9 (2 * i + 3 * e) (by omega) (by
    rcases (show e = 0 ∨ e = 1 by omega) with rfl | rfl
    · exact Or.inl ⟨by omega, by omega⟩
    · exact Or.inr ⟨by omega, by omega⟩)
  have h1 := pcn_add (x := nv (S 3 (2 * i + 3 * e))) (p := i)
  have h2 : pcn 12 (nv (S 3 (2 * i + 3 * e))) = 0 := by rw [h0]; decide
  omega
theorem lq_step {n i e : Nat} {S : qS} (h : LQ n i e S) (hi : i < 5) (he : e < 2) : LQ n i (e + 1) (va_up (va_up (va_up S 6 (upd (S 6) (i * 4 + nv (S 7 i)) (nI (2 * i + 3 * e)))) 7 (upd (S 7) i (nI (nv (S 7 i) + 1)))) 3 (upd (S 3) (2 * i + 3 * e) (nI (nv (S 3 (2 * i + 3 * e)) ||| 2 ^ i)))) := by
  have hr := lq_rk h (by omega) he
  have hk := lq_k h hi he
  obtain ⟨h1, h2, h3, h4, h5, h6, h7, h8, h9⟩ := h
  have hp := in_put (jp := i) (ja := 2 * i + 3 * e) h1 (by omega) (by omega) hr.2 (by omega)
  refine ⟨in_learn (ja := 2 * i + 3 * e) (jp := i) hp (by omega) (by omega) hk, h2, h3, h4, h5, fun q hq hq8 => ?_, ?_, fun r hr => ?_, fun a ha hc => ?_⟩
  · show nv (upd (S 7) i (nI (nv (S 7 i) + 1)) q) = 0
    rw [upd_n _ _ (by omega)]; exact h6 q hq hq8
  · show nv (upd (S 7) i (nI (nv (S 7 i) + 1)) i) = e + 1
    rw [upd_s, nv_nI (by omega)]; omega
  · show upd (S 6) (i * 4 + nv (S 7 i)) (nI (2 * i + 3 * e)) (i * 4 + r) = nI (2 * i + 3 * r)
    by_cases q : r = e
    · subst q
      rw [h7, upd_s]
    · rw [upd_n _ _ (by omega)]; exact h8 r (by omega)
  · show upd (S 3) (2 * i + 3 * e) (nI (nv (S 3 (2 * i + 3 * e)) ||| 2 ^ i)) a = 0
    rcases (show e = 0 ∨ e = 1 by omega) with rfl | rfl
    · rw [upd_n _ _ (by omega)]
      exact h9 a ha (by omega)
    · rw [upd_n _ _ (by omega)]
      exact h9 a ha (by omega)
theorem lq_next {n i : Nat} {S : qS} (h : LQ n i 2 S) (hi : i < 5) (f g : Nat → Int32) : LQ n (i + 1) 0 (va_up (va_up (va_up S 10 f) 9 g) 29 (fun _ => nI (nv (S 29 0) + 1))) := by
  obtain ⟨h1, h2, h3, h4, h5, h6, h7, h8, h9⟩ := h
  refine ⟨in_costume h1 f g (by omega), h2, h3, h4, ?_, fun q hq hq8 => h6 q (by omega) hq8, h6 (i + 1) (by omega) (by omega), fun r hr => absurd hr (Nat.not_lt_zero r), fun a ha hc => h9 a ha (by omega)⟩
  show nv (nI (nv (S 29 0) + 1)) = i + 1
  rw [nv_nI (by omega)]; omega
