/-! what holds of the state is kept -/
theorem in_setParts {S : qS} (hI : Inv S) {b : Nat} (h1 : 1 ≤ b) (h2 : b ≤ 8) : Inv (va_up S 27 (fun _ => nI b)) := by
  obtain ⟨a1, a2, a3, a4, a5, a6, a7, a8, a9, a10, a11, a12, a13, a14, a15⟩ := hI
  exact ⟨⟨bd_nI (by omega) (by decide), by show 1 ≤ nv (nI b); rw [nv_nI (by omega)]; exact h1⟩, a2, a3, a4, a5, a6, a7, a8, a9, a10, a11, a12, a13, a14, a15⟩
theorem in_setSize {S : qS} (hI : Inv S) (f : Nat → Int32) : Inv (va_up S 2 f) := hI
theorem in_learn {S : qS} (hI : Inv S) {ja jp : Nat} (hja : ja < 12) (hjp : jp < 8) (h2 : pcn 12 (nv (S 3 ja) ||| 2 ^ jp) ≤ 4) : Inv (va_up S 3 (upd (S 3) ja (nI (nv (S 3 ja) ||| 2 ^ jp)))) := by
  obtain ⟨a1, a2, a3, a4, a5, a6, a7, a8, a9, a10, a11, a12, a13, a14, a15⟩ := hI
  have hk := or_lt (n := 8) (a6 ja (by omega)).1.2 hjp
  refine ⟨a1, a2, a3, a4, a5, fun i hi => ?_, a7, a8, a9, a10, a11, a12, a13, a14, a15⟩
  show bd (upd (S 3) ja (nI (nv (S 3 ja) ||| 2 ^ jp)) i) 256 ∧ pc12 (nv (upd (S 3) ja (nI (nv (S 3 ja) ||| 2 ^ jp)) i)) ≤ 4
  by_cases e : i = ja
  · subst e
    rw [upd_s, nv_nI (by omega)]
    exact ⟨bd_nI hk (by decide), h2⟩
  · rw [upd_n _ _ e]; exact a6 i hi
theorem in_put {S : qS} (hI : Inv S) {jp ja : Nat} (hjp : jp < 8) (hja : ja < 12) (h5 : rkB S jp (nI ja) = false) (h6 : nv (S 7 jp) < 4) : Inv (va_up (va_up S 6 (upd (S 6) (jp * 4 + nv (S 7 jp)) (nI ja))) 7 (upd (S 7) jp (nI (nv (S 7 jp) + 1)))) := by
  obtain ⟨a1, a2, a3, a4, a5, a6, a7, a8, a9, a10, a11, a12, a13, a14, a15⟩ := hI
  have old : ∀ p r, p < 8 → r < nv (S 7 p) → upd (S 6) (jp * 4 + nv (S 7 jp)) (nI ja) (p * 4 + r) = S 6 (p * 4 + r) := fun p r hp hr => upd_n _ _ (by
    have := (a8 p hp).2
    intro q
    have e : p = jp := by omega
    subst e
    omega)
  have l7 : ∀ p, p ≠ jp → upd (S 7) jp (nI (nv (S 7 jp) + 1)) p = S 7 p := fun p hp => upd_n _ _ hp
  refine ⟨a1, a2, a3, a4, a5, a6, a7, fun p hp => ?_, fun p r hp hr => ?_, fun p r r' hp hr hr' => ?_, a11, a12, a13, a14, a15⟩
  · show bd (upd (S 7) jp (nI (nv (S 7 jp) + 1)) p) 5
    by_cases e : p = jp
    · subst e; rw [upd_s]; exact bd_nI (by omega) (by decide)
    · rw [l7 p e]; exact a8 p hp
  · have hr : r < nv (upd (S 7) jp (nI (nv (S 7 jp) + 1)) p) := hr
    show bd (upd (S 6) (jp * 4 + nv (S 7 jp)) (nI ja) (p * 4 + r)) 12
    by_cases e : p = jp
    · subst e
      rw [upd_s, nv_nI (by omega)] at hr
      rcases Nat.lt_or_ge r (nv (S 7 p)) with q | q
      · rw [old p r hp q]; exact a9 p r hp q
      · rw [show r = nv (S 7 p) by omega, upd_s]; exact bd_nI (by omega) (by decide)
    · rw [l7 p e] at hr
      rw [old p r hp hr]; exact a9 p r hp hr
  · have hr : r < nv (upd (S 7) jp (nI (nv (S 7 jp) + 1)) p) := hr
    show ¬ upd (S 6) (jp * 4 + nv (S 7 jp)) (nI ja) (p * 4 + r') = upd (S 6) (jp * 4 + nv (S 7 jp)) (nI ja) (p * 4 + r)
    by_cases e : p = jp
    · subst e
      rw [upd_s, nv_nI (by omega)] at hr
      rw [old p r' hp (by omega)]
      rcases Nat.lt_or_ge r (nv (S 7 p)) with q | q
      · rw [old p r hp q]; exact a10 p r r' hp q hr'
      · rw [show r = nv (S 7 p) by omega, upd_s]
        intro q2
        rw [show rkB S p (nI ja) = true from ex_iff.mpr ⟨r', by omega, decide_eq_true q2⟩] at h5
        exact Bool.noConfusion h5
    · rw [l7 p e] at hr
      rw [old p r hp hr, old p r' hp (by omega)]; exact a10 p r r' hp hr hr'
theorem in_take {S : qS} (hI : Inv S) {jp : Nat} {a : Int32} (hjp : jp < 8) (hne : ¬ rkI S jp a = -1) : Inv (va_up (va_up S 6 (sfT (S 6) (jp * 4 + nv (rkI S jp a)) (jp * 4 + nv (S 7 jp)))) 7 (upd (S 7) jp (nI (nv (S 7 jp) - 1)))) := by
  obtain ⟨-, hrk⟩ := rk_rng hne
  generalize nv (rkI S jp a) = t at hrk ⊢
  obtain ⟨a1, a2, a3, a4, a5, a6, a7, a8, a9, a10, a11, a12, a13, a14, a15⟩ := hI
  have hl := (a8 jp (by omega)).2
  have l7 : ∀ p, p ≠ jp → upd (S 7) jp (nI (nv (S 7 jp) - 1)) p = S 7 p := fun p hp => upd_n _ _ hp
  have old : ∀ p r, p < 8 → r < nv (S 7 p) → p ≠ jp → sfT (S 6) (jp * 4 + t) (jp * 4 + nv (S 7 jp)) (p * 4 + r) = S 6 (p * 4 + r) := fun p r hp hr e => by
    have := (a8 p hp).2
    exact if_neg (by omega)
  have new : ∀ r, r < nv (S 7 jp) - 1 → sfT (S 6) (jp * 4 + t) (jp * 4 + nv (S 7 jp)) (jp * 4 + r) = S 6 (jp * 4 + (if t ≤ r then r + 1 else r)) := fun r hr => by
    unfold sfT
    by_cases q : t ≤ r
    · rw [if_pos (by omega), if_pos q]; rfl
    · rw [if_neg (by omega), if_neg q]
  refine ⟨a1, a2, a3, a4, a5, a6, a7, fun p hp => ?_, fun p r hp hr => ?_, fun p r r' hp hr hr' => ?_, a11, a12, a13, a14, a15⟩
  · show bd (upd (S 7) jp (nI (nv (S 7 jp) - 1)) p) 5
    by_cases e : p = jp
    · subst e; rw [upd_s]; exact bd_nI (by omega) (by decide)
    · rw [l7 p e]; exact a8 p hp
  · have hr : r < nv (upd (S 7) jp (nI (nv (S 7 jp) - 1)) p) := hr
    show bd (sfT (S 6) (jp * 4 + t) (jp * 4 + nv (S 7 jp)) (p * 4 + r)) 12
    by_cases e : p = jp
    · subst e
      rw [upd_s, nv_nI (by omega)] at hr
      rw [new r hr]
      exact a9 p _ hp (by split <;> omega)
    · rw [l7 p e] at hr
      rw [old p r hp hr e]; exact a9 p r hp hr
  · have hr : r < nv (upd (S 7) jp (nI (nv (S 7 jp) - 1)) p) := hr
    show ¬ sfT (S 6) (jp * 4 + t) (jp * 4 + nv (S 7 jp)) (p * 4 + r') = sfT (S 6) (jp * 4 + t) (jp * 4 + nv (S 7 jp)) (p * 4 + r)
    by_cases e : p = jp
    · subst e
      rw [upd_s, nv_nI (by omega)] at hr
      rw [new r hr, new r' (by omega)]
      exact a10 p _ _ hp (by split <;> omega) (by split <;> split <;> omega)
    · rw [l7 p e] at hr
      rw [old p r hp hr e, old p r' hp (by omega) e]; exact a10 p r r' hp hr hr'
theorem in_costume {S : qS} (hI : Inv S) (f g : Nat → Int32) (h3 : nv (S 29 0) < 40) : Inv (va_up (va_up (va_up S 10 f) 9 g) 29 (fun _ => nI (nv (S 29 0) + 1))) := by
  obtain ⟨a1, a2, a3, a4, a5, a6, a7, a8, a9, a10, a11, a12, a13, a14, a15⟩ := hI
  exact ⟨a1, a2, bd_nI (by omega) (by decide), a4, a5, a6, a7, a8, a9, a10, a11, a12, a13, a14, a15⟩
theorem in_cold {S : qS} (hI : Inv S) {ja : Nat} (hja : ja < 12) (d0 d1 : Nat) : Inv (va_up S 4 (ilF (S 4) ja d0 (d0 + (d1 + 1 - d0)))) := by
  obtain ⟨a1, a2, a3, a4, a5, a6, a7, a8, a9, a10, a11, a12, a13, a14, a15⟩ := hI
  refine ⟨a1, a2, a3, a4, a5, a6, fun d hd => ?_, a8, a9, a10, a11, a12, a13, a14, a15⟩
  show bd (ilF (S 4) ja (d0) (d0 + (d1 + 1 - d0)) d) 4096
  unfold ilF
  split
  · exact bd_nI (or_lt (n := 12) (a7 d hd).2 (by omega)) (by decide)
  · exact a7 d hd
