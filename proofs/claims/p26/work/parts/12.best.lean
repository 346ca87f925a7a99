/-! the best cast: three searches, one answer -/
/-- x is the least number with P, or -1 -/
def mnO (P : Nat → Prop) (x : Int32) : Prop := (x = -1 ∧ ∀ v, ¬ P v) ∨ ∃ v, v < 1073741824 ∧ x = nI v ∧ P v ∧ ∀ w, P w → v ≤ w
theorem mnO_uniq {P : Nat → Prop} {x y : Int32} (hx : mnO P x) (hy : mnO P y) : x = y := by
  rcases hx with ⟨rfl, h1⟩ | ⟨v, hv, rfl, pv, mv⟩ <;> rcases hy with ⟨rfl, h2⟩ | ⟨w, hw, rfl, pw, mw⟩
  · rfl
  · exact absurd pw (h1 w)
  · exact absurd pv (h2 v)
  · rw [Nat.le_antisymm (mv w pw) (mw v pv)]
theorem mnO_iff {P P' : Nat → Prop} (h : ∀ v, P v ↔ P' v) {x : Int32} (hx : mnO P x) : mnO P' x := by
  have e : P = P' := funext (fun v => propext (h v))
  rw [← e]; exact hx
theorem mnO_dom {P P' : Nat → Prop} {x : Int32} (h1 : ∀ v, P v → P' v) (h2 : ∀ v, P' v → ∃ w, P w ∧ w ≤ v) (hx : mnO P x) : mnO P' x := by
  rcases hx with ⟨rfl, h⟩ | ⟨v, hv, rfl, pv, mv⟩
  · exact Or.inl ⟨rfl, fun v q => by obtain ⟨w, pw, _⟩ := h2 v q; exact h w pw⟩
  · exact Or.inr ⟨v, hv, rfl, h1 v pv, fun w q => by obtain ⟨u, pu, hu⟩ := h2 w q; exact Nat.le_trans (mv u pu) hu⟩
theorem mnO_add {P : Nat → Prop} {x : Int32} (hx : mnO P x) {v1 : Nat} (h1 : v1 < 1073741824) : mnO (fun v => P v ∨ v = v1) (if x = -1 ∨ nI v1 < x then nI v1 else x) := by
  rcases hx with ⟨rfl, h⟩ | ⟨v, hv, rfl, pv, mv⟩
  · rw [if_pos (Or.inl rfl)]
    exact Or.inr ⟨v1, h1, rfl, Or.inr rfl, fun w q => q.elim (fun q => absurd q (h w)) (fun q => Nat.le_of_eq q.symm)⟩
  · by_cases c : v1 < v
    · rw [if_pos (Or.inr ((nI_ltI (by omega) (by omega)).mpr c))]
      exact Or.inr ⟨v1, h1, rfl, Or.inr rfl, fun w q => q.elim (fun q => by have := mv w q; omega) (fun q => by omega)⟩
    · rw [if_neg (fun q => q.elim (m1_ne (by omega)) (fun q => c ((nI_ltI (by omega) (by omega)).mp q)))]
      exact Or.inr ⟨v, hv, rfl, Or.inl pv, fun w q => q.elim (mv w) (fun q => by omega)⟩
/-! what depends on the first ranks alone -/
theorem us_cg {S : qS} {c c' : Nat → Nat} : ∀ {k : Nat}, (∀ p, p < k → c p = c' p) → us S c k = us S c' k
  | 0, _ => rfl
  | k + 1, h => by
    show us S c k ||| _ = us S c' k ||| _
    rw [us_cg (fun p hp => h p (by omega)), h k (by omega)]
theorem ok_cg {S : qS} {m : Nat} {c c' : Nat → Nat} : ∀ {k : Nat}, (∀ p, p < k → c p = c' p) → ok S m c k = ok S m c' k
  | 0, _ => rfl
  | k + 1, h => by
    show (ok S m c k && _) = (ok S m c' k && _)
    rw [ok_cg (fun p hp => h p (by omega)), h k (by omega), us_cg (c := c) (c' := c') (fun p hp => h p (by omega))]
theorem kk_cg {S : qS} {c c' : Nat → Nat} : ∀ {k : Nat}, (∀ p, p < k → c p = c' p) → kk S c k = kk S c' k
  | 0, _ => rfl
  | k + 1, h => by
    show kk S c k + _ = kk S c' k + _
    rw [kk_cg (fun p hp => h p (by omega)), h k (by omega)]
theorem sr_cg {c c' : Nat → Nat} : ∀ {k : Nat}, (∀ p, p < k → c p = c' p) → sr c k = sr c' k
  | 0, _ => rfl
  | k + 1, h => by
    show sr c k + _ = sr c' k + _
    rw [sr_cg (fun p hp => h p (by omega)), h k (by omega)]
theorem wo_cg {S : qS} {c c' : Nat → Nat} : ∀ {k : Nat}, (∀ p, p < k → c p = c' p) → wo S c k = wo S c' k
  | 0, _ => rfl
  | k + 1, h => by
    show wo S c k + _ = wo S c' k + _
    rw [wo_cg (fun p hp => h p (by omega)), h k (by omega)]
theorem ok_s {S : qS} {m : Nat} {c : Nat → Nat} {k : Nat} : ok S m c (k + 1) = true ↔ ok S m c k = true ∧ avB S m (k * 4 + c k) = true ∧ (us S c k).testBit (nv (S 6 (k * 4 + c k))) = false := by
  show (ok S m c k && (avB S m (k * 4 + c k) && !(us S c k).testBit (nv (S 6 (k * 4 + c k))))) = true ↔ _
  rw [Bool.and_eq_true, Bool.and_eq_true, Bool.not_eq_true']
theorem pcn_or (x a : Nat) : ∀ k, pcn k (x ||| 2 ^ a) = pcn k x + (if a < k ∧ x.testBit a = false then 1 else 0)
  | 0 => by simp [pcn]
  | k + 1 => by
    have ih := pcn_or x a k
    show pcn k (x ||| 2 ^ a) + (if (x ||| 2 ^ a).testBit k = true then 1 else 0) = pcn k x + (if x.testBit k = true then 1 else 0) + _
    rw [ih, Nat.testBit_or, Nat.testBit_two_pow]
    by_cases e : a = k
    · subst e
      rw [if_neg (fun q => absurd q.1 (Nat.lt_irrefl a))]
      cases h : x.testBit a <;> simp
    · have e1 : decide (a = k) = false := decide_eq_false e
      rw [e1, Bool.or_false]
      generalize (if x.testBit k = true then 1 else 0) = z
      by_cases h : a < k ∧ x.testBit a = false
      · have h2 : a < k + 1 ∧ x.testBit a = false := ⟨by omega, h.2⟩
        rw [if_pos h, if_pos h2]; omega
      · have h2 : ¬ (a < k + 1 ∧ x.testBit a = false) := fun q => h ⟨by omega, q.2⟩
        rw [if_neg h, if_neg h2]; omega
theorem lt_or {x a : Nat} (h : x.testBit a = false) : x < x ||| 2 ^ a := by
  have h1 : x ≤ x ||| 2 ^ a := Nat.left_le_or
  have h2 : x ≠ x ||| 2 ^ a := fun q => by
    have h3 := congrArg (fun y => y.testBit a) q
    simp only [Nat.testBit_or, Nat.testBit_two_pow, h] at h3
    simp at h3
  omega
/-- a cast of the first k parts -/
def Pf (S : qS) (m n : Nat) (c : Nat → Nat) (k : Nat) : Prop := k ≤ n ∧ (∀ p, p < k → c p < 4) ∧ ok S m c k = true
theorem Pf.down {S : qS} {m n k : Nat} {c : Nat → Nat} (h : Pf S m n c (k + 1)) : Pf S m n c k := ⟨by have := h.1; omega, fun p hp => h.2.1 p (by omega), (ok_s.mp h.2.2).1⟩
theorem Pf.ac {S : qS} {m n k : Nat} {c : Nat → Nat} (hI : Inv S) (hn : n ≤ 8) (h : Pf S m n c (k + 1)) : nv (S 6 (k * 4 + c k)) < 12 := by
  have h1 := h.1
  have h2 := h.2.1 k (by omega)
  exact (avB_in hI (by omega) (ok_s.mp h.2.2).2.1).2
theorem us_pc {S : qS} {m n : Nat} {c : Nat → Nat} (hI : Inv S) (hn : n ≤ 8) : ∀ {k : Nat}, Pf S m n c k → pcn 12 (us S c k) = k
  | 0, _ => by show pcn 12 0 = 0; decide
  | k + 1, h => by
    have ih := us_pc hI hn h.down
    show pcn 12 (us S c k ||| 2 ^ nv (S 6 (k * 4 + c k))) = k + 1
    rw [pcn_or, ih, if_pos ⟨h.ac hI hn, (ok_s.mp h.2.2).2.2⟩]
theorem us_gt {S : qS} {m n k : Nat} {c : Nat → Nat} (h : Pf S m n c (k + 1)) : us S c k < us S c (k + 1) := lt_or (ok_s.mp h.2.2).2.2
theorem us_lt {S : qS} {m n : Nat} {c : Nat → Nat} (hI : Inv S) (hn : n ≤ 8) : ∀ {k : Nat}, Pf S m n c k → us S c k < 4096
  | 0, _ => by show 0 < 4096; decide
  | k + 1, h => or_lt (n := 12) (us_lt hI hn h.down) (h.ac hI hn)
theorem ofB_pow (S : qS) (m : Nat) : ∀ N, ∃ e, ofB S m N = 2 ^ e ∧ ∀ i, i < N → avB S m i = true → nv (S 6 i) < e
  | 0 => ⟨0, rfl, fun i h => absurd h (Nat.not_lt_zero i)⟩
  | N + 1 => by
    obtain ⟨e, he, hi⟩ := ofB_pow S m N
    unfold ofB
    split
    · rename_i q
      rw [he, show 2 * 2 ^ nv (S 6 N) = 2 ^ (nv (S 6 N) + 1) by rw [Nat.pow_succ, Nat.mul_comm]]
      rcases Nat.lt_or_ge (nv (S 6 N)) e with h | h
      · rw [Nat.max_eq_left (Nat.pow_le_pow_right (by decide) h)]
        exact ⟨e, rfl, fun i h1 h2 => by
          rcases Nat.lt_or_ge i N with h3 | h3
          · exact hi i h3 h2
          · have : i = N := by omega
            rw [this]; exact h⟩
      · rw [Nat.max_eq_right (Nat.pow_le_pow_right (by decide) (by omega))]
        exact ⟨_, rfl, fun i h1 h2 => by
          rcases Nat.lt_or_ge i N with h3 | h3
          · have := hi i h3 h2; omega
          · have : i = N := by omega
            rw [this]; omega⟩
    · rename_i q
      exact ⟨e, he, fun i h1 h2 => by
        rcases Nat.lt_or_ge i N with h3 | h3
        · exact hi i h3 h2
        · have : i = N := by omega
          rw [this] at h2; exact absurd h2 q⟩
theorem us_ltB {S : qS} {m n : Nat} {c : Nat → Nat} : ∀ {k : Nat}, Pf S m n c k → us S c k < ofB S m (n * 4) := by
  obtain ⟨e, he, hi⟩ := ofB_pow S m (n * 4)
  rw [he]
  intro k
  induction k with
  | zero => intro _; exact Nat.pow_pos (by decide)
  | succ k ih =>
    intro h
    have h1 := h.1
    have h2 := h.2.1 k (by omega)
    exact or_lt (ih h.down) (hi _ (by omega) (ok_s.mp h.2.2).2.1)
theorem ky_le (S : qS) (i : Nat) : ky S i ≤ 3260416 := by
  unfold ky
  have h1 : wk S i ≤ 1 := by unfold wk; split <;> omega
  have h2 : 2 ^ ((7 - i / 4) * 2) ≤ 2 ^ 14 := Nat.pow_le_pow_right (by decide) (by omega)
  have h3 : i % 4 ≤ 3 := by omega
  have h4 : i % 4 * 2 ^ ((7 - i / 4) * 2) ≤ 3 * 2 ^ 14 := Nat.mul_le_mul h3 h2
  omega
theorem kk_le (S : qS) (c : Nat → Nat) : ∀ k, kk S c k ≤ k * 3260416
  | 0 => Nat.zero_le _
  | k + 1 => by
    have := kk_le S c k
    have := ky_le S (k * 4 + c k)
    show kk S c k + ky S (k * 4 + c k) ≤ _
    omega
theorem kk_lt {S : qS} {c : Nat → Nat} {k : Nat} (h : k ≤ 8) : kk S c k < 33554432 := by
  have := kk_le S c k
  omega
/-! the search by sets -/
def Cn (S : qS) (m n s t v : Nat) : Prop := s ≤ t ∧ ∃ (c : Nat → Nat) (k : Nat), Pf S m n c k ∧ us S c k = t ∧ (k = 0 ∨ us S c (k - 1) < s) ∧ kk S c k = v
def Fn (S : qS) (m n s v : Nat) : Prop := ∃ c : Nat → Nat, Pf S m n c n ∧ us S c n < s ∧ kk S c n = v
def Fs (S : qS) (m n s v : Nat) : Prop := ∃ (c : Nat → Nat) (k : Nat), Pf S m n c k ∧ us S c k = s ∧ kk S c k = v
def Fl (S : qS) (m n v : Nat) : Prop := ∃ c : Nat → Nat, Pf S m n c n ∧ kk S c n = v
/-- what the rows of the search hold -/
def rwOK (S : qS) (m n : Nat) (A K : Nat → Int32) : Prop := ∀ i, i < n * 4 → (avB S m i = true → A i = nI (nv (S 6 i)) ∧ K i = nI (ky S i)) ∧ (avB S m i = false → A i = -1)
theorem cp_inv {S : qS} {m n k s v0 : Nat} {A K f : Nat → Int32} {P : Nat → Nat → Prop} (hI : Inv S) (hn : n ≤ 8) (hk : k < n) (hA : rwOK S m n A K) (hs : s < 4096) (hv : v0 < 33554432) (hP : ∀ t, t < 4096 → mnO (P t) (f t)) :
    ∀ r, r ≤ 4 → (∀ t, t < 4096 → mnO (fun v => P t v ∨ ∃ q, q < r ∧ avB S m (k * 4 + q) = true ∧ s.testBit (nv (S 6 (k * 4 + q))) = false ∧ s ||| 2 ^ nv (S 6 (k * 4 + q)) = t ∧ v = v0 + ky S (k * 4 + q)) (cpF A K k s (nI v0) r f t)) ∧ ∀ t, 4096 ≤ t → cpF A K k s (nI v0) r f t = f t := by
  intro r
  induction r with
  | zero => exact fun _ => ⟨fun t ht => mnO_iff (fun v => ⟨Or.inl, fun q => q.elim id (fun ⟨q, h, _⟩ => absurd h (Nat.not_lt_zero q))⟩) (hP t ht), fun t _ => rfl⟩
  | succ r ih =>
    intro hr
    obtain ⟨ih1, ih2⟩ := ih (by omega)
    rw [cpF_s]
    generalize cpF A K k s (nI v0) r f = g at ih1 ih2
    have same : avB S m (k * 4 + r) = false ∨ s.testBit (nv (S 6 (k * 4 + r))) = true → ∀ t v, (P t v ∨ ∃ q, q < r ∧ avB S m (k * 4 + q) = true ∧ s.testBit (nv (S 6 (k * 4 + q))) = false ∧ s ||| 2 ^ nv (S 6 (k * 4 + q)) = t ∧ v = v0 + ky S (k * 4 + q)) ↔ (P t v ∨ ∃ q, q < r + 1 ∧ avB S m (k * 4 + q) = true ∧ s.testBit (nv (S 6 (k * 4 + q))) = false ∧ s ||| 2 ^ nv (S 6 (k * 4 + q)) = t ∧ v = v0 + ky S (k * 4 + q)) := by
      intro hno t v
      refine ⟨fun q => q.imp id (fun ⟨q, h1, h2⟩ => ⟨q, by omega, h2⟩), fun q => q.imp id (fun ⟨q, h1, h2, h3, h4⟩ => ⟨q, ?_, h2, h3, h4⟩)⟩
      rcases Nat.lt_or_ge q r with h5 | h5
      · exact h5
      · have e : q = r := by omega
        subst e
        rcases hno with h | h
        · rw [h] at h2; exact Bool.noConfusion h2
        · rw [h] at h3; exact Bool.noConfusion h3
    cases hav : avB S m (k * 4 + r) with
    | false =>
      rw [cpS, if_pos (Or.inl ((hA _ (by omega)).2 hav))]
      exact ⟨fun t ht => mnO_iff (same (Or.inl hav) t) (ih1 t ht), ih2⟩
    | true =>
      obtain ⟨e1, e2⟩ := (hA _ (by omega)).1 hav
      have ha := (avB_in hI (by omega) hav).2
      cases hbt : s.testBit (nv (S 6 (k * 4 + r))) with
      | true =>
        rw [cpS, if_pos (Or.inr (by rw [e1, nv_nI (by omega)]; exact hbt))]
        exact ⟨fun t ht => mnO_iff (same (Or.inr hbt) t) (ih1 t ht), ih2⟩
      | false =>
        have hw := or_lt (n := 12) hs ha
        have hky := ky_le S (k * 4 + r)
        have ec : cpS A K k s (nI v0) r g = fun t => if t = s ||| 2 ^ nv (S 6 (k * 4 + r)) then (if g (s ||| 2 ^ nv (S 6 (k * 4 + r))) = -1 ∨ nI (v0 + ky S (k * 4 + r)) < g (s ||| 2 ^ nv (S 6 (k * 4 + r))) then nI (v0 + ky S (k * 4 + r)) else g (s ||| 2 ^ nv (S 6 (k * 4 + r)))) else g t := by
          rw [cpS, if_neg (fun q => q.elim (fun q => m1_ne (by omega) (e1 ▸ q)) (fun q => by rw [e1, nv_nI (by omega), hbt] at q; exact Bool.noConfusion q)), e1, nv_nI (by omega), e2, nI_add]
          funext t
          split
          · unfold upd
            split
            · rfl
            · rfl
          · split
            · rename_i h; rw [h]
            · rfl
        rw [ec]
        refine ⟨fun t ht => ?_, fun t ht => ?_⟩
        · show mnO _ (if t = s ||| 2 ^ nv (S 6 (k * 4 + r)) then _ else g t)
          split
          · rename_i et
            have h1 := mnO_add (ih1 _ hw) (v1 := v0 + ky S (k * 4 + r)) (by omega)
            rw [et]
            refine mnO_iff (fun v => ⟨fun q => ?_, fun q => ?_⟩) h1
            · rcases q with (q | ⟨q, h2, h3⟩) | q
              · exact Or.inl q
              · exact Or.inr ⟨q, by omega, h3⟩
              · exact Or.inr ⟨r, by omega, hav, hbt, rfl, q⟩
            · rcases q with q | ⟨q, h2, h3, h4, h5, h6⟩
              · exact Or.inl (Or.inl q)
              · rcases Nat.lt_or_ge q r with h7 | h7
                · exact Or.inl (Or.inr ⟨q, h7, h3, h4, h5, h6⟩)
                · have e : q = r := by omega
                  subst e
                  exact Or.inr h6
          · rename_i et
            refine mnO_iff (fun v => ⟨fun q => q.imp id (fun ⟨q, h2, h3⟩ => ⟨q, by omega, h3⟩), fun q => q.imp id (fun ⟨q, h2, h3, h4, h5, h6⟩ => ⟨q, ?_, h3, h4, h5, h6⟩)⟩) (ih1 t ht)
            rcases Nat.lt_or_ge q r with h7 | h7
            · exact h7
            · have e : q = r := by omega
              subst e
              exact absurd h5.symm et
        · show (if t = s ||| 2 ^ nv (S 6 (k * 4 + r)) then _ else g t) = f t
          rw [if_neg (by omega)]
          exact ih2 t ht
theorem lk_inv {S : qS} {m n : Nat} {A K F : Nat → Int32} (hI : Inv S) (hn : n ≤ 8) (hA : rwOK S m n A K) (hF : ∀ i, i < 4096 → F i = -1) :
    ∀ s, s ≤ ofB S m (n * 4) → (∀ t, t < 4096 → mnO (Cn S m n s t) ((lkF A K F n s).1 t)) ∧ (∀ t, 4096 ≤ t → (lkF A K F n s).1 t = F t) ∧ mnO (Fn S m n s) (lkF A K F n s).2 := by
  intro s
  induction s with
  | zero =>
    intro _
    refine ⟨fun t ht => ?_, fun t ht => ?_, Or.inl ⟨rfl, fun v ⟨c, _, h, _⟩ => absurd h (Nat.not_lt_zero _)⟩⟩
    · show mnO _ (upd F 0 (nI 0) t)
      by_cases e : t = 0
      · subst e
        rw [upd_s]
        refine Or.inr ⟨0, by decide, rfl, ⟨Nat.le_refl _, fun _ => 0, 0, ⟨Nat.zero_le _, fun p hp => absurd hp (Nat.not_lt_zero p), rfl⟩, rfl, Or.inl rfl, rfl⟩, fun w _ => Nat.zero_le w⟩
      · rw [upd_n F _ e, hF t ht]
        refine Or.inl ⟨rfl, fun v ⟨_, c, k, _, h2, h3, _⟩ => ?_⟩
        rcases h3 with h3 | h3
        · subst h3; exact e h2.symm
        · exact absurd h3 (Nat.not_lt_zero _)
    · show upd F 0 (nI 0) t = F t
      exact upd_n F _ (by omega)
  | succ s ih =>
    intro hs
    obtain ⟨i1, i2, i3⟩ := ih (by omega)
    have hsB := ofB_le hI m (n * 4) (by omega)
    have hs4 : s < 4096 := by omega
    rw [lkF_s]
    generalize hT : lkF A K F n s = T at i1 i2 i3
    have hcs : mnO (Fs S m n s) (T.1 s) := by
      refine mnO_iff (fun v => ⟨fun ⟨_, c, k, h1, h2, _, h4⟩ => ⟨c, k, h1, h2, h4⟩, fun ⟨c, k, h1, h2, h4⟩ => ⟨Nat.le_refl _, c, k, h1, h2, ?_, h4⟩⟩) (i1 s hs4)
      cases k with
      | zero => exact Or.inl rfl
      | succ k => exact Or.inr (by rw [← h2]; exact us_gt h1)
    have cs_no : ∀ t v, t ≠ s → ((∀ c k, Pf S m n c (k + 1) → us S c k = s → us S c (k + 1) = t → kk S c (k + 1) = v → False)) → (Cn S m n s t v ↔ Cn S m n (s + 1) t v) := by
      intro t v hts hx
      refine ⟨fun ⟨h0, c, k, h1, h2, h3, h4⟩ => ⟨by omega, c, k, h1, h2, h3.imp id (fun q => by omega), h4⟩, fun ⟨h0, c, k, h1, h2, h3, h4⟩ => ⟨by omega, c, k, h1, h2, ?_, h4⟩⟩
      cases k with
      | zero => exact Or.inl rfl
      | succ k =>
        refine h3.imp id (fun q => ?_)
        simp only [Nat.add_sub_cancel] at q ⊢
        rcases Nat.lt_or_ge (us S c k) s with h5 | h5
        · exact h5
        · exact (hx c k h1 (by omega) h2 h4).elim
    have cs_at : ∀ v, ¬ Cn S m n (s + 1) s v := fun v h => absurd h.1 (by omega)
    rcases hcs with ⟨e, hno⟩ | ⟨v0, hv0, e, ⟨c0, k0, hc0, hu0, hk0⟩, hmin⟩
    · rw [lkS, if_pos e]
      refine ⟨fun t ht => ?_, fun t ht => ?_, ?_⟩
      · show mnO _ (upd T.1 s (-1) t)
        by_cases et : t = s
        · subst et; rw [upd_s]; exact Or.inl ⟨rfl, cs_at⟩
        · rw [upd_n _ _ et]
          exact mnO_iff (fun v => cs_no t v et (fun c k h1 h2 _ _ => hno _ ⟨c, k, h1.down, h2, rfl⟩)) (i1 t ht)
      · show upd T.1 s (-1) t = F t
        rw [upd_n _ _ (by omega)]; exact i2 t ht
      · refine mnO_iff (fun v => ⟨fun ⟨c, h1, h2, h3⟩ => ⟨c, h1, by omega, h3⟩, fun ⟨c, h1, h2, h3⟩ => ⟨c, h1, ?_, h3⟩⟩) i3
        rcases Nat.lt_or_ge (us S c n) s with h5 | h5
        · exact h5
        · exact (hno _ ⟨c, n, h1, by omega, rfl⟩).elim
    · have hne : ¬ T.1 s = -1 := by rw [e]; exact m1_ne (by omega)
      have hpc : pcn 12 s = k0 := by rw [← hu0]; exact us_pc hI hn hc0
      have hv0b : v0 < 33554432 := by rw [← hk0]; exact kk_lt (by have := hc0.1; omega)
      have hlen : ∀ c k, Pf S m n c k → us S c k = s → k = k0 := fun c k h1 h2 => by rw [← hpc, ← h2, us_pc hI hn h1]
      rw [lkS, if_neg hne, hpc]
      by_cases hkn : k0 < n
      · rw [if_pos hkn, e]
        have hbase : ∀ t, t < 4096 → mnO (fun v => t ≠ s ∧ Cn S m n s t v) (upd T.1 s (-1) t) := by
          intro t ht
          by_cases et : t = s
          · subst et; rw [upd_s]; exact Or.inl ⟨rfl, fun v q => q.1 rfl⟩
          · rw [upd_n _ _ et]; exact mnO_iff (fun v => ⟨fun q => ⟨et, q⟩, fun q => q.2⟩) (i1 t ht)
        obtain ⟨j1, j2⟩ := cp_inv hI hn hkn hA hs4 hv0b hbase 4 (Nat.le_refl 4)
        refine ⟨fun t ht => ?_, fun t ht => ?_, ?_⟩
        · refine mnO_dom (fun v q => ?_) (fun v q => ?_) (j1 t ht)
          · rcases q with ⟨q1, q0, c, k, h1, h2, h3, h4⟩ | ⟨q, h1, h2, h3, h4, h5⟩
            · exact ⟨by omega, c, k, h1, h2, h3.imp id (fun q => by omega), h4⟩
            · have hlt := lt_or h3
              have hcq : ∀ p, p < k0 → (fun p => if p = k0 then q else c0 p) p = c0 p := fun p hp => if_neg (by omega)
              have hus : us S (fun p => if p = k0 then q else c0 p) k0 = s := by rw [us_cg hcq, hu0]
              refine ⟨by omega, fun p => if p = k0 then q else c0 p, k0 + 1, ⟨by omega, fun p hp => ?_, ?_⟩, ?_, Or.inr ?_, ?_⟩
              · show (if p = k0 then q else c0 p) < 4
                split
                · exact h1
                · exact hc0.2.1 p (by omega)
              · rw [ok_s, ok_cg hcq, hus]
                simp only [if_true]
                exact ⟨hc0.2.2, h2, h3⟩
              · show us S _ k0 ||| 2 ^ nv (S 6 (k0 * 4 + (if k0 = k0 then q else c0 k0))) = t
                rw [hus, if_pos rfl]; exact h4
              · rw [Nat.add_sub_cancel, hus]; exact Nat.lt_succ_self s
              · show kk S _ k0 + ky S (k0 * 4 + (if k0 = k0 then q else c0 k0)) = v
                rw [kk_cg hcq, hk0, if_pos rfl]; exact h5.symm
          · obtain ⟨q0, c, k, h1, h2, h3, h4⟩ := q
            by_cases hnew : ∃ k', k = k' + 1 ∧ us S c k' = s
            · obtain ⟨k', rfl, hu⟩ := hnew
              have ek := hlen c k' h1.down hu
              subst ek
              have o := ok_s.mp h1.2.2
              refine ⟨v0 + ky S (k' * 4 + c k'), Or.inr ⟨c k', h1.2.1 k' (by omega), o.2.1, by rw [← hu]; exact o.2.2, by rw [← hu]; exact h2, rfl⟩, ?_⟩
              have h5 := hmin _ ⟨c, k', h1.down, hu, rfl⟩
              rw [← h4]
              show v0 + ky S (k' * 4 + c k') ≤ kk S c k' + ky S (k' * 4 + c k')
              omega
            · refine ⟨v, Or.inl ⟨by omega, by omega, c, k, h1, h2, ?_, h4⟩, Nat.le_refl v⟩
              cases k with
              | zero => exact Or.inl rfl
              | succ k' =>
                refine h3.imp id (fun q => ?_)
                simp only [Nat.add_sub_cancel] at q ⊢
                rcases Nat.lt_or_ge (us S c k') s with h6 | h6
                · exact h6
                · exact (hnew ⟨k', rfl, by omega⟩).elim
        · show cpF A K k0 s (nI v0) 4 (upd T.1 s (-1)) t = F t
          rw [j2 t ht, upd_n _ _ (by omega)]; exact i2 t ht
        · refine mnO_iff (fun v => ⟨fun ⟨c, h1, h2, h3⟩ => ⟨c, h1, by omega, h3⟩, fun ⟨c, h1, h2, h3⟩ => ⟨c, h1, ?_, h3⟩⟩) i3
          rcases Nat.lt_or_ge (us S c n) s with h5 | h5
          · exact h5
          · have := hlen c n h1 (by omega)
            omega
      · rw [if_neg hkn]
        have ekn : k0 = n := by have := hc0.1; omega
        refine ⟨fun t ht => ?_, fun t ht => ?_, ?_⟩
        · show mnO _ (upd T.1 s (-1) t)
          by_cases et : t = s
          · subst et; rw [upd_s]; exact Or.inl ⟨rfl, cs_at⟩
          · rw [upd_n _ _ et]
            refine mnO_iff (fun v => cs_no t v et (fun c k h1 h2 _ _ => ?_)) (i1 t ht)
            have h3 := hlen c k h1.down h2
            have h4 := h1.1
            omega
        · show upd T.1 s (-1) t = F t
          rw [upd_n _ _ (by omega)]; exact i2 t ht
        · show mnO _ (if T.2 = -1 ∨ T.1 s < T.2 then T.1 s else T.2)
          rw [e]
          refine mnO_dom (fun v q => ?_) (fun v q => ?_) (mnO_add i3 hv0)
          · rcases q with ⟨c, h1, h2, h3⟩ | q
            · exact ⟨c, h1, by omega, h3⟩
            · subst q; subst ekn
              exact ⟨c0, hc0, by omega, hk0⟩
          · obtain ⟨c, h1, h2, h3⟩ := q
            rcases Nat.lt_or_ge (us S c n) s with h5 | h5
            · exact ⟨v, Or.inl ⟨c, h1, h5, h3⟩, Nat.le_refl v⟩
            · exact ⟨v0, Or.inr rfl, hmin v ⟨c, n, h1, by omega, h3⟩⟩
theorem rw_ok {S : qS} (m : Nat) {n : Nat} (hn : n ≤ 8) (f g : Nat → Int32) (hf : ∀ i, i < 32 → f i = -1) : rwOK S m n (ofA S m f (n * 4)) (ofK S m g (n * 4)) := by
  intro i hi
  refine ⟨fun h => ⟨if_pos ⟨hi, h⟩, if_pos ⟨hi, h⟩⟩, fun h => ?_⟩
  unfold ofA
  rw [if_neg (fun q => by rw [h] at q; exact Bool.noConfusion q.2)]
  exact hf i (by omega)
theorem bc_1 {S J : qS} {m : Nat} (hI : Inv S) (hm : m < 4096) (hJ : jk J) (f g : Nat → Int32) (hf : ∀ i, i < 32 → f i = -1) :
    (lkF (ofA S m f (nv (S 27 0) * 4)) (ofK S m g (nv (S 27 0) * 4)) (J 15) (nv (S 27 0)) (ofB S m (nv (S 27 0) * 4))).1 = J 15 := by
  have hn : nv (S 27 0) ≤ 8 := by have := (iv_27 hI).1.2; omega
  obtain ⟨h1, h2, -⟩ := lk_inv hI hn (rw_ok m hn f g hf) hJ _ (Nat.le_refl _)
  funext t
  rcases Nat.lt_or_ge t 4096 with ht | ht
  · rw [hJ t ht]
    rcases h1 t ht with ⟨e, -⟩ | ⟨v, -, -, ⟨q, c, k, hc, hu, -⟩, -⟩
    · exact e
    · have := us_ltB hc
      omega
  · exact h2 t ht
theorem bc_f {S J : qS} {m : Nat} (hI : Inv S) (hJ : jk J) (f g : Nat → Int32) (hf : ∀ i, i < 32 → f i = -1) :
    mnO (Fl S m (nv (S 27 0))) (lkF (ofA S m f (nv (S 27 0) * 4)) (ofK S m g (nv (S 27 0) * 4)) (J 15) (nv (S 27 0)) (ofB S m (nv (S 27 0) * 4))).2 := by
  have hn : nv (S 27 0) ≤ 8 := by have := (iv_27 hI).1.2; omega
  obtain ⟨-, -, h3⟩ := lk_inv hI hn (rw_ok m hn f g hf) hJ _ (Nat.le_refl _)
  exact mnO_iff (fun v => ⟨fun ⟨c, h1, _, h4⟩ => ⟨c, h1, h4⟩, fun ⟨c, h1, h4⟩ => ⟨c, h1, us_ltB h1, h4⟩⟩) h3
/-! casts as numbers -/
def lw (c : Nat → Nat) : Nat → Nat
  | 0 => 0
  | k + 1 => lw c k + c k * 2 ^ ((7 - k) * 2)
def cdn (c : Nat → Nat) : Nat → Nat
  | 0 => 0
  | k + 1 => cdn c k * 4 + c k
theorem cdn_lt {c : Nat → Nat} : ∀ {k : Nat}, (∀ p, p < k → c p < 4) → cdn c k < 4 ^ k
  | 0, _ => by show 0 < 1; decide
  | k + 1, h => by
    have h1 := cdn_lt (c := c) (k := k) (fun p hp => h p (by omega))
    have h2 := h k (by omega)
    show cdn c k * 4 + c k < 4 ^ (k + 1)
    rw [Nat.pow_succ]
    omega
theorem cdn_at {c : Nat → Nat} : ∀ {k : Nat}, (∀ p, p < k → c p < 4) → ∀ p, p < k → dg k (cdn c k) p = c p
  | 0, _, p, hp => absurd hp (Nat.not_lt_zero p)
  | k + 1, h, p, hp => by
    have h2 := h k (by omega)
    show (cdn c k * 4 + c k) / 4 ^ (k + 1 - 1 - p) % 4 = c p
    rcases Nat.lt_or_ge p k with q | q
    · have ih := cdn_at (c := c) (k := k) (fun p hp => h p (by omega)) p q
      rw [show k + 1 - 1 - p = (k - 1 - p) + 1 by omega, Nat.pow_succ, Nat.mul_comm (4 ^ (k - 1 - p)) 4, ← Nat.div_div_eq_div_mul, show (cdn c k * 4 + c k) / 4 = cdn c k by omega]
      exact ih
    · have e : p = k := by omega
      subst e
      rw [show p + 1 - 1 - p = 0 by omega, Nat.pow_zero, Nat.div_one]
      omega
theorem p24 (k : Nat) : 2 ^ (k * 2) = 4 ^ k := by rw [Nat.mul_comm, Nat.pow_mul]
theorem ky_at (S : qS) {p r : Nat} (h : r < 4) : ky S (p * 4 + r) = r * 2 ^ 20 + wk S (p * 4 + r) * 2 ^ 16 + r * 2 ^ ((7 - p) * 2) := by
  unfold ky; rw [(i4 h).1, (i4 h).2]
theorem kk_eq {S : qS} {c : Nat → Nat} : ∀ {k : Nat}, (∀ p, p < k → c p < 4) → kk S c k = sr c k * 1048576 + wo S c k * 65536 + lw c k
  | 0, _ => by show 0 = 0 * 1048576 + 0 * 65536 + 0; omega
  | k + 1, h => by
    have ih := kk_eq (S := S) (c := c) (k := k) (fun p hp => h p (by omega))
    show kk S c k + ky S (k * 4 + c k) = (sr c k + c k) * 1048576 + (wo S c k + wk S (k * 4 + c k)) * 65536 + (lw c k + c k * 2 ^ ((7 - k) * 2))
    rw [ih, ky_at S (h k (by omega))]
    generalize c k * 2 ^ ((7 - k) * 2) = X
    omega
theorem wo_le (S : qS) (c : Nat → Nat) : ∀ k, wo S c k ≤ k
  | 0 => Nat.le_refl 0
  | k + 1 => by
    have := wo_le S c k
    have h1 : wk S (k * 4 + c k) ≤ 1 := by unfold wk; split <;> omega
    show wo S c k + wk S (k * 4 + c k) ≤ _
    omega
theorem sr_le {c : Nat → Nat} : ∀ {k : Nat}, (∀ p, p < k → c p < 4) → sr c k ≤ 3 * k
  | 0, _ => Nat.le_refl 0
  | k + 1, h => by
    have := sr_le (c := c) (k := k) (fun p hp => h p (by omega))
    have := h k (by omega)
    show sr c k + c k ≤ _
    omega
theorem dg_lt (n b p : Nat) : dg n b p < 4 := Nat.mod_lt _ (by decide)
theorem lw_dg {n b : Nat} (hn : n ≤ 8) (hb : b < 4 ^ n) : ∀ k, k ≤ n → lw (dg n b) k = b / 4 ^ (n - k) * 4 ^ (8 - k)
  | 0, _ => by rw [Nat.sub_zero, Nat.div_eq_of_lt hb, Nat.zero_mul]; rfl
  | k + 1, h => by
    have ih := lw_dg hn hb k (by omega)
    show lw (dg n b) k + b / 4 ^ (n - 1 - k) % 4 * 2 ^ ((7 - k) * 2) = _
    rw [ih, p24, show n - k = (n - 1 - k) + 1 by omega, Nat.pow_succ, ← Nat.div_div_eq_div_mul, show 8 - k = (7 - k) + 1 by omega, Nat.pow_succ, show n - (k + 1) = n - 1 - k by omega, show 8 - (k + 1) = 7 - k by omega]
    generalize b / 4 ^ (n - 1 - k) = y
    generalize 4 ^ (7 - k) = z
    rw [← Nat.mul_assoc, Nat.mul_right_comm, ← Nat.add_mul]
    congr 1
    omega
theorem lw_n {n b : Nat} (hn : n ≤ 8) (hb : b < 4 ^ n) : lw (dg n b) n = b * 4 ^ (8 - n) := by
  rw [lw_dg hn hb n (Nat.le_refl n), Nat.sub_self, Nat.pow_zero, Nat.div_one]
theorem b4_lt {n b : Nat} (hn : n ≤ 8) (hb : b < 4 ^ n) : b * 4 ^ (8 - n) < 65536 := by
  have h1 : b * 4 ^ (8 - n) < 4 ^ n * 4 ^ (8 - n) := Nat.mul_lt_mul_of_pos_right hb (Nat.pow_pos (by decide))
  rw [← Nat.pow_add, show n + (8 - n) = 8 by omega] at h1
  exact h1
theorem bcR_at (S : qS) (m n : Nat) : ∀ N, (bcR S m n N = none → ∀ c, c < N → ok S m (dg n c) n = false) ∧ ∀ b, bcR S m n N = some b → b < N ∧ ok S m (dg n b) n = true ∧
    ∀ c, c < N → ok S m (dg n c) n = true → sr (dg n b) n < sr (dg n c) n ∨ sr (dg n b) n = sr (dg n c) n ∧ (wo S (dg n b) n < wo S (dg n c) n ∨ wo S (dg n b) n = wo S (dg n c) n ∧ b ≤ c)
  | 0 => ⟨fun _ c h => absurd h (Nat.not_lt_zero c), fun b h => by cases h⟩
  | N + 1 => by
    obtain ⟨i1, i2⟩ := bcR_at S m n N
    have last : ∀ {c : Nat}, c < N + 1 → c < N ∨ c = N := fun h => by omega
    unfold bcR
    cases hok : ok S m (dg n N) n with
    | false =>
      rw [if_neg (by decide)]
      refine ⟨fun h c hc => ?_, fun b h => ?_⟩
      · rcases last hc with q | q
        · exact i1 h c q
        · rw [q]; exact hok
      · obtain ⟨h1, h2, h3⟩ := i2 b h
        refine ⟨by omega, h2, fun c hc ho => ?_⟩
        rcases last hc with q | q
        · exact h3 c q ho
        · rw [q, hok] at ho; exact Bool.noConfusion ho
    | true =>
      rw [if_pos rfl]
      cases hb : bcR S m n N with
      | none =>
        refine ⟨fun h => by (cases h), fun b h => ?_⟩
        cases h
        refine ⟨by omega, hok, fun c hc ho => ?_⟩
        rcases last hc with q | q
        · rw [i1 hb c q] at ho; exact Bool.noConfusion ho
        · rw [q]; exact Or.inr ⟨rfl, Or.inr ⟨rfl, Nat.le_refl _⟩⟩
      | some b0 =>
        obtain ⟨h1, h2, h3⟩ := i2 b0 hb
        dsimp only
        split
        · rename_i hbt
          refine ⟨fun h => by (cases h), fun b h => ?_⟩
          cases h
          refine ⟨by omega, hok, fun c hc ho => ?_⟩
          rcases last hc with q | q
          · have := h3 c q ho
            omega
          · rw [q]; exact Or.inr ⟨rfl, Or.inr ⟨rfl, Nat.le_refl _⟩⟩
        · rename_i hbt
          refine ⟨fun h => by (cases h), fun b h => ?_⟩
          cases h
          refine ⟨by omega, h2, fun c hc ho => ?_⟩
          rcases last hc with q | q
          · exact h3 c q ho
          · rw [q]; omega
/-- what the best cast is, for every cast -/
theorem bc_none {S : qS} {m : Nat} (h : bc S m = none) (c : Nat → Nat) : ¬ Pf S m (nv (S 27 0)) c (nv (S 27 0)) := fun hc => by
  have h1 := (bcR_at S m (nv (S 27 0)) _).1 h (cdn c (nv (S 27 0))) (cdn_lt hc.2.1)
  rw [ok_cg (cdn_at hc.2.1), hc.2.2] at h1
  exact Bool.noConfusion h1
theorem bc_some {S : qS} {m b : Nat} (h : bc S m = some b) : b < 4 ^ nv (S 27 0) ∧ Pf S m (nv (S 27 0)) (dg (nv (S 27 0)) b) (nv (S 27 0)) ∧ ∀ c, Pf S m (nv (S 27 0)) c (nv (S 27 0)) →
    sr (dg (nv (S 27 0)) b) (nv (S 27 0)) < sr c (nv (S 27 0)) ∨ sr (dg (nv (S 27 0)) b) (nv (S 27 0)) = sr c (nv (S 27 0)) ∧ (wo S (dg (nv (S 27 0)) b) (nv (S 27 0)) < wo S c (nv (S 27 0)) ∨ wo S (dg (nv (S 27 0)) b) (nv (S 27 0)) = wo S c (nv (S 27 0)) ∧ b ≤ cdn c (nv (S 27 0))) := by
  obtain ⟨h1, h2, h3⟩ := (bcR_at S m (nv (S 27 0)) _).2 b h
  refine ⟨h1, ⟨Nat.le_refl _, fun p _ => dg_lt _ b p, h2⟩, fun c hc => ?_⟩
  have h4 := h3 (cdn c (nv (S 27 0))) (cdn_lt hc.2.1) (by rw [ok_cg (cdn_at hc.2.1)]; exact hc.2.2)
  rw [sr_cg (cdn_at hc.2.1), wo_cg (cdn_at hc.2.1)] at h4
  exact h4
theorem kk_b {S : qS} {n b : Nat} (hn : n ≤ 8) (hb : b < 4 ^ n) : kk S (dg n b) n = sr (dg n b) n * 1048576 + wo S (dg n b) n * 65536 + b * 4 ^ (8 - n) := by
  rw [kk_eq (fun p _ => dg_lt n b p), lw_n hn hb]
theorem bcI_mn {S : qS} {m : Nat} (hI : Inv S) : mnO (Fl S m (nv (S 27 0))) (bcI S m) := by
  have hn : nv (S 27 0) ≤ 8 := by have := (iv_27 hI).1.2; omega
  unfold bcI
  cases h : bc S m with
  | none => exact Or.inl ⟨rfl, fun v ⟨c, hc, _⟩ => bc_none h c hc⟩
  | some b =>
    obtain ⟨h1, h2, h3⟩ := bc_some h
    have hlt := kk_lt (S := S) (c := dg (nv (S 27 0)) b) hn
    refine Or.inr ⟨kk S (dg (nv (S 27 0)) b) (nv (S 27 0)), by omega, rfl, ⟨dg (nv (S 27 0)) b, h2, rfl⟩, fun w ⟨c, hc, hw⟩ => ?_⟩
    have h4 := h3 c hc
    have hcb := cdn_lt hc.2.1
    have e1 : kk S c (nv (S 27 0)) = kk S (dg (nv (S 27 0)) (cdn c (nv (S 27 0)))) (nv (S 27 0)) := (kk_cg (cdn_at hc.2.1)).symm
    rw [← hw, e1, kk_b hn h1, kk_b hn hcb, sr_cg (cdn_at hc.2.1), wo_cg (cdn_at hc.2.1)]
    have q1 := b4_lt hn h1
    have q2 := b4_lt hn hcb
    have q3 := wo_le S (dg (nv (S 27 0)) b) (nv (S 27 0))
    have q4 : b ≤ cdn c (nv (S 27 0)) → b * 4 ^ (8 - nv (S 27 0)) ≤ cdn c (nv (S 27 0)) * 4 ^ (8 - nv (S 27 0)) := fun q => Nat.mul_le_mul_right _ q
    generalize b * 4 ^ (8 - nv (S 27 0)) = X at q1 q4 ⊢
    generalize cdn c (nv (S 27 0)) * 4 ^ (8 - nv (S 27 0)) = Y at q2 q4 ⊢
    rcases h4 with h4 | ⟨h4, h5 | ⟨h5, h6⟩⟩
    · omega
    · omega
    · have := q4 h6; omega
theorem bc_2 {S J : qS} {m : Nat} (hI : Inv S) (hm : m < 4096) (hJ : jk J) (f g : Nat → Int32) (hf : ∀ i, i < 32 → f i = -1) :
    (lkF (ofA S m f (nv (S 27 0) * 4)) (ofK S m g (nv (S 27 0) * 4)) (J 15) (nv (S 27 0)) (ofB S m (nv (S 27 0) * 4))).2 = bcI S m := mnO_uniq (bc_f hI hJ f g hf) (bcI_mn hI)
/-! the search that tries all -/
theorem ok_le {S : qS} {m : Nat} {c : Nat → Nat} : ∀ {n k : Nat}, k ≤ n → ok S m c n = true → ok S m c k = true
  | 0, k, h, q => by have : k = 0 := by omega
                     rw [this]; rfl
  | n + 1, k, h, q => by
    rcases Nat.lt_or_ge n k with h1 | h1
    · have : k = n + 1 := by omega
      rw [this]; exact q
    · exact ok_le h1 (ok_s.mp q).1
def St (S : qS) (m n : Nat) (v : Nat) : Prop := ∃ c : Nat → Nat, Pf S m n c n ∧ sr c n = v
theorem lf_inv {S : qS} {m n : Nat} {A : Nat → Int32} (hI : Inv S) (hn : n ≤ 8) (hA : ∀ i, i < n * 4 → (avB S m i = true → A i = nI (nv (S 6 i))) ∧ (avB S m i = false → A i = -1)) :
    ∀ d p c0, p + d = 8 → p ≤ n → Pf S m n c0 p → mnO (fun v => ∃ c, Pf S m n c n ∧ (∀ q, q < p → c q = c0 q) ∧ v + sr c0 p = sr c n) (lfF A n d p (us S c0 p)) := by
  intro d
  have done : ∀ p c0, p = n → Pf S m n c0 p → mnO (fun v => ∃ c, Pf S m n c n ∧ (∀ q, q < p → c q = c0 q) ∧ v + sr c0 p = sr c n) (nI 0) := by
    intro p c0 e h
    subst e
    exact Or.inr ⟨0, by decide, rfl, ⟨c0, h, fun _ _ => rfl, Nat.zero_add _⟩, fun w _ => Nat.zero_le w⟩
  induction d with
  | zero => intro p c0 h1 h2 h3; exact done p c0 (by omega) h3
  | succ d ih =>
    intro p c0 h1 h2 h3
    unfold lfF
    by_cases hp : n ≤ p ∨ 8 ≤ p
    · rw [if_pos hp]; exact done p c0 (by omega) h3
    rw [if_neg hp]
    have hpn : p < n := by omega
    have key : ∀ r, r ≤ 4 → mnO (fun v => ∃ c, Pf S m n c n ∧ (∀ q, q < p → c q = c0 q) ∧ c p < r ∧ v + sr c0 p = sr c n) (lfL A (lfF A n d (p + 1)) p (us S c0 p) r) := by
      intro r
      induction r with
      | zero => exact fun _ => Or.inl ⟨rfl, fun v ⟨c, _, _, q, _⟩ => absurd q (Nat.not_lt_zero _)⟩
      | succ r ihr =>
        intro hr
        have i0 := ihr (by omega)
        have skip : (∀ c, Pf S m n c n → (∀ q, q < p → c q = c0 q) → c p = r → False) → mnO (fun v => ∃ c, Pf S m n c n ∧ (∀ q, q < p → c q = c0 q) ∧ c p < r + 1 ∧ v + sr c0 p = sr c n) (lfL A (lfF A n d (p + 1)) p (us S c0 p) r) := by
          intro hx
          refine mnO_iff (fun v => ⟨fun ⟨c, q1, q2, q3, q4⟩ => ⟨c, q1, q2, by omega, q4⟩, fun ⟨c, q1, q2, q3, q4⟩ => ⟨c, q1, q2, ?_, q4⟩⟩) i0
          rcases Nat.lt_or_ge (c p) r with h | h
          · exact h
          · exact (hx c q1 q2 (by omega)).elim
        rw [lfL_s]
        cases hav : avB S m (p * 4 + r) with
        | false =>
          rw [if_pos (Or.inl ((hA _ (by omega)).2 hav))]
          refine skip (fun c q1 q2 q3 => ?_)
          have o := ok_s.mp (ok_le (k := p + 1) (by omega) q1.2.2)
          rw [q3, hav] at o
          exact Bool.noConfusion o.2.1
        | true =>
          have e1 := (hA _ (by omega)).1 hav
          have ha := (avB_in hI (by omega) hav).2
          cases hbt : (us S c0 p).testBit (nv (S 6 (p * 4 + r))) with
          | true =>
            rw [if_pos (Or.inr (by rw [e1, nv_nI (by omega)]; exact hbt))]
            refine skip (fun c q1 q2 q3 => ?_)
            have o := ok_s.mp (ok_le (k := p + 1) (by omega) q1.2.2)
            rw [q3, us_cg q2, hbt] at o
            exact Bool.noConfusion o.2.2
          | false =>
            rw [if_neg (fun q => q.elim (fun q => m1_ne (by omega) (e1 ▸ q)) (fun q => by rw [e1, nv_nI (by omega), hbt] at q; exact Bool.noConfusion q)), e1, nv_nI (by omega)]
            have hcq : ∀ q, q < p → (fun q => if q = p then r else c0 q) q = c0 q := fun q hq => if_neg (by omega)
            have hus : us S (fun q => if q = p then r else c0 q) (p + 1) = us S c0 p ||| 2 ^ nv (S 6 (p * 4 + r)) := by
              show us S _ p ||| 2 ^ nv (S 6 (p * 4 + (if p = p then r else c0 p))) = _
              rw [us_cg hcq, if_pos rfl]
            have hsr : sr (fun q => if q = p then r else c0 q) (p + 1) = sr c0 p + r := by
              show sr _ p + (if p = p then r else c0 p) = _
              rw [sr_cg hcq, if_pos rfl]
            have hpf : Pf S m n (fun q => if q = p then r else c0 q) (p + 1) := by
              refine ⟨by omega, fun q hq => ?_, ?_⟩
              · show (if q = p then r else c0 q) < 4
                split
                · omega
                · exact h3.2.1 q (by omega)
              · rw [ok_s, ok_cg hcq, us_cg hcq]
                simp only [if_true]
                exact ⟨h3.2.2, hav, hbt⟩
            have i1 := ih (p + 1) _ (by omega) (by omega) hpf
            rw [hus, hsr] at i1
            have pre : ∀ c : Nat → Nat, (∀ q, q < p + 1 → c q = (fun q => if q = p then r else c0 q) q) ↔ ((∀ q, q < p → c q = c0 q) ∧ c p = r) := by
              intro c
              refine ⟨fun h => ⟨fun q hq => (h q (by omega)).trans (hcq q hq), (h p (by omega)).trans (if_pos rfl)⟩, fun h q hq => ?_⟩
              show c q = if q = p then r else c0 q
              split
              · rename_i e; rw [e]; exact h.2
              · exact h.1 q (by omega)
            rcases i1 with ⟨e, hno⟩ | ⟨v1, hv1, e, ⟨c1, k1, k2, k3⟩, hmin⟩
            · rw [if_pos e]
              refine skip (fun c q1 q2 q3 => ?_)
              have h5 : sr c n ≥ sr c0 p + r := by
                have g1 : ∀ k, p + 1 ≤ k → sr c (p + 1) ≤ sr c k := by
                  intro k hk
                  induction k with
                  | zero => omega
                  | succ k ihk =>
                    rcases Nat.lt_or_ge k (p + 1) with h | h
                    · have : k = p := by omega
                      rw [this]; exact Nat.le_refl _
                    · exact Nat.le_trans (ihk h) (Nat.le_add_right _ _)
                have g2 := g1 n (by omega)
                have g3 : sr c (p + 1) = sr c0 p + r := by
                  show sr c p + c p = _
                  rw [sr_cg q2, q3]
                omega
              exact hno (sr c n - (sr c0 p + r)) ⟨c, q1, (pre c).mpr ⟨q2, q3⟩, by omega⟩
            · have hb1 : sr c1 n ≤ 3 * n := sr_le k1.2.1
              rw [e, if_neg (m1_ne (by omega)), nI_add]
              refine mnO_dom (fun v q => ?_) (fun v q => ?_) (mnO_add i0 (v1 := r + v1) (by omega))
              · rcases q with ⟨c, q1, q2, q3, q4⟩ | q
                · exact ⟨c, q1, q2, by omega, q4⟩
                · have k4 := (pre c1).mp k2
                  exact ⟨c1, k1, k4.1, by rw [k4.2]; exact Nat.lt_succ_self r, by omega⟩
              · obtain ⟨c, q1, q2, q3, q4⟩ := q
                rcases Nat.lt_or_ge (c p) r with h | h
                · exact ⟨v, Or.inl ⟨c, q1, q2, h, q4⟩, Nat.le_refl v⟩
                · have ec : c p = r := by omega
                  have h5 : sr c n ≥ sr c0 p + r := by
                    have g1 : ∀ k, p + 1 ≤ k → sr c (p + 1) ≤ sr c k := by
                      intro k hk
                      induction k with
                      | zero => omega
                      | succ k ihk =>
                        rcases Nat.lt_or_ge k (p + 1) with h | h
                        · have : k = p := by omega
                          rw [this]; exact Nat.le_refl _
                        · exact Nat.le_trans (ihk h) (Nat.le_add_right _ _)
                    have g2 := g1 n (by omega)
                    have g3 : sr c (p + 1) = sr c0 p + r := by
                      show sr c p + c p = _
                      rw [sr_cg q2, ec]
                    omega
                  have h6 := hmin (sr c n - (sr c0 p + r)) ⟨c, q1, (pre c).mpr ⟨q2, ec⟩, by omega⟩
                  exact ⟨r + v1, Or.inr rfl, by omega⟩
    refine mnO_iff (fun v => ⟨fun ⟨c, q1, q2, q3, q4⟩ => ⟨c, q1, q2, q4⟩, fun ⟨c, q1, q2, q4⟩ => ⟨c, q1, q2, q1.2.1 p hpn, q4⟩⟩) (key 4 (Nat.le_refl 4))
theorem bcS_mn {S : qS} {m : Nat} (hI : Inv S) : mnO (St S m (nv (S 27 0))) (bcS S m) := by
  have hn : nv (S 27 0) ≤ 8 := by have := (iv_27 hI).1.2; omega
  unfold bcS
  cases h : bc S m with
  | none => exact Or.inl ⟨rfl, fun v ⟨c, hc, _⟩ => bc_none h c hc⟩
  | some b =>
    obtain ⟨h1, h2, h3⟩ := bc_some h
    have hlt := sr_le (k := nv (S 27 0)) h2.2.1
    refine Or.inr ⟨sr (dg (nv (S 27 0)) b) (nv (S 27 0)), by omega, rfl, ⟨dg (nv (S 27 0)) b, h2, rfl⟩, fun w ⟨c, hc, hw⟩ => ?_⟩
    have h4 := h3 c hc
    omega
theorem bc_3 {S : qS} {m : Nat} (hI : Inv S) (f : Nat → Int32) (hf : ∀ i, i < 32 → f i = -1) :
    lfF (ofA S m f (nv (S 27 0) * 4)) (nv (S 27 0)) 8 0 0 = bcS S m := by
  have hn : nv (S 27 0) ≤ 8 := by have := (iv_27 hI).1.2; omega
  have h := lf_inv (m := m) hI hn (fun i hi => ⟨fun q => ((rw_ok m hn f f hf i hi).1 q).1, (rw_ok m hn f f hf i hi).2⟩) 8 0 (fun _ => 0) rfl (Nat.zero_le _) ⟨Nat.zero_le _, fun p hp => absurd hp (Nat.not_lt_zero p), rfl⟩
  refine mnO_uniq (mnO_iff (fun v => ⟨fun ⟨c, q1, _, q3⟩ => ⟨c, q1, ?_⟩, fun ⟨c, q1, q3⟩ => ⟨c, q1, fun q hq => absurd hq (Nat.not_lt_zero q), ?_⟩⟩) h) (bcS_mn hI)
  · exact q3.symm
  · exact q3.symm
/-- the key tells strain, work and ranks -/
theorem key_s {S : qS} {n b : Nat} (hn : n ≤ 8) (hb : b < 4 ^ n) : kk S (dg n b) n / 2 ^ 20 = sr (dg n b) n := by
  rw [kk_b hn hb]
  have q1 := b4_lt hn hb
  have q3 := wo_le S (dg n b) n
  generalize b * 4 ^ (8 - n) = X at q1 ⊢
  omega
theorem key_w {S : qS} {n b : Nat} (hn : n ≤ 8) (hb : b < 4 ^ n) : kk S (dg n b) n / 2 ^ 16 &&& 15 = wo S (dg n b) n := by
  have e : ∀ x : Nat, x &&& 15 = x % 16 := fun x => Nat.and_two_pow_sub_one_eq_mod x 4
  rw [e, kk_b hn hb]
  have q1 := b4_lt hn hb
  have q3 := wo_le S (dg n b) n
  generalize b * 4 ^ (8 - n) = X at q1 ⊢
  omega
theorem key_r {S : qS} {n b p : Nat} (hn : n ≤ 8) (hb : b < 4 ^ n) (hp : p < n) : kk S (dg n b) n / 2 ^ ((7 - p) * 2) &&& 3 = dg n b p := by
  have e : ∀ x : Nat, x &&& 3 = x % 4 := fun x => Nat.and_two_pow_sub_one_eq_mod x 2
  rw [e, kk_b hn hb, p24]
  have h1 : sr (dg n b) n * 1048576 + wo S (dg n b) n * 65536 + b * 4 ^ (8 - n) = 4 ^ (8 - n) * (4 ^ (n - 1 - p) * (4 * (4 ^ p * (sr (dg n b) n * 16 + wo S (dg n b) n))) + b) := by
    have h2 : 4 ^ (8 - n) * (4 ^ (n - 1 - p) * (4 * 4 ^ p)) = 65536 := by
      rw [← Nat.pow_succ', ← Nat.pow_add, ← Nat.pow_add, show 8 - n + (n - 1 - p + (p + 1)) = 8 by omega]
    rw [Nat.mul_add, ← Nat.mul_assoc 4 (4 ^ p), ← Nat.mul_assoc (4 ^ (n - 1 - p)), ← Nat.mul_assoc (4 ^ (8 - n)), h2, Nat.mul_comm (4 ^ (8 - n)) b]
    omega
  rw [h1, show 4 ^ (7 - p) = 4 ^ (8 - n) * 4 ^ (n - 1 - p) by rw [← Nat.pow_add]; congr 1; omega, Nat.mul_div_mul_left _ _ (Nat.pow_pos (by decide)), Nat.mul_add_div (Nat.pow_pos (by decide))]
  unfold dg
  omega
