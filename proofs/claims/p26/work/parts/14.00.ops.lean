/-! ranges -/
def inI (x lo hi : Int32) : Bool := decide (lo ≤ x ∧ x ≤ hi)
theorem inI_t {x lo hi : Int32} (h1 : lo ≤ x) (h2 : x ≤ hi) : inI x lo hi = true := decide_eq_true ⟨h1, h2⟩
theorem inI_lo {x lo hi : Int32} (h : x < lo) : inI x lo hi = false := decide_eq_false (fun q => Int32.not_lt.mpr q.1 h)
theorem inI_hi {x lo hi : Int32} (h : hi < x) : inI x lo hi = false := decide_eq_false (fun q => Int32.not_lt.mpr q.2 h)
theorem i_lt {x : Int32} {k : Nat} (hk : k < 2147483647) : x < nI (k + 1) ↔ x ≤ nI k := by
  rw [Int32.lt_iff_toInt_lt, Int32.le_iff_toInt_le, nI_toInt (by omega), nI_toInt (by omega)]
  omega
theorem i_c {n : Nat} (hn : n < 2147483648) : (nI n - nI 1).toInt = (n : Int) - 1 := by
  rw [Int32.toInt_sub, nI_toInt hn, nI_toInt (by decide)]
  rw [Int.bmod_eq_of_le (by omega) (by omega)]
  rfl
theorem i_ltc {x : Int32} {n : Nat} (hn : n < 2147483648) : x < nI n ↔ x ≤ nI n - nI 1 := by
  rw [Int32.lt_iff_toInt_lt, Int32.le_iff_toInt_le, i_c hn, nI_toInt hn]
  omega
theorem inI_nat {x : Int32} {k : Nat} (hk : k < 2147483648) (h : inI x (nI 0) (nI k) = true) : ∃ a, a ≤ k ∧ x = nI a := by
  have h := of_decide_eq_true h
  obtain ⟨j, hj, e⟩ := nI_of (Int32.not_lt.mpr (show (0 : Int32) ≤ x from h.1))
  refine ⟨j, ?_, e⟩
  rw [e] at h
  exact (nI_leI hj hk).mp h.2
theorem inI_cnt {x : Int32} {n : Nat} (hn : n < 2147483648) (h : inI x (nI 0) (nI n - nI 1) = true) : ∃ a, a < n ∧ x = nI a := by
  have h := of_decide_eq_true h
  obtain ⟨j, hj, e⟩ := nI_of (Int32.not_lt.mpr (show (0 : Int32) ≤ x from h.1))
  refine ⟨j, ?_, e⟩
  have h2 := (i_ltc hn).mpr h.2
  rw [e] at h2
  exact (nI_ltI hj hn).mp h2
theorem inI_two {x : Int32} {a k : Nat} (ha : a < 2147483648) (hk : k < 2147483648) (h : inI x (nI a) (nI k) = true) : ∃ b, a ≤ b ∧ b ≤ k ∧ x = nI b := by
  have h := of_decide_eq_true h
  have h0 : (0 : Int32) ≤ x := Int32.le_trans (nI_pos' ha) h.1
  obtain ⟨j, hj, e⟩ := nI_of (Int32.not_lt.mpr h0)
  rw [e] at h
  exact ⟨j, (nI_leI ha hj).mp h.1, (nI_leI hj hk).mp h.2, e⟩
/-- which exception of a call is thrown: none, its first, second, third -/
def th1 (a : Bool) : Int32 := if a = true then nI 0 else nI 1
def th2 (a b : Bool) : Int32 := if a = true then (if b = true then nI 0 else nI 2) else nI 1
def th3 (a b c : Bool) : Int32 := if a = true then (if b = true then (if c = true then nI 0 else nI 3) else nI 2) else nI 1
theorem rfl_th1 : th1 true = nI 0 := rfl
/-- what an actor knows behind learn -/
def knF (k : Bool) (m p : Nat) : Nat := if k = true then m ||| 2 ^ p else clr m p
/-- letting a costume out -/
def leZ (f : Nat → Int32) (x : Int32) : Nat → Int32 := if x = -1 then f else upd f (nv x) (f (nv x) + nI 1)
def leL (f : Nat → Int32) (x : Int32) : Nat → Int32 := if x = -1 then f else upd f (nv x) (nI 1)
def drZ (S : qS) (p : Nat) (z : Int32) : Nat → Int32 := if ftB S p z = true then S 9 else leZ (S 9) (loI S p z)
def drL (S : qS) (p : Nat) (z : Int32) : Nat → Int32 := if ftB S p z = true then S 11 else leL (S 11) (loI S p z)
theorem lo_rng {S : qS} {p : Nat} {z : Int32} (h : ¬ loI S p z = -1) : ∃ k, k < nv (S 29 0) ∧ loI S p z = nI k := by
  unfold loI fi at h ⊢
  split
  · rename_i q; exact ⟨_, q, rfl⟩
  · rename_i q; rw [if_neg q] at h; exact absurd rfl h
/-- the share of a seat's refund, by a cast's key; of a cancelled show -/
def shK (S : qS) (k c : Nat) : Nat :=
  if nv (S 22 k) = 1 then (if nv (S 23 k) < nv (S 27 0) ∧ ¬ acI S (nv (S 23 k)) (c / 2 ^ ((7 - nv (S 23 k)) * 2) &&& 3) = S 24 k then 2 else 0)
  else if nv (S 22 k) = 2 then (if 0 < c / 2 ^ 20 then 4 else 0)
  else if nv (S 22 k) = 3 then (if nv (S 23 k) < nv (S 27 0) ∧ 1 < (c / 2 ^ ((7 - nv (S 23 k)) * 2) &&& 3) then 10 else 0)
  else 0
def shR (S : qS) (x : Int32) (k : Nat) : Nat := if x = -1 then 1 else shK S k (nv x)
/-- refunds, what they are together, the money left -/
def rfF (S : qS) (w : Nat) (x : Int32) : Nat → (Nat → Int32)
  | 0 => S 25
  | k + 1 => if S 21 k = nI w then upd (rfF S w x k) k (gbI S k (shR S x k)) else rfF S w x k
def rfS (S : qS) (w : Nat) (x : Int32) : Nat → Int32
  | 0 => nI 0
  | k + 1 => if S 21 k = nI w then rfS S w x k + gbI S k (shR S x k) else rfS S w x k
def rfM (S : qS) (w : Nat) (x : Int32) : Nat → Int32
  | 0 => S 32 0
  | k + 1 => if S 21 k = nI w then rfM S w x k - gbI S k (shR S x k) else rfM S w x k
theorem rf_n {S : qS} {w k : Nat} {x : Int32} (h : ¬ S 21 k = nI w) : rfF S w x k = rfF S w x (k + 1) ∧ rfS S w x k = rfS S w x (k + 1) ∧ rfM S w x k = rfM S w x (k + 1) :=
  ⟨(if_neg h).symm, (if_neg h).symm, (if_neg h).symm⟩
theorem rf_y {S : qS} {w k : Nat} {x : Int32} (h : S 21 k = nI w) : upd (rfF S w x k) k (gbI S k (shR S x k)) = rfF S w x (k + 1) ∧ rfS S w x k + gbI S k (shR S x k) = rfS S w x (k + 1) ∧ rfM S w x k - gbI S k (shR S x k) = rfM S w x (k + 1) :=
  ⟨(if_pos h).symm, (if_pos h).symm, (if_pos h).symm⟩
/-- the casts of shows: one more part told -/
def csF (f a : Nat → Int32) (w p : Nat) : Nat → Int32 := fun i => if w * 8 ≤ i ∧ i < w * 8 + p then a (i - w * 8) else f i
theorem csF_0 (f a : Nat → Int32) (w : Nat) : csF f a w 0 = f := by funext i; unfold csF; rw [if_neg (by omega)]
theorem csF_s (f a : Nat → Int32) (w p : Nat) : upd (csF f a w p) (w * 8 + p) (a p) = csF f a w (p + 1) := by
  funext i
  show (if i = w * 8 + p then a p else (if w * 8 ≤ i ∧ i < w * 8 + p then a (i - w * 8) else f i)) = (if w * 8 ≤ i ∧ i < w * 8 + (p + 1) then a (i - w * 8) else f i)
  by_cases e : i = w * 8 + p
  · subst e; rw [if_pos rfl, if_pos (by omega), Nat.add_sub_cancel_left]
  · rw [if_neg e]
    by_cases q : w * 8 ≤ i ∧ i < w * 8 + p
    · rw [if_pos q, if_pos (by omega)]
    · rw [if_neg q, if_neg (by omega)]
/-- dressing the cast, part by part -/
def dzF (S : qS) (a : Nat → Int32) : Nat → (Nat → Int32) × (Nat → Int32)
  | 0 => (S 9, S 11)
  | p + 1 => (drZ (va_up (va_up S 9 (dzF S a p).1) 11 (dzF S a p).2) p (S 2 (nv (a p))), drL (va_up (va_up S 9 (dzF S a p).1) 11 (dzF S a p).2) p (S 2 (nv (a p))))
/-- a show's day -/
def illK (S : qS) (d : Nat) : Nat := nv (S 4 d)
def pf17 (S : qS) (m w : Nat) : Nat → Int32 := upd (S 17) w (if bcI S m = -1 then nI 2 else nI 1)
def pf18 (S : qS) (m w : Nat) : Nat → Int32 := if bcI S m = -1 then S 18 else csF (S 18) (bcA S m) w (nv (S 27 0))
def pf9 (S : qS) (m : Nat) : Nat → Int32 := if bcI S m = -1 then S 9 else (dzF S (bcA S m) (nv (S 27 0))).1
def pf11 (S : qS) (m : Nat) : Nat → Int32 := if bcI S m = -1 then S 11 else (dzF S (bcA S m) (nv (S 27 0))).2
theorem bcI_rng {S : qS} {m : Nat} (hI : Inv S) (h : ¬ bcI S m = -1) : ∃ b, bc S m = some b ∧ b < 4 ^ nv (S 27 0) ∧ bcI S m = nI (kk S (dg (nv (S 27 0)) b) (nv (S 27 0))) ∧ kk S (dg (nv (S 27 0)) b) (nv (S 27 0)) < 33554432 := by
  have hn : nv (S 27 0) ≤ 8 := by have := (iv_27 hI).1.2; omega
  unfold bcI at h ⊢
  cases q : bc S m with
  | none => rw [q] at h; exact absurd rfl h
  | some b => exact ⟨b, rfl, (bc_some q).1, rfl, kk_lt hn⟩
theorem bcA_at {S : qS} {m b p : Nat} (hI : Inv S) (h : bc S m = some b) (hp : p < nv (S 27 0)) : acI S p (kk S (dg (nv (S 27 0)) b) (nv (S 27 0)) / 2 ^ ((7 - p) * 2) &&& 3) = bcA S m p ∧ bd (bcA S m p) 12 := by
  have hn : nv (S 27 0) ≤ 8 := by have := (iv_27 hI).1.2; omega
  obtain ⟨h1, h2, -⟩ := bc_some h
  rw [key_r hn h1 hp]
  have o := (ok_s.mp (ok_le (k := p + 1) (by omega) h2.2.2)).2.1
  have h4 := dg_lt (nv (S 27 0)) b p
  rw [avB_at h4, Bool.and_eq_true, decide_eq_true_iff] at o
  have h5 := iv_6 hI p _ (by omega) o.1
  have e : bcA S m p = S 6 (p * 4 + dg (nv (S 27 0)) b p) := by unfold bcA; rw [h]; exact if_pos hp
  rw [e]
  exact ⟨if_pos o.1, h5⟩
/-- an invariant stays where rows that it doesn't speak of, or that still keep it, change -/
theorem inv_pf {S : qS} (hI : Inv S) {f17 f18 f9 f11 : Nat → Int32} (h17 : ∀ i, nv (S 30 0) ≤ i → f17 i = 0) (h18 : ∀ i, 8 * nv (S 30 0) ≤ i → i < 320 → f18 i = -1) (h11 : ∀ i, f11 i = 0 ∨ f11 i = 1) :
    Inv (va_up (va_up (va_up (va_up S 17 f17) 18 f18) 9 f9) 11 f11) := by
  obtain ⟨a1, a2, a3, a4, a5, a6, a7, a8, a9, a10, a11, a12, a13, a14, a15⟩ := hI
  exact ⟨a1, a2, a3, a4, a5, a6, a7, a8, a9, a10, h11, h17, h18, a14, a15⟩
theorem leL_01 {f : Nat → Int32} (h : ∀ i, f i = 0 ∨ f i = 1) (x : Int32) : ∀ i, leL f x i = 0 ∨ leL f x i = 1 := by
  intro i; unfold leL
  split
  · exact h i
  · unfold upd
    split
    · exact Or.inr rfl
    · exact h i
theorem dzF_01 {S : qS} (h : ∀ i, S 11 i = 0 ∨ S 11 i = 1) (a : Nat → Int32) : ∀ p i, (dzF S a p).2 i = 0 ∨ (dzF S a p).2 i = 1
  | 0, i => h i
  | p + 1, i => by
    have ih := dzF_01 h a p
    show drL _ p _ i = 0 ∨ drL _ p _ i = 1
    unfold drL
    split
    · exact ih i
    · exact leL_01 ih _ i
theorem csF_18 {S : qS} (hI : Inv S) {w : Nat} (hw : w < nv (S 30 0)) (a : Nat → Int32) {p : Nat} (hp : p ≤ 8) : ∀ i, 8 * nv (S 30 0) ≤ i → i < 320 → csF (S 18) a w p i = -1 := fun i h1 h2 => by
  unfold csF
  rw [if_neg (by omega)]
  exact iv_18 hI i h1 h2
theorem up_17 {S : qS} (hI : Inv S) {w : Nat} (hw : w < nv (S 30 0)) (x : Int32) : ∀ i, nv (S 30 0) ≤ i → upd (S 17) w x i = 0 := fun i h1 => by
  rw [upd_n _ _ (by omega)]; exact iv_17 hI i h1
/-- the play of a day -/
def shW (S : qS) (d : Int32) : Nat := fs (shP S d) (nv (S 30 0))
def shB (S : qS) (d : Int32) : Bool := ex (shP S d) (nv (S 30 0))
theorem sh_rng {S : qS} {d : Int32} (h : ¬ shI S d = -1) : shB S d = true ∧ shW S d < nv (S 30 0) ∧ shI S d = nI (shW S d) := by
  unfold shI fi at h ⊢
  unfold shB ex shW
  split
  · rename_i q; exact ⟨decide_eq_true q, q, rfl⟩
  · rename_i q; rw [if_neg q] at h; exact absurd rfl h
theorem sh_no {S : qS} {d : Int32} (h : shI S d = -1) : shB S d = false := (fi_ne (Nat.le_of_lt (nv_lt _))).mp h
def plM (S : qS) : Nat := nv (S 4 (nv (S 28 0)))
def pl17 (S : qS) : Nat → Int32 := if shB S (S 28 0) = true then pf17 S (plM S) (shW S (S 28 0)) else S 17
def pl18 (S : qS) : Nat → Int32 := if shB S (S 28 0) = true then pf18 S (plM S) (shW S (S 28 0)) else S 18
def pl9 (S : qS) : Nat → Int32 := if shB S (S 28 0) = true then pf9 S (plM S) else S 9
def pl11 (S : qS) : Nat → Int32 := if shB S (S 28 0) = true then pf11 S (plM S) else S 11
def pl25 (S : qS) : Nat → Int32 := if shB S (S 28 0) = true then rfF S (shW S (S 28 0)) (bcI S (plM S)) (nv (S 31 0)) else S 25
def pl32 (S : qS) : Int32 := if shB S (S 28 0) = true then rfM S (shW S (S 28 0)) (bcI S (plM S)) (nv (S 31 0)) else S 32 0
def plR (S : qS) : Int32 := if shB S (S 28 0) = true then rfS S (shW S (S 28 0)) (bcI S (plM S)) (nv (S 31 0)) else nI 0
/-- how many parts would be played by others -/
def chN (S : qS) (b b2 : Nat) : Nat → Nat
  | 0 => 0
  | p + 1 => chN S b b2 p + (if S 6 (p * 4 + dg (nv (S 27 0)) b p) = S 6 (p * 4 + dg (nv (S 27 0)) b2 p) then 0 else 1)
def chI (S : qS) (m a : Nat) : Int32 := match bc S m, bc S (m ||| 2 ^ a) with
  | some b, some b2 => nI (chN S b b2 (nv (S 27 0)))
  | _, _ => -1
theorem bcA_v {S : qS} {m b p : Nat} (h : bc S m = some b) (hp : p < nv (S 27 0)) : bcA S m p = S 6 (p * 4 + dg (nv (S 27 0)) b p) := by unfold bcA; rw [h]; exact if_pos hp
theorem coN_ch {S : qS} {m m2 b b2 : Nat} (hI : Inv S) (h : bc S m = some b) (h2 : bc S m2 = some b2) : ∀ p, p ≤ nv (S 27 0) → coN S (kk S (dg (nv (S 27 0)) b) (nv (S 27 0))) (kk S (dg (nv (S 27 0)) b2) (nv (S 27 0))) p = chN S b b2 p
  | 0, _ => rfl
  | p + 1, hp => by
    show coN S _ _ p + _ = chN S b b2 p + _
    rw [coN_ch hI h h2 p (by omega), (bcA_at hI h (by omega)).1, (bcA_at hI h2 (by omega)).1, bcA_v h (by omega), bcA_v h2 (by omega)]
theorem shR_le (S : qS) (x : Int32) (k : Nat) : shR S x k ≤ 10 := by
  unfold shR
  split
  · decide
  · unfold shK
    split
    · split <;> decide
    · split
      · split <;> decide
      · split
        · split <;> decide
        · decide
theorem bcI_no {S : qS} (hI : Inv S) {m : Nat} (h : bcI S m = -1) : bc S m = none := by
  have hn : nv (S 27 0) ≤ 8 := by have := (iv_27 hI).1.2; omega
  unfold bcI at h
  cases q : bc S m with
  | none => rfl
  | some b =>
    rw [q] at h
    have h1 := kk_lt (S := S) (c := dg (nv (S 27 0)) b) hn
    exact (m1_ne (n := kk S (dg (nv (S 27 0)) b) (nv (S 27 0))) (by omega) h).elim
theorem bcI_nv {S : qS} (hI : Inv S) (m : Nat) : ¬ bcI S m = -1 → bcI S m = nI (nv (bcI S m)) := fun h => by
  obtain ⟨b, -, -, e, k⟩ := bcI_rng hI h
  rw [e, nv_nI (by omega)]
theorem rk_rng {S : qS} {p : Nat} {x : Int32} (h : ¬ rkI S p x = -1) : rkI S p x = nI (nv (rkI S p x)) ∧ nv (rkI S p x) < nv (S 7 p) := by
  unfold rkI fi at h ⊢
  split
  · rename_i q
    have := nv_lt (S 7 p)
    rw [nv_nI (by omega)]; exact ⟨rfl, q⟩
  · rename_i q; rw [if_neg q] at h; exact absurd rfl h
theorem knF_lt (k : Bool) {m p : Nat} (hm : m < 256) (hp : p < 8) : knF k m p < 256 := by
  unfold knF
  split
  · exact or_lt (n := 8) hm hp
  · unfold clr
    split
    · exact Nat.lt_of_le_of_lt (Nat.sub_le _ _) hm
    · exact hm
theorem inv_pf4 {S : qS} (hI : Inv S) {m w : Nat} (hw : w < nv (S 30 0)) : Inv (va_up (va_up (va_up (va_up S 17 (pf17 S m w)) 18 (pf18 S m w)) 9 (pf9 S m)) 11 (pf11 S m)) := by
  have hn : nv (S 27 0) ≤ 8 := by have := (iv_27 hI).1.2; omega
  refine inv_pf hI (up_17 hI hw _) ?_ ?_
  · unfold pf18
    split
    · exact iv_18 hI
    · exact csF_18 hI hw _ hn
  · unfold pf11
    split
    · exact iv_11 hI
    · exact dzF_01 (iv_11 hI) _ _
/-- refunds don't look at what is dressed and played -/
theorem rfF_cg (S : qS) (a b c d : Nat → Int32) (w : Nat) (x : Int32) : ∀ k, rfF (va_up (va_up (va_up (va_up S 17 a) 18 b) 9 c) 11 d) w x k = rfF S w x k
  | 0 => rfl
  | k + 1 => by
    show (if S 21 k = nI w then upd (rfF (va_up (va_up (va_up (va_up S 17 a) 18 b) 9 c) 11 d) w x k) k (gbI S k (shR S x k)) else rfF (va_up (va_up (va_up (va_up S 17 a) 18 b) 9 c) 11 d) w x k) = (if S 21 k = nI w then upd (rfF S w x k) k (gbI S k (shR S x k)) else rfF S w x k)
    rw [rfF_cg S a b c d w x k]
theorem rfS_cg (S : qS) (a b c d : Nat → Int32) (w : Nat) (x : Int32) : ∀ k, rfS (va_up (va_up (va_up (va_up S 17 a) 18 b) 9 c) 11 d) w x k = rfS S w x k
  | 0 => rfl
  | k + 1 => by
    show (if S 21 k = nI w then rfS (va_up (va_up (va_up (va_up S 17 a) 18 b) 9 c) 11 d) w x k + gbI S k (shR S x k) else rfS (va_up (va_up (va_up (va_up S 17 a) 18 b) 9 c) 11 d) w x k) = (if S 21 k = nI w then rfS S w x k + gbI S k (shR S x k) else rfS S w x k)
    rw [rfS_cg S a b c d w x k]
theorem rfM_cg (S : qS) (a b c d : Nat → Int32) (w : Nat) (x : Int32) : ∀ k, rfM (va_up (va_up (va_up (va_up S 17 a) 18 b) 9 c) 11 d) w x k = rfM S w x k
  | 0 => rfl
  | k + 1 => by
    show (if S 21 k = nI w then rfM (va_up (va_up (va_up (va_up S 17 a) 18 b) 9 c) 11 d) w x k - gbI S k (shR S x k) else rfM (va_up (va_up (va_up (va_up S 17 a) 18 b) 9 c) 11 d) w x k) = (if S 21 k = nI w then rfM S w x k - gbI S k (shR S x k) else rfM S w x k)
    rw [rfM_cg S a b c d w x k]
