/-! what the loops make, step by step, in the words of numbers -/
theorem nv_lt (x : Int32) : nv x < 2147483648 := by
  have h := Int32.toInt_lt x
  have e : nv x = x.toInt.toNat := rfl
  rw [e]; omega
/-- who can play on a day, those of the mask m being ill -/
def rdy (S : qS) (a p m : Nat) : Bool := (nv (S 3 a)).testBit p && (!m.testBit a && (ftB S p (S 2 a) || loB S p (S 2 a)))
def avB (S : qS) (m i : Nat) : Bool := decide (i % 4 < nv (S 7 (i / 4))) && rdy S (nv (S 6 i)) (i / 4) m
def wk (S : qS) (i : Nat) : Nat := if ftB S (i / 4) (S 2 (nv (S 6 i))) = true then 0 else 1
/-- what a place adds to a cast's key -/
def ky (S : qS) (i : Nat) : Nat := i % 4 * 2 ^ 20 + wk S i * 2 ^ 16 + i % 4 * 2 ^ ((7 - i / 4) * 2)
theorem i4 {p r : Nat} (h : r < 4) : (p * 4 + r) % 4 = r ∧ (p * 4 + r) / 4 = p := by omega
theorem avB_at {S : qS} {m p r : Nat} (h : r < 4) : avB S m (p * 4 + r) = (decide (r < nv (S 7 p)) && rdy S (nv (S 6 (p * 4 + r))) p m) := by
  unfold avB; rw [(i4 h).1, (i4 h).2]
theorem ft_t {S : qS} {p : Nat} {z : Int32} (h : ¬ ftI S p z = -1) : ftB S p z = true := by
  cases q : ftB S p z with
  | true => rfl
  | false => exact absurd ((fi_ne (Nat.le_of_lt (nv_lt _))).mpr q) h
theorem ft_f {S : qS} {p : Nat} {z : Int32} (h : ftI S p z = -1) : ftB S p z = false := (fi_ne (Nat.le_of_lt (nv_lt _))).mp h
theorem lo_t {S : qS} {p : Nat} {z : Int32} (h : ¬ loI S p z = -1) : loB S p z = true := by
  cases q : loB S p z with
  | true => rfl
  | false => exact absurd ((fi_ne (Nat.le_of_lt (nv_lt _))).mpr q) h
theorem lo_f {S : qS} {p : Nat} {z : Int32} (h : loI S p z = -1) : loB S p z = false := (fi_ne (Nat.le_of_lt (nv_lt _))).mp h
theorem rk_t {S : qS} {p : Nat} {z : Int32} (h : ¬ rkI S p z = -1) : rkB S p z = true := by
  cases q : rkB S p z with
  | true => rfl
  | false => exact absurd ((fi_ne (Nat.le_of_lt (nv_lt _))).mpr q) h
theorem rk_f {S : qS} {p : Nat} {z : Int32} (h : rkI S p z = -1) : rkB S p z = false := (fi_ne (Nat.le_of_lt (nv_lt _))).mp h
theorem ac_t {S : qS} (hI : Inv S) {p r : Nat} (hp : p < 8) (h : ¬ acI S p r = -1) : r < nv (S 7 p) ∧ acI S p r = nI (nv (S 6 (p * 4 + r))) ∧ nv (S 6 (p * 4 + r)) < 12 := by
  unfold acI at h ⊢
  split
  · rename_i q
    exact ⟨q, (iv_6 hI p r hp q).1, (iv_6 hI p r hp q).2⟩
  · rename_i q
    rw [if_neg q] at h
    exact absurd rfl h
theorem ac_f {S : qS} (hI : Inv S) {p r : Nat} (hp : p < 8) (h : acI S p r = -1) : ¬ r < nv (S 7 p) := fun q => by
  unfold acI at h
  rw [if_pos q, (iv_6 hI p r hp q).1] at h
  exact m1_ne (by have := (iv_6 hI p r hp q).2; omega) h
/-- colds -/
def ilF (f : Nat → Int32) (a d0 d : Nat) : Nat → Int32 := fun i => if d0 ≤ i ∧ i < d then nI (nv (f i) ||| 2 ^ a) else f i
def ilC (f : Nat → Int32) (a d0 : Nat) : Nat → Nat
  | 0 => 0
  | n + 1 => ilC f a d0 n + (if (nv (f (d0 + n))).testBit a = true then 0 else 1)
theorem ilF_0 (f : Nat → Int32) (a d0 : Nat) : ilF f a d0 (d0 + 0) = f := by
  funext i; unfold ilF; rw [if_neg (by omega)]
theorem ilF_at (f : Nat → Int32) (a d0 n : Nat) : ilF f a d0 (d0 + n) (d0 + n) = f (d0 + n) := by
  unfold ilF; rw [if_neg (by omega)]
theorem ilF_w (f : Nat → Int32) (a d0 n : Nat) : upd (ilF f a d0 (d0 + n)) (d0 + n) (nI (nv (f (d0 + n)) ||| 2 ^ a)) = ilF f a d0 (d0 + (n + 1)) := by
  funext i; unfold upd ilF
  split
  · rename_i e; subst e; rw [if_pos (by omega)]
  · split
    · rw [if_pos (by omega)]
    · rw [if_neg (by omega)]
theorem or_bit {m a : Nat} (h : m.testBit a = true) : m ||| 2 ^ a = m := by
  apply Nat.eq_of_testBit_eq
  intro i
  rw [Nat.testBit_or, Nat.testBit_two_pow]
  by_cases e : a = i
  · subst e; rw [h]; rfl
  · simp [e]
theorem ilF_n (f : Nat → Int32) (a d0 n : Nat) (hf : f (d0 + n) = nI (nv (f (d0 + n)))) (hb : (nv (f (d0 + n))).testBit a = true) : ilF f a d0 (d0 + n) = ilF f a d0 (d0 + (n + 1)) := by
  rw [← ilF_w, or_bit hb, ← hf]
  exact (upd_eq (ilF_at f a d0 n)).symm
theorem ilC_t (f : Nat → Int32) (a d0 n : Nat) (hb : (nv (f (d0 + n))).testBit a = true) : ilC f a d0 n = ilC f a d0 (n + 1) := by
  show _ = ilC f a d0 n + _; rw [if_pos hb]; rfl
theorem ilC_f (f : Nat → Int32) (a d0 n : Nat) (hb : (nv (f (d0 + n))).testBit a = false) : ilC f a d0 n + 1 = ilC f a d0 (n + 1) := by
  show _ = ilC f a d0 n + _; rw [if_neg (by rw [hb]; decide)]
/-- the search's rows: emptied, and filled with those who can -/
def clF (f : Nat → Int32) (n : Nat) : Nat → Int32 := fun i => if i < n then -1 else f i
theorem clF_0 (f : Nat → Int32) : clF f 0 = f := by funext i; unfold clF; rw [if_neg (by omega)]
theorem clF_s (f : Nat → Int32) (n : Nat) : upd (clF f n) n (-1) = clF f (n + 1) := by
  funext i; unfold upd clF
  split
  · rename_i e; subst e; rw [if_pos (by omega)]
  · split
    · rw [if_pos (by omega)]
    · rw [if_neg (by omega)]
def ofA (S : qS) (m : Nat) (f : Nat → Int32) (P : Nat) : Nat → Int32 := fun i => if i < P ∧ avB S m i = true then nI (nv (S 6 i)) else f i
def ofK (S : qS) (m : Nat) (f : Nat → Int32) (P : Nat) : Nat → Int32 := fun i => if i < P ∧ avB S m i = true then nI (ky S i) else f i
def ofB (S : qS) (m : Nat) : Nat → Nat
  | 0 => 1
  | P + 1 => if avB S m P = true then max (ofB S m P) (2 * 2 ^ nv (S 6 P)) else ofB S m P
theorem ofX_0 (S : qS) (m : Nat) (f g : Nat → Int32) : (fun i => if i < 0 ∧ avB S m i = true then g i else f i) = f := by
  funext i; rw [if_neg (fun q => absurd q.1 (Nat.not_lt_zero i))]
theorem ofX_n {S : qS} {m P : Nat} {f g : Nat → Int32} (h : avB S m P = false) : (fun i => if i < P ∧ avB S m i = true then g i else f i) = (fun i => if i < P + 1 ∧ avB S m i = true then g i else f i) := by
  funext i
  split
  · rename_i q; rw [if_pos ⟨by omega, q.2⟩]
  · rename_i q
    rw [if_neg (fun q2 => by
      rcases Nat.lt_or_ge i P with q3 | q3
      · exact q ⟨q3, q2.2⟩
      · have e : i = P := by omega
        rw [e, h] at q2; exact Bool.noConfusion q2.2)]
theorem ofX_w {S : qS} {m P : Nat} {f g : Nat → Int32} (h : avB S m P = true) : upd (fun i => if i < P ∧ avB S m i = true then g i else f i) P (g P) = (fun i => if i < P + 1 ∧ avB S m i = true then g i else f i) := by
  funext i
  show (if i = P then g P else (if i < P ∧ avB S m i = true then g i else f i)) = (if i < P + 1 ∧ avB S m i = true then g i else f i)
  by_cases e : i = P
  · subst e; rw [if_pos rfl, if_pos ⟨by omega, h⟩]
  · rw [if_neg e]
    by_cases q : i < P ∧ avB S m i = true
    · rw [if_pos q, if_pos ⟨by omega, q.2⟩]
    · rw [if_neg q, if_neg (fun q2 => q ⟨by omega, q2.2⟩)]
theorem ofB_n {S : qS} {m P : Nat} (h : avB S m P = false) : ofB S m P = ofB S m (P + 1) := by
  show _ = if avB S m P = true then _ else _
  rw [if_neg (by rw [h]; decide)]
theorem ofB_w {S : qS} {m P : Nat} (h : avB S m P = true) : max (ofB S m P) (2 * 2 ^ nv (S 6 P)) = ofB S m (P + 1) := by
  show _ = if avB S m P = true then _ else _
  rw [if_pos h]
theorem max_J {a b : Nat} (ha : a < 2147483648) (hb : b < 2147483648) : (if nI a < nI b then nI b else nI a) = nI (max a b) := by
  split
  · rename_i h; rw [nI_ltI ha hb] at h; rw [Nat.max_eq_right (Nat.le_of_lt h)]
  · rename_i h; rw [nI_ltI ha hb] at h; rw [Nat.max_eq_left (Nat.le_of_not_lt h)]
/-- the search by sets: one part, one set -/
def cpS (A K : Nat → Int32) (p s : Nat) (key : Int32) (r : Nat) (f : Nat → Int32) : Nat → Int32 :=
  if A (p * 4 + r) = -1 ∨ s.testBit (nv (A (p * 4 + r))) = true then f
  else if f (s ||| 2 ^ nv (A (p * 4 + r))) = -1 ∨ key + K (p * 4 + r) < f (s ||| 2 ^ nv (A (p * 4 + r))) then upd f (s ||| 2 ^ nv (A (p * 4 + r))) (key + K (p * 4 + r)) else f
def cpF (A K : Nat → Int32) (p s : Nat) (key : Int32) : Nat → (Nat → Int32) → (Nat → Int32)
  | 0, f => f
  | r + 1, f => cpS A K p s key r (cpF A K p s key r f)
theorem cpF_s (A K : Nat → Int32) (p s : Nat) (key : Int32) (r : Nat) (f : Nat → Int32) : cpF A K p s key (r + 1) f = cpS A K p s key r (cpF A K p s key r f) := rfl
theorem or_lt {s a n : Nat} (hs : s < 2 ^ n) (ha : a < n) : s ||| 2 ^ a < 2 ^ n := Nat.or_lt_two_pow hs (Nat.pow_lt_pow_right (by decide) ha)
/-- .. all sets -/
def lkS (A K : Nat → Int32) (n s : Nat) (T : (Nat → Int32) × Int32) : (Nat → Int32) × Int32 :=
  if T.1 s = -1 then (upd T.1 s (-1), T.2)
  else if pcn 12 s < n then (cpF A K (pcn 12 s) s (T.1 s) 4 (upd T.1 s (-1)), T.2)
  else (upd T.1 s (-1), if T.2 = -1 ∨ T.1 s < T.2 then T.1 s else T.2)
def lkF (A K f : Nat → Int32) (n : Nat) : Nat → (Nat → Int32) × Int32
  | 0 => (upd f 0 (nI 0), -1)
  | s + 1 => lkS A K n s (lkF A K f n s)
theorem lkF_s (A K f : Nat → Int32) (n s : Nat) : lkF A K f n (s + 1) = lkS A K n s (lkF A K f n s) := rfl
theorem pcn_le (m : Nat) : ∀ k, pcn k m ≤ k
  | 0 => Nat.le_refl 0
  | k + 1 => by
    have ih := pcn_le m k
    simp only [pcn]
    split <;> omega
/-- the search that tries all -/
def lfL (f : Nat → Int32) (g : Nat → Int32) (p s : Nat) : Nat → Int32
  | 0 => -1
  | r + 1 => if f (p * 4 + r) = -1 ∨ s.testBit (nv (f (p * 4 + r))) = true then lfL f g p s r
    else if g (s ||| 2 ^ nv (f (p * 4 + r))) = -1 then lfL f g p s r
    else if lfL f g p s r = -1 ∨ nI r + g (s ||| 2 ^ nv (f (p * 4 + r))) < lfL f g p s r then nI r + g (s ||| 2 ^ nv (f (p * 4 + r))) else lfL f g p s r
def lfF (f : Nat → Int32) (n : Nat) : Nat → Nat → Nat → Int32
  | 0, _, _ => nI 0
  | d + 1, p, s => if n ≤ p ∨ 8 ≤ p then nI 0 else lfL f (lfF f n d (p + 1)) p s 4
/-- casts by the ranks of their actors: who is used, whether it is one, its key -/
def us (S : qS) (c : Nat → Nat) : Nat → Nat
  | 0 => 0
  | k + 1 => us S c k ||| 2 ^ nv (S 6 (k * 4 + c k))
def ok (S : qS) (m : Nat) (c : Nat → Nat) : Nat → Bool
  | 0 => true
  | k + 1 => ok S m c k && (avB S m (k * 4 + c k) && !(us S c k).testBit (nv (S 6 (k * 4 + c k))))
def kk (S : qS) (c : Nat → Nat) : Nat → Nat
  | 0 => 0
  | k + 1 => kk S c k + ky S (k * 4 + c k)
def sr (c : Nat → Nat) : Nat → Nat
  | 0 => 0
  | k + 1 => sr c k + c k
def wo (S : qS) (c : Nat → Nat) : Nat → Nat
  | 0 => 0
  | k + 1 => wo S c k + wk S (k * 4 + c k)
/-- the ranks that a number tells -/
def dg (n b : Nat) : Nat → Nat := fun p => b / 4 ^ (n - 1 - p) % 4
/-- the best of the casts below c -/
def bcR (S : qS) (m n : Nat) : Nat → Option Nat
  | 0 => none
  | c + 1 => if ok S m (dg n c) n = true then (match bcR S m n c with
      | none => some c
      | some b => if sr (dg n c) n < sr (dg n b) n ∨ sr (dg n c) n = sr (dg n b) n ∧ wo S (dg n c) n < wo S (dg n b) n then some c else some b)
    else bcR S m n c
/-- the best cast: its ranks as a number -/
def bc (S : qS) (m : Nat) : Option Nat := bcR S m (nP S) (4 ^ nP S)
def bcI (S : qS) (m : Nat) : Int32 := match bc S m with
  | none => -1
  | some b => nI (kk S (dg (nP S) b) (nP S))
def bcS (S : qS) (m : Nat) : Int32 := match bc S m with
  | none => -1
  | some b => nI (sr (dg (nP S) b) (nP S))
def bcW (S : qS) (m : Nat) : Int32 := match bc S m with
  | none => -1
  | some b => nI (wo S (dg (nP S) b) (nP S))
/-- who plays a part in it -/
def bcA (S : qS) (m p : Nat) : Int32 := match bc S m with
  | none => -1
  | some b => if p < nP S then S 6 (p * 4 + dg (nP S) b p) else -1
/-- parts that two casts give to different actors -/
def coN (S : qS) (k k2 : Nat) : Nat → Nat
  | 0 => 0
  | p + 1 => coN S k k2 p + (if acI S p (k / 2 ^ ((7 - p) * 2) &&& 3) = acI S p (k2 / 2 ^ ((7 - p) * 2) &&& 3) then 0 else 1)
theorem coN_e {S : qS} {k k2 p : Nat} (h : acI S p (k / 2 ^ ((7 - p) * 2) &&& 3) = acI S p (k2 / 2 ^ ((7 - p) * 2) &&& 3)) : coN S k k2 p = coN S k k2 (p + 1) := by
  show _ = coN S k k2 p + _; rw [if_pos h]; rfl
theorem coN_n {S : qS} {k k2 p : Nat} (h : ¬ acI S p (k / 2 ^ ((7 - p) * 2) &&& 3) = acI S p (k2 / 2 ^ ((7 - p) * 2) &&& 3)) : coN S k k2 p + 1 = coN S k k2 (p + 1) := by
  show _ = coN S k k2 p + _; rw [if_neg h]
theorem lfL_s (f g : Nat → Int32) (p s r : Nat) : lfL f g p s (r + 1) = if f (p * 4 + r) = -1 ∨ s.testBit (nv (f (p * 4 + r))) = true then lfL f g p s r
    else if g (s ||| 2 ^ nv (f (p * 4 + r))) = -1 then lfL f g p s r
    else if lfL f g p s r = -1 ∨ nI r + g (s ||| 2 ^ nv (f (p * 4 + r))) < lfL f g p s r then nI r + g (s ||| 2 ^ nv (f (p * 4 + r))) else lfL f g p s r := rfl
/-- between searches no set has a key -/
def jk (J : qS) : Prop := ∀ i, i < 4096 → J 15 i = -1
theorem avB_in {S : qS} (hI : Inv S) {m i : Nat} (hi : i < 32) (h : avB S m i = true) : bd (S 6 i) 12 := by
  unfold avB at h
  rw [Bool.and_eq_true, decide_eq_true_iff] at h
  have q := iv_6 hI (i / 4) (i % 4) (by omega) h.1
  rw [show i / 4 * 4 + i % 4 = i by omega] at q
  exact q
theorem ofB_le {S : qS} (hI : Inv S) (m : Nat) : ∀ P, P ≤ 32 → ofB S m P ≤ 4096
  | 0, _ => by show 1 ≤ 4096; decide
  | P + 1, h => by
    have ih := ofB_le hI m P (by omega)
    unfold ofB
    split
    · rename_i q
      have h1 := (avB_in hI (by omega) q).2
      have h2 := Nat.pow_le_pow_right (n := 2) (by decide) (show nv (S 6 P) ≤ 11 by omega)
      exact Nat.max_le.mpr ⟨ih, by omega⟩
    · exact ih
theorem ofA_ok {S : qS} (hI : Inv S) (m : Nat) (f : Nat → Int32) (hf : ∀ i, i < 32 → f i = -1) (P : Nat) : ∀ i, i < 32 → ofA S m f P i = -1 ∨ bd (ofA S m f P i) 12 := by
  intro i hi
  unfold ofA
  split
  · rename_i q
    have := avB_in hI hi q.2
    rw [← this.1]; exact Or.inr this
  · exact Or.inl (hf i hi)
