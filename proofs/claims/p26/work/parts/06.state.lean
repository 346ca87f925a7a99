/-! what holds of every state that calls reach, and what methods answer of it -/
def Inv (S : qS) : Prop :=
  (bd (S 27 0) 9 ∧ 1 ≤ nv (S 27 0)) ∧ bd (S 28 0) 1001 ∧ bd (S 29 0) 41 ∧ bd (S 30 0) 41 ∧ bd (S 31 0) 101 ∧
  (∀ i, i < 12 → bd (S 3 i) 256 ∧ pc12 (nv (S 3 i)) ≤ 4) ∧
  (∀ d, d < 1001 → bd (S 4 d) 4096) ∧
  (∀ p, p < 8 → bd (S 7 p) 5) ∧
  (∀ p r, p < 8 → r < nv (S 7 p) → bd (S 6 (p * 4 + r)) 12) ∧
  (∀ p r r', p < 8 → r < nv (S 7 p) → r' < r → ¬ S 6 (p * 4 + r') = S 6 (p * 4 + r)) ∧
  (∀ i, S 11 i = 0 ∨ S 11 i = 1) ∧
  (∀ i, nv (S 30 0) ≤ i → S 17 i = 0) ∧
  (∀ i, 8 * nv (S 30 0) ≤ i → i < 320 → S 18 i = -1) ∧
  (∀ i j, i < nv (S 30 0) → j < i → ¬ S 19 j = S 19 i) ∧
  (∀ i, i < nv (S 31 0) → bd (S 22 i) 4 ∧ bd (S 23 i) 8)
theorem iv_27 {S : qS} (h : Inv S) : bd (S 27 0) 9 ∧ 1 ≤ nv (S 27 0) := h.1
theorem iv_28 {S : qS} (h : Inv S) : bd (S 28 0) 1001 := h.2.1
theorem iv_29 {S : qS} (h : Inv S) : bd (S 29 0) 41 := h.2.2.1
theorem iv_30 {S : qS} (h : Inv S) : bd (S 30 0) 41 := h.2.2.2.1
theorem iv_31 {S : qS} (h : Inv S) : bd (S 31 0) 101 := h.2.2.2.2.1
theorem iv_3 {S : qS} (h : Inv S) : ∀ i, i < 12 → bd (S 3 i) 256 ∧ pc12 (nv (S 3 i)) ≤ 4 := h.2.2.2.2.2.1
theorem iv_4 {S : qS} (h : Inv S) : ∀ d, d < 1001 → bd (S 4 d) 4096 := h.2.2.2.2.2.2.1
theorem iv_7 {S : qS} (h : Inv S) : ∀ p, p < 8 → bd (S 7 p) 5 := h.2.2.2.2.2.2.2.1
theorem iv_6 {S : qS} (h : Inv S) : ∀ p r, p < 8 → r < nv (S 7 p) → bd (S 6 (p * 4 + r)) 12 := h.2.2.2.2.2.2.2.2.1
theorem iv_6d {S : qS} (h : Inv S) : ∀ p r r', p < 8 → r < nv (S 7 p) → r' < r → ¬ S 6 (p * 4 + r') = S 6 (p * 4 + r) := h.2.2.2.2.2.2.2.2.2.1
theorem iv_11 {S : qS} (h : Inv S) : ∀ i, S 11 i = 0 ∨ S 11 i = 1 := h.2.2.2.2.2.2.2.2.2.2.1
theorem iv_17 {S : qS} (h : Inv S) : ∀ i, nv (S 30 0) ≤ i → S 17 i = 0 := h.2.2.2.2.2.2.2.2.2.2.2.1
theorem iv_18 {S : qS} (h : Inv S) : ∀ i, 8 * nv (S 30 0) ≤ i → i < 320 → S 18 i = -1 := h.2.2.2.2.2.2.2.2.2.2.2.2.1
theorem iv_19 {S : qS} (h : Inv S) : ∀ i j, i < nv (S 30 0) → j < i → ¬ S 19 j = S 19 i := h.2.2.2.2.2.2.2.2.2.2.2.2.2.1
theorem iv_22 {S : qS} (h : Inv S) : ∀ i, i < nv (S 31 0) → bd (S 22 i) 4 ∧ bd (S 23 i) 8 := h.2.2.2.2.2.2.2.2.2.2.2.2.2.2
/-- how many parts, actors in a row, costumes, shows, seats -/
abbrev nP (S : qS) : Nat := nv (S 27 0)
abbrev ln (S : qS) (p : Nat) : Nat := nv (S 7 p)
/-- the actor of a rank; the rank of an actor -/
def acI (S : qS) (p r : Nat) : Int32 := if r < nv (S 7 p) then S 6 (p * 4 + r) else -1
def rkP (S : qS) (p : Nat) (x : Int32) : Nat → Bool := fun r => decide (S 6 (p * 4 + r) = x)
def rkI (S : qS) (p : Nat) (x : Int32) : Int32 := fi (rkP S p x) (nv (S 7 p))
def rkB (S : qS) (p : Nat) (x : Int32) : Bool := ex (rkP S p x) (nv (S 7 p))
/-- costumes: one that fits, one that can be let out -/
def ftP (S : qS) (p : Nat) (z : Int32) : Nat → Bool := fun k => decide (S 10 k = nI p ∧ S 9 k = z)
def ftI (S : qS) (p : Nat) (z : Int32) : Int32 := fi (ftP S p z) (nv (S 29 0))
def ftB (S : qS) (p : Nat) (z : Int32) : Bool := ex (ftP S p z) (nv (S 29 0))
def loP (S : qS) (p : Nat) (z : Int32) : Nat → Bool := fun k => decide (S 10 k = nI p ∧ S 9 k + 1 = z ∧ S 11 k = 0)
def loI (S : qS) (p : Nat) (z : Int32) : Int32 := fi (loP S p z) (nv (S 29 0))
def loB (S : qS) (p : Nat) (z : Int32) : Bool := ex (loP S p z) (nv (S 29 0))
/-- the show on a day -/
def shP (S : qS) (d : Int32) : Nat → Bool := fun k => decide (S 19 k = d)
def shI (S : qS) (d : Int32) : Int32 := fi (shP S d) (nv (S 30 0))
/-- the row of a part without one, those behind moved up -/
def sfT (f : Nat → Int32) (b n : Nat) : Nat → Int32 := fun i => if b ≤ i ∧ i + 1 < n then f (i + 1) else f i
theorem sfT_0 (f : Nat → Int32) (b : Nat) : sfT f b (b + 1) = f := by
  funext i; unfold sfT; split
  · omega
  · rfl
theorem sfT_s (f : Nat → Int32) (b n : Nat) (h : b < n) : upd (sfT f b n) (n - 1) (f n) = sfT f b (n + 1) := by
  funext i; unfold upd sfT
  split
  · rename_i e; subst e
    rw [if_pos (by omega)]
    congr 1; omega
  · rename_i e
    split
    · rw [if_pos (by omega)]
    · rw [if_neg (by omega)]
/-- what a seat gives back, by what share -/
def gbI (S : qS) (k n : Nat) : Int32 := if n = 0 then 0 else (S 26 k + nI n - 1) / nI n
