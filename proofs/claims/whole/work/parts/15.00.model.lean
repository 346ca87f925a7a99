/-! the reference: what its methods make -/
abbrev wMg (cy : qT) (g : Nat → Nat) (S K : qS) (fI fC : Nat → Int32) : va_W := [(g 0, .inr (7, [.int (S 27 0), .ref (g 1), .ref (g 2), .ref (g 3), .ref (g 4), .ref (g 5), .ref (g 6), .ref (g 7), .int (S 29 0), .ref (g 9), .ref (g 10), .ref (g 11), .ref (g 12), .int (S 30 0), .ref (g 14), .ref (g 15), .ref (g 16), .ref (g 17), .ref (g 18), .ref (g 19), .int (S 31 0), .int (S 28 0), .int (S 32 0), .ref (g 23), .ref (g 24), .ref (g 25), .int (K 26 0), .int (K 27 0), .int (K 28 0)])),
  (g 1, aI cy 12 (S 2)), (g 2, aI cy 12 (S 3)), (g 3, aI cy 32 (S 6)), (g 4, aI cy 8 (S 7)), (g 5, aI cy 40 (S 10)), (g 6, aI cy 40 (S 9)), (g 7, aI cy 40 (S 11)), (g 9, aI cy 12012 fI), (g 10, aI cy 40 (S 19)), (g 11, aI cy 40 (S 17)), (g 12, aI cy 320 fC),
  (g 14, aI cy 100 (S 21)), (g 15, aI cy 100 (S 26)), (g 16, aI cy 100 (S 22)), (g 17, aI cy 100 (S 23)), (g 18, aI cy 100 (S 24)), (g 19, aI cy 100 (S 25)), (g 23, aI cy 32 (K 23)), (g 24, aI cy 8 (K 24)), (g 25, aI cy 8 (K 25))]
/-- how a public method of the reference ends: what it would throw, what it answers, its state -/
def mO (th res : Int32) (S1 S : qS) (r : Int32) (u : qS × qS) : Prop := u.2 28 0 = th ∧ ((th = nI 0 ∧ r = res ∧ u.1 = S1) ∨ (¬ th = nI 0 ∧ r = nI 0 ∧ u.1 = S))
theorem mO_ok {th res : Int32} {S1 S : qS} {r : Int32} {K : qS} (h : th = nI 0) (hr : r = res) (hk : K 28 0 = nI 0) : mO th res S1 S r (S1, K) := ⟨hk.trans h.symm, Or.inl ⟨h, hr, rfl⟩⟩
theorem mO_no {th res : Int32} {S1 S : qS} {K : qS} {k : Nat} (h0 : k ≠ 0) (h1 : k < 10) (h : th = nI k) (hk : K 28 0 = nI k) : mO th res S1 S (nI 0) (S, K) :=
  ⟨hk.trans h.symm, Or.inr ⟨fun q => h0 ((nI_eq (b := 0) (by omega) (by omega)).mp (h.symm.trans q)), rfl, rfl⟩⟩
theorem and1 (m j : Nat) : m / 2 ^ j &&& 1 = if m.testBit j = true then 1 else 0 := by
  by_cases h : m / 2 ^ j &&& 1 = 0
  · rw [h, tb_0 h]; rfl
  · rw [tb_1 h, if_pos rfl]
    rw [Nat.and_one_is_mod] at h ⊢
    omega
theorem and1_e {m j : Nat} (h : m / 2 ^ j &&& 1 = 1) : m.testBit j = true := tb_1 (by omega)
theorem and1_n {m j : Nat} (h : m / 2 ^ j &&& 1 ≠ 1) : m.testBit j = false := by
  rw [and1] at h
  cases q : m.testBit j with
  | false => rfl
  | true => rw [q] at h; exact absurd rfl h
theorem pcn_st (k m : Nat) : pcn k m + (m / 2 ^ k &&& 1) = pcn (k + 1) m := by
  rw [and1]; rfl
theorem pcn_8 {m : Nat} (h : m < 256) : pcn 12 m = pcn 8 m := by
  have e : ∀ k, 8 ≤ k → m.testBit k = false := fun k hk => Nat.testBit_lt_two_pow (Nat.lt_of_lt_of_le (show m < 2 ^ 8 from h) (Nat.pow_le_pow_right (by decide) hk))
  show pcn 8 m + (if m.testBit 8 = true then 1 else 0) + (if m.testBit 9 = true then 1 else 0) + (if m.testBit 10 = true then 1 else 0) + (if m.testBit 11 = true then 1 else 0) = pcn 8 m
  rw [e 8 (by decide), e 9 (by decide), e 10 (by decide), e 11 (by decide)]
  rfl
theorem m4 (p : Nat) : nI (4 * p) = nI (p * 4) := by rw [Nat.mul_comm]
theorem bI_inj {a b : Bool} (h : bI a = bI b) : a = b := by
  cases a <;> cases b <;> first | rfl | exact absurd h (by decide)
theorem xor_J : ∀ m, m < 256 → ∀ j, j < 8 → nI m ^^^ nI (1 * 2 ^ j) = nI (knF (!m.testBit j) m j) := by decide +kernel
theorem clr_pc : ∀ m, m < 256 → ∀ j, j < 8 → pcn 12 (clr m j) ≤ pcn 12 m := by decide +kernel
theorem knF_id {m j : Nat} : knF (m.testBit j) m j = m := by
  unfold knF
  split
  · rename_i h; exact or_bit h
  · rename_i h; unfold clr; rw [if_neg h]
theorem kn_no {m j : Nat} (h : m.testBit j = false) (hj : j < 12) (h4 : pcn 12 m = 4) : decide (pcn 12 (knF true m j) ≤ 4) = false := by
  refine decide_eq_false ?_
  show ¬ pcn 12 (m ||| 2 ^ j) ≤ 4
  rw [pcn_or, if_pos ⟨hj, h⟩]
  omega
theorem kn_yes {kb : Bool} {m j : Nat} (hm : m < 256) (hj : j < 8) (h4 : pcn 12 m ≤ 4) (h : kb = true → m.testBit j = false → pcn 12 m ≠ 4) : decide (pcn 12 (knF kb m j) ≤ 4) = true := by
  refine decide_eq_true ?_
  cases kb with
  | false => exact Nat.le_trans (clr_pc m hm j hj) h4
  | true =>
    show pcn 12 (m ||| 2 ^ j) ≤ 4
    rw [pcn_or]
    split
    · rename_i q
      have := h rfl q.2
      omega
    · exact h4
/-- places of two kinds -/
theorem illM_at {f : Nat → Int32} {a d : Nat} (h : d < 1001) : illM f (1001 * a + d) = bI ((nv (f d)).testBit a) := by
  unfold illM
  rw [show (1001 * a + d) % 1001 = d by omega, show (1001 * a + d) / 1001 = a by omega]
  rfl
theorem ill_w {f : Nat → Int32} {a d0 n : Nat} (ha : a < 12) (hd : d0 + n < 1001) (hf : bd (f (d0 + n)) 4096) : upd (illM (ilF f a d0 (d0 + n))) (1001 * a + (d0 + n)) (nI 1) = illM (ilF f a d0 (d0 + (n + 1))) := by
  rw [← ilF_w]
  funext i
  have hlt := or_lt (n := 12) hf.2 ha
  show (if i = 1001 * a + (d0 + n) then nI 1 else illM (ilF f a d0 (d0 + n)) i) = (if (nv (upd (ilF f a d0 (d0 + n)) (d0 + n) (nI (nv (f (d0 + n)) ||| 2 ^ a)) (i % 1001))).testBit (i / 1001) then 1 else 0)
  by_cases e : i % 1001 = d0 + n
  · rw [e, upd_s, nv_nI (by omega), Nat.testBit_or, Nat.testBit_two_pow]
    by_cases e2 : i / 1001 = a
    · rw [if_pos (by omega), e2, decide_eq_true rfl, Bool.or_true]; rfl
    · rw [if_neg (by omega), decide_eq_false (fun q => e2 q.symm), Bool.or_false]
      unfold illM
      rw [e, ilF_at]
  · rw [upd_n _ _ e, if_neg (by omega)]
    rfl
theorem il_n {f : Nat → Int32} {a d0 n : Nat} : nI (ilC f a d0 n) + (nI 1 - bI ((nv (f (d0 + n))).testBit a)) = nI (ilC f a d0 (n + 1)) := by
  show _ = nI (ilC f a d0 n + (if (nv (f (d0 + n))).testBit a = true then 0 else 1))
  cases (nv (f (d0 + n))).testBit a with
  | true => show nI _ + nI 0 = _; rw [nI_add]; rfl
  | false => show nI _ + nI 1 = _; rw [nI_add]; rfl
theorem scM_at {f : Nat → Int32} {n i : Nat} (hn : n < 41) (h : i < 8 * n) : scM f (nI n) i = f i := by
  unfold scM; rw [nI_clamp (by omega), if_pos h]
theorem sc_w {f : Nat → Int32} {n i : Nat} {x : Int32} (hn : n < 41) (h : i < 8 * n) : upd (scM f (nI n)) i x = scM (upd f i x) (nI n) := by
  funext j
  show (if j = i then x else (if j < 8 * (nI n).toNatClampNeg then f j else 0)) = (if j < 8 * (nI n).toNatClampNeg then (if j = i then x else f j) else 0)
  rw [nI_clamp (by omega)]
  by_cases e : j = i
  · rw [if_pos e, if_pos (by omega), if_pos e]
  · rw [if_neg e, if_neg e]
/-- a new show's cast: nobody -/
def scN (f : Nat → Int32) (n p : Nat) : Nat → Int32 := fun i => if 8 * n ≤ i ∧ i < 8 * n + p then -1 else scM f (nI n) i
theorem scN_0 (f : Nat → Int32) (n : Nat) : scN f n 0 = scM f (nI n) := by funext i; unfold scN; rw [if_neg (by omega)]
theorem scN_s (f : Nat → Int32) (n p : Nat) : upd (scN f n p) (8 * n + p) (-1) = scN f n (p + 1) := by
  funext i; unfold upd scN
  by_cases e : i = 8 * n + p
  · rw [if_pos e, if_pos (by omega)]
  · rw [if_neg e]
    by_cases q : 8 * n ≤ i ∧ i < 8 * n + p
    · rw [if_pos q, if_pos (by omega)]
    · rw [if_neg q, if_neg (by omega)]
theorem scN_8 {f : Nat → Int32} {n : Nat} (hn : n < 40) (h : ∀ i, 8 * n ≤ i → i < 320 → f i = -1) : scN f n 8 = scM f (nI (n + 1)) := by
  funext i; unfold scN scM
  rw [nI_clamp (by omega), nI_clamp (by omega)]
  by_cases e : i < 8 * n
  · rw [if_neg (by omega), if_pos e, if_pos (by omega)]
  · by_cases e2 : i < 8 * n + 8
    · rw [if_pos ⟨by omega, e2⟩, if_pos (by omega), h i (by omega) (by omega)]
    · rw [if_neg (by omega), if_neg e, if_neg (by omega)]
/-- the first place, one more looked at -/
theorem fi_n {P : Nat → Bool} {k : Nat} (h : P k = false) : fi P k = fi P (k + 1) := by
  have hl := fs_le P k
  have e1 : fs P (k + 1) = if fs P k < k then fs P k else if P k = true then k else k + 1 := rfl
  by_cases e : fs P k < k
  · rw [if_pos e] at e1
    unfold fi
    rw [e1, if_pos e, if_pos (by omega)]
  · rw [if_neg e, if_neg (by rw [h]; decide)] at e1
    unfold fi
    rw [e1, if_neg e, if_neg (by omega)]
theorem ex_n {P : Nat → Bool} {k : Nat} (h : P k = false) : bI (ex P k) ||| nI 0 = bI (ex P (k + 1)) := by
  have e : ex P k = ex P (k + 1) := by
    cases q : ex P (k + 1) with
    | false => exact ex_not (fun j hj => by
        cases r : P j with
        | false => rfl
        | true => rw [ex_iff.mpr ⟨j, by omega, r⟩] at q; exact Bool.noConfusion q)
    | true =>
      obtain ⟨j, hj, r⟩ := ex_iff.mp q
      refine ex_iff.mpr ⟨j, ?_, r⟩
      rcases Nat.lt_or_ge j k with h1 | h1
      · exact h1
      · have : j = k := by omega
        rw [this, h] at r; exact Bool.noConfusion r
  rw [← e]
  cases ex P k <;> rfl
theorem ex_y {P : Nat → Bool} {k : Nat} (h : P k = true) : bI (ex P k) ||| nI 1 = bI (ex P (k + 1)) := by
  rw [ex_iff.mpr (show ∃ j, j < k + 1 ∧ P j = true from ⟨k, by omega, h⟩)]
  cases ex P k <;> rfl
/-- who can play what, place by place -/
def abI (S : qS) (m i : Nat) : Int32 := if avB S m i = true then nI (wk S i + 1) else nI 0
def abF (S : qS) (m : Nat) (f : Nat → Int32) (P : Nat) : Nat → Int32 := fun i => if i < P then abI S m i else f i
theorem abF_0 (S : qS) (m : Nat) (f : Nat → Int32) : abF S m f 0 = f := by funext i; unfold abF; rw [if_neg (Nat.not_lt_zero i)]
theorem abF_s (S : qS) (m : Nat) (f : Nat → Int32) (P : Nat) : upd (abF S m f P) P (abI S m P) = abF S m f (P + 1) := by
  funext i; unfold upd abF
  by_cases e : i = P
  · rw [if_pos e, if_pos (by omega), e]
  · rw [if_neg e]
    by_cases q : i < P
    · rw [if_pos q, if_pos (by omega)]
    · rw [if_neg q, if_neg (by omega)]
theorem ab_no {S : qS} {m i : Nat} (h : avB S m i = false) : nI 0 = abI S m i := by unfold abI; rw [h]; rfl
theorem ab_1 {S : qS} {m i : Nat} (h : avB S m i = true) (hf : ftB S (i / 4) (S 2 (nv (S 6 i))) = true) : nI 1 = abI S m i := by unfold abI wk; rw [h, hf]; rfl
theorem ab_2 {S : qS} {m i : Nat} (h : avB S m i = true) (hf : ftB S (i / 4) (S 2 (nv (S 6 i))) = false) : nI 2 = abI S m i := by unfold abI wk; rw [h, hf]; rfl
theorem av_l {S : qS} {m i : Nat} (h : ¬ i % 4 < nv (S 7 (i / 4))) : avB S m i = false := by unfold avB; rw [decide_eq_false h]; rfl
theorem rk_in {S : qS} {i : Nat} (h : i % 4 < nv (S 7 (i / 4))) : rkB S (i / 4) (S 6 i) = true := ex_iff.mpr ⟨i % 4, h, decide_eq_true (by rw [show i / 4 * 4 + i % 4 = i by omega])⟩
theorem av_r {S : qS} {m i : Nat} (h : i % 4 < nv (S 7 (i / 4))) : avB S m i = rdy S (nv (S 6 i)) (i / 4) m := by unfold avB; rw [decide_eq_true h]; rfl
theorem rdy_x {S : qS} {a p m m2 : Nat} (h : m2.testBit a = m.testBit a) : rdy S a p m2 = rdy S a p m := by unfold rdy; rw [h]
theorem rdy_t {S : qS} {a p m : Nat} (h : m.testBit a = true) : rdy S a p m = false := by unfold rdy; rw [h, Bool.not_true, Bool.false_and, Bool.and_false]
/-- the first part that a number gives to no one -/
def fbI (S : qS) (m : Nat) (c : Nat → Nat) : Nat → Int32
  | 0 => -1
  | k + 1 => if ok S m c k = true then (if ok S m c (k + 1) = true then -1 else nI k) else fbI S m c k
theorem fb_ok {S : qS} {m : Nat} {c : Nat → Nat} : ∀ {n : Nat}, ok S m c n = true → fbI S m c n = -1
  | 0, _ => rfl
  | k + 1, h => by
    show (if ok S m c k = true then (if ok S m c (k + 1) = true then (-1 : Int32) else nI k) else fbI S m c k) = -1
    rw [if_pos (ok_s.mp h).1, if_pos h]
theorem fb_no {S : qS} {m k : Nat} {c : Nat → Nat} (h1 : ok S m c k = true) (h2 : ok S m c (k + 1) = false) : ∀ {n : Nat}, k < n → fbI S m c n = nI k
  | 0, h => absurd h (Nat.not_lt_zero k)
  | n + 1, h => by
    show (if ok S m c n = true then (if ok S m c (n + 1) = true then (-1 : Int32) else nI n) else fbI S m c n) = nI k
    rcases Nat.lt_or_ge k n with q | q
    · have h3 : ¬ ok S m c n = true := fun q2 => by rw [ok_le (k := k + 1) (by omega) q2] at h2; exact Bool.noConfusion h2
      rw [if_neg h3]; exact fb_no h1 h2 q
    · have e : k = n := by omega
      subst e
      rw [if_pos h1, if_neg (by rw [h2]; decide)]
theorem fb_cs {S : qS} {m : Nat} {c : Nat → Nat} : ∀ n, (ok S m c n = true ∧ fbI S m c n = -1) ∨ ∃ k, k < n ∧ fbI S m c n = nI k ∧ ok S m c (k + 1) = false
  | 0 => Or.inl ⟨rfl, rfl⟩
  | n + 1 => by
    rcases fb_cs (S := S) (m := m) (c := c) n with ⟨h1, h2⟩ | ⟨k, hk, h1, h2⟩
    · cases q : ok S m c (n + 1) with
      | true => exact Or.inl ⟨rfl, fb_ok q⟩
      | false => exact Or.inr ⟨n, by omega, fb_no h1 q (by omega), q⟩
    · have h3 : ¬ ok S m c n = true := fun q2 => by rw [ok_le (k := k + 1) (by omega) q2] at h2; exact Bool.noConfusion h2
      refine Or.inr ⟨k, by omega, ?_, h2⟩
      show (if ok S m c n = true then (if ok S m c (n + 1) = true then (-1 : Int32) else nI n) else fbI S m c n) = nI k
      rw [if_neg h3]; exact h1
theorem p4 (x : Nat) : 1 * 2 ^ (2 * x) = 4 ^ x := by rw [Nat.one_mul, Nat.pow_mul]
theorem s4_lt {x : Nat} (h : x < 16) : 1 * 2 ^ (2 * x) < 4294967296 := by
  have := Nat.pow_lt_pow_right (a := 2) (n := 32) (by decide) (show 2 * x < 32 by omega)
  omega
theorem p4_le {x y : Nat} (h : x ≤ y) : 4 ^ x ≤ 4 ^ y := Nat.pow_le_pow_right (by decide) h
theorem dg_2 (n c p : Nat) : c / 2 ^ (2 * (n - 1 - p)) &&& 3 = dg n c p := by
  rw [Nat.pow_mul, Nat.and_two_pow_sub_one_eq_mod _ 2]; rfl
/-- numbers that begin alike are bad alike -/
theorem skip_le {n k c : Nat} (hk : k < n) (hc : c < 4 ^ n) : c < (c / 4 ^ (n - 1 - k) + 1) * 4 ^ (n - 1 - k) ∧ (c / 4 ^ (n - 1 - k) + 1) * 4 ^ (n - 1 - k) ≤ 4 ^ n := by
  have hp : 0 < 4 ^ (n - 1 - k) := Nat.pow_pos (by decide)
  refine ⟨by rw [Nat.mul_comm]; exact Nat.lt_mul_div_succ c hp, ?_⟩
  have e : 4 ^ n = 4 ^ (k + 1) * 4 ^ (n - 1 - k) := by rw [← Nat.pow_add]; congr 1; omega
  rw [e] at hc ⊢
  exact Nat.mul_le_mul_right _ ((Nat.div_lt_iff_lt_mul hp).mpr hc)
theorem dg_skip {n k c x : Nat} (hk : k < n) (h1 : c ≤ x) (h2 : x < (c / 4 ^ (n - 1 - k) + 1) * 4 ^ (n - 1 - k)) : ∀ p, p < k + 1 → dg n x p = dg n c p := by
  intro p hp
  have hq : 0 < 4 ^ (n - 1 - k) := Nat.pow_pos (by decide)
  have e : x / 4 ^ (n - 1 - k) = c / 4 ^ (n - 1 - k) := Nat.le_antisymm (Nat.le_of_lt_succ ((Nat.div_lt_iff_lt_mul hq).mpr h2)) (Nat.div_le_div_right h1)
  unfold dg
  rw [show n - 1 - p = (n - 1 - k) + (k - p) by omega, Nat.pow_add, ← Nat.div_div_eq_div_mul, ← Nat.div_div_eq_div_mul, e]
theorem bcR_skip {S : qS} {m n c : Nat} : ∀ d, (∀ x, c ≤ x → x < c + d → ok S m (dg n x) n = false) → bcR S m n (c + d) = bcR S m n c
  | 0, _ => rfl
  | d + 1, h => by
    show (if ok S m (dg n (c + d)) n = true then _ else bcR S m n (c + d)) = _
    rw [if_neg (by rw [h (c + d) (by omega) (by omega)]; decide)]
    exact bcR_skip d (fun x h1 h2 => h x h1 (by omega))
theorem bcR_bad {S : qS} {m n k c : Nat} (hk : k < n) (hb : ok S m (dg n c) (k + 1) = false) (hc : c < 4 ^ n) : bcR S m n ((c / 4 ^ (n - 1 - k) + 1) * 4 ^ (n - 1 - k)) = bcR S m n c := by
  have h1 := (skip_le hk hc).1
  have e := bcR_skip (S := S) (m := m) (n := n) (c := c) ((c / 4 ^ (n - 1 - k) + 1) * 4 ^ (n - 1 - k) - c) (fun x h2 h3 => by
    have h4 := dg_skip hk h2 (by omega)
    cases q : ok S m (dg n x) n with
    | false => rfl
    | true =>
      have h5 := ok_le (k := k + 1) (by omega) q
      rw [ok_cg h4, hb] at h5
      exact Bool.noConfusion h5)
  rw [Nat.add_sub_cancel' (Nat.le_of_lt h1)] at e
  exact e
/-- what is kept of the best cast so far -/
def ksI (n : Nat) : Option Nat → Int32
  | none => -1
  | some b => nI (sr (dg n b) n)
def kwI (S : qS) (n : Nat) : Option Nat → Int32
  | none => -1
  | some b => nI (wo S (dg n b) n)
def kcI (S : qS) (n : Nat) (o : Option Nat) (f : Nat → Int32) : Nat → Int32 := fun i => if i < 8 then (match o with
  | none => -1
  | some b => if i < n then S 6 (i * 4 + dg n b i) else -1) else f i
def kpB (x y : Int32) (a w : Nat) : Bool := decide (x = -1 ∨ nI a < x ∨ nI a = x ∧ nI w < y)
def kpI (x y z : Int32) (a w v : Nat) : Int32 := if kpB x y a w = true then nI v else z
def kpF (r f : Nat → Int32) (x y : Int32) (n c a w k : Nat) : Nat → Int32 := if kpB x y a w = true then (fun i => if i < k then r (i * 4 + dg n c i) else f i) else f
theorem kb_n {n : Nat} {S : qS} {a w : Nat} : kpB (ksI n none) (kwI S n none) a w = true := decide_eq_true (Or.inl rfl)
theorem kb_s {n b a w : Nat} {S : qS} (hn : n ≤ 8) (ha : a ≤ 24) (hw : w ≤ 8) : kpB (ksI n (some b)) (kwI S n (some b)) a w = true ↔ (a < sr (dg n b) n ∨ a = sr (dg n b) n ∧ w < wo S (dg n b) n) := by
  have h1 := sr_le (c := dg n b) (k := n) (fun p _ => dg_lt n b p)
  have h2 := wo_le S (dg n b) n
  unfold kpB
  rw [decide_eq_true_iff]
  show (nI (sr (dg n b) n) = -1 ∨ nI a < nI (sr (dg n b) n) ∨ nI a = nI (sr (dg n b) n) ∧ nI w < nI (wo S (dg n b) n)) ↔ _
  rw [nI_ltI (by omega) (by omega), nI_ltI (by omega) (by omega), nI_eq (by omega) (by omega)]
  exact ⟨fun q => q.elim (fun q => absurd q (m1_ne (by omega))) id, Or.inr⟩
theorem bcR_ok {S : qS} {m n c : Nat} (h : ok S m (dg n c) n = true) (hn : n ≤ 8) : bcR S m n (c + 1) = if kpB (ksI n (bcR S m n c)) (kwI S n (bcR S m n c)) (sr (dg n c) n) (wo S (dg n c) n) = true then some c else bcR S m n c := by
  have h1 := sr_le (c := dg n c) (k := n) (fun p _ => dg_lt n c p)
  have h2 := wo_le S (dg n c) n
  show (if ok S m (dg n c) n = true then (match bcR S m n c with
      | none => some c
      | some b => if sr (dg n c) n < sr (dg n b) n ∨ sr (dg n c) n = sr (dg n b) n ∧ wo S (dg n c) n < wo S (dg n b) n then some c else some b)
    else bcR S m n c) = _
  rw [if_pos h]
  cases bcR S m n c with
  | none => rw [if_pos kb_n]
  | some b =>
    by_cases q : sr (dg n c) n < sr (dg n b) n ∨ sr (dg n c) n = sr (dg n b) n ∧ wo S (dg n c) n < wo S (dg n b) n
    · rw [if_pos ((kb_s hn (by omega) (by omega)).mpr q)]; exact if_pos q
    · rw [if_neg (fun r => q ((kb_s hn (by omega) (by omega)).mp r))]; exact if_neg q
theorem kp_s {S : qS} {m n c : Nat} (h : ok S m (dg n c) n = true) (hn : n ≤ 8) : kpI (ksI n (bcR S m n c)) (kwI S n (bcR S m n c)) (ksI n (bcR S m n c)) (sr (dg n c) n) (wo S (dg n c) n) (sr (dg n c) n) = ksI n (bcR S m n (c + 1)) := by
  rw [bcR_ok h hn, kpI]
  split <;> rfl
theorem kp_w {S : qS} {m n c : Nat} (h : ok S m (dg n c) n = true) (hn : n ≤ 8) : kpI (ksI n (bcR S m n c)) (kwI S n (bcR S m n c)) (kwI S n (bcR S m n c)) (sr (dg n c) n) (wo S (dg n c) n) (wo S (dg n c) n) = kwI S n (bcR S m n (c + 1)) := by
  rw [bcR_ok h hn, kpI]
  split <;> rfl
theorem kp_c {S : qS} {m n c : Nat} {f : Nat → Int32} (h : ok S m (dg n c) n = true) (hn : n ≤ 8) : kpF (S 6) (kcI S n (bcR S m n c) f) (ksI n (bcR S m n c)) (kwI S n (bcR S m n c)) n c (sr (dg n c) n) (wo S (dg n c) n) n = kcI S n (bcR S m n (c + 1)) f := by
  rw [bcR_ok h hn, kpF]
  split
  · funext i
    show (if i < n then S 6 (i * 4 + dg n c i) else kcI S n (bcR S m n c) f i) = (if i < 8 then (if i < n then S 6 (i * 4 + dg n c i) else -1) else f i)
    by_cases e : i < n
    · rw [if_pos e, if_pos (by omega), if_pos e]
    · rw [if_neg e, if_neg e]
      unfold kcI
      by_cases e2 : i < 8
      · rw [if_pos e2, if_pos e2]
        cases bcR S m n c with
        | none => rfl
        | some b => exact if_neg e
      · rw [if_neg e2, if_neg e2]
  · rfl
theorem kpF_0 {r f : Nat → Int32} {x y : Int32} {n c a w : Nat} : kpF r f x y n c a w 0 = f := by
  unfold kpF
  split
  · funext i; exact if_neg (Nat.not_lt_zero i)
  · rfl
theorem kpF_s {r f : Nat → Int32} {x y : Int32} {n c a w k : Nat} (h : kpB x y a w = true) : upd (kpF r f x y n c a w k) k (r (k * 4 + dg n c k)) = kpF r f x y n c a w (k + 1) := by
  unfold kpF
  rw [if_pos h, if_pos h]
  funext i
  show (if i = k then r (k * 4 + dg n c k) else if i < k then r (i * 4 + dg n c i) else f i) = if i < k + 1 then r (i * 4 + dg n c i) else f i
  by_cases e : i = k
  · rw [if_pos e, if_pos (by omega), e]
  · rw [if_neg e]
    by_cases q : i < k
    · rw [if_pos q, if_pos (by omega)]
    · rw [if_neg q, if_neg (by omega)]
def caF (S : qS) (m : Nat) (f : Nat → Int32) : Nat → Int32 := kcI S (nv (S 27 0)) (bc S m) f
theorem caF_at {S : qS} {m p : Nat} {f : Nat → Int32} (h : p < 8) : caF S m f p = bcA S m p := by
  unfold caF kcI bcA
  rw [if_pos h]
  cases bc S m <;> rfl
theorem bcS_k {S : qS} {m : Nat} : ksI (nv (S 27 0)) (bc S m) = bcS S m := by
  unfold bcS
  cases bc S m <;> rfl
theorem bcW_k {S : qS} {m : Nat} : kwI S (nv (S 27 0)) (bc S m) = bcW S m := by
  unfold bcW
  cases bc S m <;> rfl
theorem bcS_no {S : qS} {m : Nat} (hI : Inv S) (h : bcS S m = -1) : (bc S m).isSome = false := by
  have hn : nv (S 27 0) ≤ 8 := by have := (iv_27 hI).1.2; omega
  unfold bcS at h
  cases q : bc S m with
  | none => rfl
  | some b =>
    rw [q] at h
    have h1 := sr_le (c := dg (nv (S 27 0)) b) (k := nv (S 27 0)) (fun p _ => dg_lt (nv (S 27 0)) b p)
    exact (m1_ne (n := sr (dg (nv (S 27 0)) b) (nv (S 27 0))) (by omega) h).elim
theorem bcS_yes {S : qS} {m : Nat} (h : ¬ bcS S m = -1) : (bc S m).isSome = true := by
  unfold bcS at h
  cases q : bc S m with
  | none => rw [q] at h; exact absurd rfl h
  | some b => rfl
theorem bc_is {S : qS} {m : Nat} (h : (bc S m).isSome = true) : ∃ b, bc S m = some b := Option.isSome_iff_exists.mp h
theorem bc_isn {S : qS} {m : Nat} (h : (bc S m).isSome = false) : bc S m = none := by
  cases q : bc S m with
  | none => rfl
  | some b => rw [q] at h; exact Bool.noConfusion h
/-- refunds -/
theorem gb_x {x : Int32} {n : Nat} {a b : Int32} (h : b = a + 1) : x + b - 1 = x + a := by
  rw [h, ← Int32.add_assoc, Int32.add_sub_cancel]
theorem gb_n {S : qS} {k n : Nat} {a : Int32} (hn : n ≠ 0) (h : nI n = a + 1) : (S 26 k + a) / nI n = gbI S k n := by
  unfold gbI
  rw [if_neg hn, gb_x (n := n) h]
theorem gb_1 {S : qS} {k : Nat} : S 26 k = gbI S k 1 := by
  unfold gbI
  rw [if_neg (by decide)]
  show S 26 k = (S 26 k + nI 1 - 1) / 1
  rw [Int32.div_one]
  exact (Int32.add_sub_cancel _ _).symm
theorem rfM_eq (S : qS) (w : Nat) (x : Int32) : ∀ k, S 32 0 - rfS S w x k = rfM S w x k
  | 0 => by show S 32 0 - 0 = S 32 0; rw [Int32.sub_zero]
  | k + 1 => by
    have ih := rfM_eq S w x k
    show S 32 0 - (if S 21 k = nI w then rfS S w x k + gbI S k (shR S x k) else rfS S w x k) = (if S 21 k = nI w then rfM S w x k - gbI S k (shR S x k) else rfM S w x k)
    split
    · rw [← ih, Int32.sub_sub]
    · exact ih
theorem bcI_ne {S : qS} {m b : Nat} (hI : Inv S) (h : bc S m = some b) : ¬ bcI S m = -1 := fun q => by
  rw [bcI_no hI q] at h; cases h
theorem bcI_some {S : qS} {m b : Nat} (h : bc S m = some b) : bcI S m = nI (kk S (dg (nv (S 27 0)) b) (nv (S 27 0))) := by
  unfold bcI; rw [h]
theorem shR_b {S : qS} {m b k : Nat} (hI : Inv S) (h : bc S m = some b) : shR S (bcI S m) k = shK S k (kk S (dg (nv (S 27 0)) b) (nv (S 27 0))) := by
  have hn : nv (S 27 0) ≤ 8 := by have := (iv_27 hI).1.2; omega
  have h1 := kk_lt (S := S) (c := dg (nv (S 27 0)) b) hn
  unfold shR
  rw [if_neg (bcI_ne hI h), bcI_some h, nv_nI (by omega)]
theorem shR_n {S : qS} {m k : Nat} (h : bc S m = none) : shR S (bcI S m) k = 1 := by
  unfold shR bcI
  rw [h]; exact if_pos rfl
/-- the rank of who plays a part is the rank that the cast tells -/
theorem rk_bc {S : qS} {m b p : Nat} (hI : Inv S) (h : bc S m = some b) (hp : p < nv (S 27 0)) : rkI S p (bcA S m p) = nI (dg (nv (S 27 0)) b p) := by
  have hn : nv (S 27 0) ≤ 8 := by have := (iv_27 hI).1.2; omega
  obtain ⟨-, h2, -⟩ := bc_some h
  have o := (ok_s.mp (ok_le (k := p + 1) (by omega) h2.2.2)).2.1
  have h4 := dg_lt (nv (S 27 0)) b p
  rw [avB_at h4, Bool.and_eq_true, decide_eq_true_iff] at o
  rw [bcA_v h hp]
  unfold rkI
  exact (fi_hit o.1 (fun j hj => decide_eq_false (iv_6d hI p _ j (by omega) o.1 hj)) (decide_eq_true rfl)).symm
theorem bcA_bd {S : qS} {m b p : Nat} (hI : Inv S) (h : bc S m = some b) (hp : p < nv (S 27 0)) : bd (bcA S m p) 12 := (bcA_at hI h hp).2
theorem sh_18 {S : qS} {w p : Nat} : w * 8 + p = 8 * w + p := by omega
theorem ab_z {S : qS} {m i : Nat} (h : abI S m i = 0) : avB S m i = false := by
  cases q : avB S m i with
  | false => rfl
  | true =>
    unfold abI wk at h
    rw [q, if_pos rfl] at h
    split at h <;> exact absurd h (by decide)
theorem ab_nz {S : qS} {m i : Nat} (h : ¬ abI S m i = 0) : avB S m i = true := by
  cases q : avB S m i with
  | true => rfl
  | false => exact absurd (ab_no q).symm h
theorem ok_sn {S : qS} {m k : Nat} {c : Nat → Nat} (h : avB S m (k * 4 + c k) = false ∨ (us S c k).testBit (nv (S 6 (k * 4 + c k))) = true) : ok S m c (k + 1) = false := by
  cases q : ok S m c (k + 1) with
  | false => rfl
  | true =>
    obtain ⟨-, h1, h2⟩ := ok_s.mp q
    rcases h with h | h
    · rw [h] at h1; exact Bool.noConfusion h1
    · rw [h] at h2; exact Bool.noConfusion h2
theorem ab_v {S : qS} {m i : Nat} (h : avB S m i = true) : abI S m i = nI (wk S i + 1) := by unfold abI; rw [h]; rfl
theorem kpI_y {x y z : Int32} {a w v : Nat} (h : kpB x y a w = true) : nI v = kpI x y z a w v := (if_pos h).symm
theorem kpI_n {x y z : Int32} {a w v : Nat} (h : kpB x y a w = false) : z = kpI x y z a w v := (if_neg (by rw [h]; decide)).symm
theorem kpF_n {r f : Nat → Int32} {x y : Int32} {n c a w k : Nat} (h : kpB x y a w = false) : f = kpF r f x y n c a w k := (if_neg (by rw [h]; decide)).symm
theorem kc_0 (S : qS) (m n : Nat) (f : Nat → Int32) : clF f 8 = kcI S n (bcR S m n 0) f := rfl
theorem fb_t {S : qS} {m n : Nat} {c : Nat → Nat} (hn : n ≤ 8) (h : fbI S m c n = -1) : ok S m c n = true := by
  rcases fb_cs (S := S) (m := m) (c := c) n with q | ⟨k, hk, e, _⟩
  · exact q.1
  · rw [e] at h; exact (m1_ne (by omega) h).elim
theorem fb_f {S : qS} {m n : Nat} {c : Nat → Nat} (h : ¬ fbI S m c n = -1) : ∃ k, k < n ∧ fbI S m c n = nI k ∧ ok S m c (k + 1) = false := by
  rcases fb_cs (S := S) (m := m) (c := c) n with q | q
  · exact absurd q.2 h
  · exact q
theorem bcS_v {S : qS} {m b : Nat} (h : bc S m = some b) : bcS S m = nI (sr (dg (nv (S 27 0)) b) (nv (S 27 0))) := by unfold bcS; rw [h]
theorem bcI_nn {S : qS} {m : Nat} (h : bc S m = none) : bcI S m = -1 := by unfold bcI; rw [h]
theorem bcS_nn {S : qS} {m : Nat} (h : bc S m = none) : bcS S m = -1 := by unfold bcS; rw [h]
theorem bcW_nn {S : qS} {m : Nat} (h : bc S m = none) : bcW S m = -1 := by unfold bcW; rw [h]
/-- whose promise asks how much back -/
theorem shR_2 {S : qS} {m b k : Nat} (hI : Inv S) (h : bc S m = some b) (h2 : nv (S 22 k) = 2) : shR S (bcI S m) k = if 0 < sr (dg (nv (S 27 0)) b) (nv (S 27 0)) then 4 else 0 := by
  have hn : nv (S 27 0) ≤ 8 := by have := (iv_27 hI).1.2; omega
  rw [shR_b hI h, shK, h2, if_neg (by decide), if_pos rfl, key_s hn (bc_some h).1]
theorem shR_0 {S : qS} {m b k : Nat} (hI : Inv S) (h : bc S m = some b) (h2 : nv (S 22 k) ≠ 2) (h0 : nv (S 22 k) = 0 ∨ ¬ nv (S 23 k) < nv (S 27 0)) : shR S (bcI S m) k = 0 := by
  rw [shR_b hI h, shK]
  by_cases q1 : nv (S 22 k) = 1
  · rw [if_pos q1, if_neg (fun q => by omega)]
  · rw [if_neg q1, if_neg h2]
    by_cases q3 : nv (S 22 k) = 3
    · rw [if_pos q3, if_neg (fun q => by omega)]
    · rw [if_neg q3]
theorem shR_1 {S : qS} {m b k : Nat} (hI : Inv S) (h : bc S m = some b) (h1 : nv (S 22 k) = 1) (hp : nv (S 23 k) < nv (S 27 0)) : shR S (bcI S m) k = if bcA S m (nv (S 23 k)) = S 24 k then 0 else 2 := by
  rw [shR_b hI h, shK, if_pos h1, (bcA_at hI h hp).1]
  by_cases q : bcA S m (nv (S 23 k)) = S 24 k
  · rw [if_pos q, if_neg (fun r => r.2 q)]
  · rw [if_neg q, if_pos ⟨hp, q⟩]
theorem shR_3 {S : qS} {m b k : Nat} (hI : Inv S) (h : bc S m = some b) (h3 : nv (S 22 k) = 3) (hp : nv (S 23 k) < nv (S 27 0)) : shR S (bcI S m) k = if 1 < dg (nv (S 27 0)) b (nv (S 23 k)) then 10 else 0 := by
  have hn : nv (S 27 0) ≤ 8 := by have := (iv_27 hI).1.2; omega
  rw [shR_b hI h, shK, h3, if_neg (by decide), if_neg (by decide), if_pos rfl, key_r hn (bc_some h).1 hp]
  by_cases q : 1 < dg (nv (S 27 0)) b (nv (S 23 k))
  · rw [if_pos q, if_pos ⟨hp, q⟩]
  · rw [if_neg q, if_neg (fun r => q r.2)]
theorem rfF_at {S : qS} {w k : Nat} {x : Int32} (h : S 21 k = nI w) : rfF S w x (k + 1) k = gbI S k (shR S x k) := by
  rw [← (rf_y h).1, upd_s]
/-- refunds change nothing that casts depend on -/
theorem us_25 (S : qS) (f : Nat → Int32) (c : Nat → Nat) : ∀ k, us (va_up S 25 f) c k = us S c k
  | 0 => rfl
  | k + 1 => by
    show us (va_up S 25 f) c k ||| 2 ^ nv (S 6 (k * 4 + c k)) = us S c k ||| 2 ^ nv (S 6 (k * 4 + c k))
    rw [us_25]
theorem ok_25 (S : qS) (f : Nat → Int32) (m : Nat) (c : Nat → Nat) : ∀ k, ok (va_up S 25 f) m c k = ok S m c k
  | 0 => rfl
  | k + 1 => by
    show (ok (va_up S 25 f) m c k && (avB S m (k * 4 + c k) && !(us (va_up S 25 f) c k).testBit (nv (S 6 (k * 4 + c k))))) = (ok S m c k && (avB S m (k * 4 + c k) && !(us S c k).testBit (nv (S 6 (k * 4 + c k)))))
    rw [ok_25, us_25]
theorem wo_25 (S : qS) (f : Nat → Int32) (c : Nat → Nat) : ∀ k, wo (va_up S 25 f) c k = wo S c k
  | 0 => rfl
  | k + 1 => by
    show wo (va_up S 25 f) c k + wk S (k * 4 + c k) = wo S c k + wk S (k * 4 + c k)
    rw [wo_25]
theorem kk_25 (S : qS) (f : Nat → Int32) (c : Nat → Nat) : ∀ k, kk (va_up S 25 f) c k = kk S c k
  | 0 => rfl
  | k + 1 => by
    show kk (va_up S 25 f) c k + ky S (k * 4 + c k) = kk S c k + ky S (k * 4 + c k)
    rw [kk_25]
theorem bcR_25 (S : qS) (f : Nat → Int32) (m n : Nat) : ∀ N, bcR (va_up S 25 f) m n N = bcR S m n N
  | 0 => rfl
  | N + 1 => by
    unfold bcR
    rw [ok_25, bcR_25]
    cases bcR S m n N with
    | none => rfl
    | some b => dsimp only; rw [wo_25, wo_25]
theorem bc_25 (S : qS) (f : Nat → Int32) (m : Nat) : bc (va_up S 25 f) m = bc S m := bcR_25 S f m _ _
theorem bcI_25 (S : qS) (f : Nat → Int32) (m : Nat) : bcI (va_up S 25 f) m = bcI S m := by
  unfold bcI
  rw [bc_25]
  cases bc S m with
  | none => rfl
  | some b => exact congrArg nI (kk_25 S f _ _)
theorem bcS_25 (S : qS) (f : Nat → Int32) (m : Nat) : bcS (va_up S 25 f) m = bcS S m := by
  unfold bcS
  rw [bc_25]
  cases bc S m <;> rfl
theorem bcA_25 (S : qS) (f : Nat → Int32) (m : Nat) : bcA (va_up S 25 f) m = bcA S m := by
  funext p
  unfold bcA
  rw [bc_25]
  cases bc S m <;> rfl
theorem dzF_25 (S : qS) (f a : Nat → Int32) : ∀ p, dzF (va_up S 25 f) a p = dzF S a p
  | 0 => rfl
  | p + 1 => by
    show (drZ (va_up (va_up (va_up S 25 f) 9 (dzF (va_up S 25 f) a p).1) 11 (dzF (va_up S 25 f) a p).2) p (S 2 (nv (a p))), drL (va_up (va_up (va_up S 25 f) 9 (dzF (va_up S 25 f) a p).1) 11 (dzF (va_up S 25 f) a p).2) p (S 2 (nv (a p)))) = dzF S a (p + 1)
    rw [dzF_25]; rfl
/-- who is ill, and one more -/
theorem hm_0 (m : Nat) : ∀ a, a < 12 → m.testBit a = (m.testBit a || decide (nI a = (-1 : Int32))) := fun a h => by rw [decide_eq_false (m1_ne (by omega)), Bool.or_false]
theorem hm_1 (m : Nat) {b : Nat} (hb : b < 12) : ∀ a, a < 12 → (m ||| 2 ^ b).testBit a = (m.testBit a || decide (nI a = nI b)) := fun a h => by
  rw [Nat.testBit_or, Nat.testBit_two_pow]
  congr 1
  exact decide_eq_decide.mpr ⟨fun q => by rw [q], fun q => ((nI_eq (by omega) (by omega)).mp q).symm⟩
def bfF (f g : Nat → Int32) (q : Nat) : Nat → Int32 := fun i => if i < q then f i else g i
theorem bfF_0 (f g : Nat → Int32) : bfF f g 0 = g := by funext i; exact if_neg (Nat.not_lt_zero i)
theorem bfF_s (f g : Nat → Int32) (q : Nat) : upd (bfF f g q) q (f q) = bfF f g (q + 1) := by
  funext i; unfold upd bfF
  by_cases e : i = q
  · rw [if_pos e, if_pos (by omega), e]
  · rw [if_neg e]
    by_cases r : i < q
    · rw [if_pos r, if_pos (by omega)]
    · rw [if_neg r, if_neg (by omega)]
theorem bfF_at {f g : Nat → Int32} {q i : Nat} (h : i < q) : bfF f g q i = f i := if_pos h
theorem ch_e {S : qS} {m m2 b b2 q : Nat} (h : bc S m = some b) (h2 : bc S m2 = some b2) (hq : q < nv (S 27 0)) (e : bcA S m2 q = bcA S m q) : chN S b b2 q + 0 = chN S b b2 (q + 1) := by
  show _ = chN S b b2 q + _
  rw [bcA_v h hq, bcA_v h2 hq] at e
  rw [if_pos e.symm]
theorem ch_n {S : qS} {m m2 b b2 q : Nat} (h : bc S m = some b) (h2 : bc S m2 = some b2) (hq : q < nv (S 27 0)) (e : ¬ bcA S m2 q = bcA S m q) : chN S b b2 q + 1 = chN S b b2 (q + 1) := by
  show _ = chN S b b2 q + _
  rw [bcA_v h hq, bcA_v h2 hq] at e
  rw [if_neg (fun r => e r.symm)]
theorem chI_1 {S : qS} {m a : Nat} (h : bc S m = none) : chI S m a = -1 := by unfold chI; rw [h]
theorem chI_2 {S : qS} {m a b : Nat} (h : bc S m = some b) (h2 : bc S (m ||| 2 ^ a) = none) : chI S m a = -1 := by unfold chI; rw [h, h2]
theorem chI_3 {S : qS} {m a b b2 : Nat} (h : bc S m = some b) (h2 : bc S (m ||| 2 ^ a) = some b2) : chI S m a = nI (chN S b b2 (nv (S 27 0))) := by unfold chI; rw [h, h2]
/-- dressing, one part more -/
def dzS (S : qS) (a : Nat → Int32) (p : Nat) : qS := va_up (va_up S 9 (dzF S a p).1) 11 (dzF S a p).2
theorem dz_t {S : qS} {a : Nat → Int32} {p : Nat} (h : ftB (dzS S a p) p (S 2 (nv (a p))) = true) : (dzF S a p).1 = (dzF S a (p + 1)).1 ∧ (dzF S a p).2 = (dzF S a (p + 1)).2 :=
  ⟨(if_pos h : drZ (dzS S a p) p (S 2 (nv (a p))) = (dzS S a p) 9).symm, (if_pos h : drL (dzS S a p) p (S 2 (nv (a p))) = (dzS S a p) 11).symm⟩
theorem dz_n {S : qS} {a : Nat → Int32} {p : Nat} (h : ftB (dzS S a p) p (S 2 (nv (a p))) = false) (h2 : loI (dzS S a p) p (S 2 (nv (a p))) = -1) : (dzF S a p).1 = (dzF S a (p + 1)).1 ∧ (dzF S a p).2 = (dzF S a (p + 1)).2 := by
  refine ⟨?_, ?_⟩
  · show _ = drZ (dzS S a p) p (S 2 (nv (a p)))
    rw [drZ, if_neg (by rw [h]; decide), h2]; exact (if_pos rfl).symm
  · show _ = drL (dzS S a p) p (S 2 (nv (a p)))
    rw [drL, if_neg (by rw [h]; decide), h2]; exact (if_pos rfl).symm
theorem dz_u {S : qS} {a : Nat → Int32} {p k : Nat} (h : ftB (dzS S a p) p (S 2 (nv (a p))) = false) (h2 : loI (dzS S a p) p (S 2 (nv (a p))) = nI k) (hk : k < 40) : upd (dzF S a p).1 k ((dzF S a p).1 k + nI 1) = (dzF S a (p + 1)).1 ∧ upd (dzF S a p).2 k (nI 1) = (dzF S a (p + 1)).2 := by
  refine ⟨?_, ?_⟩
  · show _ = drZ (dzS S a p) p (S 2 (nv (a p)))
    rw [drZ, if_neg (by rw [h]; decide), h2, leZ, if_neg (m1_ne (by omega)), nv_nI (by omega)]; rfl
  · show _ = drL (dzS S a p) p (S 2 (nv (a p)))
    rw [drL, if_neg (by rw [h]; decide), h2, leL, if_neg (m1_ne (by omega)), nv_nI (by omega)]; rfl
theorem sc_w2 {f a : Nat → Int32} {x : Int32} {w p : Nat} (hx : bd x 41) (hw : w < nv x) (hp : p < 8) : upd (scM (csF f a w p) x) (8 * w + p) (a p) = scM (csF f a w (p + 1)) x := by
  rw [hx.1, sc_w hx.2 (by omega), show 8 * w + p = w * 8 + p by omega, csF_s]
theorem sc_r {f : Nat → Int32} {x : Int32} {w p : Nat} (hw : w < nv x) (hp : p < 8) : scM f x (8 * w + p) = f (w * 8 + p) := by
  unfold scM
  rw [if_pos (show 8 * w + p < 8 * nv x by omega), show 8 * w + p = w * 8 + p by omega]
theorem bI_ne {a b : Bool} (h : ¬ bI a = bI b) : a = !b := by
  cases a <;> cases b <;> first | rfl | exact absurd rfl h
theorem bI_e1 {b : Bool} (h : bI b = nI 1) : b = true := by
  cases b with
  | true => rfl
  | false => exact absurd h (by decide)
theorem bI_n1 {b : Bool} (h : ¬ bI b = nI 1) : b = false := by
  cases b with
  | false => rfl
  | true => exact absurd rfl h
theorem ac_n {S : qS} {p : Nat} (h : ¬ 0 < nv (S 7 p)) : (-1 : Int32) = acI S p 0 := (if_neg h).symm
theorem ac_v {S : qS} {p : Nat} (h : 0 < nv (S 7 p)) : S 6 (4 * p) = acI S p 0 := by
  rw [Nat.mul_comm]; exact (if_pos h).symm
theorem ac_0 {S : qS} {p : Nat} (h : nv (S 7 p) = 0) : decide (acI S p 0 = -1) = true := decide_eq_true (ac_n (by omega)).symm
theorem ac_1 {S : qS} (hI : Inv S) {p : Nat} (hp : p < 8) (h : nv (S 7 p) ≠ 0) : decide (acI S p 0 = -1) = false := decide_eq_false (fun q => by
  have := ac_f hI hp q
  omega)
theorem pl32_R {S : qS} : S 32 0 - plR S = pl32 S := by
  unfold plR pl32
  split
  · exact rfM_eq S _ _ _
  · show S 32 0 - 0 = S 32 0; rw [Int32.sub_zero]
