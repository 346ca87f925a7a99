/-! the law: its arrays mirror the class's rows; what it asks of the best cast -/
def kF (f : Nat → Int32) : Nat → Int32 := fun i => nI (pcn 12 (nv (f i)))
def mF (a b : Int32) : Nat → Int32 := fun i => if i = 0 then a else if i = 1 then b else 0
abbrev wRN (cy : qT) (o : Nat → Nat) (r n : Nat → Int32) : va_W := [(o 0, aI cy 32 r), (o 1, aI cy 8 n)]
abbrev wLA (cy : qT) (h o : Nat → Nat) (S J : qS) (r n k m v : Nat → Int32) : va_W := [(h 0, .inr (6, [.ref (h 1), .ref (h 5), .ref (h 8), .ref (h 12), .ref (h 16), .ref (h 20), .int (S 27 0), .int (S 28 0)])),
  (h 1, .inr (4, [.ref (h 2), .ref (h 3), .ref (h 4)])), (h 2, aI cy 12 (S 2)), (h 3, aI cy 12 (S 3)), (h 4, aI cy 1001 (S 4)),
  (h 5, .inr (3, [.ref (h 6), .ref (h 7)])), (h 6, aI cy 32 (S 6)), (h 7, aI cy 8 (S 7)),
  (h 8, .inr (5, [.ref (h 9), .ref (h 10), .ref (h 11), .int (S 29 0)])), (h 9, aI cy 40 (S 9)), (h 10, aI cy 40 (S 10)), (h 11, aZ cy 40 (S 11)),
  (h 12, .inr (1, [.ref (h 13), .ref (h 14), .ref (h 15), .int (J 12 0)])), (h 13, aI cy 32 (J 13)), (h 14, aI cy 32 (J 14)), (h 15, aI cy 4096 (J 15)),
  (h 16, .inr (2, [.ref (h 17), .ref (h 18), .ref (h 19), .int (S 30 0)])), (h 17, aI cy 40 (S 17)), (h 18, aI cy 320 (S 18)), (h 19, aI cy 40 (S 19)),
  (h 20, .inr (0, [.ref (h 21), .ref (h 22), .ref (h 23), .ref (h 24), .ref (h 25), .ref (h 26), .int (S 31 0), .int (S 32 0)])), (h 21, aI cy 100 (S 21)), (h 22, aI cy 100 (S 22)), (h 23, aI cy 100 (S 23)), (h 24, aI cy 100 (S 24)), (h 25, aI cy 100 (S 25)), (h 26, aI cy 100 (S 26)),
  (o 0, aI cy 32 r), (o 1, aI cy 8 n), (o 2, aI cy 12 k), (o 3, aI cy 2 m), (o 4, aI cy 8 v)]
theorem at_lt (x : Int32) : x.toUInt32.toNat / 2 < 2147483648 := by
  have := UInt32.toNat_lt x.toUInt32
  omega
theorem at_u (x : Int32) : (x.toUInt32 >>> ((nI 1).toUInt32 &&& Int32.toUInt32 31)).toInt32 = nI (x.toUInt32.toNat / 2) := by
  have e1 : (nI 1).toUInt32 &&& Int32.toUInt32 31 = 1 := by decide
  rw [e1]
  apply Int32.toBitVec_inj.1
  apply BitVec.eq_of_toNat_eq
  show (x.toUInt32 >>> 1).toNat = (BitVec.ofNat 32 (x.toUInt32.toNat / 2)).toNat
  have h1 := at_lt x
  rw [UInt32.toNat_shiftRight, BitVec.toNat_ofNat, Nat.mod_eq_of_lt (show x.toUInt32.toNat / 2 < 2 ^ 32 by omega)]
  show x.toUInt32.toNat >>> 1 = _
  rw [Nat.shiftRight_eq_div_pow]
/-- who is used, bit by bit -/
theorem us_bit {S : qS} {c : Nat → Nat} (a : Nat) : ∀ k, (us S c k).testBit a = true ↔ ∃ q, q < k ∧ nv (S 6 (q * 4 + c q)) = a
  | 0 => by
    show (0 : Nat).testBit a = true ↔ _
    rw [Nat.zero_testBit]
    exact ⟨fun h => Bool.noConfusion h, fun ⟨q, h, _⟩ => absurd h (Nat.not_lt_zero q)⟩
  | k + 1 => by
    show (us S c k ||| 2 ^ nv (S 6 (k * 4 + c k))).testBit a = true ↔ _
    rw [Nat.testBit_or, Nat.testBit_two_pow, Bool.or_eq_true, us_bit a k, decide_eq_true_iff]
    constructor
    · intro h
      rcases h with ⟨q, h1, h2⟩ | h
      · exact ⟨q, by omega, h2⟩
      · exact ⟨k, by omega, h⟩
    · intro ⟨q, h1, h2⟩
      rcases Nat.lt_or_ge q k with h | h
      · exact Or.inl ⟨q, h, h2⟩
      · have e : q = k := by omega
        subst e; exact Or.inr h2
theorem ok_iff {S : qS} {m : Nat} {c : Nat → Nat} : ∀ k, ok S m c k = true ↔ (∀ q, q < k → avB S m (q * 4 + c q) = true) ∧ ∀ q q', q < k → q' < q → ¬ nv (S 6 (q' * 4 + c q')) = nv (S 6 (q * 4 + c q))
  | 0 => ⟨fun _ => ⟨fun q h => absurd h (Nat.not_lt_zero q), fun q q' h => absurd h (Nat.not_lt_zero q)⟩, fun _ => rfl⟩
  | k + 1 => by
    rw [ok_s, ok_iff k]
    constructor
    · intro ⟨⟨h1, h2⟩, h3, h4⟩
      have h5 : ∀ q', q' < k → ¬ nv (S 6 (q' * 4 + c q')) = nv (S 6 (k * 4 + c k)) := fun q' hq e => by
        rw [(us_bit _ k).mpr ⟨q', hq, e⟩] at h4; exact Bool.noConfusion h4
      refine ⟨fun q hq => ?_, fun q q' hq hq' => ?_⟩
      · rcases Nat.lt_or_ge q k with h | h
        · exact h1 q h
        · rw [show q = k by omega]; exact h3
      · rcases Nat.lt_or_ge q k with h | h
        · exact h2 q q' h hq'
        · have e : q = k := by omega
          subst e; exact h5 q' hq'
    · intro ⟨h1, h2⟩
      refine ⟨⟨fun q hq => h1 q (by omega), fun q q' hq hq' => h2 q q' (by omega) hq'⟩, h1 k (by omega), ?_⟩
      cases hb : (us S c k).testBit (nv (S 6 (k * 4 + c k))) with
      | false => rfl
      | true =>
        obtain ⟨q', hq, e⟩ := (us_bit _ k).mp hb
        exact absurd e (h2 k q' (by omega) hq)
/-- the actor of a part in a cast -/
def acN (S : qS) (b p : Nat) : Nat := nv (S 6 (p * 4 + dg (nv (S 27 0)) b p))
theorem bs_at {S : qS} {m b p : Nat} (hI : Inv S) (h : bc S m = some b) (hp : p < nv (S 27 0)) : bcA S m p = nI (acN S b p) ∧ acN S b p < 12 ∧ dg (nv (S 27 0)) b p < nv (S 7 p) ∧ rdy S (acN S b p) p m = true := by
  have hn : nv (S 27 0) ≤ 8 := by have := (iv_27 hI).1.2; omega
  obtain ⟨h1, h2, -⟩ := bc_some h
  have o := ((ok_iff _).mp h2.2.2).1 p hp
  rw [avB_at (dg_lt _ _ _), Bool.and_eq_true, decide_eq_true_iff] at o
  have h5 := iv_6 hI p _ (by omega) o.1
  exact ⟨(bcA_v h hp).trans h5.1, h5.2, o.1, o.2⟩
theorem bs_e {S : qS} {b p m : Nat} (hI : Inv S) (h : bc S m = some b) (hp : p < nv (S 27 0)) : S 6 (p * 4 + dg (nv (S 27 0)) b p) = nI (acN S b p) := (bcA_v h hp).symm.trans (bs_at hI h hp).1
theorem rk_at {S : qS} (hI : Inv S) {p e : Nat} (hp : p < 8) (he : e < nv (S 7 p)) : rkI S p (S 6 (p * 4 + e)) = nI e ∧ rkB S p (S 6 (p * 4 + e)) = true :=
  ⟨(fi_hit he (fun j hj => decide_eq_false (iv_6d hI p e j hp he hj)) (decide_eq_true rfl)).symm, ex_iff.mpr ⟨e, he, decide_eq_true rfl⟩⟩
theorem bs_rk {S : qS} {m b p : Nat} (hI : Inv S) (h : bc S m = some b) (hp : p < nv (S 27 0)) : rkI S p (nI (acN S b p)) = nI (dg (nv (S 27 0)) b p) ∧ rkB S p (nI (acN S b p)) = true := by
  have hn : nv (S 27 0) ≤ 8 := by have := (iv_27 hI).1.2; omega
  rw [← bs_e hI h hp]
  exact rk_at hI (by omega) (bs_at hI h hp).2.2.1
theorem bs_can {S : qS} {m b p : Nat} (hI : Inv S) (h : bc S m = some b) (hp : p < nv (S 27 0)) : (rkB S p (nI (acN S b p)) && rdy S (acN S b p) p m) = true := by
  rw [(bs_rk hI h hp).2, (bs_at hI h hp).2.2.2]; rfl
theorem bs_pf {S : qS} {m b k : Nat} (h : bc S m = some b) (hk : k ≤ nv (S 27 0)) : Pf S m (nv (S 27 0)) (dg (nv (S 27 0)) b) k :=
  ⟨hk, fun p _ => dg_lt _ b p, ok_le hk (bc_some h).2.1.2.2⟩
theorem bs_us {S : qS} {m b k : Nat} (hI : Inv S) (h : bc S m = some b) (hk : k ≤ nv (S 27 0)) : us S (dg (nv (S 27 0)) b) k < 4096 := by
  have hn : nv (S 27 0) ≤ 8 := by have := (iv_27 hI).1.2; omega
  exact us_lt hI hn (bs_pf h hk)
theorem bs_nu {S : qS} {m b k : Nat} (h : bc S m = some b) (hk : k < nv (S 27 0)) : (us S (dg (nv (S 27 0)) b) k).testBit (acN S b k) = false := (ok_s.mp (bs_pf h hk).2.2).2.2
theorem sr_set {d : Nat → Nat} {p e : Nat} (he : e < d p) : ∀ k, sr (fun q => if q = p then e else d q) k + (if p < k then d p - e else 0) = sr d k
  | 0 => by rw [if_neg (Nat.not_lt_zero p)]; rfl
  | k + 1 => by
    have ih := sr_set he k
    show sr (fun q => if q = p then e else d q) k + (if k = p then e else d k) + _ = sr d k + d k
    by_cases h : k = p
    · subst h
      rw [if_neg (Nat.lt_irrefl k)] at ih
      rw [if_pos rfl, if_pos (Nat.lt_succ_self k)]
      omega
    · rw [if_neg h]
      by_cases h2 : p < k
      · rw [if_pos h2] at ih; rw [if_pos (by omega)]; omega
      · rw [if_neg h2] at ih; rw [if_neg (by omega)]; omega
/-- no free one of less rank is left aside -/
theorem bs_min {S : qS} {m b p e : Nat} (hI : Inv S) (h : bc S m = some b) (hp : p < nv (S 27 0)) (he : e < dg (nv (S 27 0)) b p) (hc : rdy S (nv (S 6 (p * 4 + e))) p m = true) : ∃ q, q < nv (S 27 0) ∧ acN S b q = nv (S 6 (p * 4 + e)) := by
  apply Classical.byContradiction
  intro hno0
  have hno : ∀ q, q < nv (S 27 0) → ¬ acN S b q = nv (S 6 (p * 4 + e)) := fun q hq e9 => hno0 ⟨q, hq, e9⟩
  obtain ⟨h1, h2, h3⟩ := bc_some h
  have hat := bs_at hI h hp
  have h4 := dg_lt (nv (S 27 0)) b p
  obtain ⟨o1, o2⟩ := (ok_iff _).mp h2.2.2
  have hc' : Pf S m (nv (S 27 0)) (fun q => if q = p then e else dg (nv (S 27 0)) b q) (nv (S 27 0)) := by
    refine ⟨Nat.le_refl _, fun q _ => ?_, (ok_iff _).mpr ⟨fun q hq => ?_, fun q q' hq hq' => ?_⟩⟩
    · show (if q = p then e else dg (nv (S 27 0)) b q) < 4
      split
      · omega
      · exact dg_lt _ b q
    · show avB S m (q * 4 + (if q = p then e else dg (nv (S 27 0)) b q)) = true
      by_cases e9 : q = p
      · subst e9
        rw [if_pos rfl, avB_at (by omega), hc, decide_eq_true (show e < nv (S 7 q) by omega)]
        rfl
      · rw [if_neg e9]; exact o1 q hq
    · show ¬ nv (S 6 (q' * 4 + (if q' = p then e else dg (nv (S 27 0)) b q'))) = nv (S 6 (q * 4 + (if q = p then e else dg (nv (S 27 0)) b q)))
      by_cases e9 : q = p
      · subst e9
        rw [if_pos rfl, if_neg (by omega)]
        exact hno q' (by omega)
      · rw [if_neg e9]
        by_cases e8 : q' = p
        · subst e8
          rw [if_pos rfl]
          exact fun w => hno q hq w.symm
        · rw [if_neg e8]; exact o2 q q' hq hq'
  have h5 := h3 _ hc'
  have h6 := sr_set he (nv (S 27 0))
  rw [if_pos hp] at h6
  omega
/-- a cold: who is ill more -/
theorem avB_ill {S : qS} {m a i : Nat} : avB S (m ||| 2 ^ a) i = true ↔ avB S m i = true ∧ ¬ nv (S 6 i) = a := by
  unfold avB rdy
  rw [Nat.testBit_or, Nat.testBit_two_pow]
  simp only [Bool.and_eq_true, Bool.not_eq_true', Bool.or_eq_false_iff, decide_eq_false_iff_not]
  constructor
  · intro ⟨h1, h2, ⟨h3, h4⟩, h5⟩
    exact ⟨⟨h1, h2, h3, h5⟩, fun q => h4 q.symm⟩
  · intro ⟨⟨h1, h2, h3, h5⟩, h4⟩
    exact ⟨h1, h2, ⟨h3, fun q => h4 q.symm⟩, h5⟩
theorem pf_ill {S : qS} {m a n : Nat} {c : Nat → Nat} : Pf S (m ||| 2 ^ a) n c n ↔ Pf S m n c n ∧ ∀ q, q < n → ¬ nv (S 6 (q * 4 + c q)) = a := by
  unfold Pf
  rw [ok_iff, ok_iff]
  constructor
  · intro ⟨h1, h2, h3, h4⟩
    exact ⟨⟨h1, h2, fun q hq => (avB_ill.mp (h3 q hq)).1, h4⟩, fun q hq => (avB_ill.mp (h3 q hq)).2⟩
  · intro ⟨⟨h1, h2, h3, h4⟩, h5⟩
    exact ⟨h1, h2, fun q hq => avB_ill.mpr ⟨h3 q hq, h5 q hq⟩, h4⟩
theorem bc_keep {S : qS} {m a b : Nat} (h : bc S m = some b) (hno : ∀ q, q < nv (S 27 0) → ¬ acN S b q = a) : bc S (m ||| 2 ^ a) = some b := by
  have hb' : Pf S (m ||| 2 ^ a) (nv (S 27 0)) (dg (nv (S 27 0)) b) (nv (S 27 0)) := pf_ill.mpr ⟨(bc_some h).2.1, hno⟩
  cases h' : bc S (m ||| 2 ^ a) with
  | none => exact absurd hb' (bc_none h' _)
  | some b' =>
    obtain ⟨h1, h2, h3⟩ := (bcR_at S m (nv (S 27 0)) _).2 b h
    obtain ⟨k1, k2, k3⟩ := (bcR_at S (m ||| 2 ^ a) (nv (S 27 0)) _).2 b' h'
    have e1 := k3 b h1 hb'.2.2
    have e2 := h3 b' k1 (pf_ill.mp (bc_some h').2.1).1.2.2
    congr 1
    omega
theorem chN_self (S : qS) (b : Nat) : ∀ k, chN S b b k = 0
  | 0 => rfl
  | k + 1 => by
    show chN S b b k + _ = 0
    rw [chN_self S b k, if_pos rfl]
theorem chN_le (S : qS) (b b2 : Nat) : ∀ k, chN S b b2 k ≤ k
  | 0 => Nat.le_refl 0
  | k + 1 => by
    have ih := chN_le S b b2 k
    show chN S b b2 k + (if _ then 0 else 1) ≤ k + 1
    split <;> omega
theorem chN_pos {S : qS} {b b2 q : Nat} (h : ¬ S 6 (q * 4 + dg (nv (S 27 0)) b q) = S 6 (q * 4 + dg (nv (S 27 0)) b2 q)) : ∀ k, q < k → 1 ≤ chN S b b2 k
  | 0, hk => absurd hk (Nat.not_lt_zero q)
  | k + 1, hk => by
    show 1 ≤ chN S b b2 k + (if _ then 0 else 1)
    rcases Nat.lt_or_ge q k with e | e
    · have := chN_pos h k e; omega
    · have e : q = k := by omega
      subst e
      rw [if_neg h]; omega
theorem chN_y {S : qS} {b b2 k : Nat} (h : S 6 (k * 4 + dg (nv (S 27 0)) b2 k) = S 6 (k * 4 + dg (nv (S 27 0)) b k)) : chN S b b2 k + 0 = chN S b b2 (k + 1) := by
  show _ = chN S b b2 k + _; rw [if_pos h.symm]
theorem chN_n {S : qS} {b b2 k : Nat} (h : ¬ S 6 (k * 4 + dg (nv (S 27 0)) b2 k) = S 6 (k * 4 + dg (nv (S 27 0)) b k)) : chN S b b2 k + 1 = chN S b b2 (k + 1) := by
  show _ = chN S b b2 k + _; rw [if_neg (fun q => h q.symm)]
theorem bs_ge {S : qS} {m : Nat} (h : ¬ bcS S m < 0) : ∃ b, bc S m = some b ∧ bcS S m = nI (sr (dg (nv (S 27 0)) b) (nv (S 27 0))) := by
  unfold bcS at h ⊢
  cases q : bc S m with
  | none => rw [q] at h; exact absurd (show (-1 : Int32) < 0 by decide) h
  | some b => exact ⟨b, rfl, rfl⟩
theorem bs_lt {S : qS} {m : Nat} (hI : Inv S) (h : bcS S m < 0) : bc S m = none := by
  have hn : nv (S 27 0) ≤ 8 := by have := (iv_27 hI).1.2; omega
  unfold bcS at h
  cases q : bc S m with
  | none => rfl
  | some b =>
    rw [q] at h
    have := sr_le (c := dg (nv (S 27 0)) b) (k := nv (S 27 0)) (fun p _ => dg_lt _ b p)
    exact absurd h (Int32.not_lt.mpr (nI_pos' (show sr (dg (nv (S 27 0)) b) (nv (S 27 0)) < 2147483648 by omega)))
theorem bs_no {S : qS} {m : Nat} (h : bc S m = none) : bcS S m = -1 ∧ bcW S m = -1 ∧ ∀ p, bcA S m p = -1 := by
  refine ⟨?_, ?_, fun p => ?_⟩
  · unfold bcS; rw [h]
  · unfold bcW; rw [h]
  · unfold bcA; rw [h]
theorem bs_s {S : qS} {m b : Nat} (h : bc S m = some b) : bcS S m = nI (sr (dg (nv (S 27 0)) b) (nv (S 27 0))) := by unfold bcS; rw [h]
theorem bs_w {S : qS} {m b : Nat} (h : bc S m = some b) : bcW S m = nI (wo S (dg (nv (S 27 0)) b) (nv (S 27 0))) := by unfold bcW; rw [h]
theorem bs_7 {S : qS} {m b p : Nat} (h : bc S m = some b) (hp : ¬ p < nv (S 27 0)) : bcA S m p = -1 := by unfold bcA; rw [h]; exact if_neg hp
theorem ch_none {S : qS} {m a : Nat} (h : bc S m = none) : chI S m a = -1 := by unfold chI; rw [h]
theorem ch_zero {S : qS} {m a b : Nat} (h : bc S m = some b) (hno : ∀ q, q < nv (S 27 0) → ¬ acN S b q = a) : chI S m a = nI 0 := by
  have h2 := bc_keep h hno
  unfold chI
  rw [h, h2]
  show nI (chN S b b (nv (S 27 0))) = nI 0
  rw [chN_self]
theorem ch_some {S : qS} {m a : Nat} (h : ¬ chI S m a = -1) : ∃ b b2, bc S m = some b ∧ bc S (m ||| 2 ^ a) = some b2 ∧ chI S m a = nI (chN S b b2 (nv (S 27 0))) := by
  unfold chI at h ⊢
  cases q : bc S m with
  | none => rw [q] at h; exact absurd rfl h
  | some b =>
    cases q2 : bc S (m ||| 2 ^ a) with
    | none => rw [q, q2] at h; exact absurd rfl h
    | some b2 => exact ⟨b, b2, rfl, rfl, rfl⟩
theorem ch_no2 {S : qS} {m a b : Nat} (hI : Inv S) (h : chI S m a = -1) (hb : bc S m = some b) : bc S (m ||| 2 ^ a) = none := by
  have hn : nv (S 27 0) ≤ 8 := by have := (iv_27 hI).1.2; omega
  unfold chI at h
  rw [hb] at h
  cases q2 : bc S (m ||| 2 ^ a) with
  | none => rfl
  | some b2 =>
    rw [q2] at h
    have := chN_le S b b2 (nv (S 27 0))
    exact absurd h (m1_ne (n := chN S b b2 (nv (S 27 0))) (by omega))
theorem il_no {S : qS} {m a b : Nat} (h : bc S (m ||| 2 ^ a) = some b) : ∀ q, q < nv (S 27 0) → ¬ acN S b q = a := (pf_ill.mp (bc_some h).2.1).2
theorem ch_rng {S : qS} {m a b : Nat} (hI : Inv S) (h : bc S m = some b) (hq : ∃ q, q < nv (S 27 0) ∧ acN S b q = a) (hne : ¬ chI S m a = -1) : ∃ k, 1 ≤ k ∧ k ≤ nv (S 27 0) ∧ chI S m a = nI k := by
  obtain ⟨b0, b2, h0, h2, e⟩ := ch_some hne
  have e0 : b0 = b := Option.some.inj (h0.symm.trans h)
  subst e0
  obtain ⟨q, hq1, hq2⟩ := hq
  refine ⟨_, chN_pos (q := q) (fun w => ?_) _ hq1, chN_le _ _ _ _, e⟩
  exact il_no h2 q hq1 ((congrArg nv w).symm.trans hq2)
theorem sr_ill {S : qS} {m a b b2 : Nat} (h : bc S m = some b) (h2 : bc S (m ||| 2 ^ a) = some b2) : sr (dg (nv (S 27 0)) b) (nv (S 27 0)) ≤ sr (dg (nv (S 27 0)) b2) (nv (S 27 0)) := by
  have := (bc_some h).2.2 _ (pf_ill.mp (bc_some h2).2.1).1
  omega
/-- does the actor play -/
def plP (S : qS) (m a : Nat) : Nat → Bool := fun p => decide (bcA S m p = nI a)
def plB (S : qS) (m a : Nat) : Bool := ex (plP S m a) (nv (S 27 0))
theorem pl_iff {S : qS} {m a b : Nat} (hI : Inv S) (ha : a < 12) (h : bc S m = some b) : plB S m a = true ↔ ∃ q, q < nv (S 27 0) ∧ acN S b q = a := by
  unfold plB
  rw [ex_iff]
  constructor
  · intro ⟨q, h1, h2⟩
    have h3 := bs_at hI h h1
    have h2 := of_decide_eq_true h2
    rw [h3.1] at h2
    exact ⟨q, h1, (nI_eq (by omega) (by omega)).mp h2⟩
  · intro ⟨q, h1, h2⟩
    have h3 := bs_at hI h h1
    exact ⟨q, h1, decide_eq_true (h3.1.trans (by rw [h2]))⟩
/-- days that change -/
theorem us_4 (S : qS) (f : Nat → Int32) (c : Nat → Nat) : ∀ k, us (va_up S 4 f) c k = us S c k
  | 0 => rfl
  | k + 1 => by
    show us (va_up S 4 f) c k ||| 2 ^ nv (S 6 (k * 4 + c k)) = us S c k ||| 2 ^ nv (S 6 (k * 4 + c k))
    rw [us_4 S f c k]
theorem ok_4 (S : qS) (f : Nat → Int32) (m : Nat) (c : Nat → Nat) : ∀ k, ok (va_up S 4 f) m c k = ok S m c k
  | 0 => rfl
  | k + 1 => by
    show (ok (va_up S 4 f) m c k && (avB S m (k * 4 + c k) && !(us (va_up S 4 f) c k).testBit (nv (S 6 (k * 4 + c k))))) = (ok S m c k && (avB S m (k * 4 + c k) && !(us S c k).testBit (nv (S 6 (k * 4 + c k)))))
    rw [ok_4 S f m c k, us_4]
theorem wo_4 (S : qS) (f : Nat → Int32) (c : Nat → Nat) : ∀ k, wo (va_up S 4 f) c k = wo S c k
  | 0 => rfl
  | k + 1 => by
    show wo (va_up S 4 f) c k + wk S (k * 4 + c k) = wo S c k + wk S (k * 4 + c k)
    rw [wo_4 S f c k]
theorem bcR_4 (S : qS) (f : Nat → Int32) (m n : Nat) : ∀ N, bcR (va_up S 4 f) m n N = bcR S m n N
  | 0 => rfl
  | N + 1 => by
    have ih := bcR_4 S f m n N
    unfold bcR
    rw [ok_4, ih]
    cases bcR S m n N with
    | none => rfl
    | some b => simp only [wo_4]
theorem bc_4 (S : qS) (f : Nat → Int32) (m : Nat) : bc (va_up S 4 f) m = bc S m := bcR_4 S f m (nv (S 27 0)) (4 ^ nv (S 27 0))
theorem bcS_4 (S : qS) (f : Nat → Int32) (m : Nat) : bcS (va_up S 4 f) m = bcS S m := by
  have h := bc_4 S f m
  unfold bcS
  rw [h]
  try rfl
theorem bcA_4 (S : qS) (f : Nat → Int32) (m p : Nat) : bcA (va_up S 4 f) m p = bcA S m p := by
  have h := bc_4 S f m
  unfold bcA
  rw [h]
  try rfl
theorem plB_4 (S : qS) (f : Nat → Int32) (m a : Nat) : plB (va_up S 4 f) m a = plB S m a := by
  have e : plP (va_up S 4 f) m a = plP S m a := by
    funext p
    unfold plP
    rw [bcA_4]
  show ex (plP (va_up S 4 f) m a) (nv (S 27 0)) = ex (plP S m a) (nv (S 27 0))
  rw [e]
theorem il_at {S : qS} (hI : Inv S) {a d : Nat} (ha : a < 12) (hd : d ≤ 1000) : nv (ilF (S 4) a d (d + (d + 1 - d)) d) = nv (S 4 d) ||| 2 ^ a := by
  have h := or_lt (n := 12) (iv_4 hI d (by omega)).2 ha
  unfold ilF
  rw [if_pos (by omega), nv_nI (by omega)]
theorem il_bit {S : qS} (hI : Inv S) {a d : Nat} (ha : a < 12) (hd : d ≤ 1000) : (nv (ilF (S 4) a d (d + (d + 1 - d)) d)).testBit a = true := by
  rw [il_at hI ha hd, Nat.testBit_or, Nat.testBit_two_pow, decide_eq_true rfl, Bool.or_true]
theorem il_n {S : qS} {a d : Nat} (h : (nv (S 4 d)).testBit a = false) : ilC (S 4) a d (d + 1 - d) = 1 := by
  rw [show d + 1 - d = 1 by omega]
  show 0 + (if (nv (S 4 (d + 0))).testBit a = true then 0 else 1) = 1
  rw [Nat.add_zero, h]; rfl
theorem il_y {S : qS} {a d : Nat} (h : (nv (S 4 d)).testBit a = true) : ilC (S 4) a d (d + 1 - d) = 0 := by
  rw [show d + 1 - d = 1 by omega]
  show 0 + (if (nv (S 4 (d + 0))).testBit a = true then 0 else 1) = 0
  rw [Nat.add_zero, h]; rfl
/-- what the law's arrays come to -/
theorem kF_s (f : Nat → Int32) (a v : Nat) (hv : v < 2147483648) : upd (kF f) a (nI (pcn 12 v)) = kF (upd f a (nI v)) := by
  funext i
  unfold kF upd
  by_cases e : i = a
  · rw [if_pos e, if_pos e, nv_nI hv]
  · rw [if_neg e, if_neg e]
theorem mF_0 (a b x : Int32) : upd (mF a b) 0 x = mF x b := by
  funext i
  unfold mF upd
  by_cases e : i = 0
  · rw [if_pos e, if_pos e]
  · rw [if_neg e, if_neg e]; exact if_neg e
theorem mF_1 (a b x : Int32) : upd (mF a b) 1 x = mF a x := by
  funext i
  unfold mF upd
  by_cases e : i = 1
  · subst e; rfl
  · rw [if_neg e, if_neg e]
    show (if i = 0 then a else if i = 1 then b else 0) = _
    rw [if_neg e]
theorem pcn_pos {x a : Nat} (h : x.testBit a = true) : ∀ k, a < k → 1 ≤ pcn k x
  | 0, hk => absurd hk (Nat.not_lt_zero a)
  | k + 1, hk => by
    show 1 ≤ pcn k x + (if x.testBit k = true then 1 else 0)
    rcases Nat.lt_or_ge a k with e | e
    · have := pcn_pos h k e; omega
    · have e : a = k := by omega
      subst e
      rw [if_pos h]; omega
theorem pcn_add {x p : Nat} : pcn 12 (x ||| 2 ^ p) ≤ pcn 12 x + 1 := by
  rw [pcn_or]
  split <;> omega
theorem pcn_one {x p : Nat} (hp : p < 8) : 1 ≤ pcn 12 (x ||| 2 ^ p) := pcn_pos (a := p) (by rw [Nat.testBit_or, Nat.testBit_two_pow, decide_eq_true rfl, Bool.or_true]) 12 (by omega)
theorem rk_lt {S : qS} {p : Nat} {x : Int32} (h : ¬ 0 ≤ rkI S p x) : rkB S p x = false := by
  cases q : rkB S p x with
  | false => rfl
  | true =>
    refine absurd ?_ h
    have hne : ¬ rkI S p x = -1 := fun w => by rw [rk_f w] at q; exact Bool.noConfusion q
    rw [(rk_rng hne).1]
    exact nI_pos' (nv_lt _)
theorem rk_ge {S : qS} {p : Nat} {x : Int32} (h : 0 ≤ rkI S p x) : ¬ rkI S p x = -1 := fun w => by rw [w] at h; exact absurd h (by decide)
