/-! numbers and bits that both sides speak of -/
abbrev nv (x : Int32) : Nat := x.toNatClampNeg
theorem nv_nI {n : Nat} (h : n < 2147483648) : nv (nI n) = n := nI_clamp h
def bI (b : Bool) : Int32 := if b = true then 1 else 0
theorem bI_t : bI true = 1 := rfl
theorem bI_f : bI false = 0 := rfl
theorem bI_z (b : Bool) : bI b = 0 ↔ b = false := by cases b <;> decide
theorem bI_nz (b : Bool) : ¬ bI b = 0 ↔ b = true := by cases b <;> decide
theorem bI_N (b : Bool) : bI b = nI (if b = true then 1 else 0) := by cases b <;> rfl
theorem nar_bI (b : Bool) : narrow .boolean (.int (bI b)) = .int (bI b) := by cases b <;> rfl
theorem nar_b01 {x : Int32} (h : x = 0 ∨ x = 1) : narrow .boolean (.int x) = .int x := by rcases h with rfl | rfl <;> rfl
/-- a number in a range -/
def bd (x : Int32) (n : Nat) : Prop := x = nI (nv x) ∧ nv x < n
theorem bd_nI {n N : Nat} (h : n < N) (hN : N ≤ 2147483648) : bd (nI n) N := ⟨by rw [nv_nI (by omega)], by rw [nv_nI (by omega)]; exact h⟩
theorem bd_in {x : Int32} {n : Nat} (hn : n ≤ 2147483648) (h : bd x n) : vp_in x n := by
  rw [h.1]; exact fun q => q.elim (fun q => nI_pos (by have := h.2; omega) q) (fun q => by rw [nI_clamp (by have := h.2; omega)] at q; have := h.2; omega)
theorem bd_mono {x : Int32} {a b : Nat} (h : bd x a) (hab : a ≤ b) : bd x b := ⟨h.1, Nat.lt_of_lt_of_le h.2 hab⟩
/-- the first of n places with P, or n -/
def fs (P : Nat → Bool) : Nat → Nat
  | 0 => 0
  | n + 1 => if fs P n < n then fs P n else if P n = true then n else n + 1
theorem fs_le (P : Nat → Bool) : ∀ n, fs P n ≤ n
  | 0 => Nat.le_refl 0
  | n + 1 => by
    have ih := fs_le P n
    simp only [fs]
    split
    · omega
    · split <;> omega
theorem fs_no (P : Nat → Bool) : ∀ n k, k < fs P n → P k = false
  | 0, k, h => absurd h (Nat.not_lt_zero k)
  | n + 1, k, h => by
    have ih := fs_no P n
    have hl := fs_le P n
    simp only [fs] at h
    split at h
    · exact ih k h
    · rename_i h1
      have e : fs P n = n := by omega
      split at h
      · exact ih k (by omega)
      · rename_i h2
        rcases Nat.lt_or_ge k n with q | q
        · exact ih k (by omega)
        · have : k = n := by omega
          subst this
          exact Bool.eq_false_iff.mpr h2
theorem fs_yes (P : Nat → Bool) : ∀ n, fs P n < n → P (fs P n) = true
  | 0, h => absurd h (Nat.not_lt_zero _)
  | n + 1, h => by
    have ih := fs_yes P n
    simp only [fs] at h ⊢
    split
    · rename_i h1; exact ih h1
    · rename_i h1
      rw [if_neg h1] at h
      split
      · rename_i h2; exact h2
      · rename_i h2; rw [if_neg h2] at h; omega
theorem fs_hit {P : Nat → Bool} {n k : Nat} (hk : k < n) (hb : ∀ j, j < k → P j = false) (hp : P k = true) : fs P n = k := by
  have h1 : ¬ k < fs P n := fun q => by have := fs_no P n k q; rw [hp] at this; exact Bool.noConfusion this
  have h2 : ¬ fs P n < k := fun q => by have := fs_yes P n (by omega); rw [hb _ q] at this; exact Bool.noConfusion this
  omega
theorem fs_miss {P : Nat → Bool} {n : Nat} (hb : ∀ j, j < n → P j = false) : fs P n = n := by
  have h1 := fs_le P n
  have h2 : ¬ fs P n < n := fun q => by have := fs_yes P n q; rw [hb _ q] at this; exact Bool.noConfusion this
  omega
theorem fs_cong {P P' : Nat → Bool} {n : Nat} (h : ∀ j, j < n → P j = P' j) : fs P n = fs P' n := by
  rcases Nat.lt_or_ge (fs P' n) n with q | q
  · exact fs_hit q (fun j hj => by rw [h j (by omega)]; exact fs_no P' n j hj) (by rw [h _ q]; exact fs_yes P' n q)
  · have e : fs P' n = n := Nat.le_antisymm (fs_le P' n) q
    rw [e]
    exact fs_miss (fun j hj => by rw [h j hj]; exact fs_no P' n j (by omega))
/-- .. as an int: its place, or -1; and whether there is one -/
def fi (P : Nat → Bool) (n : Nat) : Int32 := if fs P n < n then nI (fs P n) else -1
def ex (P : Nat → Bool) (n : Nat) : Bool := decide (fs P n < n)
theorem fi_hit {P : Nat → Bool} {n k : Nat} (hk : k < n) (hb : ∀ j, j < k → P j = false) (hp : P k = true) : nI k = fi P n := by
  rw [fi, fs_hit hk hb hp, if_pos hk]
theorem fi_miss {P : Nat → Bool} {n : Nat} (hb : ∀ j, j < n → P j = false) : (-1 : Int32) = fi P n := by
  rw [fi, fs_miss hb, if_neg (Nat.lt_irrefl n)]
theorem ex_iff {P : Nat → Bool} {n : Nat} : ex P n = true ↔ ∃ k, k < n ∧ P k = true := by
  unfold ex
  rw [decide_eq_true_iff]
  refine ⟨fun h => ⟨_, h, fs_yes P n h⟩, fun ⟨k, h1, h2⟩ => ?_⟩
  rcases Nat.lt_or_ge (fs P n) n with q | q
  · exact q
  · have := fs_no P n k (by omega)
    rw [h2] at this; exact Bool.noConfusion this
theorem ex_not {P : Nat → Bool} {n : Nat} (h : ∀ k, k < n → P k = false) : ex P n = false := by
  rw [Bool.eq_false_iff]
  exact fun q => by obtain ⟨k, h1, h2⟩ := ex_iff.mp q; rw [h k h1] at h2; exact Bool.noConfusion h2
theorem m1_ne {n : Nat} (h : n < 2147483648) : ¬ (nI n = -1) := fun q => by
  have e := congrArg Int32.toInt q
  rw [nI_toInt h] at e
  have e2 : (-1 : Int32).toInt = -1 := by decide
  omega
theorem fi_ne {P : Nat → Bool} {n : Nat} (hn : n ≤ 2147483648) : fi P n = -1 ↔ ex P n = false := by
  unfold fi ex
  split
  · rename_i h
    exact ⟨fun q => absurd q (m1_ne (by omega)), fun q => by rw [decide_eq_false_iff_not] at q; exact absurd h q⟩
  · rename_i h
    exact ⟨fun _ => by rw [decide_eq_false_iff_not]; exact h, fun _ => rfl⟩
theorem upd_self (f : Nat → Int32) (i : Nat) : upd f i (f i) = f := by
  funext j; unfold upd; split
  · rename_i h; rw [h]
  · rfl
theorem upd_eq {f : Nat → Int32} {i : Nat} {x : Int32} (h : f i = x) : upd f i x = f := by rw [← h]; exact upd_self f i
theorem upd_s (f : Nat → Int32) (i : Nat) (x : Int32) : upd f i x i = x := if_pos rfl
theorem upd_n (f : Nat → Int32) {i j : Nat} (x : Int32) (h : j ≠ i) : upd f i x j = f j := if_neg h
theorem sub1 (n : Nat) (h : 0 < n) : nI n - 1 = nI (n - 1) := pk_sub (a := n) (b := 1) h
/-- how many bits, of the lowest twelve -/
def pcn : Nat → Nat → Nat
  | 0, _ => 0
  | k + 1, m => pcn k m + (if m.testBit k = true then 1 else 0)
abbrev pc12 (m : Nat) : Nat := pcn 12 m
/-! throws -/
def nm2 : List String := ["java/lang/RuntimeException", "java/lang/Exception"]
section CDT
variable {p : Program} {l : Launch} {e : Env} {R : Room} {s : State} {m : MethodId} {args : Array Value} {below : List Frame} {meth : Method} {c : Code} {H : Heap} {locs : List Loc} {cells slots : Nat} {Q : State → Prop}
variable {cc : ByteArray} {pc nL : Nat} {ls : Array Slot} {rest : List Value} {A : Nat → Prop} {mc ms : Nat} {Qc : Array Value → State → Outcome → State → Prop} {px : String → Prop}
theorem cd_ifB_eq (hexec : p.tables.exec = Jvm.exec) (hb : c.code = cc) {b : Bool} {off : Int} {tgt : Nat} (hdg : decode cc pc = .ok (.ifCond .eq off, 3)) (ht : (pc : Int) + off = (tgt : Int)) (kt : b = false → W p l e R s m args below meth c H locs cells slots Q (F0 m tgt ls rest)) (kf : b = true → W p l e R s m args below meth c H locs cells slots Q (F0 m (pc + 3) ls rest)) : W p l e R s m args below meth c H locs cells slots Q (F0 m pc ls (.int (bI b) :: rest)) := lv_if_eq hexec hb hdg ht (fun h => kt ((bI_z b).mp h)) (fun h => kf ((bI_nz b).mp h))
theorem cd_ifB_ne (hexec : p.tables.exec = Jvm.exec) (hb : c.code = cc) {b : Bool} {off : Int} {tgt : Nat} (hdg : decode cc pc = .ok (.ifCond .ne off, 3)) (ht : (pc : Int) + off = (tgt : Int)) (kt : b = true → W p l e R s m args below meth c H locs cells slots Q (F0 m tgt ls rest)) (kf : b = false → W p l e R s m args below meth c H locs cells slots Q (F0 m (pc + 3) ls rest)) : W p l e R s m args below meth c H locs cells slots Q (F0 m pc ls (.int (bI b) :: rest)) := lv_if_ne hexec hb hdg ht (fun h => kt ((bI_nz b).mp h)) (fun h => kf ((bI_z b).mp h))
theorem cd_thr {cls tx : String} {ik is ic : Nat} (hcls : Bundle.fit cls = true) (hgood : ∀ w ∈ Cond.classLink RX6 ik cls :: Cond.initialized cls :: vx_atS RX6 ic cls nm2, vx_ot w = true) (hnot : ∀ w ∈ (vx_atS RX6 ic cls nm2).filter (fun w => !goodWord w), w ∈ ([.castable cls cls, .declares (Bundle.initS "java/lang/RuntimeException"), .declares (Bundle.initS "java/lang/Exception"), .declares (Bundle.initS Bundle.tN)] : List Cond)) (hB : ∀ w ∈ ([.castable cls cls, .declares (Bundle.initS "java/lang/RuntimeException"), .declares (Bundle.initS "java/lang/Exception"), .declares (Bundle.initS Bundle.tN)] : List Cond), w.before args s = true)
    (hexec : p.tables.exec = Jvm.exec) (hb : c.code = cc) (hfl : l.stackTraces = false) (hown : s.vm.findClass RX6 = some m.cls) (hk : (Cond.classLink RX6 ik cls).before args s = true) (hini : (Cond.initialized cls).before args s = true) (htx : gT is tx s)
    (hat : ∀ w ∈ (vx_atS RX6 ic cls nm2).filter goodWord, w.before args s = true) (hTz : Tz A s s.heap) (hS : va_S A s.heap H locs) (hH : H = s.heap) (hsz : ls.size = nL) (hml : c.maxLocals = nL)
    (d0 : decode cc pc = .ok (.new ik, 3)) (d3 : decode cc (pc + 3) = .ok (.dup, 1)) (d4 : decode cc (pc + 4) = .ok (.ldc is, 2)) (d6 : decode cc (pc + 6) = .ok (.invokespecial ic, 3)) (d9 : decode cc (pc + 9) = .ok (.athrow, 1))
    (hout : ∀ x ∈ c.exceptionTable.toList, covers x (pc + 9) = false) (hRf : 5 < R.frames) (hRl : (rest.map fun v => v.category).sum + 82 ≤ R.locals) (hRc : cells + 1 ≤ R.cells) (hRs : slots + 6 ≤ R.slots) (hlocks : meth.locks = false) (hpx : px cls) (hc : cells + 1 ≤ mc) (hs : slots + 6 ≤ ms) :
    W p l e R s m args below meth c H locs cells slots (vx_MQ below Qc (nX px) args s mc ms A) (F0 m pc ls rest) := by
  obtain ⟨sa, hstr⟩ := htx
  have hnm : ∀ n ∈ nm2, Bundle.fit n = true := by decide +kernel
  exact vx_throwS (names := nm2) (sa := sa) hexec hb hfl hown hcls hnm hk hini hstr (vx_hat hat hnot hB) hgood hTz.1 hTz.2 hS (hsz.trans hml.symm) d0 d3 d4 d6 d9 hout hRf hRl hRc hRs hlocks
    (fun t _ h1 h2 => ⟨hpx, by rw [← hH]; exact h1, fun q hq => by rw [← hH] at hq ⊢; exact h2 q hq⟩) hS.2.2 hc hs
end CDT
theorem tg_IO : ∀ w ∈ Cond.classLink RX6 215 xIO :: Cond.initialized xIO :: vx_atS RX6 219 xIO nm2, vx_ot w = true := by decide +kernel
theorem tg_IA : ∀ w ∈ Cond.classLink RX6 58 xIA :: Cond.initialized xIA :: vx_atS RX6 62 xIA nm2, vx_ot w = true := by decide +kernel
theorem tg_IS : ∀ w ∈ Cond.classLink RX6 95 xIS :: Cond.initialized xIS :: vx_atS RX6 99 xIS nm2, vx_ot w = true := by decide +kernel
theorem tn_IO : ∀ w ∈ (vx_atS RX6 219 xIO nm2).filter (fun w => !goodWord w), w ∈ ([.castable xIO xIO, .declares (Bundle.initS "java/lang/RuntimeException"), .declares (Bundle.initS "java/lang/Exception"), .declares (Bundle.initS Bundle.tN)] : List Cond) := by decide +kernel
theorem tn_IA : ∀ w ∈ (vx_atS RX6 62 xIA nm2).filter (fun w => !goodWord w), w ∈ ([.castable xIA xIA, .declares (Bundle.initS "java/lang/RuntimeException"), .declares (Bundle.initS "java/lang/Exception"), .declares (Bundle.initS Bundle.tN)] : List Cond) := by decide +kernel
theorem tn_IS : ∀ w ∈ (vx_atS RX6 99 xIS nm2).filter (fun w => !goodWord w), w ∈ ([.castable xIS xIS, .declares (Bundle.initS "java/lang/RuntimeException"), .declares (Bundle.initS "java/lang/Exception"), .declares (Bundle.initS Bundle.tN)] : List Cond) := by decide +kernel
theorem tf_IO : Bundle.fit xIO = true := by decide +kernel
theorem tf_IA : Bundle.fit xIA = true := by decide +kernel
theorem tf_IS : Bundle.fit xIS = true := by decide +kernel
/-! bits -/
theorem tb_1 {m j : Nat} (h : m / 2 ^ j &&& 1 ≠ 0) : m.testBit j = true := by
  rw [Nat.and_one_is_mod] at h
  rw [Nat.testBit_eq_decide_div_mod_eq]
  exact decide_eq_true (by omega)
theorem tb_0 {m j : Nat} (h : m / 2 ^ j &&& 1 = 0) : m.testBit j = false := by
  rw [Nat.and_one_is_mod] at h
  rw [Nat.testBit_eq_decide_div_mod_eq]
  exact decide_eq_false (by omega)
def clr (m j : Nat) : Nat := if m.testBit j = true then m - 2 ^ j else m
theorem clr_J : ∀ m, m < 256 → ∀ j, j < 8 → nI m &&& (nI (1 * 2 ^ j) ^^^ (-1)) = nI (clr m j) := by decide +kernel
theorem p2_lt {j : Nat} (h : j < 31) : 2 ^ j < 2147483648 := Nat.pow_lt_pow_right (a := 2) (n := 31) (by decide) h
