section
-- ===== PART A: goes FIRST, ahead of the names: the tables' words, and 'selects' of the private methods out of them =====
/-- a private method of a class that the tables say can be made, by its rows of tables_1 -/
def lw_okq (q : MethodName × Nat) : Prop := (q.1.cls ≠ "java/lang/invoke/MethodHandle" ∧ q.1.cls ≠ "java/lang/invoke/VarHandle") ∧ Cond.instantiable q.1.cls q.2 ∈ tables_1 ∧ Cond.privateMethod q.1 ∈ tables_1 ∧ Cond.instanceMethod q.1 ∈ tables_1
theorem lw_p0 : lw_okq (⟨"java/lang/Throwable", "fillInStackTrace", "(I)Ljava/lang/Throwable;"⟩, 6) := ⟨⟨by decide +kernel, by decide +kernel⟩, List.mem_of_getElem? (i := 239) (by decide +kernel), List.mem_of_getElem? (i := 237) (by decide +kernel), List.mem_of_getElem? (i := 238) (by decide +kernel)⟩
theorem lw_p1 : lw_okq (⟨"CastDesk", "isReady", "(III)Z"⟩, 8) := ⟨⟨by decide +kernel, by decide +kernel⟩, List.mem_of_getElem? (i := 18) (by decide +kernel), List.mem_of_getElem? (i := 430) (by decide +kernel), List.mem_of_getElem? (i := 431) (by decide +kernel)⟩
theorem lw_p2 : lw_okq (⟨"CastDesk", "bestCast", "(I)I"⟩, 8) := ⟨⟨by decide +kernel, by decide +kernel⟩, List.mem_of_getElem? (i := 18) (by decide +kernel), List.mem_of_getElem? (i := 449) (by decide +kernel), List.mem_of_getElem? (i := 450) (by decide +kernel)⟩
theorem lw_p3 : lw_okq (⟨"CastDesk", "offerActors", "(I)V"⟩, 8) := ⟨⟨by decide +kernel, by decide +kernel⟩, List.mem_of_getElem? (i := 18) (by decide +kernel), List.mem_of_getElem? (i := 453) (by decide +kernel), List.mem_of_getElem? (i := 454) (by decide +kernel)⟩
theorem lw_p4 : lw_okq (⟨"CastDesk$Casting", "castPart", "(III)V"⟩, 4) := ⟨⟨by decide +kernel, by decide +kernel⟩, List.mem_of_getElem? (i := 81) (by decide +kernel), List.mem_of_getElem? (i := 480) (by decide +kernel), List.mem_of_getElem? (i := 481) (by decide +kernel)⟩
theorem lw_p5 : lw_okq (⟨"CastDesk", "actorIn", "(II)I"⟩, 8) := ⟨⟨by decide +kernel, by decide +kernel⟩, List.mem_of_getElem? (i := 18) (by decide +kernel), List.mem_of_getElem? (i := 520) (by decide +kernel), List.mem_of_getElem? (i := 521) (by decide +kernel)⟩
theorem lw_p6 : lw_okq (⟨"CastDesk", "countOthers", "(II)I"⟩, 8) := ⟨⟨by decide +kernel, by decide +kernel⟩, List.mem_of_getElem? (i := 18) (by decide +kernel), List.mem_of_getElem? (i := 534) (by decide +kernel), List.mem_of_getElem? (i := 535) (by decide +kernel)⟩
theorem lw_p7 : lw_okq (⟨"CastDesk", "perform", "(I)I"⟩, 8) := ⟨⟨by decide +kernel, by decide +kernel⟩, List.mem_of_getElem? (i := 18) (by decide +kernel), List.mem_of_getElem? (i := 579) (by decide +kernel), List.mem_of_getElem? (i := 580) (by decide +kernel)⟩
theorem lw_p8 : lw_okq (⟨"CastDesk", "dress", "(II)V"⟩, 8) := ⟨⟨by decide +kernel, by decide +kernel⟩, List.mem_of_getElem? (i := 18) (by decide +kernel), List.mem_of_getElem? (i := 583) (by decide +kernel), List.mem_of_getElem? (i := 584) (by decide +kernel)⟩
theorem lw_p9 : lw_okq (⟨"CastDesk", "refundSeats", "(II)I"⟩, 8) := ⟨⟨by decide +kernel, by decide +kernel⟩, List.mem_of_getElem? (i := 18) (by decide +kernel), List.mem_of_getElem? (i := 591) (by decide +kernel), List.mem_of_getElem? (i := 592) (by decide +kernel)⟩
theorem lw_p10 : lw_okq (⟨"CastDesk", "shareBack", "(II)I"⟩, 8) := ⟨⟨by decide +kernel, by decide +kernel⟩, List.mem_of_getElem? (i := 18) (by decide +kernel), List.mem_of_getElem? (i := 595) (by decide +kernel), List.mem_of_getElem? (i := 596) (by decide +kernel)⟩
theorem lw_p11 : lw_okq (⟨"CastDeskModel", "fails", "(I)I"⟩, 29) := ⟨⟨by decide +kernel, by decide +kernel⟩, List.mem_of_getElem? (i := 624) (by decide +kernel), List.mem_of_getElem? (i := 729) (by decide +kernel), List.mem_of_getElem? (i := 730) (by decide +kernel)⟩
theorem lw_p12 : lw_okq (⟨"CastDeskModel", "knows", "(II)Z"⟩, 29) := ⟨⟨by decide +kernel, by decide +kernel⟩, List.mem_of_getElem? (i := 624) (by decide +kernel), List.mem_of_getElem? (i := 747) (by decide +kernel), List.mem_of_getElem? (i := 748) (by decide +kernel)⟩
theorem lw_p13 : lw_okq (⟨"CastDeskModel", "knownBy", "(I)I"⟩, 29) := ⟨⟨by decide +kernel, by decide +kernel⟩, List.mem_of_getElem? (i := 624) (by decide +kernel), List.mem_of_getElem? (i := 751) (by decide +kernel), List.mem_of_getElem? (i := 752) (by decide +kernel)⟩
theorem lw_p14 : lw_okq (⟨"CastDeskModel", "rankOf", "(II)I"⟩, 29) := ⟨⟨by decide +kernel, by decide +kernel⟩, List.mem_of_getElem? (i := 624) (by decide +kernel), List.mem_of_getElem? (i := 759) (by decide +kernel), List.mem_of_getElem? (i := 760) (by decide +kernel)⟩
theorem lw_p15 : lw_okq (⟨"CastDeskModel", "can", "(III)Z"⟩, 29) := ⟨⟨by decide +kernel, by decide +kernel⟩, List.mem_of_getElem? (i := 624) (by decide +kernel), List.mem_of_getElem? (i := 790) (by decide +kernel), List.mem_of_getElem? (i := 791) (by decide +kernel)⟩
def lw_privs_1 : List (MethodName × Nat) := [(⟨"java/lang/Throwable", "fillInStackTrace", "(I)Ljava/lang/Throwable;"⟩, 6), (⟨"CastDesk", "isReady", "(III)Z"⟩, 8), (⟨"CastDesk", "bestCast", "(I)I"⟩, 8), (⟨"CastDesk", "offerActors", "(I)V"⟩, 8), (⟨"CastDesk$Casting", "castPart", "(III)V"⟩, 4), (⟨"CastDesk", "actorIn", "(II)I"⟩, 8), (⟨"CastDesk", "countOthers", "(II)I"⟩, 8), (⟨"CastDesk", "perform", "(I)I"⟩, 8), (⟨"CastDesk", "dress", "(II)V"⟩, 8), (⟨"CastDesk", "refundSeats", "(II)I"⟩, 8), (⟨"CastDesk", "shareBack", "(II)I"⟩, 8), (⟨"CastDeskModel", "fails", "(I)I"⟩, 29), (⟨"CastDeskModel", "knows", "(II)Z"⟩, 29), (⟨"CastDeskModel", "knownBy", "(I)I"⟩, 29), (⟨"CastDeskModel", "rankOf", "(II)I"⟩, 29), (⟨"CastDeskModel", "can", "(III)Z"⟩, 29)]
theorem lw_r1 : ∀ q ∈ lw_privs_1, lw_okq q := List.forall_mem_cons.mpr ⟨lw_p0, List.forall_mem_cons.mpr ⟨lw_p1, List.forall_mem_cons.mpr ⟨lw_p2, List.forall_mem_cons.mpr ⟨lw_p3, List.forall_mem_cons.mpr ⟨lw_p4, List.forall_mem_cons.mpr ⟨lw_p5, List.forall_mem_cons.mpr ⟨lw_p6, List.forall_mem_cons.mpr ⟨lw_p7, List.forall_mem_cons.mpr ⟨lw_p8, List.forall_mem_cons.mpr ⟨lw_p9, List.forall_mem_cons.mpr ⟨lw_p10, List.forall_mem_cons.mpr ⟨lw_p11, List.forall_mem_cons.mpr ⟨lw_p12, List.forall_mem_cons.mpr ⟨lw_p13, List.forall_mem_cons.mpr ⟨lw_p14, List.forall_mem_cons.mpr ⟨lw_p15, fun _ h => absurd h List.not_mem_nil⟩⟩⟩⟩⟩⟩⟩⟩⟩⟩⟩⟩⟩⟩⟩⟩
theorem lw_p16 : lw_okq (⟨"CastDeskModel", "fits", "(II)Z"⟩, 29) := ⟨⟨by decide +kernel, by decide +kernel⟩, List.mem_of_getElem? (i := 624) (by decide +kernel), List.mem_of_getElem? (i := 794) (by decide +kernel), List.mem_of_getElem? (i := 795) (by decide +kernel)⟩
theorem lw_p17 : lw_okq (⟨"CastDeskModel", "toLetOut", "(II)I"⟩, 29) := ⟨⟨by decide +kernel, by decide +kernel⟩, List.mem_of_getElem? (i := 624) (by decide +kernel), List.mem_of_getElem? (i := 798) (by decide +kernel), List.mem_of_getElem? (i := 799) (by decide +kernel)⟩
theorem lw_p18 : lw_okq (⟨"CastDeskModel", "lay", "(II)Z"⟩, 29) := ⟨⟨by decide +kernel, by decide +kernel⟩, List.mem_of_getElem? (i := 624) (by decide +kernel), List.mem_of_getElem? (i := 806) (by decide +kernel), List.mem_of_getElem? (i := 807) (by decide +kernel)⟩
theorem lw_p19 : lw_okq (⟨"CastDeskModel", "layAble", "(II)V"⟩, 29) := ⟨⟨by decide +kernel, by decide +kernel⟩, List.mem_of_getElem? (i := 624) (by decide +kernel), List.mem_of_getElem? (i := 810) (by decide +kernel), List.mem_of_getElem? (i := 811) (by decide +kernel)⟩
theorem lw_p20 : lw_okq (⟨"CastDeskModel", "firstBad", "(I)I"⟩, 29) := ⟨⟨by decide +kernel, by decide +kernel⟩, List.mem_of_getElem? (i := 624) (by decide +kernel), List.mem_of_getElem? (i := 814) (by decide +kernel), List.mem_of_getElem? (i := 815) (by decide +kernel)⟩
theorem lw_p21 : lw_okq (⟨"CastDeskModel", "keep", "(I)V"⟩, 29) := ⟨⟨by decide +kernel, by decide +kernel⟩, List.mem_of_getElem? (i := 624) (by decide +kernel), List.mem_of_getElem? (i := 818) (by decide +kernel), List.mem_of_getElem? (i := 819) (by decide +kernel)⟩
theorem lw_p22 : lw_okq (⟨"CastDeskModel", "showOn", "(I)I"⟩, 29) := ⟨⟨by decide +kernel, by decide +kernel⟩, List.mem_of_getElem? (i := 624) (by decide +kernel), List.mem_of_getElem? (i := 842) (by decide +kernel), List.mem_of_getElem? (i := 843) (by decide +kernel)⟩
theorem lw_p23 : lw_okq (⟨"CastDeskModel", "refundAll", "(IZ)I"⟩, 29) := ⟨⟨by decide +kernel, by decide +kernel⟩, List.mem_of_getElem? (i := 624) (by decide +kernel), List.mem_of_getElem? (i := 854) (by decide +kernel), List.mem_of_getElem? (i := 855) (by decide +kernel)⟩
theorem lw_p24 : lw_okq (⟨"CastDeskModel", "refundOf", "(I)I"⟩, 29) := ⟨⟨by decide +kernel, by decide +kernel⟩, List.mem_of_getElem? (i := 624) (by decide +kernel), List.mem_of_getElem? (i := 858) (by decide +kernel), List.mem_of_getElem? (i := 859) (by decide +kernel)⟩
theorem lw_p25 : lw_okq (⟨"CastDeskModel", "perform", "(I)V"⟩, 29) := ⟨⟨by decide +kernel, by decide +kernel⟩, List.mem_of_getElem? (i := 624) (by decide +kernel), List.mem_of_getElem? (i := 862) (by decide +kernel), List.mem_of_getElem? (i := 863) (by decide +kernel)⟩
def lw_privs_2 : List (MethodName × Nat) := [(⟨"CastDeskModel", "fits", "(II)Z"⟩, 29), (⟨"CastDeskModel", "toLetOut", "(II)I"⟩, 29), (⟨"CastDeskModel", "lay", "(II)Z"⟩, 29), (⟨"CastDeskModel", "layAble", "(II)V"⟩, 29), (⟨"CastDeskModel", "firstBad", "(I)I"⟩, 29), (⟨"CastDeskModel", "keep", "(I)V"⟩, 29), (⟨"CastDeskModel", "showOn", "(I)I"⟩, 29), (⟨"CastDeskModel", "refundAll", "(IZ)I"⟩, 29), (⟨"CastDeskModel", "refundOf", "(I)I"⟩, 29), (⟨"CastDeskModel", "perform", "(I)V"⟩, 29)]
theorem lw_r2 : ∀ q ∈ lw_privs_2, lw_okq q := List.forall_mem_cons.mpr ⟨lw_p16, List.forall_mem_cons.mpr ⟨lw_p17, List.forall_mem_cons.mpr ⟨lw_p18, List.forall_mem_cons.mpr ⟨lw_p19, List.forall_mem_cons.mpr ⟨lw_p20, List.forall_mem_cons.mpr ⟨lw_p21, List.forall_mem_cons.mpr ⟨lw_p22, List.forall_mem_cons.mpr ⟨lw_p23, List.forall_mem_cons.mpr ⟨lw_p24, List.forall_mem_cons.mpr ⟨lw_p25, fun _ h => absurd h List.not_mem_nil⟩⟩⟩⟩⟩⟩⟩⟩⟩⟩
def lw_privs : List (MethodName × Nat) := lw_privs_1 ++ (lw_privs_2)
def lw_tbl : List Cond := k2_sels lw_privs ++ tables_1
theorem lw_privs_ok : ∀ q ∈ lw_privs, lw_okq q := by
  show ∀ q ∈ lw_privs_1 ++ (lw_privs_2), lw_okq q
  exact List.forall_mem_append.mpr ⟨lw_r1, lw_r2⟩
end
section
/-! ===== BEGIN words of one list among another's, by their places ===== -/
theorem goodIn_r {big : List Cond} (ws : List Cond) (ps : List Nat) (hp : ws = ps.filterMap (fun i => big[i]?)) (h : ws.all goodWord = true) : GoodIn big ws := by
  intro w hw
  have h1 := List.all_eq_true.mp h w hw
  rw [hp] at hw
  obtain ⟨i, -, hi⟩ := List.mem_filterMap.mp hw
  have hm : w ∈ big := by first | exact List.mem_of_getElem? hi | exact List.getElem?_mem hi
  exact ⟨hm, good_of_word h1⟩
theorem goodIn_app {big a b : List Cond} (ha : GoodIn big a) (hb : GoodIn big b) : GoodIn big (a ++ b) := fun w h => (List.mem_append.mp h).elim (ha w) (hb w)
theorem goodIn_ca {big a b : List Cond} {c : Cond} (ha : GoodIn big (c :: a)) (hb : GoodIn big b) : GoodIn big (c :: (a ++ b)) := fun w h => (List.mem_cons.mp h).elim (fun e => ha w (List.mem_cons.mpr (Or.inl e))) (fun h => (List.mem_append.mp h).elim (fun h => ha w (List.mem_cons.mpr (Or.inr h))) (hb w))
theorem goodIn_sub {big ws : List Cond} (hm : ∀ w ∈ ws, w ∈ big) (h : ws.all goodWord = true) : GoodIn big ws := fun w hw => ⟨hm w hw, good_of_word (List.all_eq_true.mp h w hw)⟩
/-! ===== END ===== -/

/-! ===== BEGIN exceptions that leave a method, and their catching by the caller (launches without stack traces) ===== -/
section VXA
/-! The laws vx_back, vx_callV, vx_callS, vx_callSW, vx_throw0, vx_throwS follow proofs of the library, with one case more: JvmDerived/Free/Laws.lean (Back.of_free), Shelf42/LK1.lean (callV, callS), Shelf/KitTraced.lean (throwNew0V, throwNewS). -/
/-- where a method has thrown q: the class by its name, the cell, what was written, the world -/
def vx_T (XC : String → State → State → Prop) (st : State) (q : Addr) (t : State) (mc ms : Nat) (free : Addr → Prop) : Prop :=
  ∃ (E : String) (ce : Cell) (L : List Loc), XC E st t ∧ t.heap[q]? = some ce ∧ ce.vm = .none ∧ st.vm.findClass E = some ce.cls ∧ st.WarmedH t.vm ∧ st.sameButNew ({ t with vm := st.vm } : State) L mc ms ∧ ∀ z ∈ L, free z.base
def vx_Q (Qc : Array Value → State → Outcome → State → Prop) (XC : String → State → State → Prop) (mc ms : Nat) (free : Addr → Prop) : Array Value → State → Outcome → State → Prop := fun a st o t =>
  (Qc a st o t ∧ ∃ L, FrameEnd st o t L mc ms ∧ ∀ q ∈ L, free q.base) ∨ ∃ q, o = .threw q ∧ vx_T XC st q t mc ms free
/-- a callee that returns or throws -/
def vx_Met (l : Launch) (y : MethodName) (ws : List Cond) (rm : Room) (Pc : Array Value → State → Prop) (Qc : Array Value → State → Outcome → State → Prop) (XC : String → State → State → Prop) (mc ms : Nat) (free : Addr → Prop) : Prop :=
  MetFree l y (headSpec ws rm) Pc (fun _ _ _ _ _ => True) (vx_Q Qc XC mc ms free)
def vx_Post (XC : String → State → State → Prop) (mc ms : Nat) (free : Addr → Prop) : Pt → Array Value → Addr → Pt → Prop := fun A a q B =>
  ∃ (g : JFrame) (mk : MethodId) (t : State) (L : List Loc) (E : String) (ce : Cell), B.U.heap = t.heap ∧ B.U.vm = t.vm ∧ XC E (A.U.calling g mk a) t ∧ t.heap[q]? = some ce ∧ ce.vm = .none ∧ A.U.vm.findClass E = some ce.cls ∧ B.locs = A.locs ++ L ∧ (∀ z ∈ L, free z.base) ∧ B.cells = A.cells + mc ∧ B.slots = A.slots + ms
def vx_Back (l : Launch) (R : Room) (p : Program) (e : Env) (below : List Frame) (s : State) (sargs : Array Value) (y : MethodName) (len W9 : Nat)
    (Pre : Pt → Array Value → Prop) (Post : Pt → Array Value → Option Value → Pt → Prop) (PostX : Pt → Array Value → Addr → Pt → Prop) : Prop :=
  ∀ (m : MethodId) (meth : Method) (c : Code) (A : Pt) (g : JFrame) (ig : Instr) (mk : MethodId) (a : Array Value),
    Stand p l e R s m sargs below meth c A.U A.locs A.cells A.slots → g.method = m → g.locals.size = c.maxLocals → decode c.code g.pc = .ok (ig, len) →
    2 * g.monitorRoom + (g.stack.map fun v => v.category).sum ≤ W9 → A.U.methodNamed? y = some mk → Pre A a →
    (∃ (v : Option Value) (B : Pt), Stand p l e R s m sargs below meth c B.U B.locs B.cells B.slots ∧ Post A a v B ∧
      Steps p.tables e below (doInvoke e (A.U.setTop g) [] mk a).1 (B.U.setTop { g with pc := g.pc + len, stack := v.toList ++ g.stack })) ∨
    (∃ (q : Addr) (B : Pt), Stand p l e R s m sargs below meth c B.U B.locs B.cells B.slots ∧ PostX A a q B ∧
      Steps p.tables e below (doInvoke e (A.U.setTop g) [] mk a).1 ((B.U.setTop g).pushFrame (.throwing q)))
section Payer
variable {l : Launch} {R : Room} {p : Program} {e : Env} {below : List Frame} {s : State} {sargs : Array Value} {y : MethodName} {len W9 : Nat}
theorem vx_back {ws : List Cond} {rm : Room} {Pc : Array Value → State → Prop} {Qc : Array Value → State → Outcome → State → Prop} {XC : String → State → State → Prop} {mc ms : Nat} {free : Addr → Prop} {bytes : ByteArray} {maxL : Nat} {ret : Option FieldType}
    (hM : vx_Met l y ws rm Pc Qc XC mc ms free) (hblind : FrameBlind Pc) (hrc : rm.cells = mc) (hrs : rm.slots = ms)
    (hframes : rm.frames + 1 ≤ R.frames) (hlocals : W9 + (maxL + 11) + rm.locals ≤ R.locals)
    (hws : ∀ w ∈ ws, ∀ a' U, s.WarmedH U.vm → w.before a' U = true) (hcode : Cond.code y bytes maxL ret ∈ ws) (hinit : ∀ a' U, s.WarmedH U.vm → (Cond.initialized y.cls).before a' U = true) :
    vx_Back l R p e below s sargs y len W9 (PreOf R mc ms Pc) (PostOf Qc mc ms free) (vx_Post XC mc ms free) := by
  intro m meth c A g ig mk a X hg hsize hdg hW hn hp
  have h1 : (headSpec ws rm).pre.before a A.U = true := atoms_intro fun w hw => hws w hw _ _ X.warmed
  have h2 : (Cond.code y bytes maxL ret).before a A.U = true := hws _ hcode _ _ X.warmed
  have h3 : (Cond.initialized y.cls).before a A.U = true := hinit _ _ X.warmed
  have h4 : A.cells + (headSpec ws rm).room.cells ≤ R.cells := by rw [show (headSpec ws rm).room.cells = mc from hrc]; exact hp.1
  have h5 : A.slots + (headSpec ws rm).room.slots ≤ R.slots := by rw [show (headSpec ws rm).room.slots = ms from hrs]; exact hp.2.1
  have hPc : Pc a (A.U.calling g mk a) := hblind _ _ _ _ hp.2.2
  obtain ⟨U, Ls, c0, s0⟩ := A
  dsimp only [Pt.U, Pt.locs, Pt.cells, Pt.slots] at h1 h2 h3 h4 h5 X hn hPc ⊢
  obtain ⟨methY, cY, hmY, hcY, -, hlY, -, -, -, -⟩ := Cond.code_spec hn h2
  obtain ⟨kY, hkY, -⟩ := className_of_methodNamed hn
  have hinitY : kY.init = .initialized := Cond.initialized_spec (findClass_of_methodNamed hn) hkY h3
  have h : At U g.method c below := by rw [hg]; exact X.here
  have hlocals9 : W9 + (maxL + 11) + (headSpec ws rm).room.locals ≤ R.locals := hlocals
  have happ : (headSpec ws rm).appliesLoose y e.platform (U.calling g mk a) = true :=
    Spec.appliesLoose_calling (g := g) h hdg hn hkY hinitY
      (X.room_calling (g := g) (R' := (headSpec ws rm).room) hsize hmY hcY hframes (by rw [hlY]; omega) h4 h5) h1
  obtain ⟨mid, hmid⟩ := h.above
  have hfr : (U.setTop g).frames = (.java g :: mid) ++ below := by rw [State.frames_setTop' g h.top, hmid]; rfl
  obtain ⟨o, s₂, hsteps, -, hend, hq⟩ := Steps.callFree hM p X.admits X.cas X.clock (acts := []) hfr happ hPc trivial
  have hq' : vx_Q Qc XC mc ms free a (U.calling g mk a) o s₂ := hq
  rw [State.frames_setTop' g h.top] at hend
  obtain ⟨g₀, hg0⟩ := Option.isSome_iff_exists.mp h.top
  obtain ⟨r, hr⟩ := State.topJava?_eq_some.mp hg0
  have hr' : (({ U with heap := s₂.heap, slotsUsed := s₂.slotsUsed } : State).setVm s₂.vm).frames = .java g₀ :: r := hr
  rcases hq' with ⟨hqc, L, hfe, hL⟩ | ⟨q, rfl, E, ce, L, hx, hce, hcv, hcl, hW₂, hsm, hL⟩
  · obtain ⟨⟨v, rfl⟩, hW₂, e2, q2, q3, q4, q5, q6⟩ := id hfe
    have e3 : s₂ = ({ (U.calling g mk a).setFrames s₂.frames with heap := s₂.heap, slotsUsed := s₂.slotsUsed } : State).setVm s₂.vm := by
      have : s₂ = ({ s₂ with vm := (U.calling g mk a).vm } : State).setVm s₂.vm := rfl
      rw [e2] at this
      exact this
    obtain ⟨c₂, i₂, len₂, hc₂, hd₂, hf₂⟩ := hend
    have hW' : U.WarmedH s₂.vm := hW₂
    have hcc : c₂ = c := by
      have h1 : s₂.code? g.method = U.code? g.method := by
        rw [State.code?_eq, State.code?_eq, hW'.alike.method?]
      exact Option.some.inj (hc₂.symm.trans (h1.trans h.code))
    subst hcc
    have hlen : len₂ = len := by rw [hdg] at hd₂; cases hd₂; rfl
    subst hlen
    have hs₂ : s₂ = (({ U with heap := s₂.heap, slotsUsed := s₂.slotsUsed } : State).setVm s₂.vm).setTop { g with pc := g.pc + len₂, stack := v.toList ++ g.stack } := by
      refine e3.trans ?_
      rw [hf₂, State.calling_eq h.top, State.setFrames_setFrames, State.setTop_of_frames _ hr', hr]
      rfl
    have hsame : U.sameButNew ({ U with heap := s₂.heap, slotsUsed := s₂.slotsUsed } : State) L mc ms := by
      refine ⟨?_, q2, q3, q4, q5, q6⟩
      obtain ⟨t, ht, -⟩ := State.frames_cons hr
      show ({ U with heap := s₂.heap, slotsUsed := s₂.slotsUsed } : State) = { U.setFrames U.frames with heap := s₂.heap, slotsUsed := s₂.slotsUsed }
      rw [State.setFrames_self ht]
    subst hg
    refine Or.inl ⟨v, ⟨(({ U with heap := s₂.heap, slotsUsed := s₂.slotsUsed } : State).setVm s₂.vm), Ls ++ L, c0 + mc, s0 + ms⟩,
      ⟨X.admits, X.cas, X.clock, X.frames, X.room, X.hears, X.method, X.code, (X.here.setHeapUsed s₂.heap s₂.slotsUsed).setVm hW'.alike, X.tail, State.WarmedH.trans X.warmed hW', X.limits, X.bytes, X.same.trans (hsame.setVm s.vm)⟩,
      ⟨g, mk, s₂, L, rfl, rfl, hqc, rfl, hL, rfl, rfl⟩, ?_⟩
    show Steps p.tables e below _ ((({ U with heap := s₂.heap, slotsUsed := s₂.slotsUsed } : State).setVm s₂.vm).setTop { g with pc := g.pc + len₂, stack := v.toList ++ g.stack })
    rw [← hs₂]
    exact hsteps
  · obtain ⟨e2, q2, q3, q4, q5, q6⟩ := id hsm
    have e3 : s₂ = ({ (U.calling g mk a).setFrames s₂.frames with heap := s₂.heap, slotsUsed := s₂.slotsUsed } : State).setVm s₂.vm := by
      have : s₂ = ({ s₂ with vm := (U.calling g mk a).vm } : State).setVm s₂.vm := rfl
      rw [e2] at this
      exact this
    have hf₂ : s₂.frames = .throwing q :: .java g :: U.frames.tail := hend
    have hW' : U.WarmedH s₂.vm := hW₂
    have hs₂ : s₂ = ((({ U with heap := s₂.heap, slotsUsed := s₂.slotsUsed } : State).setVm s₂.vm).setTop g).pushFrame (.throwing q) := by
      refine e3.trans ?_
      rw [hf₂, State.calling_eq h.top, State.setFrames_setFrames, State.pushFrame, State.frames_setTop _ hr', State.setTop_of_frames _ hr', State.setFrames_setFrames, hr]
      rfl
    have hsame : U.sameButNew ({ U with heap := s₂.heap, slotsUsed := s₂.slotsUsed } : State) L mc ms := by
      refine ⟨?_, q2, q3, q4, q5, q6⟩
      obtain ⟨t, ht, -⟩ := State.frames_cons hr
      show ({ U with heap := s₂.heap, slotsUsed := s₂.slotsUsed } : State) = { U.setFrames U.frames with heap := s₂.heap, slotsUsed := s₂.slotsUsed }
      rw [State.setFrames_self ht]
    subst hg
    refine Or.inr ⟨q, ⟨(({ U with heap := s₂.heap, slotsUsed := s₂.slotsUsed } : State).setVm s₂.vm), Ls ++ L, c0 + mc, s0 + ms⟩,
      ⟨X.admits, X.cas, X.clock, X.frames, X.room, X.hears, X.method, X.code, (X.here.setHeapUsed s₂.heap s₂.slotsUsed).setVm hW'.alike, X.tail, State.WarmedH.trans X.warmed hW', X.limits, X.bytes, X.same.trans (hsame.setVm s.vm)⟩,
      ⟨g, mk, s₂, L, E, ce, rfl, rfl, hx, hce, hcv, hcl, rfl, hL, rfl, rfl⟩, ?_⟩
    show Steps p.tables e below _ (((({ U with heap := s₂.heap, slotsUsed := s₂.slotsUsed } : State).setVm s₂.vm).setTop g).pushFrame (.throwing q))
    rw [← hs₂]
    exact hsteps
end Payer
section Calls
variable {p : Program} {l : Launch} {e : Env} {R : Room} {s : State} {m : MethodId} {args : Array Value} {below : List Frame} {meth : Method} {c : Code} {T : State} {locs : List Loc} {cells slots : Nat}
theorem vx_callV (X : Stand p l e R s m args below meth c T locs cells slots) (hexec : p.tables.exec = Jvm.exec) {own C : String} {index : Nat} {y : MethodName} {bytes : ByteArray} {maxL : Nat} {ret : Option FieldType}
    (hown : s.vm.findClass own = some m.cls) (hlink : (Cond.methodLink own index y).before args s = true) (hinst : (Cond.instanceMethod y).before args s = true) (hsel : (Cond.selects C y y).before args s = true)
    (hcode : (Cond.code y bytes maxL ret).before args s = true) (hy : y.cls ≠ "java/lang/invoke/MethodHandle" ∧ y.cls ≠ "java/lang/invoke/VarHandle")
    {W9 : Nat} {Pre : Pt → Array Value → Prop} {Post : Pt → Array Value → Option Value → Pt → Prop} {PostX : Pt → Array Value → Addr → Pt → Prop} (hK : vx_Back l R p e below s args y 3 W9 Pre Post PostX)
    {b : Addr} {cellB : Cell} (hcell : T.heap[b]? = some cellB) (hobj : cellB.vm.isStatics = false) (hcls : s.vm.findClass C = some cellB.cls)
    {g : JFrame} (hg : g.method = m) (hsize : g.locals.size = c.maxLocals) {argsL rest : List Value} (hlen : ∀ sig, parseMethodDescriptor y.desc = some sig → argsL.length = sig.parameters.length)
    (hstack : g.stack = argsL.reverse ++ .ref b :: rest) (hW : 2 * g.monitorRoom + (rest.map fun v => v.category).sum ≤ W9) (hdg : decode c.code g.pc = .ok (.invokevirtual index, 3))
    (hpre : ∀ vm₁, s.WarmedH vm₁ → Pre ⟨T.setVm vm₁, locs, cells, slots⟩ (Value.ref b :: argsL).toArray) :
    (∃ (v : Option Value) (vm₁ : Vm) (B : Pt), s.WarmedH vm₁ ∧ Stand p l e R s m args below meth c B.U B.locs B.cells B.slots ∧ Post ⟨T.setVm vm₁, locs, cells, slots⟩ (Value.ref b :: argsL).toArray v B ∧
      ∀ target, Steps p.tables e below (B.U.setTop { g with pc := g.pc + 3, stack := v.toList ++ rest }) target → Steps p.tables e below (T.setTop g) target) ∨
    (∃ (q : Addr) (vm₁ : Vm) (B : Pt), s.WarmedH vm₁ ∧ Stand p l e R s m args below meth c B.U B.locs B.cells B.slots ∧ PostX ⟨T.setVm vm₁, locs, cells, slots⟩ (Value.ref b :: argsL).toArray q B ∧
      Steps p.tables e below (T.setTop g) ((B.U.setTop { g with stack := rest }).pushFrame (.throwing q))) := by
  obtain ⟨mk, methM, hnamed, hmethM, hstM, habM⟩ := Cond.instanceMethod_spec hinst
  obtain ⟨methM', cM, hmethM', -, -, -, -, -, -, hsigM⟩ := Cond.code_spec hnamed hcode
  cases hmethM.symm.trans hmethM'
  obtain ⟨c2, r2, m2, q1, q2, q3, q4, kP, hkP, hkPi⟩ := Cond.selects_spec hsel
  cases hcls.symm.trans q1
  cases (State.methodFound?_of_named hnamed hy).symm.trans q2
  cases hnamed.symm.trans q3
  have hselP : selectMethod e.platform s.vm cellB.cls mk = .method mk := by rw [Launch.admits_selectMethod X.admits]; exact q4
  obtain ⟨vm₁, X₁, hstep₁⟩ := X.invokevirtual hexec hown hlink hnamed hmethM hstM hkP hkPi hy (a := b) (cell := cellB) hcell
    (fun z h => by rw [h] at hobj; cases hobj) hselP hmethM habM hkP hkPi (g := g) hg (argsL := argsL) (rest := rest) (hlen _ hsigM) hstack hdg
  rcases hK m meth c ⟨T.setVm vm₁, locs, cells, slots⟩ { g with stack := rest } (.invokevirtual index) mk (Value.ref b :: argsL).toArray X₁ hg hsize hdg hW (X₁.named hnamed) (hpre vm₁ X₁.warmed) with ⟨v, B, X', hpost, hsteps⟩ | ⟨q, B, X', hpost, hsteps⟩
  · exact Or.inl ⟨v, vm₁, B, X₁.warmed, X', hpost, fun target h => hstep₁ _ fun acts => by rw [doInvoke_state]; exact hsteps.trans h⟩
  · exact Or.inr ⟨q, vm₁, B, X₁.warmed, X', hpost, hstep₁ _ fun acts => by rw [doInvoke_state]; exact hsteps⟩
theorem vx_callS (X : Stand p l e R s m args below meth c T locs cells slots) (hexec : p.tables.exec = Jvm.exec) {own : String} {index : Nat} {y : MethodName} {bytes : ByteArray} {maxL : Nat} {ret : Option FieldType}
    (hown : s.vm.findClass own = some m.cls) (hlink : (Cond.methodLink own index y).before args s = true) (hstat : (Cond.static y).before args s = true) (hinit : (Cond.initialized y.cls).before args s = true)
    (hcode : (Cond.code y bytes maxL ret).before args s = true) (hy : y.cls ≠ "java/lang/invoke/MethodHandle" ∧ y.cls ≠ "java/lang/invoke/VarHandle")
    {W9 : Nat} {Pre : Pt → Array Value → Prop} {Post : Pt → Array Value → Option Value → Pt → Prop} {PostX : Pt → Array Value → Addr → Pt → Prop} (hK : vx_Back l R p e below s args y 3 W9 Pre Post PostX)
    {g : JFrame} (hg : g.method = m) (hsize : g.locals.size = c.maxLocals) {argsL rest : List Value} (hlen : ∀ sig, parseMethodDescriptor y.desc = some sig → argsL.length = sig.parameters.length)
    (hstack : g.stack = argsL.reverse ++ rest) (hW : 2 * g.monitorRoom + (rest.map fun v => v.category).sum ≤ W9) (hdg : decode c.code g.pc = .ok (.invokestatic index, 3))
    (hpre : ∀ vm₁, s.WarmedH vm₁ → Pre ⟨T.setVm vm₁, locs, cells, slots⟩ argsL.toArray) :
    (∃ (v : Option Value) (vm₁ : Vm) (B : Pt), s.WarmedH vm₁ ∧ Stand p l e R s m args below meth c B.U B.locs B.cells B.slots ∧ Post ⟨T.setVm vm₁, locs, cells, slots⟩ argsL.toArray v B ∧
      ∀ target, Steps p.tables e below (B.U.setTop { g with pc := g.pc + 3, stack := v.toList ++ rest }) target → Steps p.tables e below (T.setTop g) target) ∨
    (∃ (q : Addr) (vm₁ : Vm) (B : Pt), s.WarmedH vm₁ ∧ Stand p l e R s m args below meth c B.U B.locs B.cells B.slots ∧ PostX ⟨T.setVm vm₁, locs, cells, slots⟩ argsL.toArray q B ∧
      Steps p.tables e below (T.setTop g) ((B.U.setTop { g with stack := rest }).pushFrame (.throwing q))) := by
  obtain ⟨mk, hnamed⟩ := Cond.code_named hcode
  obtain ⟨methM, cM, hmethM, -, -, -, -, -, -, hsigM⟩ := Cond.code_spec hnamed hcode
  have hstatic : methM.isStatic = true := Cond.static_spec hnamed hmethM hstat
  obtain ⟨kP, hkP, -⟩ := className_of_methodNamed hnamed
  have hinitP : kP.init = .initialized := Cond.initialized_spec (findClass_of_methodNamed hnamed) hkP hinit
  obtain ⟨vm₁, X₁, hstep₁⟩ := X.invokestatic hexec hown hlink hnamed hmethM hstatic hkP hinitP hy (g := g) hg (argsL := argsL) (rest := rest) (hlen _ hsigM) hstack hdg
  rcases hK m meth c ⟨T.setVm vm₁, locs, cells, slots⟩ { g with stack := rest } (.invokestatic index) mk argsL.toArray X₁ hg hsize hdg hW (X₁.named hnamed) (hpre vm₁ X₁.warmed) with ⟨v, B, X', hpost, hsteps⟩ | ⟨q, B, X', hpost, hsteps⟩
  · exact Or.inl ⟨v, vm₁, B, X₁.warmed, X', hpost, fun target h => hstep₁ _ fun acts => by rw [doInvoke_state]; exact hsteps.trans h⟩
  · exact Or.inr ⟨q, vm₁, B, X₁.warmed, X', hpost, hstep₁ _ fun acts => by rw [doInvoke_state]; exact hsteps⟩
end Calls
theorem vx_cls {s : State} {T : State} {vm₁ : Vm} {E : String} {k : ClassId} (hW : s.WarmedH vm₁) (h : (T.setVm vm₁).vm.findClass E = some k) : s.vm.findClass E = some k := by
  have h1 : vm₁.findClass E = some k := h
  rw [hW.alike.findClass] at h1
  exact h1
/-- the method's frame g, with q thrown over it -/
def vx_W (p : Program) (l : Launch) (e : Env) (R : Room) (s : State) (m : MethodId) (args : Array Value) (below : List Frame) (meth : Method) (c : Code) (H : Heap) (locs : List Loc) (cells slots : Nat) (Q : State → Prop) (g : JFrame) (q : Addr) : Prop :=
  ∀ T : State, T.heap = H → Stand p l e R s m args below meth c T locs cells slots → ∃ t, Steps p.tables e below ((T.setTop g).pushFrame (.throwing q)) t ∧ Q t
def vx_Run (p : Program) (l : Launch) (e : Env) (R : Room) (s : State) (m : MethodId) (args : Array Value) (below : List Frame) (meth : Method) (c : Code) (H : Heap) (locs : List Loc) (cells slots mc ms : Nat) (g : JFrame) (rest : List Value) (Qa : State → Outcome → State → Prop) (XC : String → State → State → Prop) (free : Addr → Prop) : Prop :=
  ∀ T : State, T.heap = H → Stand p l e R s m args below meth c T locs cells slots →
    (∃ (v : Option Value) (st₀ t T' : State) (L : List Loc), st₀.heap = H ∧ Stand p l e R s m args below meth c T' (locs ++ L) (cells + mc) (slots + ms) ∧ (∀ q ∈ L, free q.base) ∧ T'.heap = t.heap ∧ T'.vm = t.vm ∧ Qa st₀ (.returned v) t ∧
      Goes p e below T g T' { g with pc := g.pc + 3, stack := v.toList ++ rest }) ∨
    (∃ (q : Addr) (st₀ t T' : State) (L : List Loc) (E : String) (ce : Cell), st₀.heap = H ∧ Stand p l e R s m args below meth c T' (locs ++ L) (cells + mc) (slots + ms) ∧ (∀ z ∈ L, free z.base) ∧ T'.heap = t.heap ∧ T'.vm = t.vm ∧ XC E st₀ t ∧ t.heap[q]? = some ce ∧ ce.vm = .none ∧ s.vm.findClass E = some ce.cls ∧
      Steps p.tables e below (T.setTop g) ((T'.setTop { g with stack := rest }).pushFrame (.throwing q)))
def vx_X {S : Type} (px : S → Prop) (B : String → S → State → Prop) (A : Nat → Prop) : String → State → State → Prop := fun E st t => ∃ u : S, px u ∧ B E u t ∧ va_F A st t
section Runs
variable {p : Program} {l : Launch} {e : Env} {R : Room} {s : State} {m : MethodId} {args : Array Value} {below : List Frame} {meth : Method} {c : Code} {H : Heap} {locs : List Loc} {cells slots : Nat}
variable {y : MethodName} {bytes cc : ByteArray} {maxL nL mc ms n index : Nat} {ret : Option FieldType} {ws : List Cond} {rm : Room} {Pc : Array Value → State → Prop} {Qc : Array Value → State → Outcome → State → Prop} {XC : String → State → State → Prop} {free : Addr → Prop} {Ts : List Cond} {own C : String} {b : Addr} {As rest : List Value} {g : JFrame}
theorem vx_callBack (cb : CallB R s args own index y bytes maxL ret ws rm mc ms n) (hM : vx_Met l y ws rm Pc Qc XC mc ms free) (hbl : FrameBlind Pc) : vx_Back l R p e below s args y 3 8 (PreOf R mc ms Pc) (PostOf Qc mc ms free) (vx_Post XC mc ms free) := by
  obtain ⟨hrc, hrs, hfr, hlo, hws, hcw, -, hini, -⟩ := cb
  exact vx_back (bytes := bytes) (maxL := maxL) (ret := ret) hM hbl hrc hrs hfr hlo hws hcw (fun a' U hW => word_at hW (Or.inl (by first | rfl | simp [Cond.onTables, Cond.keeps, Cond.steady])) hini)
theorem vx_runV (S : CallFix p m c cc nL s args Ts own) (hM : vx_Met l y ws rm Pc Qc XC mc ms free) (cw : CallW R s args own C index y bytes maxL ret ws rm mc ms n) (hp : PreV s H C b Pc As)
    (hg : g.method = m) (hn : As.length = n) (hsize : g.locals.size = nL) (hstack : g.stack = As.reverse ++ .ref b :: rest) (hW : 2 * g.monitorRoom + (rest.map fun v => v.category).sum ≤ 8) (hdg : decode cc g.pc = .ok (.invokevirtual index, 3)) (hf : cells + mc ≤ R.cells ∧ slots + ms ≤ R.slots) :
    vx_Run p l e R s m args below meth c H locs cells slots mc ms g rest (Qc (Value.ref b :: As).toArray) XC free := by
  have hK : vx_Back l R p e below s args y 3 8 (PreOf R mc ms Pc) (PostOf Qc mc ms free) (vx_Post XC mc ms free) := vx_callBack cw.1 hM hp.1
  obtain ⟨⟨-, -, -, -, -, -, hcode, -, hy, hlen, hl⟩, hin, hse⟩ := cw
  obtain ⟨hx, hb, hml, ho, -⟩ := S
  obtain ⟨-, ⟨cellB, hcB, hoB, hclB⟩, hPc⟩ := hp
  intro T hT X
  rcases vx_callV X hx (C := C) (bytes := bytes) (maxL := maxL) (ret := ret) ho hl hin hse hcode hy hK (by rw [hT]; exact hcB) hoB hclB hg (hsize.trans hml.symm) (argsL := As) (rest := rest) (fun sig h => hn.trans (hlen sig h)) hstack hW (by rw [hb]; exact hdg)
    (fun vm₁ hW₁ => ⟨hf.1, hf.2, hPc (T.setVm vm₁) hT hW₁⟩) with ⟨v, vm₁, ⟨U', l2, c2, s2⟩, hW₁, X', ⟨g', mk, t, L, e1, e2, hq, h1, hL, h2, h3⟩, st⟩ | ⟨q, vm₁, ⟨U', l2, c2, s2⟩, hW₁, X', ⟨g', mk, t, L, E, ce, e1, e2, hq, hce, hcv, hcl, h1, hL, h2, h3⟩, st⟩
  · dsimp only [Pt.U, Pt.locs, Pt.cells, Pt.slots] at X' e1 e2 h1 h2 h3 st
    subst h1; subst h2; subst h3
    exact Or.inl ⟨v, (T.setVm vm₁).calling g' mk (Value.ref b :: As).toArray, t, U', L, hT, X', hL, e1, e2, hq, st⟩
  · dsimp only [Pt.U, Pt.locs, Pt.cells, Pt.slots] at X' e1 e2 h1 h2 h3 st hcl
    subst h1; subst h2; subst h3
    exact Or.inr ⟨q, (T.setVm vm₁).calling g' mk (Value.ref b :: As).toArray, t, U', L, E, ce, hT, X', hL, e1, e2, hq, hce, hcv, vx_cls hW₁ hcl, st⟩
theorem vx_runS (S : CallFix p m c cc nL s args Ts own) (hM : vx_Met l y ws rm Pc Qc XC mc ms free) (cw : CallB R s args own index y bytes maxL ret ws rm mc ms n ∧ (Cond.static y).before args s = true) (hp : PreS s H Pc As)
    (hg : g.method = m) (hn : As.length = n) (hsize : g.locals.size = nL) (hstack : g.stack = As.reverse ++ rest) (hW : 2 * g.monitorRoom + (rest.map fun v => v.category).sum ≤ 8) (hdg : decode cc g.pc = .ok (.invokestatic index, 3)) (hf : cells + mc ≤ R.cells ∧ slots + ms ≤ R.slots) :
    vx_Run p l e R s m args below meth c H locs cells slots mc ms g rest (Qc As.toArray) XC free := by
  have hK : vx_Back l R p e below s args y 3 8 (PreOf R mc ms Pc) (PostOf Qc mc ms free) (vx_Post XC mc ms free) := vx_callBack cw.1 hM hp.1
  obtain ⟨⟨-, -, -, -, -, -, hcode, hini, hy, hlen, hl⟩, hstt⟩ := cw
  obtain ⟨hx, hb, hml, ho, -⟩ := S
  intro T hT X
  rcases vx_callS X hx (bytes := bytes) (maxL := maxL) (ret := ret) ho hl hstt hini hcode hy hK hg (hsize.trans hml.symm) (argsL := As) (rest := rest) (fun sig h => hn.trans (hlen sig h)) hstack hW (by rw [hb]; exact hdg)
    (fun vm₁ hW₁ => ⟨hf.1, hf.2, hp.2 (T.setVm vm₁) hT hW₁⟩) with ⟨v, vm₁, ⟨U', l2, c2, s2⟩, hW₁, X', ⟨g', mk, t, L, e1, e2, hq, h1, hL, h2, h3⟩, st⟩ | ⟨q, vm₁, ⟨U', l2, c2, s2⟩, hW₁, X', ⟨g', mk, t, L, E, ce, e1, e2, hq, hce, hcv, hcl, h1, hL, h2, h3⟩, st⟩
  · dsimp only [Pt.U, Pt.locs, Pt.cells, Pt.slots] at X' e1 e2 h1 h2 h3 st
    subst h1; subst h2; subst h3
    exact Or.inl ⟨v, (T.setVm vm₁).calling g' mk As.toArray, t, U', L, hT, X', hL, e1, e2, hq, st⟩
  · dsimp only [Pt.U, Pt.locs, Pt.cells, Pt.slots] at X' e1 e2 h1 h2 h3 st hcl
    subst h1; subst h2; subst h3
    exact Or.inr ⟨q, (T.setVm vm₁).calling g' mk As.toArray, t, U', L, E, ce, hT, X', hL, e1, e2, hq, hce, hcv, vx_cls hW₁ hcl, st⟩
end Runs
section Rows
variable {p : Program} {l : Launch} {e : Env} {R : Room} {s : State} {m : MethodId} {args : Array Value} {below : List Frame} {meth : Method} {c : Code} {H : Heap} {locs : List Loc} {cells slots : Nat} {Q : State → Prop}
variable {mc ms : Nat} {free : Addr → Prop} {A0 A1 : Nat → Prop} {H0 : Heap} {a : Array Value} {pc : Nat} {ls : Array Slot} {st0 rest : List Value}
theorem vx_keep {st₀ t T' : State} {L : List Loc} (h0 : st₀.heap = H) (e1 : T'.heap = t.heap) (hS : va_S A0 H0 H locs) (hA : ∀ q, q < H.size → A1 q → A0 q) (hf : ∀ q, free q → A0 q) (hL : ∀ q ∈ L, free q.base) (hF : va_F A1 st₀ t) :
    H.size ≤ T'.heap.size ∧ (∀ q : Nat, q < H.size → ¬ A1 q → T'.heap[q]? = H[q]?) ∧ va_S A0 H0 T'.heap (locs ++ L) := by
  obtain ⟨hz, hk⟩ := hF
  rw [h0] at hz hk
  exact ⟨by rw [e1]; exact hz, fun q h1 h2 => by rw [e1]; exact hk q h1 h2,
    ⟨Nat.le_trans hS.1 (by rw [e1]; exact hz), fun q h1 h2 => by rw [e1, hk q (Nat.lt_of_lt_of_le h1 hS.1) (fun z => h2 (hA q (Nat.lt_of_lt_of_le h1 hS.1) z))]; exact hS.2.1 q h1 h2, fun q hq => by
      rcases List.mem_append.mp hq with h | h
      · exact hS.2.2 q h
      · exact hf _ (hL q h)⟩⟩
theorem vx_calli {S SX : Type} {post : Int32 → S → Prop} {px : SX → Prop} {B : S → State → Prop} {BX : String → SX → State → Prop} {AX : Nat → Prop} (hr : vx_Run p l e R s m args below meth c H locs cells slots mc ms (F0 m pc ls st0) rest (va_Qi post B A1 a) (vx_X px BX AX) free) (hS : va_S A0 H0 H locs) (hA : ∀ q, q < H.size → A1 q → A0 q) (hf : ∀ q, free q → A0 q) (hAX : ∀ q, q < H.size → AX q → A0 q)
    (kx : ∀ (E : String) (ce : Cell) (q9 : Addr) (u : SX) (t : State) (H1 : Heap) (locs1 : List Loc), t.heap = H1 → s.vm.Alike t.vm → px u → BX E u t → H.size ≤ H1.size → (∀ q : Nat, q < H.size → ¬ AX q → H1[q]? = H[q]?) → va_S A0 H0 H1 locs1 → H1[q9]? = some ce → ce.vm = .none → s.vm.findClass E = some ce.cls → vx_W p l e R s m args below meth c H1 locs1 (cells + mc) (slots + ms) Q (F0 m pc ls rest) q9)
    (kk : ∀ (r : Int32) (u : S) (t : State) (H1 : Heap) (locs1 : List Loc), t.heap = H1 → s.vm.Alike t.vm → post r u → B u t → H.size ≤ H1.size → (∀ q : Nat, q < H.size → ¬ A1 q → H1[q]? = H[q]?) → va_S A0 H0 H1 locs1 → W p l e R s m args below meth c H1 locs1 (cells + mc) (slots + ms) Q (F0 m (pc + 3) ls (.int r :: rest))) : W p l e R s m args below meth c H locs cells slots Q (F0 m pc ls st0) := by
  intro T hT X
  rcases hr T hT X with ⟨v, st₀, t, T', L, h0, X', hL, e1, e2, ⟨⟨r, u, hv, hp, hb⟩, hF⟩, st⟩ | ⟨q, st₀, t, T', L, E, ce, h0, X', hL, e1, e2, ⟨u, hp, hb, hF⟩, hce, hcv, hcl, st⟩
  · cases hv
    obtain ⟨k1, k2, k3⟩ := vx_keep h0 e1 hS hA hf hL hF
    obtain ⟨t2, a1, b1⟩ := kk r u t T'.heap (locs ++ L) e1.symm (by rw [← e2]; exact X'.warmed.alike) hp hb k1 k2 k3 T' rfl X'
    exact ⟨t2, st t2 a1, b1⟩
  · obtain ⟨k1, k2, k3⟩ := vx_keep h0 e1 hS hAX hf hL hF
    obtain ⟨t2, a1, b1⟩ := kx E ce q u t T'.heap (locs ++ L) e1.symm (by rw [← e2]; exact X'.warmed.alike) hp hb k1 k2 k3 (by rw [e1]; exact hce) hcv hcl T' rfl X'
    exact ⟨t2, st.trans a1, b1⟩
theorem vx_calll {S SX : Type} {post : Int64 → S → Prop} {px : SX → Prop} {B : S → State → Prop} {BX : String → SX → State → Prop} {AX : Nat → Prop} (hr : vx_Run p l e R s m args below meth c H locs cells slots mc ms (F0 m pc ls st0) rest (va_Ql post B A1 a) (vx_X px BX AX) free) (hS : va_S A0 H0 H locs) (hA : ∀ q, q < H.size → A1 q → A0 q) (hf : ∀ q, free q → A0 q) (hAX : ∀ q, q < H.size → AX q → A0 q)
    (kx : ∀ (E : String) (ce : Cell) (q9 : Addr) (u : SX) (t : State) (H1 : Heap) (locs1 : List Loc), t.heap = H1 → s.vm.Alike t.vm → px u → BX E u t → H.size ≤ H1.size → (∀ q : Nat, q < H.size → ¬ AX q → H1[q]? = H[q]?) → va_S A0 H0 H1 locs1 → H1[q9]? = some ce → ce.vm = .none → s.vm.findClass E = some ce.cls → vx_W p l e R s m args below meth c H1 locs1 (cells + mc) (slots + ms) Q (F0 m pc ls rest) q9)
    (kk : ∀ (r : Int64) (u : S) (t : State) (H1 : Heap) (locs1 : List Loc), t.heap = H1 → s.vm.Alike t.vm → post r u → B u t → H.size ≤ H1.size → (∀ q : Nat, q < H.size → ¬ A1 q → H1[q]? = H[q]?) → va_S A0 H0 H1 locs1 → W p l e R s m args below meth c H1 locs1 (cells + mc) (slots + ms) Q (F0 m (pc + 3) ls (.long r :: rest))) : W p l e R s m args below meth c H locs cells slots Q (F0 m pc ls st0) := by
  intro T hT X
  rcases hr T hT X with ⟨v, st₀, t, T', L, h0, X', hL, e1, e2, ⟨⟨r, u, hv, hp, hb⟩, hF⟩, st⟩ | ⟨q, st₀, t, T', L, E, ce, h0, X', hL, e1, e2, ⟨u, hp, hb, hF⟩, hce, hcv, hcl, st⟩
  · cases hv
    obtain ⟨k1, k2, k3⟩ := vx_keep h0 e1 hS hA hf hL hF
    obtain ⟨t2, a1, b1⟩ := kk r u t T'.heap (locs ++ L) e1.symm (by rw [← e2]; exact X'.warmed.alike) hp hb k1 k2 k3 T' rfl X'
    exact ⟨t2, st t2 a1, b1⟩
  · obtain ⟨k1, k2, k3⟩ := vx_keep h0 e1 hS hAX hf hL hF
    obtain ⟨t2, a1, b1⟩ := kx E ce q u t T'.heap (locs ++ L) e1.symm (by rw [← e2]; exact X'.warmed.alike) hp hb k1 k2 k3 (by rw [e1]; exact hce) hcv hcl T' rfl X'
    exact ⟨t2, st.trans a1, b1⟩
theorem vx_callf {S SX : Type} {post : UInt32 → S → Prop} {px : SX → Prop} {B : S → State → Prop} {BX : String → SX → State → Prop} {AX : Nat → Prop} (hr : vx_Run p l e R s m args below meth c H locs cells slots mc ms (F0 m pc ls st0) rest (va_Qf post B A1 a) (vx_X px BX AX) free) (hS : va_S A0 H0 H locs) (hA : ∀ q, q < H.size → A1 q → A0 q) (hf : ∀ q, free q → A0 q) (hAX : ∀ q, q < H.size → AX q → A0 q)
    (kx : ∀ (E : String) (ce : Cell) (q9 : Addr) (u : SX) (t : State) (H1 : Heap) (locs1 : List Loc), t.heap = H1 → s.vm.Alike t.vm → px u → BX E u t → H.size ≤ H1.size → (∀ q : Nat, q < H.size → ¬ AX q → H1[q]? = H[q]?) → va_S A0 H0 H1 locs1 → H1[q9]? = some ce → ce.vm = .none → s.vm.findClass E = some ce.cls → vx_W p l e R s m args below meth c H1 locs1 (cells + mc) (slots + ms) Q (F0 m pc ls rest) q9)
    (kk : ∀ (r : UInt32) (u : S) (t : State) (H1 : Heap) (locs1 : List Loc), t.heap = H1 → s.vm.Alike t.vm → post r u → B u t → H.size ≤ H1.size → (∀ q : Nat, q < H.size → ¬ A1 q → H1[q]? = H[q]?) → va_S A0 H0 H1 locs1 → W p l e R s m args below meth c H1 locs1 (cells + mc) (slots + ms) Q (F0 m (pc + 3) ls (.float r :: rest))) : W p l e R s m args below meth c H locs cells slots Q (F0 m pc ls st0) := by
  intro T hT X
  rcases hr T hT X with ⟨v, st₀, t, T', L, h0, X', hL, e1, e2, ⟨⟨r, u, hv, hp, hb⟩, hF⟩, st⟩ | ⟨q, st₀, t, T', L, E, ce, h0, X', hL, e1, e2, ⟨u, hp, hb, hF⟩, hce, hcv, hcl, st⟩
  · cases hv
    obtain ⟨k1, k2, k3⟩ := vx_keep h0 e1 hS hA hf hL hF
    obtain ⟨t2, a1, b1⟩ := kk r u t T'.heap (locs ++ L) e1.symm (by rw [← e2]; exact X'.warmed.alike) hp hb k1 k2 k3 T' rfl X'
    exact ⟨t2, st t2 a1, b1⟩
  · obtain ⟨k1, k2, k3⟩ := vx_keep h0 e1 hS hAX hf hL hF
    obtain ⟨t2, a1, b1⟩ := kx E ce q u t T'.heap (locs ++ L) e1.symm (by rw [← e2]; exact X'.warmed.alike) hp hb k1 k2 k3 (by rw [e1]; exact hce) hcv hcl T' rfl X'
    exact ⟨t2, st.trans a1, b1⟩
theorem vx_calld {S SX : Type} {post : UInt64 → S → Prop} {px : SX → Prop} {B : S → State → Prop} {BX : String → SX → State → Prop} {AX : Nat → Prop} (hr : vx_Run p l e R s m args below meth c H locs cells slots mc ms (F0 m pc ls st0) rest (va_Qd post B A1 a) (vx_X px BX AX) free) (hS : va_S A0 H0 H locs) (hA : ∀ q, q < H.size → A1 q → A0 q) (hf : ∀ q, free q → A0 q) (hAX : ∀ q, q < H.size → AX q → A0 q)
    (kx : ∀ (E : String) (ce : Cell) (q9 : Addr) (u : SX) (t : State) (H1 : Heap) (locs1 : List Loc), t.heap = H1 → s.vm.Alike t.vm → px u → BX E u t → H.size ≤ H1.size → (∀ q : Nat, q < H.size → ¬ AX q → H1[q]? = H[q]?) → va_S A0 H0 H1 locs1 → H1[q9]? = some ce → ce.vm = .none → s.vm.findClass E = some ce.cls → vx_W p l e R s m args below meth c H1 locs1 (cells + mc) (slots + ms) Q (F0 m pc ls rest) q9)
    (kk : ∀ (r : UInt64) (u : S) (t : State) (H1 : Heap) (locs1 : List Loc), t.heap = H1 → s.vm.Alike t.vm → post r u → B u t → H.size ≤ H1.size → (∀ q : Nat, q < H.size → ¬ A1 q → H1[q]? = H[q]?) → va_S A0 H0 H1 locs1 → W p l e R s m args below meth c H1 locs1 (cells + mc) (slots + ms) Q (F0 m (pc + 3) ls (.double r :: rest))) : W p l e R s m args below meth c H locs cells slots Q (F0 m pc ls st0) := by
  intro T hT X
  rcases hr T hT X with ⟨v, st₀, t, T', L, h0, X', hL, e1, e2, ⟨⟨r, u, hv, hp, hb⟩, hF⟩, st⟩ | ⟨q, st₀, t, T', L, E, ce, h0, X', hL, e1, e2, ⟨u, hp, hb, hF⟩, hce, hcv, hcl, st⟩
  · cases hv
    obtain ⟨k1, k2, k3⟩ := vx_keep h0 e1 hS hA hf hL hF
    obtain ⟨t2, a1, b1⟩ := kk r u t T'.heap (locs ++ L) e1.symm (by rw [← e2]; exact X'.warmed.alike) hp hb k1 k2 k3 T' rfl X'
    exact ⟨t2, st t2 a1, b1⟩
  · obtain ⟨k1, k2, k3⟩ := vx_keep h0 e1 hS hAX hf hL hF
    obtain ⟨t2, a1, b1⟩ := kx E ce q u t T'.heap (locs ++ L) e1.symm (by rw [← e2]; exact X'.warmed.alike) hp hb k1 k2 k3 (by rw [e1]; exact hce) hcv hcl T' rfl X'
    exact ⟨t2, st.trans a1, b1⟩
theorem vx_callv {S SX : Type} {post : S → Prop} {px : SX → Prop} {B : S → State → Prop} {BX : String → SX → State → Prop} {AX : Nat → Prop} (hr : vx_Run p l e R s m args below meth c H locs cells slots mc ms (F0 m pc ls st0) rest (va_Qv post B A1 a) (vx_X px BX AX) free) (hS : va_S A0 H0 H locs) (hA : ∀ q, q < H.size → A1 q → A0 q) (hf : ∀ q, free q → A0 q) (hAX : ∀ q, q < H.size → AX q → A0 q)
    (kx : ∀ (E : String) (ce : Cell) (q9 : Addr) (u : SX) (t : State) (H1 : Heap) (locs1 : List Loc), t.heap = H1 → s.vm.Alike t.vm → px u → BX E u t → H.size ≤ H1.size → (∀ q : Nat, q < H.size → ¬ AX q → H1[q]? = H[q]?) → va_S A0 H0 H1 locs1 → H1[q9]? = some ce → ce.vm = .none → s.vm.findClass E = some ce.cls → vx_W p l e R s m args below meth c H1 locs1 (cells + mc) (slots + ms) Q (F0 m pc ls rest) q9)
    (kk : ∀ (u : S) (t : State) (H1 : Heap) (locs1 : List Loc), t.heap = H1 → s.vm.Alike t.vm → post u → B u t → H.size ≤ H1.size → (∀ q : Nat, q < H.size → ¬ A1 q → H1[q]? = H[q]?) → va_S A0 H0 H1 locs1 → W p l e R s m args below meth c H1 locs1 (cells + mc) (slots + ms) Q (F0 m (pc + 3) ls (rest))) : W p l e R s m args below meth c H locs cells slots Q (F0 m pc ls st0) := by
  intro T hT X
  rcases hr T hT X with ⟨v, st₀, t, T', L, h0, X', hL, e1, e2, ⟨⟨u, hv, hp, hb⟩, hF⟩, st⟩ | ⟨q, st₀, t, T', L, E, ce, h0, X', hL, e1, e2, ⟨u, hp, hb, hF⟩, hce, hcv, hcl, st⟩
  · cases hv
    obtain ⟨k1, k2, k3⟩ := vx_keep h0 e1 hS hA hf hL hF
    obtain ⟨t2, a1, b1⟩ := kk u t T'.heap (locs ++ L) e1.symm (by rw [← e2]; exact X'.warmed.alike) hp hb k1 k2 k3 T' rfl X'
    exact ⟨t2, st t2 a1, b1⟩
  · obtain ⟨k1, k2, k3⟩ := vx_keep h0 e1 hS hAX hf hL hF
    obtain ⟨t2, a1, b1⟩ := kx E ce q u t T'.heap (locs ++ L) e1.symm (by rw [← e2]; exact X'.warmed.alike) hp hb k1 k2 k3 (by rw [e1]; exact hce) hcv hcl T' rfl X'
    exact ⟨t2, st.trans a1, b1⟩
/-- caught by the row x of this method's table; the rows ahead don't take it -/
theorem vx_catch {own name : String} {E : String} {ce : Cell} {q : Addr} (hown : s.vm.findClass own = some m.cls) (pre : List ExceptionTableEntry) (x : ExceptionTableEntry) (suf : List ExceptionTableEntry) (hsplit : c.exceptionTable.toList = pre ++ x :: suf)
    (hpass : ∀ z ∈ pre, covers z pc = false ∨ (z.catchType ≠ 0 ∧ ∃ nm : String, (Cond.classLink own z.catchType nm).before args s = true ∧ va_Nc E nm s)) (hx : covers x pc = true) (h0 : x.catchType ≠ 0)
    (hlink : (Cond.classLink own x.catchType name).before args s = true) (hcast : (Cond.castable E name).before args s = true) (hcell : H[q]? = some ce) (hv : ce.vm = .none) (hcl : s.vm.findClass E = some ce.cls)
    (kk : W p l e R s m args below meth c H locs cells slots Q (F0 m x.handlerPc ls [.ref q])) : vx_W p l e R s m args below meth c H locs cells slots Q (F0 m pc ls rest) q := by
  intro T hT X
  have hpl : e.platform.magicAccessors = ({} : Platform).magicAccessors := by rw [X.admits.platform]
  obtain ⟨c3, c4, hc3, hc4, hasg⟩ := Cond.castable_spec hcast
  cases Option.some.inj (hc3.symm.trans hcl)
  obtain ⟨c5, hc5, hcl5⟩ := Cond.classLink_spec hown hlink e.platform hpl
  cases Option.some.inj (hc4.symm.trans hc5)
  obtain ⟨vm', X', st⟩ := X.thenCaughtThrough q (g := F0 m pc ls rest) rfl (Steps.refl _) (by rw [hT]; exact hcell) (by rw [hv]; rfl) (by obtain ⟨k9, h9, -⟩ := Vm.findClass_spec hcl; exact ⟨k9, h9⟩) pre x suf hsplit
    (fun z hz => by
      rcases hpass z hz with h | ⟨hz0, nm, hl1, hn1⟩
      · exact Or.inl h
      · obtain ⟨c6, hc6, hcl6⟩ := Cond.classLink_spec hown hl1 e.platform hpl
        obtain ⟨a8, b8, h1, h2, h3⟩ := hn1
        cases Option.some.inj (h1.symm.trans hcl)
        cases Option.some.inj (h2.symm.trans hc6)
        exact Or.inr ⟨hz0, _, hcl6, h3⟩) hx (Or.inr ⟨h0, c4, hcl5, hasg⟩)
  obtain ⟨t, a1, b1⟩ := kk (T.setVm vm') hT X'
  exact ⟨t, st.trans a1, b1⟩
end Rows
section Ends
variable {p : Program} {l : Launch} {e : Env} {R : Room} {s : State} {m : MethodId} {args : Array Value} {below : List Frame} {meth : Method} {c : Code} {H : Heap} {locs : List Loc} {cells slots : Nat} {Q : State → Prop}
variable {mc ms : Nat} {free : Addr → Prop} {A0 A1 : Nat → Prop} {H0 : Heap} {a : Array Value} {ls : Array Slot} {st0 rest : List Value}
variable {Qc : Array Value → State → Outcome → State → Prop} {XC : String → State → State → Prop}
/-- what a body that may throw owes at its end -/
def vx_MQ (below : List Frame) (Qc : Array Value → State → Outcome → State → Prop) (XC : String → State → State → Prop) (a : Array Value) (s : State) (mc ms : Nat) (free : Addr → Prop) : State → Prop := fun t =>
  ∃ o, t.status = .running ∧ Ended t below o ∧ vx_Q Qc XC mc ms free a s o t
theorem vx_ret {g : JFrame} {mc ms : Nat} (k : W p l e R s m args below meth c H locs cells slots (MQ below Qc args s mc ms free) g) : W p l e R s m args below meth c H locs cells slots (vx_MQ below Qc XC args s mc ms free) g := by
  intro T hT X
  obtain ⟨t, a1, o, b1, b2, b3, b4⟩ := k T hT X
  exact ⟨t, a1, o, b1, b2, Or.inl ⟨b3, b4⟩⟩
/-- not caught here: it goes on to the caller -/
theorem vx_widen {g : JFrame} {q : Addr} {k n : Nat} (h1 : cells ≤ k) (h2 : slots ≤ n) (kk : vx_W p l e R s m args below meth c H locs k n Q g q) : vx_W p l e R s m args below meth c H locs cells slots Q g q := fun T hT X => kk T hT (stand_widen X h1 h2)
theorem vx_out {pc : Nat} {E : String} {ce : Cell} {q : Addr} {mc ms : Nat} (hout : ∀ x ∈ c.exceptionTable.toList, covers x pc = false) (hlocks : meth.locks = false) (hcell : H[q]? = some ce) (hv : ce.vm = .none) (hcl : s.vm.findClass E = some ce.cls)
    (hx : ∀ t : State, t.heap = H → s.vm.Alike t.vm → XC E s t) (hf : ∀ z ∈ locs, free z.base) (hc : cells ≤ mc) (hs : slots ≤ ms) :
    vx_W p l e R s m args below meth c H locs cells slots (vx_MQ below Qc XC args s mc ms free) (F0 m pc ls rest) q := by
  intro T hT X
  obtain ⟨st1, hrun, hend, hW, hsm⟩ := X.leaveThrown q (g := F0 m pc ls rest) rfl rfl rfl hout hlocks
  have hcell9 : (T.setFrames (.throwing q :: below)).heap[q]? = some ce := by
    show T.heap[q]? = some ce
    rw [hT]; exact hcell
  exact ⟨_, st1, .threw q, hrun, hend, Or.inr ⟨q, rfl, E, ce, locs, hx _ hT hW.alike, hcell9, hv, hcl, hW, hsm.mono hc hs, hf⟩⟩
theorem vx_frame {U : State} {k n : Nat} (h : s.sameButNew ({ U with vm := s.vm } : State) locs k n) : s.heap.size ≤ U.heap.size ∧ ∀ q : Nat, q < s.heap.size → (∀ z ∈ locs, z.base ≠ q) → U.heap[q]? = s.heap[q]? := by
  obtain ⟨-, h2, -, -, -, h6⟩ := h
  refine ⟨h2, fun q hq hz => ?_⟩
  obtain ⟨c9, e1, e2, e3, e4⟩ := h6 q _ (Array.getElem?_eq_getElem hq)
  have hs : c9.slots = (s.heap[q]).slots := Array.ext_getElem? fun i => e4 i fun hm => hz _ hm rfl
  have h9 : c9 = s.heap[q] := by
    rw [hs] at e2
    exact e2
  have e5 : U.heap[q]? = some c9 := e1
  rw [e5, h9, Array.getElem?_eq_getElem hq]
/-- the words of a throw but the four that speak of the heap -/
def vx_no (w : Cond) : Bool := decide (w ≠ .isRef (.static Bundle.tN "UNASSIGNED_STACK" Bundle.steD)) && decide (w ≠ .isRef (.static Bundle.tN "SUPPRESSED_SENTINEL" Bundle.listD)) && decide (w ≠ .laysStatic Bundle.tN "UNASSIGNED_STACK" Bundle.steD) && decide (w ≠ .laysStatic Bundle.tN "SUPPRESSED_SENTINEL" Bundle.listD)
def vx_at0 (own : String) (ic : Nat) (X : String) (names : List String) : List Cond := (Bundle.ownAtoms0 own ic X names).filter vx_no
def vx_atS (own : String) (ic : Nat) (X : String) (names : List String) : List Cond := (Bundle.ownAtoms own ic X names).filter vx_no
/-- a word that the tables alone decide, or a good one -/
def vx_ot (w : Cond) : Bool := w.onTables || goodWord w
theorem vx_ot_at {args a' : Array Value} {s U : State} {w : Cond} (hW : s.WarmedH U.vm) (hvm : s.vm = U.vm) (hg : vx_ot w = true) (h : w.before args s = true) : w.before a' U = true := by
  simp only [vx_ot, Bool.or_eq_true] at hg
  rcases hg with hg | hg
  · exact va_tabs hg hvm h
  · exact word_at hW (good_of_word hg) h
/-- a list's words: the good ones out of the method's own list, the others by premises of their own -/
theorem vx_hat {args : Array Value} {s : State} {L B : List Cond} (h1 : ∀ w ∈ L.filter goodWord, w.before args s = true) (h2 : ∀ w ∈ L.filter (fun w => !goodWord w), w ∈ B) (h3 : ∀ w ∈ B, w.before args s = true) : ∀ w ∈ L, w.before args s = true := by
  intro w hw
  by_cases g : goodWord w = true
  · exact h1 w (List.mem_filter.mpr ⟨hw, g⟩)
  · refine h3 w (h2 w (List.mem_filter.mpr ⟨hw, ?_⟩))
    show (!goodWord w) = true
    cases hgw : goodWord w
    · rfl
    · exact absurd hgw g
theorem vx_c {args : Array Value} {s : State} {w : Cond} {B : List Cond} (h : w.before args s = true) (t : ∀ w ∈ B, w.before args s = true) : ∀ w' ∈ w :: B, w'.before args s = true := fun w' h' => (List.mem_cons.mp h').elim (fun e => by rw [e]; exact h) (t w')
theorem vx_n {args : Array Value} {s : State} : ∀ w ∈ ([] : List Cond), w.before args s = true := fun _ h => nomatch h
theorem vx_own {args : Array Value} {s : State} {L : List Cond} (h1 : ∀ w ∈ L.filter vx_no, w.before args s = true)
    (hU : (Cond.isRef (.static Bundle.tN "UNASSIGNED_STACK" Bundle.steD)).before args s = true) (hN : (Cond.isRef (.static Bundle.tN "SUPPRESSED_SENTINEL" Bundle.listD)).before args s = true)
    (lU : (Cond.laysStatic Bundle.tN "UNASSIGNED_STACK" Bundle.steD).before args s = true) (lN : (Cond.laysStatic Bundle.tN "SUPPRESSED_SENTINEL" Bundle.listD).before args s = true) : ∀ w ∈ L, w.before args s = true := by
  intro w hw
  by_cases e1 : w = .isRef (.static Bundle.tN "UNASSIGNED_STACK" Bundle.steD)
  · rw [e1]; exact hU
  · by_cases e2 : w = .isRef (.static Bundle.tN "SUPPRESSED_SENTINEL" Bundle.listD)
    · rw [e2]; exact hN
    · by_cases e3 : w = .laysStatic Bundle.tN "UNASSIGNED_STACK" Bundle.steD
      · rw [e3]; exact lU
      · by_cases e4 : w = .laysStatic Bundle.tN "SUPPRESSED_SENTINEL" Bundle.listD
        · rw [e4]; exact lN
        · exact h1 w (List.mem_filter.mpr ⟨hw, by unfold vx_no; rw [decide_eq_true e1, decide_eq_true e2, decide_eq_true e3, decide_eq_true e4]; rfl⟩)
/-- where a static field lies, its class's statics cell in H -/
def vx_L (C n d : String) (A : Nat → Prop) (U : State) (H : Heap) : Prop := ∃ (c : ClassId) (k : Class) (i : Nat) (f : Field) (a : Nat) (cell : Cell), U.vm.findClass C = some c ∧ U.fieldFound? C n d = some (c, k, i, f) ∧ f.isStatic = true ∧ k.statics = some a ∧ H[a]? = some cell ∧ cell.vm.isStatics = true ∧ cell.cls = c ∧ f.slot < cell.slots.size ∧ k.staticTypes[f.slot]? = some f.type ∧ ¬ A a
theorem vx_L.moved {C n d : String} {A : Nat → Prop} {u U : State} {H : Heap} (hvm : u.vm.Alike U.vm) (h : vx_L C n d A u H) : vx_L C n d A U H := by
  obtain ⟨c, k, i, f, a, cell, h1, h2, h3, h4, h5, h6, h7, h8, h9, h10⟩ := h
  obtain ⟨k', hi', he⟩ := State.fieldFound?_setVm hvm h2
  exact ⟨c, k', i, f, a, cell, by rw [hvm.findClass]; exact h1, hi', h3, by rw [he]; exact h4, h5, h6, h7, h8, by rw [he]; exact h9, h10⟩
theorem vx_L.kept {C n d : String} {A : Nat → Prop} {U : State} {H H1 : Heap} (h : vx_L C n d A U H) (hq : ∀ a : Nat, a < H.size → ¬ A a → H1[a]? = H[a]?) : vx_L C n d A U H1 := by
  obtain ⟨c, k, i, f, a, cell, h1, h2, h3, h4, h5, h6, h7, h8, h9, h10⟩ := h
  exact ⟨c, k, i, f, a, cell, h1, h2, h3, h4, by rw [hq a (Array.getElem?_eq_some_iff.mp h5).1 h10]; exact h5, h6, h7, h8, h9, h10⟩
theorem vx_L.narrow {C n d : String} {A B : Nat → Prop} {U : State} {H : Heap} (h : vx_L C n d A U H) (hAB : ∀ q, B q → A q) : vx_L C n d B U H := by
  obtain ⟨c, k, i, f, a, cell, h1, h2, h3, h4, h5, h6, h7, h8, h9, h10⟩ := h
  exact ⟨c, k, i, f, a, cell, h1, h2, h3, h4, h5, h6, h7, h8, h9, fun z => h10 (hAB _ z)⟩
theorem vx_L.word {C n d : String} {A : Nat → Prop} {s : State} {args : Array Value} (h : vx_L C n d A s s.heap) : (Cond.laysStatic C n d).before args s = true := by
  obtain ⟨c, k, i, f, a, cell, h1, h2, h3, h4, h5, h6, h7, h8, h9, -⟩ := h
  show (Cond.laysStatic C n d).holds args s none s [] = true
  exact Cond.laysStatic_of h1 h2 h3 h4 h5 h6 h7 h8 h9
/-- .. and what it holds: null or some reference -/
def vx_Zq (C n d : String) (A : Nat → Prop) (U : State) (H : Heap) : Prop := va_Zq C n d A U H ∧ vx_L C n d A U H
theorem vx_Zq.moved {C n d : String} {A : Nat → Prop} {u U : State} {H : Heap} (hvm : u.vm.Alike U.vm) (h : vx_Zq C n d A u H) : vx_Zq C n d A U H := ⟨va_Zq.moved hvm h.1, vx_L.moved hvm h.2⟩
theorem vx_Zq.kept {C n d : String} {A : Nat → Prop} {U : State} {H H1 : Heap} (h : vx_Zq C n d A U H) (hq : ∀ a : Nat, a < H.size → ¬ A a → H1[a]? = H[a]?) : vx_Zq C n d A U H1 := ⟨va_Zq.kept h.1 hq, vx_L.kept h.2 hq⟩
theorem vx_Zq.narrow {C n d : String} {A B : Nat → Prop} {U : State} {H : Heap} (h : vx_Zq C n d A U H) (hAB : ∀ q, B q → A q) : vx_Zq C n d B U H := ⟨va_Zq.narrow h.1 hAB, vx_L.narrow h.2 hAB⟩
theorem vx_Zqof {args : Array Value} {s : State} {C n d : String} {A : Nat → Prop} (hl : (Cond.laysStatic C n d).before args s = true) (hini : (Cond.initialized C).before args s = true) (h : (Cond.isRef (.static C n d)).before args s = true) (hA : ∀ a : Nat, a < s.heap.size → ¬ A a) : vx_Zq C n d A s s.heap := by
  refine ⟨va_Zqof hl hini h hA, ?_⟩
  obtain ⟨c, k, i, f, a, cell, h1, h2, h3, h4, h5, h6, h7, h8, h9⟩ := Cond.laysStatic_spec hl
  exact ⟨c, k, i, f, a, cell, h1, h2, h3, h4, h5, h6, h7, h8, h9, hA a (Array.getElem?_eq_some_iff.mp h5).1⟩
theorem vx_isRef {C n d : String} {v : Value} {A : Nat → Prop} {s : State} {args : Array Value} (h : va_Z C n d v A s s.heap) (hv : v.isRef = true) : (Cond.isRef (.static C n d)).before args s = true := by
  obtain ⟨cf, kf, fi, f, a, cell, h1, h2, h3, h4, h5, h6, h7, -⟩ := h
  have he : (Term.static C n d).eval args s none [] s = some v := by
    simp [Term.eval, State.fieldNamed?, h1, h2, h4, h5, h6, h7]
  simp only [Cond.before, Cond.holds, Cond.value, he]
  cases v <;> simp_all [Value.isRef]
theorem vx_isRefq {C n d : String} {A : Nat → Prop} {s : State} {args : Array Value} (h : va_Zq C n d A s s.heap) : (Cond.isRef (.static C n d)).before args s = true := by
  rcases h with h | ⟨t, h⟩
  · exact vx_isRef h rfl
  · exact vx_isRef h rfl
/-- the same frame, seen from here: as if the method were called anew in this heap -/
theorem vx_rebase {T : State} (X : Stand p l e R s m args below meth c T locs cells slots) {R' : Room} (hf : R'.frames ≤ R.frames) (hl : R'.locals ≤ R.locals) (hc : cells + R'.cells ≤ R.cells) (hs : slots + R'.slots ≤ R.slots) :
    Stand p l e R' ((T.setVm s.vm).setFrames (.invoking m args :: below)) m args below meth c T [] 0 0 := by
  have htop : (T.setVm s.vm).topJava?.isSome := X.here.top
  have hF : ((T.setVm s.vm).setFrames (.invoking m args :: below)).frames = .invoking m args :: below := State.frames_setFrames _ (State.cur_lt_of_top htop)
  obtain ⟨g₀, hg0⟩ := Option.isSome_iff_exists.mp htop
  obtain ⟨r, hr⟩ := State.topJava?_eq_some.mp hg0
  have hl9 : e.platform.stackLimits (T.setVm s.vm).me = e.platform.stackLimits s.me := X.limits
  have hb9 : (T.setVm s.vm).me.stackBytes = s.me.stackBytes := X.bytes
  refine ⟨X.admits, X.cas, X.clock, hF, ?_, X.hears, X.method, X.code, X.here, X.tail, X.warmed, ?_, ?_, ?_⟩
  · have h := X.room
    have hU : ((T.setVm s.vm).setFrames (.invoking m args :: below)).localsInUse = s.localsInUse := by
      rw [State.localsInUse_invoking hF (meth := meth) (c := c) X.method X.code, State.localsInUse_invoking X.frames X.method X.code]
    simp only [State.hasRoom, Bool.and_eq_true, decide_eq_true_eq] at h ⊢
    obtain ⟨⟨⟨⟨h1, h2, h3, h4, h5, h6⟩, h7⟩, h8⟩, h9⟩ := h
    rw [X.frames, List.length_cons] at h2 h3
    have q1 := X.heapSize
    have q2 := X.used
    simp only [hF, hU, List.length_cons, State.stackLimits_setFrames, State.stackBytes_setFrames, hl9, hb9]
    refine ⟨⟨⟨⟨by omega, by omega, by omega, by omega, by omega, h6⟩, ?_⟩, ?_⟩, X.book⟩
    · show T.heap.size + R'.cells ≤ e.platform.maxCells
      omega
    · show T.slotsUsed + R'.slots ≤ e.platform.maxSlots
      omega
  · rw [State.stackLimits_setFrames]; rfl
  · rw [State.stackBytes_setFrames]; rfl
  · refine ⟨?_, Nat.le_refl _, Nat.le_refl _, ?_, ?_, fun a c9 h9 => ⟨c9, h9, rfl, rfl, fun _ _ => rfl⟩⟩
    · obtain ⟨t, ht, -⟩ := State.frames_cons hr
      show T.setVm s.vm = { ((T.setVm s.vm).setFrames (.invoking m args :: below)).setFrames (T.setVm s.vm).frames with heap := T.heap, slotsUsed := T.slotsUsed }
      rw [State.setFrames_setFrames, State.setFrames_self ht]
      rfl
    · show T.slotsUsed = T.slotsUsed + ((T.heap.toList.drop T.heap.size).map (·.slots.size)).sum
      rw [List.drop_eq_nil_of_le (Nat.le_of_eq Array.length_toList)]
      rfl
    · show ((T.heap.toList.drop T.heap.size).map (·.slots.size)).sum ≤ 0
      rw [List.drop_eq_nil_of_le (Nat.le_of_eq Array.length_toList)]
      exact Nat.le_refl _
/-- 'throw new E()': new; dup; invokespecial; athrow -/
theorem vx_throw0 {cc : ByteArray} {pc : Nat} (hexec : p.tables.exec = Jvm.exec) (hb : c.code = cc) (hl : l.stackTraces = false) {own cls : String} {names : List String} {ik ic mc ms : Nat} {A : Nat → Prop}
    (hown : s.vm.findClass own = some m.cls) (hcls : Bundle.fit cls = true) (hnames : ∀ n ∈ names, Bundle.fit n = true)
    (hk : (Cond.classLink own ik cls).before args s = true) (hini : (Cond.initialized cls).before args s = true) (hat : ∀ w ∈ vx_at0 own ic cls names, w.before args s = true)
    (hgood : ∀ w ∈ Cond.classLink own ik cls :: Cond.initialized cls :: vx_at0 own ic cls names, vx_ot w = true)
    (hU : vx_Zq Bundle.tN "UNASSIGNED_STACK" Bundle.steD A s s.heap) (hN : vx_Zq Bundle.tN "SUPPRESSED_SENTINEL" Bundle.listD A s s.heap) (hS : va_S A s.heap H locs) (hsize : ls.size = c.maxLocals)
    (d0 : decode cc pc = .ok (.new ik, 3)) (d3 : decode cc (pc + 3) = .ok (.dup, 1)) (d4 : decode cc (pc + 4) = .ok (.invokespecial ic, 3)) (d7 : decode cc (pc + 7) = .ok (.athrow, 1))
    (hout : ∀ x ∈ c.exceptionTable.toList, covers x (pc + 7) = false)
    (hRframes : names.length + 3 < R.frames) (hRlocals : (rest.map fun v => v.category).sum + (13 * (names.length + 1) + 42) ≤ R.locals) (hRcells : cells + 1 ≤ R.cells) (hRslots : slots + 6 ≤ R.slots) (hlocks : meth.locks = false)
    (hx : ∀ t : State, s.vm.Alike t.vm → H.size ≤ t.heap.size → (∀ q : Nat, q < H.size → t.heap[q]? = H[q]?) → XC cls s t)
    (hf : ∀ z ∈ locs, free z.base) (hc : cells + 1 ≤ mc) (hs : slots + 6 ≤ ms) :
    W p l e R s m args below meth c H locs cells slots (vx_MQ below Qc XC args s mc ms free) (F0 m pc ls rest) := by
  intro T hT X
  have htr : e.platform.stackTraces = false := (show e.platform.stackTraces = l.stackTraces by rw [X.admits.platform]).trans hl
  have Y := vx_rebase X (R' := { frames := R.frames, locals := R.locals, cells := 1, slots := 6 }) (Nat.le_refl _) (Nat.le_refl _) hRcells hRslots
  obtain ⟨s', hA⟩ : ∃ z, z = (T.setVm s.vm).setFrames (.invoking m args :: below) := ⟨_, rfl⟩
  rw [← hA] at Y
  have hvm : s'.vm = s.vm := by rw [hA]; rfl
  have hhp : s'.heap = H := by rw [hA]; exact hT
  have hW0 : s.WarmedH s'.vm := by rw [hvm]; exact State.WarmedH.refl s
  have hat' : ∀ w ∈ vx_at0 own ic cls names, w.before args s' = true := fun w hw => vx_ot_at hW0 hvm.symm (hgood w (List.mem_cons_of_mem _ (List.mem_cons_of_mem _ hw))) (hat w hw)
  have hk' : (Cond.classLink own ik cls).before args s' = true := vx_ot_at hW0 hvm.symm (hgood _ List.mem_cons_self) hk
  have hini' : (Cond.initialized cls).before args s' = true := vx_ot_at hW0 hvm.symm (hgood _ (List.mem_cons_of_mem _ List.mem_cons_self)) hini
  have hU' : vx_Zq Bundle.tN "UNASSIGNED_STACK" Bundle.steD A s' s'.heap := by rw [hhp]; exact vx_Zq.moved hW0.alike (hU.kept hS.2.1)
  have hN' : vx_Zq Bundle.tN "SUPPRESSED_SENTINEL" Bundle.listD A s' s'.heap := by rw [hhp]; exact vx_Zq.moved hW0.alike (hN.kept hS.2.1)
  have h : ∀ w ∈ Bundle.ownAtoms0 own ic cls names, w.before args s' = true := vx_own hat' (vx_isRefq hU'.1) (vx_isRefq hN'.1) hU'.2.word hN'.2.word
  have hown' : s'.vm.findClass own = some m.cls := by rw [hvm]; exact hown
  have hins : (Cond.instantiable cls 6).before args s' = true := h _ (by simp [Bundle.ownAtoms0])
  obtain ⟨vm₁, cX, kX, hfX, hkX, -, -, X₁, st1⟩ := Y.newCold hexec (own := own) (C := cls) (index := ik) (n := 6) hown' hk' hins hini'
    (g := F0 m pc ls rest) rfl (by rw [hb]; exact d0) (Nat.le_refl _) (Nat.le_refl _)
  generalize hT1 : (T.setVm vm₁).pushCell { cls := cX, slots := kX.instanceTypes.map defaultValue, vm := .none } = T1 at X₁ st1
  have hcat : (Value.ref T.heap.size).category = 1 := rfl
  have hcellA : T1.heap[T.heap.size]? = some (freshCell cX kX) := by rw [← hT1]; exact State.heap_pushCell_size _ _
  have d3' : decode c.code (pc + 3) = .ok (.dup, 1) := by rw [hb]; exact d3
  obtain ⟨U, hsteps, hrun, hend, hW, hsame, ce, hce, hO⟩ := X₁.ctorThrow0 hexec htr (own := own) (cls := cls) (names := names) (ic := ic) hown' hcls hnames h (fun x hx => nomatch hx) hfX hkX hcellA (by rw [hhp, hT]; exact Nat.le_refl _)
    (g := { method := m, pc := pc + 4, locals := ls, stack := .ref T.heap.size :: .ref T.heap.size :: rest, locked := none }) rfl hsize rfl rfl (rest := rest) rfl
    (by rw [hb]; exact d4) (by rw [hb]; exact d7) hout hRframes (by simp only [List.map_cons, List.sum_cons, hcat]; omega) hlocks
  obtain ⟨f1, f2⟩ := vx_frame hsame
  rw [hhp] at f1 f2
  have hWs : s.WarmedH U.vm := State.WarmedH.trans hW0 hW
  have hcl : s.vm.findClass cls = some ce.cls := by
    have h9 := hO.cls
    rw [hvm] at h9
    exact h9
  have hall : s.sameButNew ({ U with vm := s.vm } : State) locs mc ms := by
    subst hA
    obtain ⟨e1, e2⟩ := hsame
    rw [State.setFrames_setFrames] at e1
    have h2 : (T.setVm s.vm).sameButNew ({ U with vm := s.vm } : State) [] (0 + 1) (0 + 6) := ⟨e1, e2⟩
    have h3 := X.same.trans h2
    rw [List.append_nil] at h3
    exact h3.mono hc hs
  refine ⟨U, ?_, .threw T.heap.size, hrun, hend, Or.inr ⟨T.heap.size, rfl, cls, ce, locs, hx U hWs.alike f1 (fun q hq => f2 q hq (fun z hz => nomatch hz)), hce, hO.vm, hcl, hWs, hall, hf⟩⟩
  refine st1 _ ?_
  show Steps p.tables e below (T1.setTop { method := m, pc := pc + 3, locals := ls, stack := .ref T.heap.size :: rest, locked := none }) _
  jvm_step X₁.here [X₁.here.top, hexec, d3', Value.category]
  exact hsteps
/-- 'throw new E("text")': new; dup; ldc; invokespecial; athrow -/
theorem vx_throwS {cc : ByteArray} {pc : Nat} (hexec : p.tables.exec = Jvm.exec) (hb : c.code = cc) (hl : l.stackTraces = false) {own cls text : String} {names : List String} {ik is ic mc ms sa : Nat} {A : Nat → Prop}
    (hown : s.vm.findClass own = some m.cls) (hcls : Bundle.fit cls = true) (hnames : ∀ n ∈ names, Bundle.fit n = true)
    (hk : (Cond.classLink own ik cls).before args s = true) (hini : (Cond.initialized cls).before args s = true) (hstr : vk_R own is text sa s) (hat : ∀ w ∈ vx_atS own ic cls names, w.before args s = true)
    (hgood : ∀ w ∈ Cond.classLink own ik cls :: Cond.initialized cls :: vx_atS own ic cls names, vx_ot w = true)
    (hU : vx_Zq Bundle.tN "UNASSIGNED_STACK" Bundle.steD A s s.heap) (hN : vx_Zq Bundle.tN "SUPPRESSED_SENTINEL" Bundle.listD A s s.heap) (hS : va_S A s.heap H locs) (hsize : ls.size = c.maxLocals)
    (d0 : decode cc pc = .ok (.new ik, 3)) (d3 : decode cc (pc + 3) = .ok (.dup, 1)) (d4 : decode cc (pc + 4) = .ok (.ldc is, 2)) (d6 : decode cc (pc + 6) = .ok (.invokespecial ic, 3)) (d9 : decode cc (pc + 9) = .ok (.athrow, 1))
    (hout : ∀ x ∈ c.exceptionTable.toList, covers x (pc + 9) = false)
    (hRframes : names.length + 3 < R.frames) (hRlocals : (rest.map fun v => v.category).sum + (13 * (names.length + 1) + 43) ≤ R.locals) (hRcells : cells + 1 ≤ R.cells) (hRslots : slots + 6 ≤ R.slots) (hlocks : meth.locks = false)
    (hx : ∀ t : State, s.vm.Alike t.vm → H.size ≤ t.heap.size → (∀ q : Nat, q < H.size → t.heap[q]? = H[q]?) → XC cls s t)
    (hf : ∀ z ∈ locs, free z.base) (hc : cells + 1 ≤ mc) (hs : slots + 6 ≤ ms) :
    W p l e R s m args below meth c H locs cells slots (vx_MQ below Qc XC args s mc ms free) (F0 m pc ls rest) := by
  intro T hT X
  have htr : e.platform.stackTraces = false := (show e.platform.stackTraces = l.stackTraces by rw [X.admits.platform]).trans hl
  have Y := vx_rebase X (R' := { frames := R.frames, locals := R.locals, cells := 1, slots := 6 }) (Nat.le_refl _) (Nat.le_refl _) hRcells hRslots
  obtain ⟨s', hA⟩ : ∃ z, z = (T.setVm s.vm).setFrames (.invoking m args :: below) := ⟨_, rfl⟩
  rw [← hA] at Y
  have hvm : s'.vm = s.vm := by rw [hA]; rfl
  have hhp : s'.heap = H := by rw [hA]; exact hT
  have hW0 : s.WarmedH s'.vm := by rw [hvm]; exact State.WarmedH.refl s
  have hat' : ∀ w ∈ vx_atS own ic cls names, w.before args s' = true := fun w hw => vx_ot_at hW0 hvm.symm (hgood w (List.mem_cons_of_mem _ (List.mem_cons_of_mem _ hw))) (hat w hw)
  have hk' : (Cond.classLink own ik cls).before args s' = true := vx_ot_at hW0 hvm.symm (hgood _ List.mem_cons_self) hk
  have hini' : (Cond.initialized cls).before args s' = true := vx_ot_at hW0 hvm.symm (hgood _ (List.mem_cons_of_mem _ List.mem_cons_self)) hini
  have hU' : vx_Zq Bundle.tN "UNASSIGNED_STACK" Bundle.steD A s' s'.heap := by rw [hhp]; exact vx_Zq.moved hW0.alike (hU.kept hS.2.1)
  have hN' : vx_Zq Bundle.tN "SUPPRESSED_SENTINEL" Bundle.listD A s' s'.heap := by rw [hhp]; exact vx_Zq.moved hW0.alike (hN.kept hS.2.1)
  have h : ∀ w ∈ Bundle.ownAtoms own ic cls names, w.before args s' = true := vx_own hat' (vx_isRefq hU'.1) (vx_isRefq hN'.1) hU'.2.word hN'.2.word
  have hown' : s'.vm.findClass own = some m.cls := by rw [hvm]; exact hown
  have hins : (Cond.instantiable cls 6).before args s' = true := h _ (by simp [Bundle.ownAtoms])
  obtain ⟨vm₁, cX, kX, hfX, hkX, -, -, X₁, st1⟩ := Y.newCold hexec (own := own) (C := cls) (index := ik) (n := 6) hown' hk' hins hini'
    (g := F0 m pc ls rest) rfl (by rw [hb]; exact d0) (Nat.le_refl _) (Nat.le_refl _)
  generalize hT1 : (T.setVm vm₁).pushCell { cls := cX, slots := kX.instanceTypes.map defaultValue, vm := .none } = T1 at X₁ st1
  have hcat : (Value.ref T.heap.size).category = 1 := rfl
  have hcellA : T1.heap[T.heap.size]? = some (freshCell cX kX) := by rw [← hT1]; exact State.heap_pushCell_size _ _
  have d3' : decode c.code (pc + 3) = .ok (.dup, 1) := by rw [hb]; exact d3
  have d4' : decode c.code (pc + 4) = .ok (.ldc is, 2) := by rw [hb]; exact d4
  have hstr' : vk_R own is text sa s' := vk_R.warm hW0 hstr
  obtain ⟨U, hsteps, hrun, hend, hW, hsame, ce, hce, hO⟩ := X₁.ctorThrowS hexec htr (own := own) (cls := cls) (names := names) (ic := ic) hown' hcls hnames h (fun x hx => nomatch hx) hfX hkX hcellA (by rw [hhp, hT]; exact Nat.le_refl _) (msg := .ref sa) rfl
    (g := { method := m, pc := pc + 6, locals := ls, stack := .ref sa :: .ref T.heap.size :: .ref T.heap.size :: rest, locked := none }) rfl hsize rfl rfl (rest := rest) rfl
    (by rw [hb]; exact d6) (by rw [hb]; exact d9) hout hRframes (by simp only [List.map_cons, List.sum_cons, hcat]; omega) hlocks
  obtain ⟨f1, f2⟩ := vx_frame hsame
  rw [hhp] at f1 f2
  have hWs : s.WarmedH U.vm := State.WarmedH.trans hW0 hW
  have hcl : s.vm.findClass cls = some ce.cls := by
    have h9 := hO.cls
    rw [hvm] at h9
    exact h9
  have hall : s.sameButNew ({ U with vm := s.vm } : State) locs mc ms := by
    subst hA
    obtain ⟨e1, e2⟩ := hsame
    rw [State.setFrames_setFrames] at e1
    have h2 : (T.setVm s.vm).sameButNew ({ U with vm := s.vm } : State) [] (0 + 1) (0 + 6) := ⟨e1, e2⟩
    have h3 := X.same.trans h2
    rw [List.append_nil] at h3
    exact h3.mono hc hs
  refine ⟨U, ?_, .threw T.heap.size, hrun, hend, Or.inr ⟨T.heap.size, rfl, cls, ce, locs, hx U hWs.alike f1 (fun q hq => f2 q hq (fun z hz => nomatch hz)), hce, hO.vm, hcl, hWs, hall, hf⟩⟩
  refine st1 _ ?_
  show Steps p.tables e below (T1.setTop { method := m, pc := pc + 3, locals := ls, stack := .ref T.heap.size :: rest, locked := none }) _
  jvm_step X₁.here [X₁.here.top, hexec, d3', Value.category]
  exact X₁.ldcString hexec (own := own) (text := text) (index := is) (a := sa) hown' hstr'.1 hstr'.2
    (g := { method := m, pc := pc + 4, locals := ls, stack := .ref T.heap.size :: .ref T.heap.size :: rest, locked := none }) rfl d4' _ hsteps
/-- 'throw new E("text")', the text by a wide index -/
theorem vx_throwSW {cc : ByteArray} {pc : Nat} (hexec : p.tables.exec = Jvm.exec) (hb : c.code = cc) (hl : l.stackTraces = false) {own cls text : String} {names : List String} {ik is ic mc ms sa : Nat} {A : Nat → Prop}
    (hown : s.vm.findClass own = some m.cls) (hcls : Bundle.fit cls = true) (hnames : ∀ n ∈ names, Bundle.fit n = true)
    (hk : (Cond.classLink own ik cls).before args s = true) (hini : (Cond.initialized cls).before args s = true) (hstr : vk_R own is text sa s) (hat : ∀ w ∈ vx_atS own ic cls names, w.before args s = true)
    (hgood : ∀ w ∈ Cond.classLink own ik cls :: Cond.initialized cls :: vx_atS own ic cls names, vx_ot w = true)
    (hU : vx_Zq Bundle.tN "UNASSIGNED_STACK" Bundle.steD A s s.heap) (hN : vx_Zq Bundle.tN "SUPPRESSED_SENTINEL" Bundle.listD A s s.heap) (hS : va_S A s.heap H locs) (hsize : ls.size = c.maxLocals)
    (d0 : decode cc pc = .ok (.new ik, 3)) (d3 : decode cc (pc + 3) = .ok (.dup, 1)) (d4 : decode cc (pc + 4) = .ok (.ldc_w is, 3)) (d7 : decode cc (pc + 7) = .ok (.invokespecial ic, 3)) (d10 : decode cc (pc + 10) = .ok (.athrow, 1))
    (hout : ∀ x ∈ c.exceptionTable.toList, covers x (pc + 10) = false)
    (hRframes : names.length + 3 < R.frames) (hRlocals : (rest.map fun v => v.category).sum + (13 * (names.length + 1) + 43) ≤ R.locals) (hRcells : cells + 1 ≤ R.cells) (hRslots : slots + 6 ≤ R.slots) (hlocks : meth.locks = false)
    (hx : ∀ t : State, s.vm.Alike t.vm → H.size ≤ t.heap.size → (∀ q : Nat, q < H.size → t.heap[q]? = H[q]?) → XC cls s t)
    (hf : ∀ z ∈ locs, free z.base) (hc : cells + 1 ≤ mc) (hs : slots + 6 ≤ ms) :
    W p l e R s m args below meth c H locs cells slots (vx_MQ below Qc XC args s mc ms free) (F0 m pc ls rest) := by
  intro T hT X
  have htr : e.platform.stackTraces = false := (show e.platform.stackTraces = l.stackTraces by rw [X.admits.platform]).trans hl
  have Y := vx_rebase X (R' := { frames := R.frames, locals := R.locals, cells := 1, slots := 6 }) (Nat.le_refl _) (Nat.le_refl _) hRcells hRslots
  obtain ⟨s', hA⟩ : ∃ z, z = (T.setVm s.vm).setFrames (.invoking m args :: below) := ⟨_, rfl⟩
  rw [← hA] at Y
  have hvm : s'.vm = s.vm := by rw [hA]; rfl
  have hhp : s'.heap = H := by rw [hA]; exact hT
  have hW0 : s.WarmedH s'.vm := by rw [hvm]; exact State.WarmedH.refl s
  have hat' : ∀ w ∈ vx_atS own ic cls names, w.before args s' = true := fun w hw => vx_ot_at hW0 hvm.symm (hgood w (List.mem_cons_of_mem _ (List.mem_cons_of_mem _ hw))) (hat w hw)
  have hk' : (Cond.classLink own ik cls).before args s' = true := vx_ot_at hW0 hvm.symm (hgood _ List.mem_cons_self) hk
  have hini' : (Cond.initialized cls).before args s' = true := vx_ot_at hW0 hvm.symm (hgood _ (List.mem_cons_of_mem _ List.mem_cons_self)) hini
  have hU' : vx_Zq Bundle.tN "UNASSIGNED_STACK" Bundle.steD A s' s'.heap := by rw [hhp]; exact vx_Zq.moved hW0.alike (hU.kept hS.2.1)
  have hN' : vx_Zq Bundle.tN "SUPPRESSED_SENTINEL" Bundle.listD A s' s'.heap := by rw [hhp]; exact vx_Zq.moved hW0.alike (hN.kept hS.2.1)
  have h : ∀ w ∈ Bundle.ownAtoms own ic cls names, w.before args s' = true := vx_own hat' (vx_isRefq hU'.1) (vx_isRefq hN'.1) hU'.2.word hN'.2.word
  have hown' : s'.vm.findClass own = some m.cls := by rw [hvm]; exact hown
  have hins : (Cond.instantiable cls 6).before args s' = true := h _ (by simp [Bundle.ownAtoms])
  obtain ⟨vm₁, cX, kX, hfX, hkX, -, -, X₁, st1⟩ := Y.newCold hexec (own := own) (C := cls) (index := ik) (n := 6) hown' hk' hins hini'
    (g := F0 m pc ls rest) rfl (by rw [hb]; exact d0) (Nat.le_refl _) (Nat.le_refl _)
  generalize hT1 : (T.setVm vm₁).pushCell { cls := cX, slots := kX.instanceTypes.map defaultValue, vm := .none } = T1 at X₁ st1
  have hcat : (Value.ref T.heap.size).category = 1 := rfl
  have hcellA : T1.heap[T.heap.size]? = some (freshCell cX kX) := by rw [← hT1]; exact State.heap_pushCell_size _ _
  have d3' : decode c.code (pc + 3) = .ok (.dup, 1) := by rw [hb]; exact d3
  have d4' : decode c.code (pc + 4) = .ok (.ldc_w is, 3) := by rw [hb]; exact d4
  have hstr' : vk_R own is text sa s' := vk_R.warm hW0 hstr
  obtain ⟨U, hsteps, hrun, hend, hW, hsame, ce, hce, hO⟩ := X₁.ctorThrowS hexec htr (own := own) (cls := cls) (names := names) (ic := ic) hown' hcls hnames h (fun x hx => nomatch hx) hfX hkX hcellA (by rw [hhp, hT]; exact Nat.le_refl _) (msg := .ref sa) rfl
    (g := { method := m, pc := pc + 7, locals := ls, stack := .ref sa :: .ref T.heap.size :: .ref T.heap.size :: rest, locked := none }) rfl hsize rfl rfl (rest := rest) rfl
    (by rw [hb]; exact d7) (by rw [hb]; exact d10) hout hRframes (by simp only [List.map_cons, List.sum_cons, hcat]; omega) hlocks
  obtain ⟨f1, f2⟩ := vx_frame hsame
  rw [hhp] at f1 f2
  have hWs : s.WarmedH U.vm := State.WarmedH.trans hW0 hW
  have hcl : s.vm.findClass cls = some ce.cls := by
    have h9 := hO.cls
    rw [hvm] at h9
    exact h9
  have hall : s.sameButNew ({ U with vm := s.vm } : State) locs mc ms := by
    subst hA
    obtain ⟨e1, e2⟩ := hsame
    rw [State.setFrames_setFrames] at e1
    have h2 : (T.setVm s.vm).sameButNew ({ U with vm := s.vm } : State) [] (0 + 1) (0 + 6) := ⟨e1, e2⟩
    have h3 := X.same.trans h2
    rw [List.append_nil] at h3
    exact h3.mono hc hs
  refine ⟨U, ?_, .threw T.heap.size, hrun, hend, Or.inr ⟨T.heap.size, rfl, cls, ce, locs, hx U hWs.alike f1 (fun q hq => f2 q hq (fun z hz => nomatch hz)), hce, hO.vm, hcl, hWs, hall, hf⟩⟩
  refine st1 _ ?_
  show Steps p.tables e below (T1.setTop { method := m, pc := pc + 3, locals := ls, stack := .ref T.heap.size :: rest, locked := none }) _
  jvm_step X₁.here [X₁.here.top, hexec, d3', Value.category]
  exact X₁.ldcStringW hexec (own := own) (text := text) (index := is) (a := sa) hown' hstr'.1 hstr'.2
    (g := { method := m, pc := pc + 4, locals := ls, stack := .ref T.heap.size :: .ref T.heap.size :: rest, locked := none }) rfl d4' _ hsteps
end Ends
section Bodies
variable {l : Launch}
theorem vx_ofW {y : MethodName} {ws ws' : List Cond} {rm : Room} {Pc : Array Value → State → Prop} {Qc : Array Value → State → Outcome → State → Prop} {XC : String → State → State → Prop} {mc ms : Nat} {free : Addr → Prop} {cc : ByteArray} {maxL : Nat} {ret : Option FieldType}
    (hy : plainName y.cls = true) (hw : ws = Cond.code y cc maxL ret :: ws')
    (body : ∀ p e s m args below meth c s₁, BodyLoose p l y (headSpec ws rm) cc maxL ret e s m args below meth c s₁ → c.maxLocals = maxL → (∀ x ∈ c.exceptionTable.toList, False) → Pc args s →
      W p l e (headSpec ws rm).room s m args below meth c s.heap [] 0 0 (vx_MQ below Qc XC args s mc ms free) (entryFrame m args maxL)) : vx_Met l y ws rm Pc Qc XC mc ms free := by
  refine MetFree.of_bodyS (code := cc) (maxLocals := maxL) (ret := ret) hy ?_ ?_
  · intro args s m h hn
    obtain ⟨meth, c, h1, h2, h3, h4, h5, h6, -, -⟩ := Cond.code_spec hn (atoms_spec (ws := ws) h _ (by rw [hw]; exact List.mem_cons_self))
    exact ⟨meth, c, h1, h2, h3, h4, h5, h6⟩
  · intro p e s m args below meth c s₁ B hml hP _
    have hh0 : s₁.heap = s.heap := by rw [B.state]; rfl
    have ht : ∀ x ∈ c.exceptionTable.toList, False := by
      obtain ⟨meth9, c9, h1, h2, -, -, -, -, h7, -⟩ := Cond.code_spec B.named (atoms_spec (ws := ws) B.pre _ (by rw [hw]; exact List.mem_cons_self))
      cases Option.some.inj (h1.symm.trans B.method)
      cases Option.some.inj (h2.symm.trans (Stand.of_body B).code)
      intro x hx
      rw [Array.isEmpty_iff.mp h7] at hx
      cases hx
    obtain ⟨t, a1, o, b1, b2, b3⟩ := body p e s m args below meth c s₁ B hml ht hP s₁ hh0 (Stand.of_body B)
    exact ⟨t, o, a1, b1, b2, b3⟩
/-- the table of a body with handlers -/
theorem vx_table {p : Program} {x y : MethodName} {S : Spec} {cc bytes : ByteArray} {maxL maxL' : Nat} {ret ret' : Option FieldType} {e : Env} {s s₁ : State} {m : MethodId} {args : Array Value} {below : List Frame} {meth : Method} {c : Code} {hh : List (Nat × Nat × Nat × Nat)}
    (B : BodyLoose p l y S cc maxL ret e s m args below meth c s₁) (h : (Cond.codeWith y bytes maxL' ret' hh).before args s = true) : c.exceptionTable.toList = tableOf hh := by
  obtain ⟨m9, meth9, c9, hn9, h1, h2, -, -, h6, -⟩ := Cond.codeWith_spec h
  cases Option.some.inj (hn9.symm.trans B.named)
  cases Option.some.inj (h1.symm.trans B.method)
  cases Option.some.inj (h2.symm.trans (Stand.of_body B).code)
  rw [← h6, table_eq]
end Bodies
end VXA
/-! ===== END ===== -/
/-! ===== BEGIN a static call of a method with an exception table ===== -/
section VXS
variable {p : Program} {l : Launch} {e : Env} {R : Room} {s : State} {m : MethodId} {args : Array Value} {below : List Frame} {meth : Method} {c : Code} {T : State} {H : Heap} {locs : List Loc} {cells slots : Nat}
abbrev vx_CSW (R : Room) (s : State) (args : Array Value) (own : String) (index : Nat) (y : MethodName) (bytes : ByteArray) (maxL : Nat) (ret : Option FieldType) (hh : List (Nat × Nat × Nat × Nat)) (ws : List Cond) (rm : Room) (mc ms n : Nat) : Prop :=
  (rm.cells = mc ∧ rm.slots = ms ∧ rm.frames + 1 ≤ R.frames ∧ 8 + (maxL + 11) + rm.locals ≤ R.locals ∧ (∀ w ∈ ws, ∀ (a' : Array Value) (U : State), s.WarmedH U.vm → w.before a' U = true) ∧ Cond.codeWith y bytes maxL ret hh ∈ ws) ∧
  (Cond.codeWith y bytes maxL ret hh).before args s = true ∧ (Cond.initialized y.cls).before args s = true ∧ (y.cls ≠ "java/lang/invoke/MethodHandle" ∧ y.cls ≠ "java/lang/invoke/VarHandle") ∧
  (∀ sig, parseMethodDescriptor y.desc = some sig → n = sig.parameters.length) ∧ (Cond.methodLink own index y).before args s = true ∧ (Cond.static y).before args s = true
theorem vx_cwSW {own : String} {index maxL mc ms : Nat} {y : MethodName} {bytes : ByteArray} {ret : Option FieldType} {hh : List (Nat × Nat × Nat × Nat)} {Ts ws ws' : List Cond} {rm : Room} (n : Nat) (ht : ∀ w ∈ Ts, w.before args s = true) (hT : GoodIn Ts (va_wsS own index y ws)) (hw : ws = Cond.codeWith y bytes maxL ret hh :: ws') (hrc : rm.cells = mc) (hrs : rm.slots = ms)
    (hd : y.cls ≠ "java/lang/invoke/MethodHandle" ∧ y.cls ≠ "java/lang/invoke/VarHandle" ∧ (parseMethodDescriptor y.desc).map (fun d => d.parameters.length) = some n) (hR : rm.frames + 1 ≤ R.frames ∧ 8 + (maxL + 11) + rm.locals ≤ R.locals) :
    vx_CSW R s args own index y bytes maxL ret hh ws rm mc ms n := by
  have ok : ∀ w ∈ va_wsS own index y ws, w.before args s = true := fun w h => ht w (hT w h).1
  have hG : GoodIn Ts ws := fun w h => hT w (by unfold va_wsS; exact List.mem_append_right _ h)
  have hc : Cond.codeWith y bytes maxL ret hh ∈ ws := by rw [hw]; exact List.mem_cons_self
  refine ⟨⟨hrc, hrs, hR.1, hR.2, pay_in ht hG, hc⟩, ht _ (hG _ hc).1, ok _ (by simp [va_wsS]), ⟨hd.1, hd.2.1⟩, fun sig h => ?_, ok _ (by simp [va_wsS]), ok _ (by simp [va_wsS])⟩
  have h2 := hd.2.2
  rw [h] at h2
  exact (Option.some.inj h2).symm
theorem vx_callSW (X : Stand p l e R s m args below meth c T locs cells slots) (hexec : p.tables.exec = Jvm.exec) {own : String} {index : Nat} {y : MethodName} {bytes : ByteArray} {maxL : Nat} {ret : Option FieldType} {hh : List (Nat × Nat × Nat × Nat)}
    (hown : s.vm.findClass own = some m.cls) (hlink : (Cond.methodLink own index y).before args s = true) (hstat : (Cond.static y).before args s = true) (hinit : (Cond.initialized y.cls).before args s = true)
    (hcode : (Cond.codeWith y bytes maxL ret hh).before args s = true) (hy : y.cls ≠ "java/lang/invoke/MethodHandle" ∧ y.cls ≠ "java/lang/invoke/VarHandle")
    {W9 : Nat} {Pre : Pt → Array Value → Prop} {Post : Pt → Array Value → Option Value → Pt → Prop} (hK : Back l R p e below s args y 3 W9 Pre Post)
    {g : JFrame} (hg : g.method = m) (hsize : g.locals.size = c.maxLocals) {argsL rest : List Value} (hlen : ∀ sig, parseMethodDescriptor y.desc = some sig → argsL.length = sig.parameters.length)
    (hstack : g.stack = argsL.reverse ++ rest) (hW : 2 * g.monitorRoom + (rest.map fun v => v.category).sum ≤ W9) (hdg : decode c.code g.pc = .ok (.invokestatic index, 3))
    (hpre : ∀ vm₁, s.WarmedH vm₁ → Pre ⟨T.setVm vm₁, locs, cells, slots⟩ argsL.toArray) :
    ∃ (v : Option Value) (vm₁ : Vm) (B : Pt), s.WarmedH vm₁ ∧ Stand p l e R s m args below meth c B.U B.locs B.cells B.slots ∧ Post ⟨T.setVm vm₁, locs, cells, slots⟩ argsL.toArray v B ∧
      ∀ target, Steps p.tables e below (B.U.setTop { g with pc := g.pc + 3, stack := v.toList ++ rest }) target → Steps p.tables e below (T.setTop g) target := by
  obtain ⟨mk, methM, cM, hnamed, hmethM, -, -, -, -, -, -, hsigM⟩ := Cond.codeWith_spec hcode
  have hstatic : methM.isStatic = true := Cond.static_spec hnamed hmethM hstat
  obtain ⟨kP, hkP, -⟩ := className_of_methodNamed hnamed
  have hinitP : kP.init = .initialized := Cond.initialized_spec (findClass_of_methodNamed hnamed) hkP hinit
  obtain ⟨vm₁, X₁, hstep₁⟩ := X.invokestatic hexec hown hlink hnamed hmethM hstatic hkP hinitP hy (g := g) hg (argsL := argsL) (rest := rest) (hlen _ hsigM) hstack hdg
  obtain ⟨v, B, X', hpost, hsteps⟩ := hK m meth c ⟨T.setVm vm₁, locs, cells, slots⟩ { g with stack := rest } (.invokestatic index) mk argsL.toArray X₁ hg hsize hdg hW (X₁.named hnamed) (hpre vm₁ X₁.warmed)
  exact ⟨v, vm₁, B, X₁.warmed, X', hpost, fun target h => hstep₁ _ fun acts => by rw [doInvoke_state]; exact hsteps.trans h⟩
theorem vx_runSW {y : MethodName} {bytes cc : ByteArray} {maxL nL mc ms n index : Nat} {ret : Option FieldType} {hh : List (Nat × Nat × Nat × Nat)} {ws : List Cond} {rm : Room} {Pc : Array Value → State → Prop} {Qc : Array Value → State → Outcome → State → Prop} {free : Addr → Prop} {Ts : List Cond} {own : String} {As rest : List Value} {g : JFrame}
    (S : CallFix p m c cc nL s args Ts own) (hM : Met l y ws rm Pc Qc mc ms free) (cw : vx_CSW R s args own index y bytes maxL ret hh ws rm mc ms n) (hp : PreS s H Pc As)
    (hg : g.method = m) (hn : As.length = n) (hsize : g.locals.size = nL) (hstack : g.stack = As.reverse ++ rest) (hW : 2 * g.monitorRoom + (rest.map fun v => v.category).sum ≤ 8) (hdg : decode cc g.pc = .ok (.invokestatic index, 3)) (hf : cells + mc ≤ R.cells ∧ slots + ms ≤ R.slots) :
    va_Run p l e R s m args below meth c H locs cells slots mc ms g rest (Qc As.toArray) (free) := by
  obtain ⟨⟨hrc, hrs, hfr, hlo, hws, hcw⟩, hcode, hini, hy, hlen, hl, hstt⟩ := cw
  have hK : Back l R p e below s args y 3 8 (PreOf R mc ms Pc) (PostOf Qc mc ms free) := va_backW (hh := hh) (bytes := bytes) (maxL := maxL) (ret := ret) hM hp.1 hrc hrs hfr hlo hws hcw (fun a' U hW => word_at hW (Or.inl (by first | rfl | simp [Cond.onTables, Cond.keeps, Cond.steady])) hini)
  obtain ⟨hx, hb, hml, ho, -⟩ := S
  intro T hT X
  obtain ⟨v, vm₁, ⟨U', l2, c2, s2⟩, hW₁, X', ⟨g', mk, t, L, e1, e2, hq, h1, hL, h2, h3⟩, st⟩ := vx_callSW X hx (hh := hh) (bytes := bytes) (maxL := maxL) (ret := ret) ho hl hstt hini hcode hy hK hg (hsize.trans hml.symm) (argsL := As) (rest := rest) (fun sig h => hn.trans (hlen sig h)) hstack hW (by rw [hb]; exact hdg)
    (fun vm₁ hW₁ => ⟨hf.1, hf.2, hp.2 (T.setVm vm₁) hT hW₁⟩)
  dsimp only [Pt.U, Pt.locs, Pt.cells, Pt.slots] at X' e1 e2 h1 h2 h3 st
  subst h1; subst h2; subst h3
  exact ⟨v, (T.setVm vm₁).calling g' mk As.toArray, t, U', L, hT, X', hL, e1, e2, hq, st⟩
/-- not caught here, past rows that name other classes: it goes on to the caller -/
theorem vx_outP {p : Program} {l : Launch} {e : Env} {R : Room} {s : State} {m : MethodId} {args : Array Value} {below : List Frame} {meth : Method} {c : Code} {H : Heap} {locs : List Loc} {cells slots : Nat} {free : Addr → Prop} {ls : Array Slot} {rest : List Value} {Qc : Array Value → State → Outcome → State → Prop} {XC : String → State → State → Prop}
    {pc : Nat} {own E : String} {ce : Cell} {q : Addr} {mc ms : Nat} (hown : s.vm.findClass own = some m.cls) (hlocks : meth.locks = false)
    (hpass : ∀ z ∈ c.exceptionTable.toList, covers z pc = false ∨ (z.catchType ≠ 0 ∧ ∃ nm : String, (Cond.classLink own z.catchType nm).before args s = true ∧ va_Nc E nm s)) (hcell : H[q]? = some ce) (hv : ce.vm = .none) (hcl : s.vm.findClass E = some ce.cls)
    (hx : ∀ t : State, t.heap = H → s.vm.Alike t.vm → XC E s t) (hf : ∀ z ∈ locs, free z.base) (hc : cells ≤ mc) (hs : slots ≤ ms) :
    vx_W p l e R s m args below meth c H locs cells slots (vx_MQ below Qc XC args s mc ms free) (F0 m pc ls rest) q := by
  intro T hT X
  have hpl : e.platform.magicAccessors = ({} : Platform).magicAccessors := by rw [X.admits.platform]
  obtain ⟨vm', hW', X', st⟩ := X.outThrough hlocks q (g := F0 m pc ls rest) rfl rfl rfl (cell := ce) (by rw [hT]; exact hcell) (by rw [hv]; rfl)
    (by obtain ⟨k9, h9, -⟩ := Vm.findClass_spec hcl; exact ⟨k9, h9⟩) (fun z hz => by
      rcases hpass z hz with h | ⟨hz0, nm, hl1, hn1⟩
      · exact Or.inl h
      · obtain ⟨c6, hc6, hcl6⟩ := Cond.classLink_spec hown hl1 e.platform hpl
        obtain ⟨a8, b8, h1, h2, h3⟩ := hn1
        cases Option.some.inj (h1.symm.trans hcl)
        cases Option.some.inj (h2.symm.trans hc6)
        exact Or.inr ⟨hz0, _, hcl6, h3⟩)
  obtain ⟨g₀, hfr⟩ := X'.frames_eq
  have hcell9 : ((T.setVm vm').setFrames (.throwing q :: below)).heap[q]? = some ce := by
    show T.heap[q]? = some ce
    rw [hT]; exact hcell
  have hend : Ended ((T.setVm vm').setFrames (.throwing q :: below)) below (.threw q) := State.frames_setFrames _ (State.cur_lt_of_frames hfr)
  refine ⟨(T.setVm vm').setFrames (.throwing q :: below), ?_, .threw q, X'.here.running, hend, Or.inr ⟨q, rfl, E, ce, locs, hx _ hT (X'.ends _).1.alike, hcell9, hv, hcl, (X'.ends _).1, (X'.ends _).2.mono hc hs, hf⟩⟩
  rw [X.pushThrowing_eq]
  exact st
/-- a thing of a world lies in the heap -/
theorem vx_lt {D : va_G} {cl : List vw_C} {ws : va_W} {H1 : Heap} (h : va_P D cl ws H1) {k : Nat} {q : Nat × va_E} (hk : ws[k]? = some q) : q.1 < H1.size := (h k q hk).lt
end VXS
/-! ===== END ===== -/
/-! ===== BEGIN methods with a table of their own: called by a name, returning or throwing ===== -/
section VXH
/-! vx_backW, vx_callVX, vx_callSX, vx_callVW, vx_runVW, vx_runVX, vx_runSX, vx_ofWH follow the same proofs as their sisters above (Free/Laws.lean, Shelf42/LK1.lean); vx_outP calls Shelf42/NT130.lean (outThrough). -/
section
variable {l : Launch} {R : Room} {p : Program} {e : Env} {below : List Frame} {s : State} {sargs : Array Value} {y : MethodName} {len W9 : Nat}
theorem vx_backW {ws : List Cond} {rm : Room} {Pc : Array Value → State → Prop} {Qc : Array Value → State → Outcome → State → Prop} {XC : String → State → State → Prop} {mc ms : Nat} {free : Addr → Prop} {bytes : ByteArray} {maxL : Nat} {ret : Option FieldType} {hh : List (Nat × Nat × Nat × Nat)}
    (hM : vx_Met l y ws rm Pc Qc XC mc ms free) (hblind : FrameBlind Pc) (hrc : rm.cells = mc) (hrs : rm.slots = ms)
    (hframes : rm.frames + 1 ≤ R.frames) (hlocals : W9 + (maxL + 11) + rm.locals ≤ R.locals)
    (hws : ∀ w ∈ ws, ∀ a' U, s.WarmedH U.vm → w.before a' U = true) (hcode : Cond.codeWith y bytes maxL ret hh ∈ ws) (hinit : ∀ a' U, s.WarmedH U.vm → (Cond.initialized y.cls).before a' U = true) :
    vx_Back l R p e below s sargs y len W9 (PreOf R mc ms Pc) (PostOf Qc mc ms free) (vx_Post XC mc ms free) := by
  intro m meth c A g ig mk a X hg hsize hdg hW hn hp
  have h1 : (headSpec ws rm).pre.before a A.U = true := atoms_intro fun w hw => hws w hw _ _ X.warmed
  have h2 : (Cond.codeWith y bytes maxL ret hh).before a A.U = true := hws _ hcode _ _ X.warmed
  have h3 : (Cond.initialized y.cls).before a A.U = true := hinit _ _ X.warmed
  have h4 : A.cells + (headSpec ws rm).room.cells ≤ R.cells := by rw [show (headSpec ws rm).room.cells = mc from hrc]; exact hp.1
  have h5 : A.slots + (headSpec ws rm).room.slots ≤ R.slots := by rw [show (headSpec ws rm).room.slots = ms from hrs]; exact hp.2.1
  have hPc : Pc a (A.U.calling g mk a) := hblind _ _ _ _ hp.2.2
  obtain ⟨U, Ls, c0, s0⟩ := A
  dsimp only [Pt.U, Pt.locs, Pt.cells, Pt.slots] at h1 h2 h3 h4 h5 X hn hPc ⊢
  obtain ⟨m9, methY, cY, hn9, hmY, hcY, -, hlY, -⟩ := Cond.codeWith_spec h2
  cases Option.some.inj (hn9.symm.trans hn)
  obtain ⟨kY, hkY, -⟩ := className_of_methodNamed hn
  have hinitY : kY.init = .initialized := Cond.initialized_spec (findClass_of_methodNamed hn) hkY h3
  have h : At U g.method c below := by rw [hg]; exact X.here
  have hlocals9 : W9 + (maxL + 11) + (headSpec ws rm).room.locals ≤ R.locals := hlocals
  have happ : (headSpec ws rm).appliesLoose y e.platform (U.calling g mk a) = true :=
    Spec.appliesLoose_calling (g := g) h hdg hn hkY hinitY
      (X.room_calling (g := g) (R' := (headSpec ws rm).room) hsize hmY hcY hframes (by rw [hlY]; omega) h4 h5) h1
  obtain ⟨mid, hmid⟩ := h.above
  have hfr : (U.setTop g).frames = (.java g :: mid) ++ below := by rw [State.frames_setTop' g h.top, hmid]; rfl
  obtain ⟨o, s₂, hsteps, -, hend, hq⟩ := Steps.callFree hM p X.admits X.cas X.clock (acts := []) hfr happ hPc trivial
  have hq' : vx_Q Qc XC mc ms free a (U.calling g mk a) o s₂ := hq
  rw [State.frames_setTop' g h.top] at hend
  obtain ⟨g₀, hg0⟩ := Option.isSome_iff_exists.mp h.top
  obtain ⟨r, hr⟩ := State.topJava?_eq_some.mp hg0
  have hr' : (({ U with heap := s₂.heap, slotsUsed := s₂.slotsUsed } : State).setVm s₂.vm).frames = .java g₀ :: r := hr
  rcases hq' with ⟨hqc, L, hfe, hL⟩ | ⟨q, rfl, E, ce, L, hx, hce, hcv, hcl, hW₂, hsm, hL⟩
  · obtain ⟨⟨v, rfl⟩, hW₂, e2, q2, q3, q4, q5, q6⟩ := id hfe
    have e3 : s₂ = ({ (U.calling g mk a).setFrames s₂.frames with heap := s₂.heap, slotsUsed := s₂.slotsUsed } : State).setVm s₂.vm := by
      have : s₂ = ({ s₂ with vm := (U.calling g mk a).vm } : State).setVm s₂.vm := rfl
      rw [e2] at this
      exact this
    obtain ⟨c₂, i₂, len₂, hc₂, hd₂, hf₂⟩ := hend
    have hW' : U.WarmedH s₂.vm := hW₂
    have hcc : c₂ = c := by
      have h1 : s₂.code? g.method = U.code? g.method := by
        rw [State.code?_eq, State.code?_eq, hW'.alike.method?]
      exact Option.some.inj (hc₂.symm.trans (h1.trans h.code))
    subst hcc
    have hlen : len₂ = len := by rw [hdg] at hd₂; cases hd₂; rfl
    subst hlen
    have hs₂ : s₂ = (({ U with heap := s₂.heap, slotsUsed := s₂.slotsUsed } : State).setVm s₂.vm).setTop { g with pc := g.pc + len₂, stack := v.toList ++ g.stack } := by
      refine e3.trans ?_
      rw [hf₂, State.calling_eq h.top, State.setFrames_setFrames, State.setTop_of_frames _ hr', hr]
      rfl
    have hsame : U.sameButNew ({ U with heap := s₂.heap, slotsUsed := s₂.slotsUsed } : State) L mc ms := by
      refine ⟨?_, q2, q3, q4, q5, q6⟩
      obtain ⟨t, ht, -⟩ := State.frames_cons hr
      show ({ U with heap := s₂.heap, slotsUsed := s₂.slotsUsed } : State) = { U.setFrames U.frames with heap := s₂.heap, slotsUsed := s₂.slotsUsed }
      rw [State.setFrames_self ht]
    subst hg
    refine Or.inl ⟨v, ⟨(({ U with heap := s₂.heap, slotsUsed := s₂.slotsUsed } : State).setVm s₂.vm), Ls ++ L, c0 + mc, s0 + ms⟩,
      ⟨X.admits, X.cas, X.clock, X.frames, X.room, X.hears, X.method, X.code, (X.here.setHeapUsed s₂.heap s₂.slotsUsed).setVm hW'.alike, X.tail, State.WarmedH.trans X.warmed hW', X.limits, X.bytes, X.same.trans (hsame.setVm s.vm)⟩,
      ⟨g, mk, s₂, L, rfl, rfl, hqc, rfl, hL, rfl, rfl⟩, ?_⟩
    show Steps p.tables e below _ ((({ U with heap := s₂.heap, slotsUsed := s₂.slotsUsed } : State).setVm s₂.vm).setTop { g with pc := g.pc + len₂, stack := v.toList ++ g.stack })
    rw [← hs₂]
    exact hsteps
  · obtain ⟨e2, q2, q3, q4, q5, q6⟩ := id hsm
    have e3 : s₂ = ({ (U.calling g mk a).setFrames s₂.frames with heap := s₂.heap, slotsUsed := s₂.slotsUsed } : State).setVm s₂.vm := by
      have : s₂ = ({ s₂ with vm := (U.calling g mk a).vm } : State).setVm s₂.vm := rfl
      rw [e2] at this
      exact this
    have hf₂ : s₂.frames = .throwing q :: .java g :: U.frames.tail := hend
    have hW' : U.WarmedH s₂.vm := hW₂
    have hs₂ : s₂ = ((({ U with heap := s₂.heap, slotsUsed := s₂.slotsUsed } : State).setVm s₂.vm).setTop g).pushFrame (.throwing q) := by
      refine e3.trans ?_
      rw [hf₂, State.calling_eq h.top, State.setFrames_setFrames, State.pushFrame, State.frames_setTop _ hr', State.setTop_of_frames _ hr', State.setFrames_setFrames, hr]
      rfl
    have hsame : U.sameButNew ({ U with heap := s₂.heap, slotsUsed := s₂.slotsUsed } : State) L mc ms := by
      refine ⟨?_, q2, q3, q4, q5, q6⟩
      obtain ⟨t, ht, -⟩ := State.frames_cons hr
      show ({ U with heap := s₂.heap, slotsUsed := s₂.slotsUsed } : State) = { U.setFrames U.frames with heap := s₂.heap, slotsUsed := s₂.slotsUsed }
      rw [State.setFrames_self ht]
    subst hg
    refine Or.inr ⟨q, ⟨(({ U with heap := s₂.heap, slotsUsed := s₂.slotsUsed } : State).setVm s₂.vm), Ls ++ L, c0 + mc, s0 + ms⟩,
      ⟨X.admits, X.cas, X.clock, X.frames, X.room, X.hears, X.method, X.code, (X.here.setHeapUsed s₂.heap s₂.slotsUsed).setVm hW'.alike, X.tail, State.WarmedH.trans X.warmed hW', X.limits, X.bytes, X.same.trans (hsame.setVm s.vm)⟩,
      ⟨g, mk, s₂, L, E, ce, rfl, rfl, hx, hce, hcv, hcl, rfl, hL, rfl, rfl⟩, ?_⟩
    show Steps p.tables e below _ (((({ U with heap := s₂.heap, slotsUsed := s₂.slotsUsed } : State).setVm s₂.vm).setTop g).pushFrame (.throwing q))
    rw [← hs₂]
    exact hsteps
end
variable {p : Program} {l : Launch} {e : Env} {R : Room} {s : State} {m : MethodId} {args : Array Value} {below : List Frame} {meth : Method} {c : Code} {T : State} {H : Heap} {locs : List Loc} {cells slots : Nat}
theorem vx_callVX (X : Stand p l e R s m args below meth c T locs cells slots) (hexec : p.tables.exec = Jvm.exec) {own C : String} {index : Nat} {y : MethodName} {bytes : ByteArray} {maxL : Nat} {ret : Option FieldType} {hh : List (Nat × Nat × Nat × Nat)}
    (hown : s.vm.findClass own = some m.cls) (hlink : (Cond.methodLink own index y).before args s = true) (hinst : (Cond.instanceMethod y).before args s = true) (hsel : (Cond.selects C y y).before args s = true)
    (hcode : (Cond.codeWith y bytes maxL ret hh).before args s = true) (hy : y.cls ≠ "java/lang/invoke/MethodHandle" ∧ y.cls ≠ "java/lang/invoke/VarHandle")
    {W9 : Nat} {Pre : Pt → Array Value → Prop} {Post : Pt → Array Value → Option Value → Pt → Prop} {PostX : Pt → Array Value → Addr → Pt → Prop} (hK : vx_Back l R p e below s args y 3 W9 Pre Post PostX)
    {b : Addr} {cellB : Cell} (hcell : T.heap[b]? = some cellB) (hobj : cellB.vm.isStatics = false) (hcls : s.vm.findClass C = some cellB.cls)
    {g : JFrame} (hg : g.method = m) (hsize : g.locals.size = c.maxLocals) {argsL rest : List Value} (hlen : ∀ sig, parseMethodDescriptor y.desc = some sig → argsL.length = sig.parameters.length)
    (hstack : g.stack = argsL.reverse ++ .ref b :: rest) (hW : 2 * g.monitorRoom + (rest.map fun v => v.category).sum ≤ W9) (hdg : decode c.code g.pc = .ok (.invokevirtual index, 3))
    (hpre : ∀ vm₁, s.WarmedH vm₁ → Pre ⟨T.setVm vm₁, locs, cells, slots⟩ (Value.ref b :: argsL).toArray) :
    (∃ (v : Option Value) (vm₁ : Vm) (B : Pt), s.WarmedH vm₁ ∧ Stand p l e R s m args below meth c B.U B.locs B.cells B.slots ∧ Post ⟨T.setVm vm₁, locs, cells, slots⟩ (Value.ref b :: argsL).toArray v B ∧
      ∀ target, Steps p.tables e below (B.U.setTop { g with pc := g.pc + 3, stack := v.toList ++ rest }) target → Steps p.tables e below (T.setTop g) target) ∨
    (∃ (q : Addr) (vm₁ : Vm) (B : Pt), s.WarmedH vm₁ ∧ Stand p l e R s m args below meth c B.U B.locs B.cells B.slots ∧ PostX ⟨T.setVm vm₁, locs, cells, slots⟩ (Value.ref b :: argsL).toArray q B ∧
      Steps p.tables e below (T.setTop g) ((B.U.setTop { g with stack := rest }).pushFrame (.throwing q))) := by
  obtain ⟨mk, methM, hnamed, hmethM, hstM, habM⟩ := Cond.instanceMethod_spec hinst
  obtain ⟨m8, methM', cM, hn8, hmethM', -, -, -, -, -, -, hsigM⟩ := Cond.codeWith_spec hcode
  cases Option.some.inj (hn8.symm.trans hnamed)
  cases hmethM.symm.trans hmethM'
  obtain ⟨c2, r2, m2, q1, q2, q3, q4, kP, hkP, hkPi⟩ := Cond.selects_spec hsel
  cases hcls.symm.trans q1
  cases (State.methodFound?_of_named hnamed hy).symm.trans q2
  cases hnamed.symm.trans q3
  have hselP : selectMethod e.platform s.vm cellB.cls mk = .method mk := by rw [Launch.admits_selectMethod X.admits]; exact q4
  obtain ⟨vm₁, X₁, hstep₁⟩ := X.invokevirtual hexec hown hlink hnamed hmethM hstM hkP hkPi hy (a := b) (cell := cellB) hcell
    (fun z h => by rw [h] at hobj; cases hobj) hselP hmethM habM hkP hkPi (g := g) hg (argsL := argsL) (rest := rest) (hlen _ hsigM) hstack hdg
  rcases hK m meth c ⟨T.setVm vm₁, locs, cells, slots⟩ { g with stack := rest } (.invokevirtual index) mk (Value.ref b :: argsL).toArray X₁ hg hsize hdg hW (X₁.named hnamed) (hpre vm₁ X₁.warmed) with ⟨v, B, X', hpost, hsteps⟩ | ⟨q, B, X', hpost, hsteps⟩
  · exact Or.inl ⟨v, vm₁, B, X₁.warmed, X', hpost, fun target h => hstep₁ _ fun acts => by rw [doInvoke_state]; exact hsteps.trans h⟩
  · exact Or.inr ⟨q, vm₁, B, X₁.warmed, X', hpost, hstep₁ _ fun acts => by rw [doInvoke_state]; exact hsteps⟩
theorem vx_callSX (X : Stand p l e R s m args below meth c T locs cells slots) (hexec : p.tables.exec = Jvm.exec) {own : String} {index : Nat} {y : MethodName} {bytes : ByteArray} {maxL : Nat} {ret : Option FieldType} {hh : List (Nat × Nat × Nat × Nat)}
    (hown : s.vm.findClass own = some m.cls) (hlink : (Cond.methodLink own index y).before args s = true) (hstat : (Cond.static y).before args s = true) (hinit : (Cond.initialized y.cls).before args s = true)
    (hcode : (Cond.codeWith y bytes maxL ret hh).before args s = true) (hy : y.cls ≠ "java/lang/invoke/MethodHandle" ∧ y.cls ≠ "java/lang/invoke/VarHandle")
    {W9 : Nat} {Pre : Pt → Array Value → Prop} {Post : Pt → Array Value → Option Value → Pt → Prop} {PostX : Pt → Array Value → Addr → Pt → Prop} (hK : vx_Back l R p e below s args y 3 W9 Pre Post PostX)
    {g : JFrame} (hg : g.method = m) (hsize : g.locals.size = c.maxLocals) {argsL rest : List Value} (hlen : ∀ sig, parseMethodDescriptor y.desc = some sig → argsL.length = sig.parameters.length)
    (hstack : g.stack = argsL.reverse ++ rest) (hW : 2 * g.monitorRoom + (rest.map fun v => v.category).sum ≤ W9) (hdg : decode c.code g.pc = .ok (.invokestatic index, 3))
    (hpre : ∀ vm₁, s.WarmedH vm₁ → Pre ⟨T.setVm vm₁, locs, cells, slots⟩ argsL.toArray) :
    (∃ (v : Option Value) (vm₁ : Vm) (B : Pt), s.WarmedH vm₁ ∧ Stand p l e R s m args below meth c B.U B.locs B.cells B.slots ∧ Post ⟨T.setVm vm₁, locs, cells, slots⟩ argsL.toArray v B ∧
      ∀ target, Steps p.tables e below (B.U.setTop { g with pc := g.pc + 3, stack := v.toList ++ rest }) target → Steps p.tables e below (T.setTop g) target) ∨
    (∃ (q : Addr) (vm₁ : Vm) (B : Pt), s.WarmedH vm₁ ∧ Stand p l e R s m args below meth c B.U B.locs B.cells B.slots ∧ PostX ⟨T.setVm vm₁, locs, cells, slots⟩ argsL.toArray q B ∧
      Steps p.tables e below (T.setTop g) ((B.U.setTop { g with stack := rest }).pushFrame (.throwing q))) := by
  obtain ⟨mk, methM, cM, hnamed, hmethM, -, -, -, -, -, -, hsigM⟩ := Cond.codeWith_spec hcode
  have hstatic : methM.isStatic = true := Cond.static_spec hnamed hmethM hstat
  obtain ⟨kP, hkP, -⟩ := className_of_methodNamed hnamed
  have hinitP : kP.init = .initialized := Cond.initialized_spec (findClass_of_methodNamed hnamed) hkP hinit
  obtain ⟨vm₁, X₁, hstep₁⟩ := X.invokestatic hexec hown hlink hnamed hmethM hstatic hkP hinitP hy (g := g) hg (argsL := argsL) (rest := rest) (hlen _ hsigM) hstack hdg
  rcases hK m meth c ⟨T.setVm vm₁, locs, cells, slots⟩ { g with stack := rest } (.invokestatic index) mk argsL.toArray X₁ hg hsize hdg hW (X₁.named hnamed) (hpre vm₁ X₁.warmed) with ⟨v, B, X', hpost, hsteps⟩ | ⟨q, B, X', hpost, hsteps⟩
  · exact Or.inl ⟨v, vm₁, B, X₁.warmed, X', hpost, fun target h => hstep₁ _ fun acts => by rw [doInvoke_state]; exact hsteps.trans h⟩
  · exact Or.inr ⟨q, vm₁, B, X₁.warmed, X', hpost, hstep₁ _ fun acts => by rw [doInvoke_state]; exact hsteps⟩
theorem vx_callVW (X : Stand p l e R s m args below meth c T locs cells slots) (hexec : p.tables.exec = Jvm.exec) {own C : String} {index : Nat} {y : MethodName} {bytes : ByteArray} {maxL : Nat} {ret : Option FieldType} {hh : List (Nat × Nat × Nat × Nat)}
    (hown : s.vm.findClass own = some m.cls) (hlink : (Cond.methodLink own index y).before args s = true) (hinst : (Cond.instanceMethod y).before args s = true) (hsel : (Cond.selects C y y).before args s = true)
    (hcode : (Cond.codeWith y bytes maxL ret hh).before args s = true) (hy : y.cls ≠ "java/lang/invoke/MethodHandle" ∧ y.cls ≠ "java/lang/invoke/VarHandle")
    {W9 : Nat} {Pre : Pt → Array Value → Prop} {Post : Pt → Array Value → Option Value → Pt → Prop} (hK : Back l R p e below s args y 3 W9 Pre Post)
    {b : Addr} {cellB : Cell} (hcell : T.heap[b]? = some cellB) (hobj : cellB.vm.isStatics = false) (hcls : s.vm.findClass C = some cellB.cls)
    {g : JFrame} (hg : g.method = m) (hsize : g.locals.size = c.maxLocals) {argsL rest : List Value} (hlen : ∀ sig, parseMethodDescriptor y.desc = some sig → argsL.length = sig.parameters.length)
    (hstack : g.stack = argsL.reverse ++ .ref b :: rest) (hW : 2 * g.monitorRoom + (rest.map fun v => v.category).sum ≤ W9) (hdg : decode c.code g.pc = .ok (.invokevirtual index, 3))
    (hpre : ∀ vm₁, s.WarmedH vm₁ → Pre ⟨T.setVm vm₁, locs, cells, slots⟩ (Value.ref b :: argsL).toArray) :
    ∃ (v : Option Value) (vm₁ : Vm) (B : Pt), s.WarmedH vm₁ ∧ Stand p l e R s m args below meth c B.U B.locs B.cells B.slots ∧ Post ⟨T.setVm vm₁, locs, cells, slots⟩ (Value.ref b :: argsL).toArray v B ∧
      ∀ target, Steps p.tables e below (B.U.setTop { g with pc := g.pc + 3, stack := v.toList ++ rest }) target → Steps p.tables e below (T.setTop g) target := by
  obtain ⟨mk, methM, hnamed, hmethM, hstM, habM⟩ := Cond.instanceMethod_spec hinst
  obtain ⟨m8, methM', cM, hn8, hmethM', -, -, -, -, -, -, hsigM⟩ := Cond.codeWith_spec hcode
  cases Option.some.inj (hn8.symm.trans hnamed)
  cases hmethM.symm.trans hmethM'
  obtain ⟨c2, r2, m2, q1, q2, q3, q4, kP, hkP, hkPi⟩ := Cond.selects_spec hsel
  cases hcls.symm.trans q1
  cases (State.methodFound?_of_named hnamed hy).symm.trans q2
  cases hnamed.symm.trans q3
  have hselP : selectMethod e.platform s.vm cellB.cls mk = .method mk := by rw [Launch.admits_selectMethod X.admits]; exact q4
  obtain ⟨vm₁, X₁, hstep₁⟩ := X.invokevirtual hexec hown hlink hnamed hmethM hstM hkP hkPi hy (a := b) (cell := cellB) hcell
    (fun z h => by rw [h] at hobj; cases hobj) hselP hmethM habM hkP hkPi (g := g) hg (argsL := argsL) (rest := rest) (hlen _ hsigM) hstack hdg
  obtain ⟨v, B, X', hpost, hsteps⟩ := hK m meth c ⟨T.setVm vm₁, locs, cells, slots⟩ { g with stack := rest } (.invokevirtual index) mk (Value.ref b :: argsL).toArray X₁ hg hsize hdg hW (X₁.named hnamed) (hpre vm₁ X₁.warmed)
  exact ⟨v, vm₁, B, X₁.warmed, X', hpost, fun target h => hstep₁ _ fun acts => by rw [doInvoke_state]; exact hsteps.trans h⟩
abbrev vx_CVW (R : Room) (s : State) (args : Array Value) (own C : String) (index : Nat) (y : MethodName) (bytes : ByteArray) (maxL : Nat) (ret : Option FieldType) (hh : List (Nat × Nat × Nat × Nat)) (ws : List Cond) (rm : Room) (mc ms n : Nat) : Prop :=
  (rm.cells = mc ∧ rm.slots = ms ∧ rm.frames + 1 ≤ R.frames ∧ 8 + (maxL + 11) + rm.locals ≤ R.locals ∧ (∀ w ∈ ws, ∀ (a' : Array Value) (U : State), s.WarmedH U.vm → w.before a' U = true) ∧ Cond.codeWith y bytes maxL ret hh ∈ ws) ∧
  (Cond.codeWith y bytes maxL ret hh).before args s = true ∧ (Cond.initialized y.cls).before args s = true ∧ (y.cls ≠ "java/lang/invoke/MethodHandle" ∧ y.cls ≠ "java/lang/invoke/VarHandle") ∧
  (∀ sig, parseMethodDescriptor y.desc = some sig → n = sig.parameters.length) ∧ (Cond.methodLink own index y).before args s = true ∧ (Cond.instanceMethod y).before args s = true ∧ (Cond.selects C y y).before args s = true
theorem vx_cwVW {own C : String} {index maxL mc ms : Nat} {y : MethodName} {bytes : ByteArray} {ret : Option FieldType} {hh : List (Nat × Nat × Nat × Nat)} {Ts ws ws' : List Cond} {rm : Room} (n : Nat) (ht : ∀ w ∈ Ts, w.before args s = true) (hT : GoodIn Ts (wsV own index C y ws)) (hw : ws = Cond.codeWith y bytes maxL ret hh :: ws') (hrc : rm.cells = mc) (hrs : rm.slots = ms)
    (hd : y.cls = C ∧ y.cls ≠ "java/lang/invoke/MethodHandle" ∧ y.cls ≠ "java/lang/invoke/VarHandle" ∧ (parseMethodDescriptor y.desc).map (fun d => d.parameters.length) = some n) (hR : rm.frames + 1 ≤ R.frames ∧ 8 + (maxL + 11) + rm.locals ≤ R.locals) :
    vx_CVW R s args own C index y bytes maxL ret hh ws rm mc ms n := by
  obtain ⟨hC, hd⟩ := hd
  subst hC
  have ok : ∀ w ∈ wsV own index y.cls y ws, w.before args s = true := fun w h => ht w (hT w h).1
  have hG : GoodIn Ts ws := fun w h => hT w (by unfold wsV; exact List.mem_append_right _ h)
  have hc : Cond.codeWith y bytes maxL ret hh ∈ ws := by rw [hw]; exact List.mem_cons_self
  refine ⟨⟨hrc, hrs, hR.1, hR.2, pay_in ht hG, hc⟩, ht _ (hG _ hc).1, ok _ (by simp [wsV]), ⟨hd.1, hd.2.1⟩, fun sig h => ?_, ok _ (by simp [wsV]), ok _ (by simp [wsV]), ok _ (by simp [wsV])⟩
  have h2 := hd.2.2
  rw [h] at h2
  exact (Option.some.inj h2).symm
theorem vx_runVW {y : MethodName} {bytes cc : ByteArray} {maxL nL mc ms n index : Nat} {ret : Option FieldType} {hh : List (Nat × Nat × Nat × Nat)} {ws : List Cond} {rm : Room} {Pc : Array Value → State → Prop} {Qc : Array Value → State → Outcome → State → Prop} {free : Addr → Prop} {Ts : List Cond} {own C : String} {b : Addr} {As rest : List Value} {g : JFrame}
    (S : CallFix p m c cc nL s args Ts own) (hM : Met l y ws rm Pc Qc mc ms free) (cw : vx_CVW R s args own C index y bytes maxL ret hh ws rm mc ms n) (hp : PreV s H C b Pc As)
    (hg : g.method = m) (hn : As.length = n) (hsize : g.locals.size = nL) (hstack : g.stack = As.reverse ++ .ref b :: rest) (hW : 2 * g.monitorRoom + (rest.map fun v => v.category).sum ≤ 8) (hdg : decode cc g.pc = .ok (.invokevirtual index, 3)) (hf : cells + mc ≤ R.cells ∧ slots + ms ≤ R.slots) :
    va_Run p l e R s m args below meth c H locs cells slots mc ms g rest (Qc (Value.ref b :: As).toArray) free := by
  obtain ⟨⟨hrc, hrs, hfr, hlo, hws, hcw⟩, hcode, hini, hy, hlen, hl, hin, hse⟩ := cw
  have hK : Back l R p e below s args y 3 8 (PreOf R mc ms Pc) (PostOf Qc mc ms free) := va_backW (hh := hh) (bytes := bytes) (maxL := maxL) (ret := ret) hM hp.1 hrc hrs hfr hlo hws hcw (fun a' U hW => word_at hW (Or.inl (by first | rfl | simp [Cond.onTables, Cond.keeps, Cond.steady])) hini)
  obtain ⟨hx, hb, hml, ho, -⟩ := S
  obtain ⟨-, ⟨cellB, hcB, hoB, hclB⟩, hPc⟩ := hp
  intro T hT X
  obtain ⟨v, vm₁, ⟨U', l2, c2, s2⟩, hW₁, X', ⟨g', mk, t, L, e1, e2, hq, h1, hL, h2, h3⟩, st⟩ := vx_callVW X hx (C := C) (hh := hh) (bytes := bytes) (maxL := maxL) (ret := ret) ho hl hin hse hcode hy hK (by rw [hT]; exact hcB) hoB hclB hg (hsize.trans hml.symm) (argsL := As) (rest := rest) (fun sig h => hn.trans (hlen sig h)) hstack hW (by rw [hb]; exact hdg)
    (fun vm₁ hW₁ => ⟨hf.1, hf.2, hPc (T.setVm vm₁) hT hW₁⟩)
  dsimp only [Pt.U, Pt.locs, Pt.cells, Pt.slots] at X' e1 e2 h1 h2 h3 st
  subst h1; subst h2; subst h3
  exact ⟨v, (T.setVm vm₁).calling g' mk (Value.ref b :: As).toArray, t, U', L, hT, X', hL, e1, e2, hq, st⟩
section
variable {y : MethodName} {bytes cc : ByteArray} {maxL nL mc ms n index : Nat} {ret : Option FieldType} {ws : List Cond} {rm : Room} {Pc : Array Value → State → Prop} {Qc : Array Value → State → Outcome → State → Prop} {XC : String → State → State → Prop} {free : Addr → Prop} {Ts : List Cond} {own C : String} {b : Addr} {As rest : List Value} {g : JFrame}
theorem vx_runVX {hh : List (Nat × Nat × Nat × Nat)} (S : CallFix p m c cc nL s args Ts own) (hM : vx_Met l y ws rm Pc Qc XC mc ms free) (cw : vx_CVW R s args own C index y bytes maxL ret hh ws rm mc ms n) (hp : PreV s H C b Pc As)
    (hg : g.method = m) (hn : As.length = n) (hsize : g.locals.size = nL) (hstack : g.stack = As.reverse ++ .ref b :: rest) (hW : 2 * g.monitorRoom + (rest.map fun v => v.category).sum ≤ 8) (hdg : decode cc g.pc = .ok (.invokevirtual index, 3)) (hf : cells + mc ≤ R.cells ∧ slots + ms ≤ R.slots) :
    vx_Run p l e R s m args below meth c H locs cells slots mc ms g rest (Qc (Value.ref b :: As).toArray) XC free := by
  obtain ⟨⟨hrc, hrs, hfr, hlo, hws, hcw⟩, hcode, hini, hy, hlen, hl, hin, hse⟩ := cw
  have hK : vx_Back l R p e below s args y 3 8 (PreOf R mc ms Pc) (PostOf Qc mc ms free) (vx_Post XC mc ms free) := vx_backW (hh := hh) (bytes := bytes) (maxL := maxL) (ret := ret) hM hp.1 hrc hrs hfr hlo hws hcw (fun a' U hW => word_at hW (Or.inl (by first | rfl | simp [Cond.onTables, Cond.keeps, Cond.steady])) hini)
  obtain ⟨hx, hb, hml, ho, -⟩ := S
  obtain ⟨-, ⟨cellB, hcB, hoB, hclB⟩, hPc⟩ := hp
  intro T hT X
  rcases vx_callVX X hx (C := C) (hh := hh) (bytes := bytes) (maxL := maxL) (ret := ret) ho hl hin hse hcode hy hK (by rw [hT]; exact hcB) hoB hclB hg (hsize.trans hml.symm) (argsL := As) (rest := rest) (fun sig h => hn.trans (hlen sig h)) hstack hW (by rw [hb]; exact hdg)
    (fun vm₁ hW₁ => ⟨hf.1, hf.2, hPc (T.setVm vm₁) hT hW₁⟩) with ⟨v, vm₁, ⟨U', l2, c2, s2⟩, hW₁, X', ⟨g', mk, t, L, e1, e2, hq, h1, hL, h2, h3⟩, st⟩ | ⟨q, vm₁, ⟨U', l2, c2, s2⟩, hW₁, X', ⟨g', mk, t, L, E, ce, e1, e2, hq, hce, hcv, hcl, h1, hL, h2, h3⟩, st⟩
  · dsimp only [Pt.U, Pt.locs, Pt.cells, Pt.slots] at X' e1 e2 h1 h2 h3 st
    subst h1; subst h2; subst h3
    exact Or.inl ⟨v, (T.setVm vm₁).calling g' mk (Value.ref b :: As).toArray, t, U', L, hT, X', hL, e1, e2, hq, st⟩
  · dsimp only [Pt.U, Pt.locs, Pt.cells, Pt.slots] at X' e1 e2 h1 h2 h3 st hcl
    subst h1; subst h2; subst h3
    exact Or.inr ⟨q, (T.setVm vm₁).calling g' mk (Value.ref b :: As).toArray, t, U', L, E, ce, hT, X', hL, e1, e2, hq, hce, hcv, vx_cls hW₁ hcl, st⟩
theorem vx_runSX {hh : List (Nat × Nat × Nat × Nat)} (S : CallFix p m c cc nL s args Ts own) (hM : vx_Met l y ws rm Pc Qc XC mc ms free) (cw : vx_CSW R s args own index y bytes maxL ret hh ws rm mc ms n) (hp : PreS s H Pc As)
    (hg : g.method = m) (hn : As.length = n) (hsize : g.locals.size = nL) (hstack : g.stack = As.reverse ++ rest) (hW : 2 * g.monitorRoom + (rest.map fun v => v.category).sum ≤ 8) (hdg : decode cc g.pc = .ok (.invokestatic index, 3)) (hf : cells + mc ≤ R.cells ∧ slots + ms ≤ R.slots) :
    vx_Run p l e R s m args below meth c H locs cells slots mc ms g rest (Qc As.toArray) XC free := by
  obtain ⟨⟨hrc, hrs, hfr, hlo, hws, hcw⟩, hcode, hini, hy, hlen, hl, hstt⟩ := cw
  have hK : vx_Back l R p e below s args y 3 8 (PreOf R mc ms Pc) (PostOf Qc mc ms free) (vx_Post XC mc ms free) := vx_backW (hh := hh) (bytes := bytes) (maxL := maxL) (ret := ret) hM hp.1 hrc hrs hfr hlo hws hcw (fun a' U hW => word_at hW (Or.inl (by first | rfl | simp [Cond.onTables, Cond.keeps, Cond.steady])) hini)
  obtain ⟨hx, hb, hml, ho, -⟩ := S
  intro T hT X
  rcases vx_callSX X hx (hh := hh) (bytes := bytes) (maxL := maxL) (ret := ret) ho hl hstt hini hcode hy hK hg (hsize.trans hml.symm) (argsL := As) (rest := rest) (fun sig h => hn.trans (hlen sig h)) hstack hW (by rw [hb]; exact hdg)
    (fun vm₁ hW₁ => ⟨hf.1, hf.2, hp.2 (T.setVm vm₁) hT hW₁⟩) with ⟨v, vm₁, ⟨U', l2, c2, s2⟩, hW₁, X', ⟨g', mk, t, L, e1, e2, hq, h1, hL, h2, h3⟩, st⟩ | ⟨q, vm₁, ⟨U', l2, c2, s2⟩, hW₁, X', ⟨g', mk, t, L, E, ce, e1, e2, hq, hce, hcv, hcl, h1, hL, h2, h3⟩, st⟩
  · dsimp only [Pt.U, Pt.locs, Pt.cells, Pt.slots] at X' e1 e2 h1 h2 h3 st
    subst h1; subst h2; subst h3
    exact Or.inl ⟨v, (T.setVm vm₁).calling g' mk As.toArray, t, U', L, hT, X', hL, e1, e2, hq, st⟩
  · dsimp only [Pt.U, Pt.locs, Pt.cells, Pt.slots] at X' e1 e2 h1 h2 h3 st hcl
    subst h1; subst h2; subst h3
    exact Or.inr ⟨q, (T.setVm vm₁).calling g' mk As.toArray, t, U', L, E, ce, hT, X', hL, e1, e2, hq, hce, hcv, vx_cls hW₁ hcl, st⟩
end
end VXH
theorem vx_ofWH {l : Launch} {y : MethodName} {ws ws' : List Cond} {rm : Room} {Pc : Array Value → State → Prop} {Qc : Array Value → State → Outcome → State → Prop} {XC : String → State → State → Prop} {mc ms : Nat} {free : Addr → Prop} {cc : ByteArray} {maxL : Nat} {ret : Option FieldType} {hh : List (Nat × Nat × Nat × Nat)}
    (hy : plainName y.cls = true) (hw : ws = Cond.codeWith y cc maxL ret hh :: ws')
    (body : ∀ p e s m args below meth c s₁, BodyLoose p l y (headSpec ws rm) cc maxL ret e s m args below meth c s₁ → c.maxLocals = maxL → Pc args s →
      W p l e (headSpec ws rm).room s m args below meth c s.heap [] 0 0 (vx_MQ below Qc XC args s mc ms free) (entryFrame m args maxL)) : vx_Met l y ws rm Pc Qc XC mc ms free := by
  refine MetFree.of_bodyS (code := cc) (maxLocals := maxL) (ret := ret) hy ?_ ?_
  · intro args s m h hn
    obtain ⟨m9, meth, c, hn9, h1, h2, h3, h4, -, h5, h6, -⟩ := Cond.codeWith_spec (atoms_spec (ws := ws) h _ (by rw [hw]; exact List.mem_cons_self))
    cases hn.symm.trans hn9
    exact ⟨meth, c, h1, h2, h3, h4, h5, h6⟩
  · intro p e s m args below meth c s₁ B hml hP _
    have hh0 : s₁.heap = s.heap := by rw [B.state]; rfl
    obtain ⟨t, a1, o, b1, b2, b3⟩ := body p e s m args below meth c s₁ B hml hP s₁ hh0 (Stand.of_body B)
    exact ⟨t, o, a1, b1, b2, b3⟩
/-! ===== END ===== -/
end
section
/-! ===== BEGIN printed: names, fields, word lists, decode rows ===== -/
def RX0 : String := "CastDesk$BoxOffice"
def TX0 : u_T := fun k => match k with
  | 0 => ("CastDesk$BoxOffice", "shows", "[I", true)
  | 1 => ("CastDesk$BoxOffice", "promises", "[I", true)
  | 2 => ("CastDesk$BoxOffice", "parts", "[I", true)
  | 3 => ("CastDesk$BoxOffice", "stars", "[I", true)
  | 4 => ("CastDesk$BoxOffice", "refunds", "[I", true)
  | 5 => ("CastDesk$BoxOffice", "prices", "[I", true)
  | 6 => ("CastDesk$BoxOffice", "count", "I", false)
  | _ => ("CastDesk$BoxOffice", "money", "I", false)
def tyX0 : Nat → FieldType := fun k => match k with
  | 0 => .array .int
  | 1 => .array .int
  | 2 => .array .int
  | 3 => .array .int
  | 4 => .array .int
  | 5 => .array .int
  | 6 => .int
  | _ => .int
abbrev wsX00 : List Cond := u_ws RX0 TX0 8
theorem nmX0 : ∀ a, a < 8 → ∀ b, b < 8 → a ≠ b → (TX0 a).2.1 ≠ (TX0 b).2.1 := by decide +kernel
theorem tyX0_ok : ∀ k, k < 8 → parseFieldDescriptor (TX0 k).2.2.1 = some (tyX0 k) := by decide +kernel
abbrev cX0_init : ByteArray := prog_2_method_1_code
def yX0_init : MethodName := ⟨RX0, "<init>", "()V"⟩
abbrev cX0_add : ByteArray := prog_2_method_2_code
def yX0_add : MethodName := ⟨RX0, "add", "(IIIII)I"⟩
abbrev cX0_giveBack : ByteArray := prog_2_method_3_code
def yX0_giveBack : MethodName := ⟨RX0, "giveBack", "(II)I"⟩
def RX1 : String := "CastDesk$Casting"
def TX1 : u_T := fun k => match k with
  | 0 => ("CastDesk$Casting", "actors", "[I", true)
  | 1 => ("CastDesk$Casting", "keys", "[I", true)
  | 2 => ("CastDesk$Casting", "leastOfSet", "[I", true)
  | _ => ("CastDesk$Casting", "setsBound", "I", false)
def tyX1 : Nat → FieldType := fun k => match k with
  | 0 => .array .int
  | 1 => .array .int
  | 2 => .array .int
  | _ => .int
abbrev wsX10 : List Cond := u_ws RX1 TX1 4
theorem nmX1 : ∀ a, a < 4 → ∀ b, b < 4 → a ≠ b → (TX1 a).2.1 ≠ (TX1 b).2.1 := by decide +kernel
theorem tyX1_ok : ∀ k, k < 4 → parseFieldDescriptor (TX1 k).2.2.1 = some (tyX1 k) := by decide +kernel
abbrev cX1_init : ByteArray := prog_3_method_1_code
def yX1_init : MethodName := ⟨RX1, "<init>", "()V"⟩
abbrev cX1_strainOf : ByteArray := prog_3_method_2_code
def yX1_strainOf : MethodName := ⟨RX1, "strainOf", "(I)I"⟩
abbrev cX1_workOf : ByteArray := prog_3_method_3_code
def yX1_workOf : MethodName := ⟨RX1, "workOf", "(I)I"⟩
abbrev cX1_rankOf : ByteArray := prog_3_method_4_code
def yX1_rankOf : MethodName := ⟨RX1, "rankOf", "(II)I"⟩
abbrev cX1_rankShift : ByteArray := prog_3_method_5_code
def yX1_rankShift : MethodName := ⟨RX1, "rankShift", "(I)I"⟩
abbrev cX1_clear : ByteArray := prog_3_method_6_code
def yX1_clear : MethodName := ⟨RX1, "clear", "()V"⟩
abbrev cX1_offer : ByteArray := prog_3_method_7_code
def yX1_offer : MethodName := ⟨RX1, "offer", "(IIII)V"⟩
abbrev cX1_leastKey : ByteArray := prog_3_method_8_code
def yX1_leastKey : MethodName := ⟨RX1, "leastKey", "(I)I"⟩
abbrev cX1_castPart : ByteArray := prog_3_method_9_code
def yX1_castPart : MethodName := ⟨RX1, "castPart", "(III)V"⟩
abbrev cX1_leastStrain : ByteArray := prog_3_method_10_code
def yX1_leastStrain : MethodName := ⟨RX1, "leastStrain", "(I)I"⟩
abbrev cX1_leastFrom : ByteArray := prog_3_method_11_code
def yX1_leastFrom : MethodName := ⟨RX1, "leastFrom", "([IIII)I"⟩
def RX2 : String := "CastDesk$Programme"
def TX2 : u_T := fun k => match k with
  | 0 => ("CastDesk$Programme", "states", "[I", true)
  | 1 => ("CastDesk$Programme", "casts", "[I", true)
  | 2 => ("CastDesk$Programme", "days", "[I", true)
  | _ => ("CastDesk$Programme", "count", "I", false)
def tyX2 : Nat → FieldType := fun k => match k with
  | 0 => .array .int
  | 1 => .array .int
  | 2 => .array .int
  | _ => .int
abbrev wsX20 : List Cond := u_ws RX2 TX2 4
theorem nmX2 : ∀ a, a < 4 → ∀ b, b < 4 → a ≠ b → (TX2 a).2.1 ≠ (TX2 b).2.1 := by decide +kernel
theorem tyX2_ok : ∀ k, k < 4 → parseFieldDescriptor (TX2 k).2.2.1 = some (tyX2 k) := by decide +kernel
abbrev cX2_init : ByteArray := prog_4_method_1_code
def yX2_init : MethodName := ⟨RX2, "<init>", "()V"⟩
abbrev cX2_showOn : ByteArray := prog_4_method_2_code
def yX2_showOn : MethodName := ⟨RX2, "showOn", "(I)I"⟩
abbrev cX2_add : ByteArray := prog_4_method_3_code
def yX2_add : MethodName := ⟨RX2, "add", "(I)I"⟩
def RX3 : String := "CastDesk$Rows"
def TX3 : u_T := fun k => match k with
  | 0 => ("CastDesk$Rows", "actors", "[I", true)
  | _ => ("CastDesk$Rows", "lengths", "[I", true)
def tyX3 : Nat → FieldType := fun k => match k with
  | 0 => .array .int
  | _ => .array .int
abbrev wsX30 : List Cond := u_ws RX3 TX3 2
theorem nmX3 : ∀ a, a < 2 → ∀ b, b < 2 → a ≠ b → (TX3 a).2.1 ≠ (TX3 b).2.1 := by decide +kernel
theorem tyX3_ok : ∀ k, k < 2 → parseFieldDescriptor (TX3 k).2.2.1 = some (tyX3 k) := by decide +kernel
abbrev cX3_init : ByteArray := prog_5_method_1_code
def yX3_init : MethodName := ⟨RX3, "<init>", "()V"⟩
abbrev cX3_actorAt : ByteArray := prog_5_method_2_code
def yX3_actorAt : MethodName := ⟨RX3, "actorAt", "(II)I"⟩
abbrev cX3_rankIn : ByteArray := prog_5_method_3_code
def yX3_rankIn : MethodName := ⟨RX3, "rankIn", "(II)I"⟩
abbrev cX3_isFull : ByteArray := prog_5_method_4_code
def yX3_isFull : MethodName := ⟨RX3, "isFull", "(I)Z"⟩
abbrev cX3_append : ByteArray := prog_5_method_5_code
def yX3_append : MethodName := ⟨RX3, "append", "(II)I"⟩
abbrev cX3_remove : ByteArray := prog_5_method_6_code
def yX3_remove : MethodName := ⟨RX3, "remove", "(II)V"⟩
def RX4 : String := "CastDesk$Troupe"
def TX4 : u_T := fun k => match k with
  | 0 => ("CastDesk$Troupe", "sizes", "[I", true)
  | 1 => ("CastDesk$Troupe", "known", "[I", true)
  | _ => ("CastDesk$Troupe", "ill", "[I", true)
def tyX4 : Nat → FieldType := fun k => match k with
  | 0 => .array .int
  | 1 => .array .int
  | _ => .array .int
abbrev wsX40 : List Cond := u_ws RX4 TX4 3
theorem nmX4 : ∀ a, a < 3 → ∀ b, b < 3 → a ≠ b → (TX4 a).2.1 ≠ (TX4 b).2.1 := by decide +kernel
theorem tyX4_ok : ∀ k, k < 3 → parseFieldDescriptor (TX4 k).2.2.1 = some (tyX4 k) := by decide +kernel
abbrev cX4_init : ByteArray := prog_6_method_1_code
def yX4_init : MethodName := ⟨RX4, "<init>", "()V"⟩
abbrev cX4_fallIll : ByteArray := prog_6_method_2_code
def yX4_fallIll : MethodName := ⟨RX4, "fallIll", "(III)I"⟩
def RX5 : String := "CastDesk$Wardrobe"
def TX5 : u_T := fun k => match k with
  | 0 => ("CastDesk$Wardrobe", "sizes", "[I", true)
  | 1 => ("CastDesk$Wardrobe", "parts", "[I", true)
  | 2 => ("CastDesk$Wardrobe", "isLetOut", "[Z", true)
  | _ => ("CastDesk$Wardrobe", "count", "I", false)
def tyX5 : Nat → FieldType := fun k => match k with
  | 0 => .array .int
  | 1 => .array .int
  | 2 => .array .boolean
  | _ => .int
abbrev wsX50 : List Cond := u_ws RX5 TX5 4
theorem nmX5 : ∀ a, a < 4 → ∀ b, b < 4 → a ≠ b → (TX5 a).2.1 ≠ (TX5 b).2.1 := by decide +kernel
theorem tyX5_ok : ∀ k, k < 4 → parseFieldDescriptor (TX5 k).2.2.1 = some (tyX5 k) := by decide +kernel
abbrev cX5_init : ByteArray := prog_7_method_1_code
def yX5_init : MethodName := ⟨RX5, "<init>", "()V"⟩
abbrev cX5_add : ByteArray := prog_7_method_2_code
def yX5_add : MethodName := ⟨RX5, "add", "(II)I"⟩
abbrev cX5_lowestFitting : ByteArray := prog_7_method_3_code
def yX5_lowestFitting : MethodName := ⟨RX5, "lowestFitting", "(II)I"⟩
abbrev cX5_lowestToLetOut : ByteArray := prog_7_method_4_code
def yX5_lowestToLetOut : MethodName := ⟨RX5, "lowestToLetOut", "(II)I"⟩
abbrev cX5_letOut : ByteArray := prog_7_method_5_code
def yX5_letOut : MethodName := ⟨RX5, "letOut", "(I)V"⟩
def RX6 : String := "CastDesk"
def TX6 : u_T := fun k => match k with
  | 0 => ("CastDesk", "troupe", "LCastDesk$Troupe;", true)
  | 1 => ("CastDesk", "rows", "LCastDesk$Rows;", true)
  | 2 => ("CastDesk", "wardrobe", "LCastDesk$Wardrobe;", true)
  | 3 => ("CastDesk", "casting", "LCastDesk$Casting;", true)
  | 4 => ("CastDesk", "programme", "LCastDesk$Programme;", true)
  | 5 => ("CastDesk", "office", "LCastDesk$BoxOffice;", true)
  | 6 => ("CastDesk", "partCount", "I", false)
  | _ => ("CastDesk", "today", "I", false)
def tyX6 : Nat → FieldType := fun k => match k with
  | 0 => .object "CastDesk$Troupe"
  | 1 => .object "CastDesk$Rows"
  | 2 => .object "CastDesk$Wardrobe"
  | 3 => .object "CastDesk$Casting"
  | 4 => .object "CastDesk$Programme"
  | 5 => .object "CastDesk$BoxOffice"
  | 6 => .int
  | _ => .int
abbrev wsX60 : List Cond := u_ws RX6 TX6 8
theorem nmX6 : ∀ a, a < 8 → ∀ b, b < 8 → a ≠ b → (TX6 a).2.1 ≠ (TX6 b).2.1 := by decide +kernel
theorem tyX6_ok : ∀ k, k < 8 → parseFieldDescriptor (TX6 k).2.2.1 = some (tyX6 k) := by decide +kernel
abbrev cX6_init : ByteArray := prog_1_method_1_code
def yX6_init : MethodName := ⟨RX6, "<init>", "()V"⟩
abbrev cX6_setParts : ByteArray := prog_1_method_2_code
def yX6_setParts : MethodName := ⟨RX6, "setParts", "(I)I"⟩
abbrev cX6_setSize : ByteArray := prog_1_method_3_code
def yX6_setSize : MethodName := ⟨RX6, "setSize", "(II)I"⟩
abbrev cX6_learn : ByteArray := prog_1_method_4_code
def yX6_learn : MethodName := ⟨RX6, "learn", "(IIZ)I"⟩
abbrev cX6_put : ByteArray := prog_1_method_5_code
def yX6_put : MethodName := ⟨RX6, "put", "(II)I"⟩
abbrev cX6_take : ByteArray := prog_1_method_6_code
def yX6_take : MethodName := ⟨RX6, "take", "(II)I"⟩
abbrev cX6_costume : ByteArray := prog_1_method_7_code
def yX6_costume : MethodName := ⟨RX6, "costume", "(II)I"⟩
abbrev cX6_sizeOf : ByteArray := prog_1_method_8_code
def yX6_sizeOf : MethodName := ⟨RX6, "sizeOf", "(I)I"⟩
abbrev cX6_cold : ByteArray := prog_1_method_9_code
def yX6_cold : MethodName := ⟨RX6, "cold", "(III)I"⟩
abbrev cX6_isIll : ByteArray := prog_1_method_10_code
def yX6_isIll : MethodName := ⟨RX6, "isIll", "(II)Z"⟩
abbrev cX6_canPlay : ByteArray := prog_1_method_11_code
def yX6_canPlay : MethodName := ⟨RX6, "canPlay", "(III)Z"⟩
abbrev cX6_strain : ByteArray := prog_1_method_12_code
def yX6_strain : MethodName := ⟨RX6, "strain", "(I)I"⟩
abbrev cX6_strainByAll : ByteArray := prog_1_method_13_code
def yX6_strainByAll : MethodName := ⟨RX6, "strainByAll", "(I)I"⟩
abbrev cX6_work : ByteArray := prog_1_method_14_code
def yX6_work : MethodName := ⟨RX6, "work", "(I)I"⟩
abbrev cX6_actorFor : ByteArray := prog_1_method_15_code
def yX6_actorFor : MethodName := ⟨RX6, "actorFor", "(II)I"⟩
abbrev cX6_chain : ByteArray := prog_1_method_16_code
def yX6_chain : MethodName := ⟨RX6, "chain", "(II)I"⟩
abbrev cX6_show : ByteArray := prog_1_method_17_code
def yX6_show : MethodName := ⟨RX6, "show", "(I)I"⟩
abbrev cX6_sell : ByteArray := prog_1_method_18_code
def yX6_sell : MethodName := ⟨RX6, "sell", "(IIII)I"⟩
abbrev cX6_play : ByteArray := prog_1_method_19_code
def yX6_play : MethodName := ⟨RX6, "play", "()I"⟩
abbrev cX6_day : ByteArray := prog_1_method_20_code
def yX6_day : MethodName := ⟨RX6, "day", "()I"⟩
abbrev cX6_stateOf : ByteArray := prog_1_method_21_code
def yX6_stateOf : MethodName := ⟨RX6, "stateOf", "(I)I"⟩
abbrev cX6_played : ByteArray := prog_1_method_22_code
def yX6_played : MethodName := ⟨RX6, "played", "(II)I"⟩
abbrev cX6_refund : ByteArray := prog_1_method_23_code
def yX6_refund : MethodName := ⟨RX6, "refund", "(I)I"⟩
abbrev cX6_takings : ByteArray := prog_1_method_24_code
def yX6_takings : MethodName := ⟨RX6, "takings", "()I"⟩
abbrev cX6_needActor : ByteArray := prog_1_method_25_code
def yX6_needActor : MethodName := ⟨RX6, "needActor", "(I)V"⟩
abbrev cX6_needPart : ByteArray := prog_1_method_26_code
def yX6_needPart : MethodName := ⟨RX6, "needPart", "(I)V"⟩
abbrev cX6_needOneOf : ByteArray := prog_1_method_27_code
def yX6_needOneOf : MethodName := ⟨RX6, "needOneOf", "(II)V"⟩
abbrev cX6_needSize : ByteArray := prog_1_method_28_code
def yX6_needSize : MethodName := ⟨RX6, "needSize", "(I)V"⟩
abbrev cX6_needDay : ByteArray := prog_1_method_29_code
def yX6_needDay : MethodName := ⟨RX6, "needDay", "(II)V"⟩
abbrev cX6_has : ByteArray := prog_1_method_30_code
def yX6_has : MethodName := ⟨RX6, "has", "(II)Z"⟩
abbrev cX6_with : ByteArray := prog_1_method_31_code
def yX6_with : MethodName := ⟨RX6, "with", "(II)I"⟩
abbrev cX6_without : ByteArray := prog_1_method_32_code
def yX6_without : MethodName := ⟨RX6, "without", "(II)I"⟩
abbrev cX6_isReady : ByteArray := prog_1_method_33_code
def yX6_isReady : MethodName := ⟨RX6, "isReady", "(III)Z"⟩
abbrev cX6_offerActors : ByteArray := prog_1_method_34_code
def yX6_offerActors : MethodName := ⟨RX6, "offerActors", "(I)V"⟩
abbrev cX6_bestCast : ByteArray := prog_1_method_35_code
def yX6_bestCast : MethodName := ⟨RX6, "bestCast", "(I)I"⟩
abbrev cX6_actorIn : ByteArray := prog_1_method_36_code
def yX6_actorIn : MethodName := ⟨RX6, "actorIn", "(II)I"⟩
abbrev cX6_countOthers : ByteArray := prog_1_method_37_code
def yX6_countOthers : MethodName := ⟨RX6, "countOthers", "(II)I"⟩
abbrev cX6_perform : ByteArray := prog_1_method_38_code
def yX6_perform : MethodName := ⟨RX6, "perform", "(I)I"⟩
abbrev cX6_dress : ByteArray := prog_1_method_39_code
def yX6_dress : MethodName := ⟨RX6, "dress", "(II)V"⟩
abbrev cX6_refundSeats : ByteArray := prog_1_method_40_code
def yX6_refundSeats : MethodName := ⟨RX6, "refundSeats", "(II)I"⟩
abbrev cX6_shareBack : ByteArray := prog_1_method_41_code
def yX6_shareBack : MethodName := ⟨RX6, "shareBack", "(II)I"⟩
def RX7 : String := "CastDeskModel"
def TX7 : u_T := fun k => match k with
  | 0 => ("CastDeskModel", "parts", "I", false)
  | 1 => ("CastDeskModel", "sizes", "[I", true)
  | 2 => ("CastDeskModel", "known", "[I", true)
  | 3 => ("CastDeskModel", "rows", "[I", true)
  | 4 => ("CastDeskModel", "lengths", "[I", true)
  | 5 => ("CastDeskModel", "costumePart", "[I", true)
  | 6 => ("CastDeskModel", "costumeSize", "[I", true)
  | 7 => ("CastDeskModel", "letOut", "[I", true)
  | 8 => ("CastDeskModel", "costumes", "I", false)
  | 9 => ("CastDeskModel", "ill", "[I", true)
  | 10 => ("CastDeskModel", "showDay", "[I", true)
  | 11 => ("CastDeskModel", "showState", "[I", true)
  | 12 => ("CastDeskModel", "showCast", "[I", true)
  | 13 => ("CastDeskModel", "shows", "I", false)
  | 14 => ("CastDeskModel", "seatShow", "[I", true)
  | 15 => ("CastDeskModel", "seatPrice", "[I", true)
  | 16 => ("CastDeskModel", "seatPromise", "[I", true)
  | 17 => ("CastDeskModel", "seatPart", "[I", true)
  | 18 => ("CastDeskModel", "seatStar", "[I", true)
  | 19 => ("CastDeskModel", "seatRefund", "[I", true)
  | 20 => ("CastDeskModel", "seats", "I", false)
  | 21 => ("CastDeskModel", "today", "I", false)
  | 22 => ("CastDeskModel", "taken", "I", false)
  | 23 => ("CastDeskModel", "able", "[I", true)
  | 24 => ("CastDeskModel", "cast", "[I", true)
  | 25 => ("CastDeskModel", "before", "[I", true)
  | 26 => ("CastDeskModel", "leastStrain", "I", false)
  | 27 => ("CastDeskModel", "leastWork", "I", false)
  | _ => ("CastDeskModel", "thrown", "I", false)
def tyX7 : Nat → FieldType := fun k => match k with
  | 0 => .int
  | 1 => .array .int
  | 2 => .array .int
  | 3 => .array .int
  | 4 => .array .int
  | 5 => .array .int
  | 6 => .array .int
  | 7 => .array .int
  | 8 => .int
  | 9 => .array .int
  | 10 => .array .int
  | 11 => .array .int
  | 12 => .array .int
  | 13 => .int
  | 14 => .array .int
  | 15 => .array .int
  | 16 => .array .int
  | 17 => .array .int
  | 18 => .array .int
  | 19 => .array .int
  | 20 => .int
  | 21 => .int
  | 22 => .int
  | 23 => .array .int
  | 24 => .array .int
  | 25 => .array .int
  | 26 => .int
  | 27 => .int
  | _ => .int
abbrev wsX70 : List Cond := u_ws RX7 TX7 29
theorem nmX7 : ∀ a, a < 29 → ∀ b, b < 29 → a ≠ b → (TX7 a).2.1 ≠ (TX7 b).2.1 := by decide +kernel
theorem tyX7_ok : ∀ k, k < 29 → parseFieldDescriptor (TX7 k).2.2.1 = some (tyX7 k) := by decide +kernel
abbrev cX7_init : ByteArray := prog_9_method_1_code
def yX7_init : MethodName := ⟨RX7, "<init>", "()V"⟩
abbrev cX7_thrown : ByteArray := prog_9_method_2_code
def yX7_thrown : MethodName := ⟨RX7, "thrown", "()I"⟩
abbrev cX7_fails : ByteArray := prog_9_method_3_code
def yX7_fails : MethodName := ⟨RX7, "fails", "(I)I"⟩
abbrev cX7_in : ByteArray := prog_9_method_4_code
def yX7_in : MethodName := ⟨RX7, "in", "(III)Z"⟩
abbrev cX7_isActor : ByteArray := prog_9_method_5_code
def yX7_isActor : MethodName := ⟨RX7, "isActor", "(I)Z"⟩
abbrev cX7_isPart : ByteArray := prog_9_method_6_code
def yX7_isPart : MethodName := ⟨RX7, "isPart", "(I)Z"⟩
abbrev cX7_isDay : ByteArray := prog_9_method_7_code
def yX7_isDay : MethodName := ⟨RX7, "isDay", "(I)Z"⟩
abbrev cX7_setParts : ByteArray := prog_9_method_8_code
def yX7_setParts : MethodName := ⟨RX7, "setParts", "(I)I"⟩
abbrev cX7_setSize : ByteArray := prog_9_method_9_code
def yX7_setSize : MethodName := ⟨RX7, "setSize", "(II)I"⟩
abbrev cX7_knownBy : ByteArray := prog_9_method_10_code
def yX7_knownBy : MethodName := ⟨RX7, "knownBy", "(I)I"⟩
abbrev cX7_knows : ByteArray := prog_9_method_11_code
def yX7_knows : MethodName := ⟨RX7, "knows", "(II)Z"⟩
abbrev cX7_learn : ByteArray := prog_9_method_12_code
def yX7_learn : MethodName := ⟨RX7, "learn", "(IIZ)I"⟩
abbrev cX7_rankOf : ByteArray := prog_9_method_13_code
def yX7_rankOf : MethodName := ⟨RX7, "rankOf", "(II)I"⟩
abbrev cX7_put : ByteArray := prog_9_method_14_code
def yX7_put : MethodName := ⟨RX7, "put", "(II)I"⟩
abbrev cX7_take : ByteArray := prog_9_method_15_code
def yX7_take : MethodName := ⟨RX7, "take", "(II)I"⟩
abbrev cX7_costume : ByteArray := prog_9_method_16_code
def yX7_costume : MethodName := ⟨RX7, "costume", "(II)I"⟩
abbrev cX7_sizeOf : ByteArray := prog_9_method_17_code
def yX7_sizeOf : MethodName := ⟨RX7, "sizeOf", "(I)I"⟩
abbrev cX7_cold : ByteArray := prog_9_method_18_code
def yX7_cold : MethodName := ⟨RX7, "cold", "(III)I"⟩
abbrev cX7_isIll : ByteArray := prog_9_method_19_code
def yX7_isIll : MethodName := ⟨RX7, "isIll", "(II)Z"⟩
abbrev cX7_fits : ByteArray := prog_9_method_20_code
def yX7_fits : MethodName := ⟨RX7, "fits", "(II)Z"⟩
abbrev cX7_toLetOut : ByteArray := prog_9_method_21_code
def yX7_toLetOut : MethodName := ⟨RX7, "toLetOut", "(II)I"⟩
abbrev cX7_can : ByteArray := prog_9_method_22_code
def yX7_can : MethodName := ⟨RX7, "can", "(III)Z"⟩
abbrev cX7_canPlay : ByteArray := prog_9_method_23_code
def yX7_canPlay : MethodName := ⟨RX7, "canPlay", "(III)Z"⟩
abbrev cX7_layAble : ByteArray := prog_9_method_24_code
def yX7_layAble : MethodName := ⟨RX7, "layAble", "(II)V"⟩
abbrev cX7_firstBad : ByteArray := prog_9_method_25_code
def yX7_firstBad : MethodName := ⟨RX7, "firstBad", "(I)I"⟩
abbrev cX7_keep : ByteArray := prog_9_method_26_code
def yX7_keep : MethodName := ⟨RX7, "keep", "(I)V"⟩
abbrev cX7_lay : ByteArray := prog_9_method_27_code
def yX7_lay : MethodName := ⟨RX7, "lay", "(II)Z"⟩
abbrev cX7_strain : ByteArray := prog_9_method_28_code
def yX7_strain : MethodName := ⟨RX7, "strain", "(I)I"⟩
abbrev cX7_strainByAll : ByteArray := prog_9_method_29_code
def yX7_strainByAll : MethodName := ⟨RX7, "strainByAll", "(I)I"⟩
abbrev cX7_work : ByteArray := prog_9_method_30_code
def yX7_work : MethodName := ⟨RX7, "work", "(I)I"⟩
abbrev cX7_actorFor : ByteArray := prog_9_method_31_code
def yX7_actorFor : MethodName := ⟨RX7, "actorFor", "(II)I"⟩
abbrev cX7_chain : ByteArray := prog_9_method_32_code
def yX7_chain : MethodName := ⟨RX7, "chain", "(II)I"⟩
abbrev cX7_showOn : ByteArray := prog_9_method_33_code
def yX7_showOn : MethodName := ⟨RX7, "showOn", "(I)I"⟩
abbrev cX7_show : ByteArray := prog_9_method_34_code
def yX7_show : MethodName := ⟨RX7, "show", "(I)I"⟩
abbrev cX7_sell : ByteArray := prog_9_method_35_code
def yX7_sell : MethodName := ⟨RX7, "sell", "(IIII)I"⟩
abbrev cX7_refundOf : ByteArray := prog_9_method_36_code
def yX7_refundOf : MethodName := ⟨RX7, "refundOf", "(I)I"⟩
abbrev cX7_refundAll : ByteArray := prog_9_method_37_code
def yX7_refundAll : MethodName := ⟨RX7, "refundAll", "(IZ)I"⟩
abbrev cX7_perform : ByteArray := prog_9_method_38_code
def yX7_perform : MethodName := ⟨RX7, "perform", "(I)V"⟩
abbrev cX7_play : ByteArray := prog_9_method_39_code
def yX7_play : MethodName := ⟨RX7, "play", "()I"⟩
abbrev cX7_day : ByteArray := prog_9_method_40_code
def yX7_day : MethodName := ⟨RX7, "day", "()I"⟩
abbrev cX7_stateOf : ByteArray := prog_9_method_41_code
def yX7_stateOf : MethodName := ⟨RX7, "stateOf", "(I)I"⟩
abbrev cX7_played : ByteArray := prog_9_method_42_code
def yX7_played : MethodName := ⟨RX7, "played", "(II)I"⟩
abbrev cX7_refund : ByteArray := prog_9_method_43_code
def yX7_refund : MethodName := ⟨RX7, "refund", "(I)I"⟩
abbrev cX7_takings : ByteArray := prog_9_method_44_code
def yX7_takings : MethodName := ⟨RX7, "takings", "()I"⟩
def RJ6 : String := "java/lang/Integer"
def TJ6 : u_T := fun k => match k with
  | _ => ("", "", "", false)
def tyJ6 : Nat → FieldType := fun k => match k with
  | _ => .int
abbrev wsJ60 : List Cond := u_ws RJ6 TJ6 0
theorem nmJ6 : ∀ a, a < 0 → ∀ b, b < 0 → a ≠ b → (TJ6 a).2.1 ≠ (TJ6 b).2.1 := by decide +kernel
theorem tyJ6_ok : ∀ k, k < 0 → parseFieldDescriptor (TJ6 k).2.2.1 = some (tyJ6 k) := by decide +kernel
abbrev cJ6_bitCount_0f7a4 : ByteArray := prog_14_method_49_code
def yJ6_bitCount_0f7a4 : MethodName := ⟨RJ6, "bitCount", "(I)I"⟩
def RJ9 : String := "java/lang/Math"
def TJ9 : u_T := fun k => match k with
  | _ => ("", "", "", false)
def tyJ9 : Nat → FieldType := fun k => match k with
  | _ => .int
abbrev wsJ90 : List Cond := u_ws RJ9 TJ9 0
theorem nmJ9 : ∀ a, a < 0 → ∀ b, b < 0 → a ≠ b → (TJ9 a).2.1 ≠ (TJ9 b).2.1 := by decide +kernel
theorem tyJ9_ok : ∀ k, k < 0 → parseFieldDescriptor (TJ9 k).2.2.1 = some (tyJ9 k) := by decide +kernel
abbrev cJ9_max_7cf53 : ByteArray := prog_15_method_65_code
def yJ9_max_7cf53 : MethodName := ⟨RJ9, "max", "(II)I"⟩
def RJ0 : String := "java/lang/String"
def TJ0 : u_T := fun k => match k with
  | _ => ("", "", "", false)
def tyJ0 : Nat → FieldType := fun k => match k with
  | _ => .int
abbrev wsJ00 : List Cond := u_ws RJ0 TJ0 0
theorem nmJ0 : ∀ a, a < 0 → ∀ b, b < 0 → a ≠ b → (TJ0 a).2.1 ≠ (TJ0 b).2.1 := by decide +kernel
theorem tyJ0_ok : ∀ k, k < 0 → parseFieldDescriptor (TJ0 k).2.2.1 = some (tyJ0 k) := by decide +kernel
def RL : String := "CastDeskLaw"
abbrev cL_setParts : ByteArray := method_3_code
def yL_setParts : MethodName := ⟨RL, "setParts", "(LCastDesk;I[J)I"⟩
abbrev cL_setSize : ByteArray := method_4_code
def yL_setSize : MethodName := ⟨RL, "setSize", "(LCastDesk;II[J)I"⟩
abbrev cL_learn : ByteArray := method_5_code
def yL_learn : MethodName := ⟨RL, "learn", "(LCastDesk;IIZ[J)I"⟩
abbrev cL_put : ByteArray := method_6_code
def yL_put : MethodName := ⟨RL, "put", "(LCastDesk;II[J)I"⟩
abbrev cL_take : ByteArray := method_7_code
def yL_take : MethodName := ⟨RL, "take", "(LCastDesk;II[J)I"⟩
abbrev cL_costume : ByteArray := method_8_code
def yL_costume : MethodName := ⟨RL, "costume", "(LCastDesk;II[J)I"⟩
abbrev cL_sizeOf : ByteArray := method_9_code
def yL_sizeOf : MethodName := ⟨RL, "sizeOf", "(LCastDesk;I[J)I"⟩
abbrev cL_cold : ByteArray := method_10_code
def yL_cold : MethodName := ⟨RL, "cold", "(LCastDesk;III[J)I"⟩
abbrev cL_isIll : ByteArray := method_11_code
def yL_isIll : MethodName := ⟨RL, "isIll", "(LCastDesk;II[J)I"⟩
abbrev cL_canPlay : ByteArray := method_12_code
def yL_canPlay : MethodName := ⟨RL, "canPlay", "(LCastDesk;III[J)I"⟩
abbrev cL_strain : ByteArray := method_13_code
def yL_strain : MethodName := ⟨RL, "strain", "(LCastDesk;I[J)I"⟩
abbrev cL_strainByAll : ByteArray := method_14_code
def yL_strainByAll : MethodName := ⟨RL, "strainByAll", "(LCastDesk;I[J)I"⟩
abbrev cL_work : ByteArray := method_15_code
def yL_work : MethodName := ⟨RL, "work", "(LCastDesk;I[J)I"⟩
abbrev cL_actorFor : ByteArray := method_16_code
def yL_actorFor : MethodName := ⟨RL, "actorFor", "(LCastDesk;II[J)I"⟩
abbrev cL_chain : ByteArray := method_17_code
def yL_chain : MethodName := ⟨RL, "chain", "(LCastDesk;II[J)I"⟩
abbrev cL_show : ByteArray := method_18_code
def yL_show : MethodName := ⟨RL, "show", "(LCastDesk;I[J)I"⟩
abbrev cL_sell : ByteArray := method_19_code
def yL_sell : MethodName := ⟨RL, "sell", "(LCastDesk;IIII[J)I"⟩
abbrev cL_play : ByteArray := method_20_code
def yL_play : MethodName := ⟨RL, "play", "(LCastDesk;[J)I"⟩
abbrev cL_stateOf : ByteArray := method_21_code
def yL_stateOf : MethodName := ⟨RL, "stateOf", "(LCastDesk;I[J)I"⟩
abbrev cL_played : ByteArray := method_22_code
def yL_played : MethodName := ⟨RL, "played", "(LCastDesk;II[J)I"⟩
abbrev cL_refund : ByteArray := method_23_code
def yL_refund : MethodName := ⟨RL, "refund", "(LCastDesk;I[J)I"⟩
abbrev cL_law : ByteArray := code
def yL_law : MethodName := ⟨RL, "law", "([I)Z"⟩
def wsX0_init : List Cond := .code yX0_init cX0_init 1 none :: ([.methodLink RX0 3 objectInit, .instanceMethod objectInit, .code objectInit ⟨#[0xb1]⟩ 1 none, .arrayClass .int, .fieldLink RX0 9 "CastDesk$BoxOffice" "shows" "[I", .fieldLink RX0 15 "CastDesk$BoxOffice" "promises" "[I", .fieldLink RX0 18 "CastDesk$BoxOffice" "parts" "[I", .fieldLink RX0 21 "CastDesk$BoxOffice" "stars" "[I", .fieldLink RX0 24 "CastDesk$BoxOffice" "refunds" "[I", .fieldLink RX0 27 "CastDesk$BoxOffice" "prices" "[I"] ++ wsX00)
def wsX0_add : List Cond := .code yX0_add cX0_add 6 (some .int) :: ([.fieldLink RX0 9 "CastDesk$BoxOffice" "shows" "[I", .fieldLink RX0 30 "CastDesk$BoxOffice" "count" "I", .fieldLink RX0 27 "CastDesk$BoxOffice" "prices" "[I", .fieldLink RX0 15 "CastDesk$BoxOffice" "promises" "[I", .fieldLink RX0 18 "CastDesk$BoxOffice" "parts" "[I", .fieldLink RX0 21 "CastDesk$BoxOffice" "stars" "[I", .fieldLink RX0 34 "CastDesk$BoxOffice" "money" "I"] ++ wsX00)
def wsX0_giveBack : List Cond := .code yX0_giveBack cX0_giveBack 4 (some .int) :: ([.fieldLink RX0 27 "CastDesk$BoxOffice" "prices" "[I", .fieldLink RX0 24 "CastDesk$BoxOffice" "refunds" "[I", .fieldLink RX0 34 "CastDesk$BoxOffice" "money" "I"] ++ wsX00)
def wsX1_init : List Cond := .code yX1_init cX1_init 2 none :: ([.methodLink RX1 5 objectInit, .instanceMethod objectInit, .code objectInit ⟨#[0xb1]⟩ 1 none, .arrayClass .int, .fieldLink RX1 11 "CastDesk$Casting" "actors" "[I", .fieldLink RX1 15 "CastDesk$Casting" "keys" "[I", .fieldLink RX1 18 "CastDesk$Casting" "leastOfSet" "[I"] ++ wsX10)
def wsX1_strainOf : List Cond := .code yX1_strainOf cX1_strainOf 1 (some .int) :: ([])
def wsX1_workOf : List Cond := .code yX1_workOf cX1_workOf 1 (some .int) :: ([])
def wsX1_rankShift : List Cond := .code yX1_rankShift cX1_rankShift 1 (some .int) :: ([])
def wsX1_rankOf : List Cond := .code yX1_rankOf cX1_rankOf 2 (some .int) :: ([.methodLink RX1 21 yX1_rankShift, .static yX1_rankShift, .initialized RX1, .code yX1_rankShift cX1_rankShift 1 (some .int)])
def wsX1_clear : List Cond := .code yX1_clear cX1_clear 2 none :: ([.fieldLink RX1 11 "CastDesk$Casting" "actors" "[I", .fieldLink RX1 25 "CastDesk$Casting" "setsBound" "I"] ++ wsX10)
def wsX1_offer : List Cond := .code yX1_offer cX1_offer 6 none :: ([.fieldLink RX1 11 "CastDesk$Casting" "actors" "[I", .fieldLink RX1 15 "CastDesk$Casting" "keys" "[I", .fieldLink RX1 25 "CastDesk$Casting" "setsBound" "I", .methodLink RX1 29 Lib.Math.max.name, .static Lib.Math.max.name, .initialized "java/lang/Math", .code Lib.Math.max.name Lib.Math.max.code 2 (some .int), .methodLink RX1 21 yX1_rankShift, .static yX1_rankShift, .initialized RX1, .code yX1_rankShift cX1_rankShift 1 (some .int)] ++ wsX10)
def wsJ6_bitCount_0f7a4 : List Cond := .code yJ6_bitCount_0f7a4 cJ6_bitCount_0f7a4 1 (some .int) :: ([.constant RJ6 265 (1431655765), .constant RJ6 266 (858993459), .constant RJ6 267 (252645135)])
def wsX6_has : List Cond := .code yX6_has cX6_has 2 (some .boolean) :: ([])
def wsX6_with : List Cond := .code yX6_with cX6_with 2 (some .int) :: ([])
def wsX1_castPart : List Cond := .code yX1_castPart cX1_castPart 9 none :: ([.fieldLink RX1 11 "CastDesk$Casting" "actors" "[I", .fieldLink RX1 15 "CastDesk$Casting" "keys" "[I", .fieldLink RX1 18 "CastDesk$Casting" "leastOfSet" "[I", .static yX6_has, .initialized RX6, .code yX6_has cX6_has 2 (some .boolean), .static yX6_with, .code yX6_with cX6_with 2 (some .int)] ++ wsX10)
def wsX1_leastKey : List Cond := .code yX1_leastKey cX1_leastKey 6 (some .int) :: ([.fieldLink RX1 18 "CastDesk$Casting" "leastOfSet" "[I", .fieldLink RX1 25 "CastDesk$Casting" "setsBound" "I", .methodLink RX1 35 yJ6_bitCount_0f7a4, .static yJ6_bitCount_0f7a4, .initialized RJ6, .code yJ6_bitCount_0f7a4 cJ6_bitCount_0f7a4 1 (some .int), .constant RJ6 265 (1431655765), .constant RJ6 266 (858993459), .constant RJ6 267 (252645135), .methodLink RX1 40 yX1_castPart, .instanceMethod yX1_castPart, .selects RX1 yX1_castPart yX1_castPart, .initialized RX1, .code yX1_castPart cX1_castPart 9 none, .fieldLink RX1 11 "CastDesk$Casting" "actors" "[I", .fieldLink RX1 15 "CastDesk$Casting" "keys" "[I", .static yX6_has, .initialized RX6, .code yX6_has cX6_has 2 (some .boolean), .static yX6_with, .code yX6_with cX6_with 2 (some .int)] ++ wsX10)
def wsX1_leastFrom : List Cond := .code yX1_leastFrom cX1_leastFrom 8 (some .int) :: ([.static yX6_has, .initialized RX6, .code yX6_has cX6_has 2 (some .boolean), .static yX6_with, .code yX6_with cX6_with 2 (some .int), .methodLink RX1 51 yX1_leastFrom, .static yX1_leastFrom, .initialized RX1])
def wsX1_leastStrain : List Cond := .code yX1_leastStrain cX1_leastStrain 2 (some .int) :: ([.fieldLink RX1 11 "CastDesk$Casting" "actors" "[I", .methodLink RX1 51 yX1_leastFrom, .static yX1_leastFrom, .initialized RX1, .code yX1_leastFrom cX1_leastFrom 8 (some .int), .static yX6_has, .initialized RX6, .code yX6_has cX6_has 2 (some .boolean), .static yX6_with, .code yX6_with cX6_with 2 (some .int)] ++ wsX10)
def wsX2_init : List Cond := .code yX2_init cX2_init 2 none :: ([.methodLink RX2 3 objectInit, .instanceMethod objectInit, .code objectInit ⟨#[0xb1]⟩ 1 none, .arrayClass .int, .fieldLink RX2 9 "CastDesk$Programme" "states" "[I", .fieldLink RX2 15 "CastDesk$Programme" "casts" "[I", .fieldLink RX2 18 "CastDesk$Programme" "days" "[I"] ++ wsX20)
def wsX2_showOn : List Cond := .code yX2_showOn cX2_showOn 3 (some .int) :: ([.fieldLink RX2 21 "CastDesk$Programme" "count" "I", .fieldLink RX2 18 "CastDesk$Programme" "days" "[I"] ++ wsX20)
def wsX2_add : List Cond := .code yX2_add cX2_add 2 (some .int) :: ([.fieldLink RX2 18 "CastDesk$Programme" "days" "[I", .fieldLink RX2 21 "CastDesk$Programme" "count" "I", .fieldLink RX2 9 "CastDesk$Programme" "states" "[I"] ++ wsX20)
def wsX3_init : List Cond := .code yX3_init cX3_init 1 none :: ([.methodLink RX3 3 objectInit, .instanceMethod objectInit, .code objectInit ⟨#[0xb1]⟩ 1 none, .arrayClass .int, .fieldLink RX3 9 "CastDesk$Rows" "actors" "[I", .fieldLink RX3 15 "CastDesk$Rows" "lengths" "[I"] ++ wsX30)
def wsX3_actorAt : List Cond := .code yX3_actorAt cX3_actorAt 3 (some .int) :: ([.fieldLink RX3 15 "CastDesk$Rows" "lengths" "[I", .fieldLink RX3 9 "CastDesk$Rows" "actors" "[I"] ++ wsX30)
def wsX3_rankIn : List Cond := .code yX3_rankIn cX3_rankIn 4 (some .int) :: ([.fieldLink RX3 15 "CastDesk$Rows" "lengths" "[I", .fieldLink RX3 9 "CastDesk$Rows" "actors" "[I"] ++ wsX30)
def wsX3_isFull : List Cond := .code yX3_isFull cX3_isFull 2 (some .boolean) :: ([.fieldLink RX3 15 "CastDesk$Rows" "lengths" "[I"] ++ wsX30)
def wsX3_append : List Cond := .code yX3_append cX3_append 4 (some .int) :: ([.fieldLink RX3 15 "CastDesk$Rows" "lengths" "[I", .fieldLink RX3 9 "CastDesk$Rows" "actors" "[I"] ++ wsX30)
def wsX3_remove : List Cond := .code yX3_remove cX3_remove 4 none :: ([.fieldLink RX3 15 "CastDesk$Rows" "lengths" "[I", .fieldLink RX3 9 "CastDesk$Rows" "actors" "[I"] ++ wsX30)
def wsX4_init : List Cond := .code yX4_init cX4_init 2 none :: ([.methodLink RX4 3 objectInit, .instanceMethod objectInit, .code objectInit ⟨#[0xb1]⟩ 1 none, .arrayClass .int, .fieldLink RX4 9 "CastDesk$Troupe" "sizes" "[I", .fieldLink RX4 15 "CastDesk$Troupe" "known" "[I", .fieldLink RX4 18 "CastDesk$Troupe" "ill" "[I"] ++ wsX40)
def wsX4_fallIll : List Cond := .code yX4_fallIll cX4_fallIll 6 (some .int) :: ([.fieldLink RX4 18 "CastDesk$Troupe" "ill" "[I", .static yX6_has, .initialized RX6, .code yX6_has cX6_has 2 (some .boolean), .static yX6_with, .code yX6_with cX6_with 2 (some .int)] ++ wsX40)
def wsX5_init : List Cond := .code yX5_init cX5_init 1 none :: ([.methodLink RX5 3 objectInit, .instanceMethod objectInit, .code objectInit ⟨#[0xb1]⟩ 1 none, .arrayClass .int, .fieldLink RX5 9 "CastDesk$Wardrobe" "sizes" "[I", .fieldLink RX5 15 "CastDesk$Wardrobe" "parts" "[I", .arrayClass .boolean, .fieldLink RX5 18 "CastDesk$Wardrobe" "isLetOut" "[Z"] ++ wsX50)
def wsX5_add : List Cond := .code yX5_add cX5_add 3 (some .int) :: ([.fieldLink RX5 15 "CastDesk$Wardrobe" "parts" "[I", .fieldLink RX5 22 "CastDesk$Wardrobe" "count" "I", .fieldLink RX5 9 "CastDesk$Wardrobe" "sizes" "[I"] ++ wsX50)
def wsX5_lowestFitting : List Cond := .code yX5_lowestFitting cX5_lowestFitting 4 (some .int) :: ([.fieldLink RX5 22 "CastDesk$Wardrobe" "count" "I", .fieldLink RX5 15 "CastDesk$Wardrobe" "parts" "[I", .fieldLink RX5 9 "CastDesk$Wardrobe" "sizes" "[I"] ++ wsX50)
def wsX5_lowestToLetOut : List Cond := .code yX5_lowestToLetOut cX5_lowestToLetOut 4 (some .int) :: ([.fieldLink RX5 22 "CastDesk$Wardrobe" "count" "I", .fieldLink RX5 15 "CastDesk$Wardrobe" "parts" "[I", .fieldLink RX5 9 "CastDesk$Wardrobe" "sizes" "[I", .fieldLink RX5 18 "CastDesk$Wardrobe" "isLetOut" "[Z"] ++ wsX50)
def wsX5_letOut : List Cond := .code yX5_letOut cX5_letOut 2 none :: ([.fieldLink RX5 9 "CastDesk$Wardrobe" "sizes" "[I", .fieldLink RX5 18 "CastDesk$Wardrobe" "isLetOut" "[Z"] ++ wsX50)
def wsX6_init_r1 : List Cond := [Cond.methodLink RX6 1 objectInit, Cond.instanceMethod objectInit, Cond.code objectInit ⟨#[0xb1]⟩ 1 none, Cond.classLink RX6 7 RX4, Cond.instantiable RX4 3, Cond.initialized RX4, Cond.fieldLink RX6 10 "CastDesk" "troupe" "LCastDesk$Troupe;", Cond.classLink RX6 16 RX3, Cond.instantiable RX3 2, Cond.initialized RX3, Cond.fieldLink RX6 19 "CastDesk" "rows" "LCastDesk$Rows;", Cond.classLink RX6 23 RX5, Cond.instantiable RX5 4, Cond.initialized RX5, Cond.fieldLink RX6 26 "CastDesk" "wardrobe" "LCastDesk$Wardrobe;", Cond.classLink RX6 30 RX1, Cond.instantiable RX1 4, Cond.initialized RX1, Cond.fieldLink RX6 33 "CastDesk" "casting" "LCastDesk$Casting;", Cond.classLink RX6 37 RX2, Cond.instantiable RX2 4, Cond.initialized RX2, Cond.fieldLink RX6 40 "CastDesk" "programme" "LCastDesk$Programme;", Cond.classLink RX6 44 RX0]
def wsX6_init_r2 : List Cond := [Cond.instantiable RX0 8, Cond.initialized RX0, Cond.fieldLink RX6 47 "CastDesk" "office" "LCastDesk$BoxOffice;", Cond.fieldLink RX6 51 "CastDesk" "partCount" "I", Cond.fieldLink RX6 55 "CastDesk" "today" "I", Cond.methodLink RX6 9 yX4_init, Cond.instanceMethod yX4_init, Cond.code yX4_init cX4_init 2 none, Cond.methodLink RX4 3 objectInit, Cond.arrayClass .int, Cond.fieldLink RX4 9 "CastDesk$Troupe" "sizes" "[I", Cond.fieldLink RX4 15 "CastDesk$Troupe" "known" "[I", Cond.fieldLink RX4 18 "CastDesk$Troupe" "ill" "[I", Cond.instanceMethod yX3_init, Cond.code yX3_init cX3_init 1 none, Cond.methodLink RX3 3 objectInit, Cond.fieldLink RX3 9 "CastDesk$Rows" "actors" "[I", Cond.fieldLink RX3 15 "CastDesk$Rows" "lengths" "[I", Cond.instanceMethod yX5_init, Cond.code yX5_init cX5_init 1 none, Cond.methodLink RX5 3 objectInit, Cond.fieldLink RX5 9 "CastDesk$Wardrobe" "sizes" "[I", Cond.fieldLink RX5 15 "CastDesk$Wardrobe" "parts" "[I", Cond.arrayClass .boolean]
def wsX6_init_r3 : List Cond := [Cond.fieldLink RX5 18 "CastDesk$Wardrobe" "isLetOut" "[Z", Cond.methodLink RX6 32 yX1_init, Cond.instanceMethod yX1_init, Cond.code yX1_init cX1_init 2 none, Cond.methodLink RX1 5 objectInit, Cond.fieldLink RX1 11 "CastDesk$Casting" "actors" "[I", Cond.fieldLink RX1 15 "CastDesk$Casting" "keys" "[I", Cond.fieldLink RX1 18 "CastDesk$Casting" "leastOfSet" "[I", Cond.methodLink RX6 39 yX2_init, Cond.instanceMethod yX2_init, Cond.code yX2_init cX2_init 2 none, Cond.methodLink RX2 3 objectInit, Cond.fieldLink RX2 9 "CastDesk$Programme" "states" "[I", Cond.fieldLink RX2 15 "CastDesk$Programme" "casts" "[I", Cond.fieldLink RX2 18 "CastDesk$Programme" "days" "[I", Cond.instanceMethod yX0_init, Cond.code yX0_init cX0_init 1 none, Cond.methodLink RX0 3 objectInit, Cond.fieldLink RX0 9 "CastDesk$BoxOffice" "shows" "[I", Cond.fieldLink RX0 15 "CastDesk$BoxOffice" "promises" "[I", Cond.fieldLink RX0 18 "CastDesk$BoxOffice" "parts" "[I", Cond.fieldLink RX0 21 "CastDesk$BoxOffice" "stars" "[I", Cond.fieldLink RX0 24 "CastDesk$BoxOffice" "refunds" "[I", Cond.fieldLink RX0 27 "CastDesk$BoxOffice" "prices" "[I"]
def wsX6_init : List Cond := .code yX6_init cX6_init 1 none :: ((wsX6_init_r1 ++ (wsX6_init_r2 ++ wsX6_init_r3)) ++ wsX40 ++ wsX60 ++ wsX30 ++ wsX50 ++ wsX10 ++ wsX20 ++ wsX00)
def wsX6_setParts : List Cond := .code yX6_setParts cX6_setParts 3 (some .int) :: ([.classLink RX6 58 "java/lang/IllegalArgumentException", .initialized "java/lang/IllegalArgumentException", .fieldLink RX6 51 "CastDesk" "partCount" "I"] ++ wsX60 ++ (vx_atS RX6 62 "java/lang/IllegalArgumentException" ["java/lang/RuntimeException", "java/lang/Exception"]).filter goodWord)
def wsX6_needActor : List Cond := .code yX6_needActor cX6_needActor 1 none :: ([.classLink RX6 215 "java/lang/IndexOutOfBoundsException", .initialized "java/lang/IndexOutOfBoundsException"] ++ (vx_atS RX6 219 "java/lang/IndexOutOfBoundsException" ["java/lang/RuntimeException", "java/lang/Exception"]).filter goodWord)
def wsX6_needSize : List Cond := .code yX6_needSize cX6_needSize 1 none :: ([.classLink RX6 58 "java/lang/IllegalArgumentException", .initialized "java/lang/IllegalArgumentException"] ++ (vx_atS RX6 62 "java/lang/IllegalArgumentException" ["java/lang/RuntimeException", "java/lang/Exception"]).filter goodWord)
def wsX6_setSize : List Cond := .code yX6_setSize cX6_setSize 4 (some .int) :: ([.fieldLink RX6 10 "CastDesk" "troupe" "LCastDesk$Troupe;", .fieldLink RX6 72 "CastDesk$Troupe" "sizes" "[I", .methodLink RX6 65 yX6_needActor, .static yX6_needActor, .initialized RX6, .code yX6_needActor cX6_needActor 1 none, .classLink RX6 215 "java/lang/IndexOutOfBoundsException", .initialized "java/lang/IndexOutOfBoundsException", .methodLink RX6 69 yX6_needSize, .static yX6_needSize, .code yX6_needSize cX6_needSize 1 none, .classLink RX6 58 "java/lang/IllegalArgumentException", .initialized "java/lang/IllegalArgumentException"] ++ wsX60 ++ wsX40 ++ (vx_atS RX6 219 "java/lang/IndexOutOfBoundsException" ["java/lang/RuntimeException", "java/lang/Exception"]).filter goodWord ++ (vx_atS RX6 62 "java/lang/IllegalArgumentException" ["java/lang/RuntimeException", "java/lang/Exception"]).filter goodWord)
def wsX6_needPart : List Cond := .code yX6_needPart cX6_needPart 1 none :: ([.classLink RX6 215 "java/lang/IndexOutOfBoundsException", .initialized "java/lang/IndexOutOfBoundsException"] ++ (vx_atS RX6 219 "java/lang/IndexOutOfBoundsException" ["java/lang/RuntimeException", "java/lang/Exception"]).filter goodWord)
def wsX6_without : List Cond := .code yX6_without cX6_without 2 (some .int) :: ([])
def wsX6_learn_r1 : List Cond := [Cond.classLink RX6 95 "java/lang/IllegalStateException", Cond.initialized "java/lang/IllegalStateException", Cond.fieldLink RX6 10 "CastDesk" "troupe" "LCastDesk$Troupe;", Cond.fieldLink RX6 79 "CastDesk$Troupe" "known" "[I", Cond.methodLink RX6 65 yX6_needActor, Cond.static yX6_needActor, Cond.initialized RX6, Cond.code yX6_needActor cX6_needActor 1 none, Cond.classLink RX6 215 "java/lang/IndexOutOfBoundsException", Cond.initialized "java/lang/IndexOutOfBoundsException", Cond.methodLink RX6 76 yX6_needPart, Cond.static yX6_needPart, Cond.code yX6_needPart cX6_needPart 1 none, Cond.methodLink RX6 82 yX6_with, Cond.static yX6_with, Cond.code yX6_with cX6_with 2 (some .int), Cond.methodLink RX6 86 yX6_without, Cond.static yX6_without, Cond.code yX6_without cX6_without 2 (some .int), Cond.methodLink RX6 89 yJ6_bitCount_0f7a4, Cond.static yJ6_bitCount_0f7a4, Cond.initialized RJ6, Cond.code yJ6_bitCount_0f7a4 cJ6_bitCount_0f7a4 1 (some .int), Cond.constant RJ6 265 (1431655765)]
def wsX6_learn_r2 : List Cond := [Cond.constant RJ6 266 (858993459), Cond.constant RJ6 267 (252645135)]
def wsX6_learn : List Cond := .code yX6_learn cX6_learn 6 (some .int) :: ((wsX6_learn_r1 ++ wsX6_learn_r2) ++ wsX60 ++ wsX40 ++ (vx_atS RX6 99 "java/lang/IllegalStateException" ["java/lang/RuntimeException", "java/lang/Exception"]).filter goodWord ++ (vx_atS RX6 219 "java/lang/IndexOutOfBoundsException" ["java/lang/RuntimeException", "java/lang/Exception"]).filter goodWord)
def wsX6_put_r1 : List Cond := [Cond.classLink RX6 95 "java/lang/IllegalStateException", Cond.initialized "java/lang/IllegalStateException", Cond.fieldLink RX6 19 "CastDesk" "rows" "LCastDesk$Rows;", Cond.methodLink RX6 76 yX6_needPart, Cond.static yX6_needPart, Cond.initialized RX6, Cond.code yX6_needPart cX6_needPart 1 none, Cond.classLink RX6 215 "java/lang/IndexOutOfBoundsException", Cond.initialized "java/lang/IndexOutOfBoundsException", Cond.methodLink RX6 65 yX6_needActor, Cond.static yX6_needActor, Cond.code yX6_needActor cX6_needActor 1 none, Cond.methodLink RX6 100 yX3_rankIn, Cond.instanceMethod yX3_rankIn, Cond.selects RX3 yX3_rankIn yX3_rankIn, Cond.initialized RX3, Cond.code yX3_rankIn cX3_rankIn 4 (some .int), Cond.fieldLink RX3 15 "CastDesk$Rows" "lengths" "[I", Cond.fieldLink RX3 9 "CastDesk$Rows" "actors" "[I", Cond.methodLink RX6 105 yX3_isFull, Cond.instanceMethod yX3_isFull, Cond.selects RX3 yX3_isFull yX3_isFull, Cond.code yX3_isFull cX3_isFull 2 (some .boolean), Cond.methodLink RX6 111 yX3_append]
def wsX6_put_r2 : List Cond := [Cond.instanceMethod yX3_append, Cond.selects RX3 yX3_append yX3_append, Cond.code yX3_append cX3_append 4 (some .int)]
def wsX6_put : List Cond := .code yX6_put cX6_put 3 (some .int) :: ((wsX6_put_r1 ++ wsX6_put_r2) ++ wsX60 ++ wsX30 ++ (vx_atS RX6 99 "java/lang/IllegalStateException" ["java/lang/RuntimeException", "java/lang/Exception"]).filter goodWord ++ (vx_atS RX6 219 "java/lang/IndexOutOfBoundsException" ["java/lang/RuntimeException", "java/lang/Exception"]).filter goodWord)
def wsX6_take : List Cond := .code yX6_take cX6_take 4 (some .int) :: ([.classLink RX6 95 "java/lang/IllegalStateException", .initialized "java/lang/IllegalStateException", .fieldLink RX6 19 "CastDesk" "rows" "LCastDesk$Rows;", .methodLink RX6 76 yX6_needPart, .static yX6_needPart, .initialized RX6, .code yX6_needPart cX6_needPart 1 none, .classLink RX6 215 "java/lang/IndexOutOfBoundsException", .initialized "java/lang/IndexOutOfBoundsException", .methodLink RX6 65 yX6_needActor, .static yX6_needActor, .code yX6_needActor cX6_needActor 1 none, .methodLink RX6 100 yX3_rankIn, .instanceMethod yX3_rankIn, .selects RX3 yX3_rankIn yX3_rankIn, .initialized RX3, .code yX3_rankIn cX3_rankIn 4 (some .int), .fieldLink RX3 15 "CastDesk$Rows" "lengths" "[I", .fieldLink RX3 9 "CastDesk$Rows" "actors" "[I", .methodLink RX6 116 yX3_remove, .instanceMethod yX3_remove, .selects RX3 yX3_remove yX3_remove, .code yX3_remove cX3_remove 4 none] ++ wsX60 ++ wsX30 ++ (vx_atS RX6 99 "java/lang/IllegalStateException" ["java/lang/RuntimeException", "java/lang/Exception"]).filter goodWord ++ (vx_atS RX6 219 "java/lang/IndexOutOfBoundsException" ["java/lang/RuntimeException", "java/lang/Exception"]).filter goodWord)
def wsX6_costume : List Cond := .code yX6_costume cX6_costume 3 (some .int) :: ([.classLink RX6 95 "java/lang/IllegalStateException", .initialized "java/lang/IllegalStateException", .fieldLink RX6 26 "CastDesk" "wardrobe" "LCastDesk$Wardrobe;", .fieldLink RX6 120 "CastDesk$Wardrobe" "count" "I", .methodLink RX6 76 yX6_needPart, .static yX6_needPart, .initialized RX6, .code yX6_needPart cX6_needPart 1 none, .classLink RX6 215 "java/lang/IndexOutOfBoundsException", .initialized "java/lang/IndexOutOfBoundsException", .methodLink RX6 69 yX6_needSize, .static yX6_needSize, .code yX6_needSize cX6_needSize 1 none, .classLink RX6 58 "java/lang/IllegalArgumentException", .initialized "java/lang/IllegalArgumentException", .methodLink RX6 125 yX5_add, .instanceMethod yX5_add, .selects RX5 yX5_add yX5_add, .initialized RX5, .code yX5_add cX5_add 3 (some .int), .fieldLink RX5 15 "CastDesk$Wardrobe" "parts" "[I", .fieldLink RX5 22 "CastDesk$Wardrobe" "count" "I", .fieldLink RX5 9 "CastDesk$Wardrobe" "sizes" "[I"] ++ wsX60 ++ wsX50 ++ (vx_atS RX6 99 "java/lang/IllegalStateException" ["java/lang/RuntimeException", "java/lang/Exception"]).filter goodWord ++ (vx_atS RX6 219 "java/lang/IndexOutOfBoundsException" ["java/lang/RuntimeException", "java/lang/Exception"]).filter goodWord ++ (vx_atS RX6 62 "java/lang/IllegalArgumentException" ["java/lang/RuntimeException", "java/lang/Exception"]).filter goodWord)
def wsX6_needOneOf : List Cond := .code yX6_needOneOf cX6_needOneOf 2 none :: ([.classLink RX6 215 "java/lang/IndexOutOfBoundsException", .initialized "java/lang/IndexOutOfBoundsException"] ++ (vx_atS RX6 219 "java/lang/IndexOutOfBoundsException" ["java/lang/RuntimeException", "java/lang/Exception"]).filter goodWord)
def wsX6_sizeOf : List Cond := .code yX6_sizeOf cX6_sizeOf 2 (some .int) :: ([.fieldLink RX6 26 "CastDesk" "wardrobe" "LCastDesk$Wardrobe;", .fieldLink RX6 120 "CastDesk$Wardrobe" "count" "I", .fieldLink RX6 131 "CastDesk$Wardrobe" "sizes" "[I", .methodLink RX6 128 yX6_needOneOf, .static yX6_needOneOf, .initialized RX6, .code yX6_needOneOf cX6_needOneOf 2 none, .classLink RX6 215 "java/lang/IndexOutOfBoundsException", .initialized "java/lang/IndexOutOfBoundsException"] ++ wsX60 ++ wsX50 ++ (vx_atS RX6 219 "java/lang/IndexOutOfBoundsException" ["java/lang/RuntimeException", "java/lang/Exception"]).filter goodWord)
def wsX6_needDay : List Cond := .code yX6_needDay cX6_needDay 2 none :: ([.classLink RX6 58 "java/lang/IllegalArgumentException", .initialized "java/lang/IllegalArgumentException"] ++ (vx_atS RX6 62 "java/lang/IllegalArgumentException" ["java/lang/RuntimeException", "java/lang/Exception"]).filter goodWord)
def wsX6_cold : List Cond := .code yX6_cold cX6_cold 4 (some .int) :: ([.fieldLink RX6 55 "CastDesk" "today" "I", .fieldLink RX6 10 "CastDesk" "troupe" "LCastDesk$Troupe;", .methodLink RX6 65 yX6_needActor, .static yX6_needActor, .initialized RX6, .code yX6_needActor cX6_needActor 1 none, .classLink RX6 215 "java/lang/IndexOutOfBoundsException", .initialized "java/lang/IndexOutOfBoundsException", .methodLink RX6 132 yX6_needDay, .static yX6_needDay, .code yX6_needDay cX6_needDay 2 none, .classLink RX6 58 "java/lang/IllegalArgumentException", .initialized "java/lang/IllegalArgumentException", .methodLink RX6 135 yX4_fallIll, .instanceMethod yX4_fallIll, .selects RX4 yX4_fallIll yX4_fallIll, .initialized RX4, .code yX4_fallIll cX4_fallIll 6 (some .int), .fieldLink RX4 18 "CastDesk$Troupe" "ill" "[I", .static yX6_has, .code yX6_has cX6_has 2 (some .boolean), .static yX6_with, .code yX6_with cX6_with 2 (some .int)] ++ wsX60 ++ wsX40 ++ (vx_atS RX6 219 "java/lang/IndexOutOfBoundsException" ["java/lang/RuntimeException", "java/lang/Exception"]).filter goodWord ++ (vx_atS RX6 62 "java/lang/IllegalArgumentException" ["java/lang/RuntimeException", "java/lang/Exception"]).filter goodWord)
def wsX6_isIll : List Cond := .code yX6_isIll cX6_isIll 3 (some .boolean) :: ([.fieldLink RX6 10 "CastDesk" "troupe" "LCastDesk$Troupe;", .fieldLink RX6 139 "CastDesk$Troupe" "ill" "[I", .methodLink RX6 65 yX6_needActor, .static yX6_needActor, .initialized RX6, .code yX6_needActor cX6_needActor 1 none, .classLink RX6 215 "java/lang/IndexOutOfBoundsException", .initialized "java/lang/IndexOutOfBoundsException", .methodLink RX6 132 yX6_needDay, .static yX6_needDay, .code yX6_needDay cX6_needDay 2 none, .classLink RX6 58 "java/lang/IllegalArgumentException", .initialized "java/lang/IllegalArgumentException", .methodLink RX6 142 yX6_has, .static yX6_has, .code yX6_has cX6_has 2 (some .boolean)] ++ wsX60 ++ wsX40 ++ (vx_atS RX6 219 "java/lang/IndexOutOfBoundsException" ["java/lang/RuntimeException", "java/lang/Exception"]).filter goodWord ++ (vx_atS RX6 62 "java/lang/IllegalArgumentException" ["java/lang/RuntimeException", "java/lang/Exception"]).filter goodWord)
def wsX6_isReady : List Cond := .code yX6_isReady cX6_isReady 5 (some .boolean) :: ([.fieldLink RX6 10 "CastDesk" "troupe" "LCastDesk$Troupe;", .fieldLink RX6 72 "CastDesk$Troupe" "sizes" "[I", .fieldLink RX6 79 "CastDesk$Troupe" "known" "[I", .fieldLink RX6 26 "CastDesk" "wardrobe" "LCastDesk$Wardrobe;", .methodLink RX6 142 yX6_has, .static yX6_has, .initialized RX6, .code yX6_has cX6_has 2 (some .boolean), .methodLink RX6 228 yX5_lowestFitting, .instanceMethod yX5_lowestFitting, .selects RX5 yX5_lowestFitting yX5_lowestFitting, .initialized RX5, .code yX5_lowestFitting cX5_lowestFitting 4 (some .int), .fieldLink RX5 22 "CastDesk$Wardrobe" "count" "I", .fieldLink RX5 15 "CastDesk$Wardrobe" "parts" "[I", .fieldLink RX5 9 "CastDesk$Wardrobe" "sizes" "[I", .methodLink RX6 231 yX5_lowestToLetOut, .instanceMethod yX5_lowestToLetOut, .selects RX5 yX5_lowestToLetOut yX5_lowestToLetOut, .code yX5_lowestToLetOut cX5_lowestToLetOut 4 (some .int), .fieldLink RX5 18 "CastDesk$Wardrobe" "isLetOut" "[Z"] ++ wsX60 ++ wsX40 ++ wsX50)
def wsX6_canPlay_r1 : List Cond := [Cond.fieldLink RX6 19 "CastDesk" "rows" "LCastDesk$Rows;", Cond.fieldLink RX6 10 "CastDesk" "troupe" "LCastDesk$Troupe;", Cond.fieldLink RX6 139 "CastDesk$Troupe" "ill" "[I", Cond.methodLink RX6 65 yX6_needActor, Cond.static yX6_needActor, Cond.initialized RX6, Cond.code yX6_needActor cX6_needActor 1 none, Cond.classLink RX6 215 "java/lang/IndexOutOfBoundsException", Cond.initialized "java/lang/IndexOutOfBoundsException", Cond.methodLink RX6 76 yX6_needPart, Cond.static yX6_needPart, Cond.code yX6_needPart cX6_needPart 1 none, Cond.methodLink RX6 132 yX6_needDay, Cond.static yX6_needDay, Cond.code yX6_needDay cX6_needDay 2 none, Cond.classLink RX6 58 "java/lang/IllegalArgumentException", Cond.initialized "java/lang/IllegalArgumentException", Cond.methodLink RX6 100 yX3_rankIn, Cond.instanceMethod yX3_rankIn, Cond.selects RX3 yX3_rankIn yX3_rankIn, Cond.initialized RX3, Cond.code yX3_rankIn cX3_rankIn 4 (some .int), Cond.fieldLink RX3 15 "CastDesk$Rows" "lengths" "[I", Cond.fieldLink RX3 9 "CastDesk$Rows" "actors" "[I"]
def wsX6_canPlay_r2 : List Cond := [Cond.methodLink RX6 146 yX6_isReady, Cond.instanceMethod yX6_isReady, Cond.selects RX6 yX6_isReady yX6_isReady, Cond.code yX6_isReady cX6_isReady 5 (some .boolean), Cond.fieldLink RX6 72 "CastDesk$Troupe" "sizes" "[I", Cond.fieldLink RX6 79 "CastDesk$Troupe" "known" "[I", Cond.fieldLink RX6 26 "CastDesk" "wardrobe" "LCastDesk$Wardrobe;", Cond.methodLink RX6 142 yX6_has, Cond.static yX6_has, Cond.code yX6_has cX6_has 2 (some .boolean), Cond.methodLink RX6 228 yX5_lowestFitting, Cond.instanceMethod yX5_lowestFitting, Cond.selects RX5 yX5_lowestFitting yX5_lowestFitting, Cond.initialized RX5, Cond.code yX5_lowestFitting cX5_lowestFitting 4 (some .int), Cond.fieldLink RX5 22 "CastDesk$Wardrobe" "count" "I", Cond.fieldLink RX5 15 "CastDesk$Wardrobe" "parts" "[I", Cond.fieldLink RX5 9 "CastDesk$Wardrobe" "sizes" "[I", Cond.methodLink RX6 231 yX5_lowestToLetOut, Cond.instanceMethod yX5_lowestToLetOut, Cond.selects RX5 yX5_lowestToLetOut yX5_lowestToLetOut, Cond.code yX5_lowestToLetOut cX5_lowestToLetOut 4 (some .int), Cond.fieldLink RX5 18 "CastDesk$Wardrobe" "isLetOut" "[Z"]
def wsX6_canPlay : List Cond := .code yX6_canPlay cX6_canPlay 4 (some .boolean) :: ((wsX6_canPlay_r1 ++ wsX6_canPlay_r2) ++ wsX60 ++ wsX40 ++ wsX30 ++ wsX50 ++ (vx_atS RX6 219 "java/lang/IndexOutOfBoundsException" ["java/lang/RuntimeException", "java/lang/Exception"]).filter goodWord ++ (vx_atS RX6 62 "java/lang/IllegalArgumentException" ["java/lang/RuntimeException", "java/lang/Exception"]).filter goodWord)
def wsX6_offerActors_r1 : List Cond := [Cond.fieldLink RX6 33 "CastDesk" "casting" "LCastDesk$Casting;", Cond.fieldLink RX6 51 "CastDesk" "partCount" "I", Cond.fieldLink RX6 19 "CastDesk" "rows" "LCastDesk$Rows;", Cond.fieldLink RX6 26 "CastDesk" "wardrobe" "LCastDesk$Wardrobe;", Cond.fieldLink RX6 10 "CastDesk" "troupe" "LCastDesk$Troupe;", Cond.fieldLink RX6 72 "CastDesk$Troupe" "sizes" "[I", Cond.methodLink RX6 234 yX1_clear, Cond.instanceMethod yX1_clear, Cond.selects RX1 yX1_clear yX1_clear, Cond.initialized RX1, Cond.code yX1_clear cX1_clear 2 none, Cond.fieldLink RX1 11 "CastDesk$Casting" "actors" "[I", Cond.fieldLink RX1 25 "CastDesk$Casting" "setsBound" "I", Cond.methodLink RX6 193 yX3_actorAt, Cond.instanceMethod yX3_actorAt, Cond.selects RX3 yX3_actorAt yX3_actorAt, Cond.initialized RX3, Cond.code yX3_actorAt cX3_actorAt 3 (some .int), Cond.fieldLink RX3 15 "CastDesk$Rows" "lengths" "[I", Cond.fieldLink RX3 9 "CastDesk$Rows" "actors" "[I", Cond.methodLink RX6 146 yX6_isReady, Cond.instanceMethod yX6_isReady, Cond.selects RX6 yX6_isReady yX6_isReady, Cond.initialized RX6]
def wsX6_offerActors_r2 : List Cond := [Cond.code yX6_isReady cX6_isReady 5 (some .boolean), Cond.fieldLink RX6 79 "CastDesk$Troupe" "known" "[I", Cond.methodLink RX6 142 yX6_has, Cond.static yX6_has, Cond.code yX6_has cX6_has 2 (some .boolean), Cond.methodLink RX6 228 yX5_lowestFitting, Cond.instanceMethod yX5_lowestFitting, Cond.selects RX5 yX5_lowestFitting yX5_lowestFitting, Cond.initialized RX5, Cond.code yX5_lowestFitting cX5_lowestFitting 4 (some .int), Cond.fieldLink RX5 22 "CastDesk$Wardrobe" "count" "I", Cond.fieldLink RX5 15 "CastDesk$Wardrobe" "parts" "[I", Cond.fieldLink RX5 9 "CastDesk$Wardrobe" "sizes" "[I", Cond.methodLink RX6 231 yX5_lowestToLetOut, Cond.instanceMethod yX5_lowestToLetOut, Cond.selects RX5 yX5_lowestToLetOut yX5_lowestToLetOut, Cond.code yX5_lowestToLetOut cX5_lowestToLetOut 4 (some .int), Cond.fieldLink RX5 18 "CastDesk$Wardrobe" "isLetOut" "[Z", Cond.methodLink RX6 237 yX1_offer, Cond.instanceMethod yX1_offer, Cond.selects RX1 yX1_offer yX1_offer, Cond.code yX1_offer cX1_offer 6 none, Cond.fieldLink RX1 15 "CastDesk$Casting" "keys" "[I", Cond.methodLink RX1 29 Lib.Math.max.name]
def wsX6_offerActors_r3 : List Cond := [Cond.static Lib.Math.max.name, Cond.initialized "java/lang/Math", Cond.code Lib.Math.max.name Lib.Math.max.code 2 (some .int), Cond.methodLink RX1 21 yX1_rankShift, Cond.static yX1_rankShift, Cond.code yX1_rankShift cX1_rankShift 1 (some .int)]
def wsX6_offerActors : List Cond := .code yX6_offerActors cX6_offerActors 6 none :: ((wsX6_offerActors_r1 ++ (wsX6_offerActors_r2 ++ wsX6_offerActors_r3)) ++ wsX60 ++ wsX40 ++ wsX10 ++ wsX30 ++ wsX50)
def wsX6_bestCast_r1 : List Cond := [Cond.fieldLink RX6 33 "CastDesk" "casting" "LCastDesk$Casting;", Cond.fieldLink RX6 51 "CastDesk" "partCount" "I", Cond.methodLink RX6 156 yX6_offerActors, Cond.instanceMethod yX6_offerActors, Cond.selects RX6 yX6_offerActors yX6_offerActors, Cond.initialized RX6, Cond.code yX6_offerActors cX6_offerActors 6 none, Cond.fieldLink RX6 19 "CastDesk" "rows" "LCastDesk$Rows;", Cond.fieldLink RX6 26 "CastDesk" "wardrobe" "LCastDesk$Wardrobe;", Cond.fieldLink RX6 10 "CastDesk" "troupe" "LCastDesk$Troupe;", Cond.fieldLink RX6 72 "CastDesk$Troupe" "sizes" "[I", Cond.methodLink RX6 234 yX1_clear, Cond.instanceMethod yX1_clear, Cond.selects RX1 yX1_clear yX1_clear, Cond.initialized RX1, Cond.code yX1_clear cX1_clear 2 none, Cond.fieldLink RX1 11 "CastDesk$Casting" "actors" "[I", Cond.fieldLink RX1 25 "CastDesk$Casting" "setsBound" "I", Cond.methodLink RX6 193 yX3_actorAt, Cond.instanceMethod yX3_actorAt, Cond.selects RX3 yX3_actorAt yX3_actorAt, Cond.initialized RX3, Cond.code yX3_actorAt cX3_actorAt 3 (some .int), Cond.fieldLink RX3 15 "CastDesk$Rows" "lengths" "[I"]
def wsX6_bestCast_r2 : List Cond := [Cond.fieldLink RX3 9 "CastDesk$Rows" "actors" "[I", Cond.methodLink RX6 146 yX6_isReady, Cond.instanceMethod yX6_isReady, Cond.selects RX6 yX6_isReady yX6_isReady, Cond.code yX6_isReady cX6_isReady 5 (some .boolean), Cond.fieldLink RX6 79 "CastDesk$Troupe" "known" "[I", Cond.methodLink RX6 142 yX6_has, Cond.static yX6_has, Cond.code yX6_has cX6_has 2 (some .boolean), Cond.methodLink RX6 228 yX5_lowestFitting, Cond.instanceMethod yX5_lowestFitting, Cond.selects RX5 yX5_lowestFitting yX5_lowestFitting, Cond.initialized RX5, Cond.code yX5_lowestFitting cX5_lowestFitting 4 (some .int), Cond.fieldLink RX5 22 "CastDesk$Wardrobe" "count" "I", Cond.fieldLink RX5 15 "CastDesk$Wardrobe" "parts" "[I", Cond.fieldLink RX5 9 "CastDesk$Wardrobe" "sizes" "[I", Cond.methodLink RX6 231 yX5_lowestToLetOut, Cond.instanceMethod yX5_lowestToLetOut, Cond.selects RX5 yX5_lowestToLetOut yX5_lowestToLetOut, Cond.code yX5_lowestToLetOut cX5_lowestToLetOut 4 (some .int), Cond.fieldLink RX5 18 "CastDesk$Wardrobe" "isLetOut" "[Z", Cond.methodLink RX6 237 yX1_offer, Cond.instanceMethod yX1_offer]
def wsX6_bestCast_r3 : List Cond := [Cond.selects RX1 yX1_offer yX1_offer, Cond.code yX1_offer cX1_offer 6 none, Cond.fieldLink RX1 15 "CastDesk$Casting" "keys" "[I", Cond.methodLink RX1 29 Lib.Math.max.name, Cond.static Lib.Math.max.name, Cond.initialized "java/lang/Math", Cond.code Lib.Math.max.name Lib.Math.max.code 2 (some .int), Cond.methodLink RX1 21 yX1_rankShift, Cond.static yX1_rankShift, Cond.code yX1_rankShift cX1_rankShift 1 (some .int), Cond.methodLink RX6 241 yX1_leastKey, Cond.instanceMethod yX1_leastKey, Cond.selects RX1 yX1_leastKey yX1_leastKey, Cond.code yX1_leastKey cX1_leastKey 6 (some .int), Cond.fieldLink RX1 18 "CastDesk$Casting" "leastOfSet" "[I", Cond.methodLink RX1 35 yJ6_bitCount_0f7a4, Cond.static yJ6_bitCount_0f7a4, Cond.initialized RJ6, Cond.code yJ6_bitCount_0f7a4 cJ6_bitCount_0f7a4 1 (some .int), Cond.constant RJ6 265 (1431655765), Cond.constant RJ6 266 (858993459), Cond.constant RJ6 267 (252645135), Cond.methodLink RX1 40 yX1_castPart, Cond.instanceMethod yX1_castPart]
def wsX6_bestCast_r4 : List Cond := [Cond.selects RX1 yX1_castPart yX1_castPart, Cond.code yX1_castPart cX1_castPart 9 none, Cond.static yX6_with, Cond.code yX6_with cX6_with 2 (some .int)]
def wsX6_bestCast : List Cond := .code yX6_bestCast cX6_bestCast 2 (some .int) :: ((wsX6_bestCast_r1 ++ (wsX6_bestCast_r2 ++ (wsX6_bestCast_r3 ++ wsX6_bestCast_r4))) ++ wsX60 ++ wsX40 ++ wsX10 ++ wsX30 ++ wsX50)
def wsX6_strain_r1 : List Cond := [Cond.fieldLink RX6 10 "CastDesk" "troupe" "LCastDesk$Troupe;", Cond.fieldLink RX6 139 "CastDesk$Troupe" "ill" "[I", Cond.methodLink RX6 132 yX6_needDay, Cond.static yX6_needDay, Cond.initialized RX6, Cond.code yX6_needDay cX6_needDay 2 none, Cond.classLink RX6 58 "java/lang/IllegalArgumentException", Cond.initialized "java/lang/IllegalArgumentException", Cond.methodLink RX6 150 yX6_bestCast, Cond.instanceMethod yX6_bestCast, Cond.selects RX6 yX6_bestCast yX6_bestCast, Cond.code yX6_bestCast cX6_bestCast 2 (some .int), Cond.fieldLink RX6 33 "CastDesk" "casting" "LCastDesk$Casting;", Cond.fieldLink RX6 51 "CastDesk" "partCount" "I", Cond.methodLink RX6 156 yX6_offerActors, Cond.instanceMethod yX6_offerActors, Cond.selects RX6 yX6_offerActors yX6_offerActors, Cond.code yX6_offerActors cX6_offerActors 6 none, Cond.fieldLink RX6 19 "CastDesk" "rows" "LCastDesk$Rows;", Cond.fieldLink RX6 26 "CastDesk" "wardrobe" "LCastDesk$Wardrobe;", Cond.fieldLink RX6 72 "CastDesk$Troupe" "sizes" "[I", Cond.methodLink RX6 234 yX1_clear, Cond.instanceMethod yX1_clear, Cond.selects RX1 yX1_clear yX1_clear]
def wsX6_strain_r2 : List Cond := [Cond.initialized RX1, Cond.code yX1_clear cX1_clear 2 none, Cond.fieldLink RX1 11 "CastDesk$Casting" "actors" "[I", Cond.fieldLink RX1 25 "CastDesk$Casting" "setsBound" "I", Cond.methodLink RX6 193 yX3_actorAt, Cond.instanceMethod yX3_actorAt, Cond.selects RX3 yX3_actorAt yX3_actorAt, Cond.initialized RX3, Cond.code yX3_actorAt cX3_actorAt 3 (some .int), Cond.fieldLink RX3 15 "CastDesk$Rows" "lengths" "[I", Cond.fieldLink RX3 9 "CastDesk$Rows" "actors" "[I", Cond.methodLink RX6 146 yX6_isReady, Cond.instanceMethod yX6_isReady, Cond.selects RX6 yX6_isReady yX6_isReady, Cond.code yX6_isReady cX6_isReady 5 (some .boolean), Cond.fieldLink RX6 79 "CastDesk$Troupe" "known" "[I", Cond.methodLink RX6 142 yX6_has, Cond.static yX6_has, Cond.code yX6_has cX6_has 2 (some .boolean), Cond.methodLink RX6 228 yX5_lowestFitting, Cond.instanceMethod yX5_lowestFitting, Cond.selects RX5 yX5_lowestFitting yX5_lowestFitting, Cond.initialized RX5, Cond.code yX5_lowestFitting cX5_lowestFitting 4 (some .int)]
def wsX6_strain_r3 : List Cond := [Cond.fieldLink RX5 22 "CastDesk$Wardrobe" "count" "I", Cond.fieldLink RX5 15 "CastDesk$Wardrobe" "parts" "[I", Cond.fieldLink RX5 9 "CastDesk$Wardrobe" "sizes" "[I", Cond.methodLink RX6 231 yX5_lowestToLetOut, Cond.instanceMethod yX5_lowestToLetOut, Cond.selects RX5 yX5_lowestToLetOut yX5_lowestToLetOut, Cond.code yX5_lowestToLetOut cX5_lowestToLetOut 4 (some .int), Cond.fieldLink RX5 18 "CastDesk$Wardrobe" "isLetOut" "[Z", Cond.methodLink RX6 237 yX1_offer, Cond.instanceMethod yX1_offer, Cond.selects RX1 yX1_offer yX1_offer, Cond.code yX1_offer cX1_offer 6 none, Cond.fieldLink RX1 15 "CastDesk$Casting" "keys" "[I", Cond.methodLink RX1 29 Lib.Math.max.name, Cond.static Lib.Math.max.name, Cond.initialized "java/lang/Math", Cond.code Lib.Math.max.name Lib.Math.max.code 2 (some .int), Cond.methodLink RX1 21 yX1_rankShift, Cond.static yX1_rankShift, Cond.code yX1_rankShift cX1_rankShift 1 (some .int), Cond.methodLink RX6 241 yX1_leastKey, Cond.instanceMethod yX1_leastKey, Cond.selects RX1 yX1_leastKey yX1_leastKey, Cond.code yX1_leastKey cX1_leastKey 6 (some .int)]
def wsX6_strain_r4 : List Cond := [Cond.fieldLink RX1 18 "CastDesk$Casting" "leastOfSet" "[I", Cond.methodLink RX1 35 yJ6_bitCount_0f7a4, Cond.static yJ6_bitCount_0f7a4, Cond.initialized RJ6, Cond.code yJ6_bitCount_0f7a4 cJ6_bitCount_0f7a4 1 (some .int), Cond.constant RJ6 265 (1431655765), Cond.constant RJ6 266 (858993459), Cond.constant RJ6 267 (252645135), Cond.methodLink RX1 40 yX1_castPart, Cond.instanceMethod yX1_castPart, Cond.selects RX1 yX1_castPart yX1_castPart, Cond.code yX1_castPart cX1_castPart 9 none, Cond.static yX6_with, Cond.code yX6_with cX6_with 2 (some .int), Cond.methodLink RX6 153 yX1_strainOf, Cond.static yX1_strainOf, Cond.code yX1_strainOf cX1_strainOf 1 (some .int)]
def wsX6_strain : List Cond := .code yX6_strain cX6_strain 3 (some .int) :: ((wsX6_strain_r1 ++ (wsX6_strain_r2 ++ (wsX6_strain_r3 ++ wsX6_strain_r4))) ++ wsX60 ++ wsX40 ++ wsX10 ++ wsX30 ++ wsX50 ++ (vx_atS RX6 62 "java/lang/IllegalArgumentException" ["java/lang/RuntimeException", "java/lang/Exception"]).filter goodWord)
def wsX6_strainByAll_r1 : List Cond := [Cond.fieldLink RX6 10 "CastDesk" "troupe" "LCastDesk$Troupe;", Cond.fieldLink RX6 139 "CastDesk$Troupe" "ill" "[I", Cond.fieldLink RX6 33 "CastDesk" "casting" "LCastDesk$Casting;", Cond.fieldLink RX6 51 "CastDesk" "partCount" "I", Cond.methodLink RX6 132 yX6_needDay, Cond.static yX6_needDay, Cond.initialized RX6, Cond.code yX6_needDay cX6_needDay 2 none, Cond.classLink RX6 58 "java/lang/IllegalArgumentException", Cond.initialized "java/lang/IllegalArgumentException", Cond.methodLink RX6 156 yX6_offerActors, Cond.instanceMethod yX6_offerActors, Cond.selects RX6 yX6_offerActors yX6_offerActors, Cond.code yX6_offerActors cX6_offerActors 6 none, Cond.fieldLink RX6 19 "CastDesk" "rows" "LCastDesk$Rows;", Cond.fieldLink RX6 26 "CastDesk" "wardrobe" "LCastDesk$Wardrobe;", Cond.fieldLink RX6 72 "CastDesk$Troupe" "sizes" "[I", Cond.methodLink RX6 234 yX1_clear, Cond.instanceMethod yX1_clear, Cond.selects RX1 yX1_clear yX1_clear, Cond.initialized RX1, Cond.code yX1_clear cX1_clear 2 none, Cond.fieldLink RX1 11 "CastDesk$Casting" "actors" "[I", Cond.fieldLink RX1 25 "CastDesk$Casting" "setsBound" "I"]
def wsX6_strainByAll_r2 : List Cond := [Cond.methodLink RX6 193 yX3_actorAt, Cond.instanceMethod yX3_actorAt, Cond.selects RX3 yX3_actorAt yX3_actorAt, Cond.initialized RX3, Cond.code yX3_actorAt cX3_actorAt 3 (some .int), Cond.fieldLink RX3 15 "CastDesk$Rows" "lengths" "[I", Cond.fieldLink RX3 9 "CastDesk$Rows" "actors" "[I", Cond.methodLink RX6 146 yX6_isReady, Cond.instanceMethod yX6_isReady, Cond.selects RX6 yX6_isReady yX6_isReady, Cond.code yX6_isReady cX6_isReady 5 (some .boolean), Cond.fieldLink RX6 79 "CastDesk$Troupe" "known" "[I", Cond.methodLink RX6 142 yX6_has, Cond.static yX6_has, Cond.code yX6_has cX6_has 2 (some .boolean), Cond.methodLink RX6 228 yX5_lowestFitting, Cond.instanceMethod yX5_lowestFitting, Cond.selects RX5 yX5_lowestFitting yX5_lowestFitting, Cond.initialized RX5, Cond.code yX5_lowestFitting cX5_lowestFitting 4 (some .int), Cond.fieldLink RX5 22 "CastDesk$Wardrobe" "count" "I", Cond.fieldLink RX5 15 "CastDesk$Wardrobe" "parts" "[I", Cond.fieldLink RX5 9 "CastDesk$Wardrobe" "sizes" "[I", Cond.methodLink RX6 231 yX5_lowestToLetOut]
def wsX6_strainByAll_r3 : List Cond := [Cond.instanceMethod yX5_lowestToLetOut, Cond.selects RX5 yX5_lowestToLetOut yX5_lowestToLetOut, Cond.code yX5_lowestToLetOut cX5_lowestToLetOut 4 (some .int), Cond.fieldLink RX5 18 "CastDesk$Wardrobe" "isLetOut" "[Z", Cond.methodLink RX6 237 yX1_offer, Cond.instanceMethod yX1_offer, Cond.selects RX1 yX1_offer yX1_offer, Cond.code yX1_offer cX1_offer 6 none, Cond.fieldLink RX1 15 "CastDesk$Casting" "keys" "[I", Cond.methodLink RX1 29 Lib.Math.max.name, Cond.static Lib.Math.max.name, Cond.initialized "java/lang/Math", Cond.code Lib.Math.max.name Lib.Math.max.code 2 (some .int), Cond.methodLink RX1 21 yX1_rankShift, Cond.static yX1_rankShift, Cond.code yX1_rankShift cX1_rankShift 1 (some .int), Cond.methodLink RX6 159 yX1_leastStrain, Cond.instanceMethod yX1_leastStrain, Cond.selects RX1 yX1_leastStrain yX1_leastStrain, Cond.code yX1_leastStrain cX1_leastStrain 2 (some .int), Cond.methodLink RX1 51 yX1_leastFrom, Cond.static yX1_leastFrom, Cond.code yX1_leastFrom cX1_leastFrom 8 (some .int), Cond.static yX6_with]
def wsX6_strainByAll_r4 : List Cond := [Cond.code yX6_with cX6_with 2 (some .int)]
def wsX6_strainByAll : List Cond := .code yX6_strainByAll cX6_strainByAll 2 (some .int) :: ((wsX6_strainByAll_r1 ++ (wsX6_strainByAll_r2 ++ (wsX6_strainByAll_r3 ++ wsX6_strainByAll_r4))) ++ wsX60 ++ wsX40 ++ wsX10 ++ wsX30 ++ wsX50 ++ (vx_atS RX6 62 "java/lang/IllegalArgumentException" ["java/lang/RuntimeException", "java/lang/Exception"]).filter goodWord)
def wsX6_work_r1 : List Cond := [Cond.fieldLink RX6 10 "CastDesk" "troupe" "LCastDesk$Troupe;", Cond.fieldLink RX6 139 "CastDesk$Troupe" "ill" "[I", Cond.methodLink RX6 132 yX6_needDay, Cond.static yX6_needDay, Cond.initialized RX6, Cond.code yX6_needDay cX6_needDay 2 none, Cond.classLink RX6 58 "java/lang/IllegalArgumentException", Cond.initialized "java/lang/IllegalArgumentException", Cond.methodLink RX6 150 yX6_bestCast, Cond.instanceMethod yX6_bestCast, Cond.selects RX6 yX6_bestCast yX6_bestCast, Cond.code yX6_bestCast cX6_bestCast 2 (some .int), Cond.fieldLink RX6 33 "CastDesk" "casting" "LCastDesk$Casting;", Cond.fieldLink RX6 51 "CastDesk" "partCount" "I", Cond.methodLink RX6 156 yX6_offerActors, Cond.instanceMethod yX6_offerActors, Cond.selects RX6 yX6_offerActors yX6_offerActors, Cond.code yX6_offerActors cX6_offerActors 6 none, Cond.fieldLink RX6 19 "CastDesk" "rows" "LCastDesk$Rows;", Cond.fieldLink RX6 26 "CastDesk" "wardrobe" "LCastDesk$Wardrobe;", Cond.fieldLink RX6 72 "CastDesk$Troupe" "sizes" "[I", Cond.methodLink RX6 234 yX1_clear, Cond.instanceMethod yX1_clear, Cond.selects RX1 yX1_clear yX1_clear]
def wsX6_work_r2 : List Cond := [Cond.initialized RX1, Cond.code yX1_clear cX1_clear 2 none, Cond.fieldLink RX1 11 "CastDesk$Casting" "actors" "[I", Cond.fieldLink RX1 25 "CastDesk$Casting" "setsBound" "I", Cond.methodLink RX6 193 yX3_actorAt, Cond.instanceMethod yX3_actorAt, Cond.selects RX3 yX3_actorAt yX3_actorAt, Cond.initialized RX3, Cond.code yX3_actorAt cX3_actorAt 3 (some .int), Cond.fieldLink RX3 15 "CastDesk$Rows" "lengths" "[I", Cond.fieldLink RX3 9 "CastDesk$Rows" "actors" "[I", Cond.methodLink RX6 146 yX6_isReady, Cond.instanceMethod yX6_isReady, Cond.selects RX6 yX6_isReady yX6_isReady, Cond.code yX6_isReady cX6_isReady 5 (some .boolean), Cond.fieldLink RX6 79 "CastDesk$Troupe" "known" "[I", Cond.methodLink RX6 142 yX6_has, Cond.static yX6_has, Cond.code yX6_has cX6_has 2 (some .boolean), Cond.methodLink RX6 228 yX5_lowestFitting, Cond.instanceMethod yX5_lowestFitting, Cond.selects RX5 yX5_lowestFitting yX5_lowestFitting, Cond.initialized RX5, Cond.code yX5_lowestFitting cX5_lowestFitting 4 (some .int)]
def wsX6_work_r3 : List Cond := [Cond.fieldLink RX5 22 "CastDesk$Wardrobe" "count" "I", Cond.fieldLink RX5 15 "CastDesk$Wardrobe" "parts" "[I", Cond.fieldLink RX5 9 "CastDesk$Wardrobe" "sizes" "[I", Cond.methodLink RX6 231 yX5_lowestToLetOut, Cond.instanceMethod yX5_lowestToLetOut, Cond.selects RX5 yX5_lowestToLetOut yX5_lowestToLetOut, Cond.code yX5_lowestToLetOut cX5_lowestToLetOut 4 (some .int), Cond.fieldLink RX5 18 "CastDesk$Wardrobe" "isLetOut" "[Z", Cond.methodLink RX6 237 yX1_offer, Cond.instanceMethod yX1_offer, Cond.selects RX1 yX1_offer yX1_offer, Cond.code yX1_offer cX1_offer 6 none, Cond.fieldLink RX1 15 "CastDesk$Casting" "keys" "[I", Cond.methodLink RX1 29 Lib.Math.max.name, Cond.static Lib.Math.max.name, Cond.initialized "java/lang/Math", Cond.code Lib.Math.max.name Lib.Math.max.code 2 (some .int), Cond.methodLink RX1 21 yX1_rankShift, Cond.static yX1_rankShift, Cond.code yX1_rankShift cX1_rankShift 1 (some .int), Cond.methodLink RX6 241 yX1_leastKey, Cond.instanceMethod yX1_leastKey, Cond.selects RX1 yX1_leastKey yX1_leastKey, Cond.code yX1_leastKey cX1_leastKey 6 (some .int)]
def wsX6_work_r4 : List Cond := [Cond.fieldLink RX1 18 "CastDesk$Casting" "leastOfSet" "[I", Cond.methodLink RX1 35 yJ6_bitCount_0f7a4, Cond.static yJ6_bitCount_0f7a4, Cond.initialized RJ6, Cond.code yJ6_bitCount_0f7a4 cJ6_bitCount_0f7a4 1 (some .int), Cond.constant RJ6 265 (1431655765), Cond.constant RJ6 266 (858993459), Cond.constant RJ6 267 (252645135), Cond.methodLink RX1 40 yX1_castPart, Cond.instanceMethod yX1_castPart, Cond.selects RX1 yX1_castPart yX1_castPart, Cond.code yX1_castPart cX1_castPart 9 none, Cond.static yX6_with, Cond.code yX6_with cX6_with 2 (some .int), Cond.methodLink RX6 162 yX1_workOf, Cond.static yX1_workOf, Cond.code yX1_workOf cX1_workOf 1 (some .int)]
def wsX6_work : List Cond := .code yX6_work cX6_work 3 (some .int) :: ((wsX6_work_r1 ++ (wsX6_work_r2 ++ (wsX6_work_r3 ++ wsX6_work_r4))) ++ wsX60 ++ wsX40 ++ wsX10 ++ wsX30 ++ wsX50 ++ (vx_atS RX6 62 "java/lang/IllegalArgumentException" ["java/lang/RuntimeException", "java/lang/Exception"]).filter goodWord)
def wsX6_actorIn : List Cond := .code yX6_actorIn cX6_actorIn 3 (some .int) :: ([.fieldLink RX6 19 "CastDesk" "rows" "LCastDesk$Rows;", .methodLink RX6 244 yX1_rankOf, .static yX1_rankOf, .initialized RX1, .code yX1_rankOf cX1_rankOf 2 (some .int), .methodLink RX1 21 yX1_rankShift, .static yX1_rankShift, .code yX1_rankShift cX1_rankShift 1 (some .int), .methodLink RX6 193 yX3_actorAt, .instanceMethod yX3_actorAt, .selects RX3 yX3_actorAt yX3_actorAt, .initialized RX3, .code yX3_actorAt cX3_actorAt 3 (some .int), .fieldLink RX3 15 "CastDesk$Rows" "lengths" "[I", .fieldLink RX3 9 "CastDesk$Rows" "actors" "[I"] ++ wsX60 ++ wsX30)
def wsX6_actorFor_r1 : List Cond := [Cond.fieldLink RX6 10 "CastDesk" "troupe" "LCastDesk$Troupe;", Cond.fieldLink RX6 139 "CastDesk$Troupe" "ill" "[I", Cond.fieldLink RX6 51 "CastDesk" "partCount" "I", Cond.methodLink RX6 76 yX6_needPart, Cond.static yX6_needPart, Cond.initialized RX6, Cond.code yX6_needPart cX6_needPart 1 none, Cond.classLink RX6 215 "java/lang/IndexOutOfBoundsException", Cond.initialized "java/lang/IndexOutOfBoundsException", Cond.methodLink RX6 132 yX6_needDay, Cond.static yX6_needDay, Cond.code yX6_needDay cX6_needDay 2 none, Cond.classLink RX6 58 "java/lang/IllegalArgumentException", Cond.initialized "java/lang/IllegalArgumentException", Cond.methodLink RX6 150 yX6_bestCast, Cond.instanceMethod yX6_bestCast, Cond.selects RX6 yX6_bestCast yX6_bestCast, Cond.code yX6_bestCast cX6_bestCast 2 (some .int), Cond.fieldLink RX6 33 "CastDesk" "casting" "LCastDesk$Casting;", Cond.methodLink RX6 156 yX6_offerActors, Cond.instanceMethod yX6_offerActors, Cond.selects RX6 yX6_offerActors yX6_offerActors, Cond.code yX6_offerActors cX6_offerActors 6 none, Cond.fieldLink RX6 19 "CastDesk" "rows" "LCastDesk$Rows;"]
def wsX6_actorFor_r2 : List Cond := [Cond.fieldLink RX6 26 "CastDesk" "wardrobe" "LCastDesk$Wardrobe;", Cond.fieldLink RX6 72 "CastDesk$Troupe" "sizes" "[I", Cond.methodLink RX6 234 yX1_clear, Cond.instanceMethod yX1_clear, Cond.selects RX1 yX1_clear yX1_clear, Cond.initialized RX1, Cond.code yX1_clear cX1_clear 2 none, Cond.fieldLink RX1 11 "CastDesk$Casting" "actors" "[I", Cond.fieldLink RX1 25 "CastDesk$Casting" "setsBound" "I", Cond.methodLink RX6 193 yX3_actorAt, Cond.instanceMethod yX3_actorAt, Cond.selects RX3 yX3_actorAt yX3_actorAt, Cond.initialized RX3, Cond.code yX3_actorAt cX3_actorAt 3 (some .int), Cond.fieldLink RX3 15 "CastDesk$Rows" "lengths" "[I", Cond.fieldLink RX3 9 "CastDesk$Rows" "actors" "[I", Cond.methodLink RX6 146 yX6_isReady, Cond.instanceMethod yX6_isReady, Cond.selects RX6 yX6_isReady yX6_isReady, Cond.code yX6_isReady cX6_isReady 5 (some .boolean), Cond.fieldLink RX6 79 "CastDesk$Troupe" "known" "[I", Cond.methodLink RX6 142 yX6_has, Cond.static yX6_has, Cond.code yX6_has cX6_has 2 (some .boolean)]
def wsX6_actorFor_r3 : List Cond := [Cond.methodLink RX6 228 yX5_lowestFitting, Cond.instanceMethod yX5_lowestFitting, Cond.selects RX5 yX5_lowestFitting yX5_lowestFitting, Cond.initialized RX5, Cond.code yX5_lowestFitting cX5_lowestFitting 4 (some .int), Cond.fieldLink RX5 22 "CastDesk$Wardrobe" "count" "I", Cond.fieldLink RX5 15 "CastDesk$Wardrobe" "parts" "[I", Cond.fieldLink RX5 9 "CastDesk$Wardrobe" "sizes" "[I", Cond.methodLink RX6 231 yX5_lowestToLetOut, Cond.instanceMethod yX5_lowestToLetOut, Cond.selects RX5 yX5_lowestToLetOut yX5_lowestToLetOut, Cond.code yX5_lowestToLetOut cX5_lowestToLetOut 4 (some .int), Cond.fieldLink RX5 18 "CastDesk$Wardrobe" "isLetOut" "[Z", Cond.methodLink RX6 237 yX1_offer, Cond.instanceMethod yX1_offer, Cond.selects RX1 yX1_offer yX1_offer, Cond.code yX1_offer cX1_offer 6 none, Cond.fieldLink RX1 15 "CastDesk$Casting" "keys" "[I", Cond.methodLink RX1 29 Lib.Math.max.name, Cond.static Lib.Math.max.name, Cond.initialized "java/lang/Math", Cond.code Lib.Math.max.name Lib.Math.max.code 2 (some .int), Cond.methodLink RX1 21 yX1_rankShift, Cond.static yX1_rankShift]
def wsX6_actorFor_r4 : List Cond := [Cond.code yX1_rankShift cX1_rankShift 1 (some .int), Cond.methodLink RX6 241 yX1_leastKey, Cond.instanceMethod yX1_leastKey, Cond.selects RX1 yX1_leastKey yX1_leastKey, Cond.code yX1_leastKey cX1_leastKey 6 (some .int), Cond.fieldLink RX1 18 "CastDesk$Casting" "leastOfSet" "[I", Cond.methodLink RX1 35 yJ6_bitCount_0f7a4, Cond.static yJ6_bitCount_0f7a4, Cond.initialized RJ6, Cond.code yJ6_bitCount_0f7a4 cJ6_bitCount_0f7a4 1 (some .int), Cond.constant RJ6 265 (1431655765), Cond.constant RJ6 266 (858993459), Cond.constant RJ6 267 (252645135), Cond.methodLink RX1 40 yX1_castPart, Cond.instanceMethod yX1_castPart, Cond.selects RX1 yX1_castPart yX1_castPart, Cond.code yX1_castPart cX1_castPart 9 none, Cond.static yX6_with, Cond.code yX6_with cX6_with 2 (some .int), Cond.methodLink RX6 165 yX6_actorIn, Cond.instanceMethod yX6_actorIn, Cond.selects RX6 yX6_actorIn yX6_actorIn, Cond.code yX6_actorIn cX6_actorIn 3 (some .int), Cond.methodLink RX6 244 yX1_rankOf]
def wsX6_actorFor_r5 : List Cond := [Cond.static yX1_rankOf, Cond.code yX1_rankOf cX1_rankOf 2 (some .int)]
def wsX6_actorFor : List Cond := .code yX6_actorFor cX6_actorFor 4 (some .int) :: ((wsX6_actorFor_r1 ++ (wsX6_actorFor_r2 ++ (wsX6_actorFor_r3 ++ (wsX6_actorFor_r4 ++ wsX6_actorFor_r5)))) ++ wsX60 ++ wsX40 ++ wsX10 ++ wsX30 ++ wsX50 ++ (vx_atS RX6 219 "java/lang/IndexOutOfBoundsException" ["java/lang/RuntimeException", "java/lang/Exception"]).filter goodWord ++ (vx_atS RX6 62 "java/lang/IllegalArgumentException" ["java/lang/RuntimeException", "java/lang/Exception"]).filter goodWord)
def wsX6_countOthers : List Cond := .code yX6_countOthers cX6_countOthers 5 (some .int) :: ([.fieldLink RX6 51 "CastDesk" "partCount" "I", .methodLink RX6 165 yX6_actorIn, .instanceMethod yX6_actorIn, .selects RX6 yX6_actorIn yX6_actorIn, .initialized RX6, .code yX6_actorIn cX6_actorIn 3 (some .int), .fieldLink RX6 19 "CastDesk" "rows" "LCastDesk$Rows;", .methodLink RX6 244 yX1_rankOf, .static yX1_rankOf, .initialized RX1, .code yX1_rankOf cX1_rankOf 2 (some .int), .methodLink RX1 21 yX1_rankShift, .static yX1_rankShift, .code yX1_rankShift cX1_rankShift 1 (some .int), .methodLink RX6 193 yX3_actorAt, .instanceMethod yX3_actorAt, .selects RX3 yX3_actorAt yX3_actorAt, .initialized RX3, .code yX3_actorAt cX3_actorAt 3 (some .int), .fieldLink RX3 15 "CastDesk$Rows" "lengths" "[I", .fieldLink RX3 9 "CastDesk$Rows" "actors" "[I"] ++ wsX60 ++ wsX30)
def wsX6_chain_r1 : List Cond := [Cond.fieldLink RX6 10 "CastDesk" "troupe" "LCastDesk$Troupe;", Cond.fieldLink RX6 139 "CastDesk$Troupe" "ill" "[I", Cond.methodLink RX6 65 yX6_needActor, Cond.static yX6_needActor, Cond.initialized RX6, Cond.code yX6_needActor cX6_needActor 1 none, Cond.classLink RX6 215 "java/lang/IndexOutOfBoundsException", Cond.initialized "java/lang/IndexOutOfBoundsException", Cond.methodLink RX6 132 yX6_needDay, Cond.static yX6_needDay, Cond.code yX6_needDay cX6_needDay 2 none, Cond.classLink RX6 58 "java/lang/IllegalArgumentException", Cond.initialized "java/lang/IllegalArgumentException", Cond.methodLink RX6 150 yX6_bestCast, Cond.instanceMethod yX6_bestCast, Cond.selects RX6 yX6_bestCast yX6_bestCast, Cond.code yX6_bestCast cX6_bestCast 2 (some .int), Cond.fieldLink RX6 33 "CastDesk" "casting" "LCastDesk$Casting;", Cond.fieldLink RX6 51 "CastDesk" "partCount" "I", Cond.methodLink RX6 156 yX6_offerActors, Cond.instanceMethod yX6_offerActors, Cond.selects RX6 yX6_offerActors yX6_offerActors, Cond.code yX6_offerActors cX6_offerActors 6 none, Cond.fieldLink RX6 19 "CastDesk" "rows" "LCastDesk$Rows;"]
def wsX6_chain_r2 : List Cond := [Cond.fieldLink RX6 26 "CastDesk" "wardrobe" "LCastDesk$Wardrobe;", Cond.fieldLink RX6 72 "CastDesk$Troupe" "sizes" "[I", Cond.methodLink RX6 234 yX1_clear, Cond.instanceMethod yX1_clear, Cond.selects RX1 yX1_clear yX1_clear, Cond.initialized RX1, Cond.code yX1_clear cX1_clear 2 none, Cond.fieldLink RX1 11 "CastDesk$Casting" "actors" "[I", Cond.fieldLink RX1 25 "CastDesk$Casting" "setsBound" "I", Cond.methodLink RX6 193 yX3_actorAt, Cond.instanceMethod yX3_actorAt, Cond.selects RX3 yX3_actorAt yX3_actorAt, Cond.initialized RX3, Cond.code yX3_actorAt cX3_actorAt 3 (some .int), Cond.fieldLink RX3 15 "CastDesk$Rows" "lengths" "[I", Cond.fieldLink RX3 9 "CastDesk$Rows" "actors" "[I", Cond.methodLink RX6 146 yX6_isReady, Cond.instanceMethod yX6_isReady, Cond.selects RX6 yX6_isReady yX6_isReady, Cond.code yX6_isReady cX6_isReady 5 (some .boolean), Cond.fieldLink RX6 79 "CastDesk$Troupe" "known" "[I", Cond.methodLink RX6 142 yX6_has, Cond.static yX6_has, Cond.code yX6_has cX6_has 2 (some .boolean)]
def wsX6_chain_r3 : List Cond := [Cond.methodLink RX6 228 yX5_lowestFitting, Cond.instanceMethod yX5_lowestFitting, Cond.selects RX5 yX5_lowestFitting yX5_lowestFitting, Cond.initialized RX5, Cond.code yX5_lowestFitting cX5_lowestFitting 4 (some .int), Cond.fieldLink RX5 22 "CastDesk$Wardrobe" "count" "I", Cond.fieldLink RX5 15 "CastDesk$Wardrobe" "parts" "[I", Cond.fieldLink RX5 9 "CastDesk$Wardrobe" "sizes" "[I", Cond.methodLink RX6 231 yX5_lowestToLetOut, Cond.instanceMethod yX5_lowestToLetOut, Cond.selects RX5 yX5_lowestToLetOut yX5_lowestToLetOut, Cond.code yX5_lowestToLetOut cX5_lowestToLetOut 4 (some .int), Cond.fieldLink RX5 18 "CastDesk$Wardrobe" "isLetOut" "[Z", Cond.methodLink RX6 237 yX1_offer, Cond.instanceMethod yX1_offer, Cond.selects RX1 yX1_offer yX1_offer, Cond.code yX1_offer cX1_offer 6 none, Cond.fieldLink RX1 15 "CastDesk$Casting" "keys" "[I", Cond.methodLink RX1 29 Lib.Math.max.name, Cond.static Lib.Math.max.name, Cond.initialized "java/lang/Math", Cond.code Lib.Math.max.name Lib.Math.max.code 2 (some .int), Cond.methodLink RX1 21 yX1_rankShift, Cond.static yX1_rankShift]
def wsX6_chain_r4 : List Cond := [Cond.code yX1_rankShift cX1_rankShift 1 (some .int), Cond.methodLink RX6 241 yX1_leastKey, Cond.instanceMethod yX1_leastKey, Cond.selects RX1 yX1_leastKey yX1_leastKey, Cond.code yX1_leastKey cX1_leastKey 6 (some .int), Cond.fieldLink RX1 18 "CastDesk$Casting" "leastOfSet" "[I", Cond.methodLink RX1 35 yJ6_bitCount_0f7a4, Cond.static yJ6_bitCount_0f7a4, Cond.initialized RJ6, Cond.code yJ6_bitCount_0f7a4 cJ6_bitCount_0f7a4 1 (some .int), Cond.constant RJ6 265 (1431655765), Cond.constant RJ6 266 (858993459), Cond.constant RJ6 267 (252645135), Cond.methodLink RX1 40 yX1_castPart, Cond.instanceMethod yX1_castPart, Cond.selects RX1 yX1_castPart yX1_castPart, Cond.code yX1_castPart cX1_castPart 9 none, Cond.static yX6_with, Cond.code yX6_with cX6_with 2 (some .int), Cond.methodLink RX6 82 yX6_with, Cond.methodLink RX6 168 yX6_countOthers, Cond.instanceMethod yX6_countOthers, Cond.selects RX6 yX6_countOthers yX6_countOthers, Cond.code yX6_countOthers cX6_countOthers 5 (some .int)]
def wsX6_chain_r5 : List Cond := [Cond.methodLink RX6 165 yX6_actorIn, Cond.instanceMethod yX6_actorIn, Cond.selects RX6 yX6_actorIn yX6_actorIn, Cond.code yX6_actorIn cX6_actorIn 3 (some .int), Cond.methodLink RX6 244 yX1_rankOf, Cond.static yX1_rankOf, Cond.code yX1_rankOf cX1_rankOf 2 (some .int)]
def wsX6_chain : List Cond := .code yX6_chain cX6_chain 5 (some .int) :: ((wsX6_chain_r1 ++ (wsX6_chain_r2 ++ (wsX6_chain_r3 ++ (wsX6_chain_r4 ++ wsX6_chain_r5)))) ++ wsX60 ++ wsX40 ++ wsX10 ++ wsX30 ++ wsX50 ++ (vx_atS RX6 219 "java/lang/IndexOutOfBoundsException" ["java/lang/RuntimeException", "java/lang/Exception"]).filter goodWord ++ (vx_atS RX6 62 "java/lang/IllegalArgumentException" ["java/lang/RuntimeException", "java/lang/Exception"]).filter goodWord)
def wsX6_show : List Cond := .code yX6_show cX6_show 2 (some .int) :: ([.classLink RX6 95 "java/lang/IllegalStateException", .initialized "java/lang/IllegalStateException", .fieldLink RX6 55 "CastDesk" "today" "I", .fieldLink RX6 40 "CastDesk" "programme" "LCastDesk$Programme;", .fieldLink RX6 176 "CastDesk$Programme" "count" "I", .methodLink RX6 132 yX6_needDay, .static yX6_needDay, .initialized RX6, .code yX6_needDay cX6_needDay 2 none, .classLink RX6 58 "java/lang/IllegalArgumentException", .initialized "java/lang/IllegalArgumentException", .methodLink RX6 171 yX2_showOn, .instanceMethod yX2_showOn, .selects RX2 yX2_showOn yX2_showOn, .initialized RX2, .code yX2_showOn cX2_showOn 3 (some .int), .fieldLink RX2 21 "CastDesk$Programme" "count" "I", .fieldLink RX2 18 "CastDesk$Programme" "days" "[I", .methodLink RX6 179 yX2_add, .instanceMethod yX2_add, .selects RX2 yX2_add yX2_add, .code yX2_add cX2_add 2 (some .int), .fieldLink RX2 9 "CastDesk$Programme" "states" "[I"] ++ wsX60 ++ wsX20 ++ (vx_atS RX6 99 "java/lang/IllegalStateException" ["java/lang/RuntimeException", "java/lang/Exception"]).filter goodWord ++ (vx_atS RX6 62 "java/lang/IllegalArgumentException" ["java/lang/RuntimeException", "java/lang/Exception"]).filter goodWord)
def wsX6_sell_r1 : List Cond := [Cond.classLink RX6 58 "java/lang/IllegalArgumentException", Cond.initialized "java/lang/IllegalArgumentException", Cond.classLink RX6 95 "java/lang/IllegalStateException", Cond.initialized "java/lang/IllegalStateException", Cond.fieldLink RX6 40 "CastDesk" "programme" "LCastDesk$Programme;", Cond.fieldLink RX6 176 "CastDesk$Programme" "count" "I", Cond.fieldLink RX6 185 "CastDesk$Programme" "states" "[I", Cond.fieldLink RX6 47 "CastDesk" "office" "LCastDesk$BoxOffice;", Cond.fieldLink RX6 190 "CastDesk$BoxOffice" "count" "I", Cond.fieldLink RX6 19 "CastDesk" "rows" "LCastDesk$Rows;", Cond.methodLink RX6 128 yX6_needOneOf, Cond.static yX6_needOneOf, Cond.initialized RX6, Cond.code yX6_needOneOf cX6_needOneOf 2 none, Cond.classLink RX6 215 "java/lang/IndexOutOfBoundsException", Cond.initialized "java/lang/IndexOutOfBoundsException", Cond.methodLink RX6 76 yX6_needPart, Cond.static yX6_needPart, Cond.code yX6_needPart cX6_needPart 1 none, Cond.methodLink RX6 193 yX3_actorAt, Cond.instanceMethod yX3_actorAt, Cond.selects RX3 yX3_actorAt yX3_actorAt, Cond.initialized RX3, Cond.code yX3_actorAt cX3_actorAt 3 (some .int)]
def wsX6_sell_r2 : List Cond := [Cond.fieldLink RX3 15 "CastDesk$Rows" "lengths" "[I", Cond.fieldLink RX3 9 "CastDesk$Rows" "actors" "[I", Cond.methodLink RX6 198 yX0_add, Cond.instanceMethod yX0_add, Cond.selects RX0 yX0_add yX0_add, Cond.initialized RX0, Cond.code yX0_add cX0_add 6 (some .int), Cond.fieldLink RX0 9 "CastDesk$BoxOffice" "shows" "[I", Cond.fieldLink RX0 30 "CastDesk$BoxOffice" "count" "I", Cond.fieldLink RX0 27 "CastDesk$BoxOffice" "prices" "[I", Cond.fieldLink RX0 15 "CastDesk$BoxOffice" "promises" "[I", Cond.fieldLink RX0 18 "CastDesk$BoxOffice" "parts" "[I", Cond.fieldLink RX0 21 "CastDesk$BoxOffice" "stars" "[I", Cond.fieldLink RX0 34 "CastDesk$BoxOffice" "money" "I"]
def wsX6_sell : List Cond := .code yX6_sell cX6_sell 6 (some .int) :: ((wsX6_sell_r1 ++ wsX6_sell_r2) ++ wsX60 ++ wsX20 ++ wsX00 ++ wsX30 ++ (vx_atS RX6 62 "java/lang/IllegalArgumentException" ["java/lang/RuntimeException", "java/lang/Exception"]).filter goodWord ++ (vx_atS RX6 99 "java/lang/IllegalStateException" ["java/lang/RuntimeException", "java/lang/Exception"]).filter goodWord ++ (vx_atS RX6 219 "java/lang/IndexOutOfBoundsException" ["java/lang/RuntimeException", "java/lang/Exception"]).filter goodWord)
def wsX6_dress : List Cond := .code yX6_dress cX6_dress 4 none :: ([.fieldLink RX6 10 "CastDesk" "troupe" "LCastDesk$Troupe;", .fieldLink RX6 72 "CastDesk$Troupe" "sizes" "[I", .fieldLink RX6 26 "CastDesk" "wardrobe" "LCastDesk$Wardrobe;", .methodLink RX6 228 yX5_lowestFitting, .instanceMethod yX5_lowestFitting, .selects RX5 yX5_lowestFitting yX5_lowestFitting, .initialized RX5, .code yX5_lowestFitting cX5_lowestFitting 4 (some .int), .fieldLink RX5 22 "CastDesk$Wardrobe" "count" "I", .fieldLink RX5 15 "CastDesk$Wardrobe" "parts" "[I", .fieldLink RX5 9 "CastDesk$Wardrobe" "sizes" "[I", .methodLink RX6 231 yX5_lowestToLetOut, .instanceMethod yX5_lowestToLetOut, .selects RX5 yX5_lowestToLetOut yX5_lowestToLetOut, .code yX5_lowestToLetOut cX5_lowestToLetOut 4 (some .int), .fieldLink RX5 18 "CastDesk$Wardrobe" "isLetOut" "[Z", .methodLink RX6 253 yX5_letOut, .instanceMethod yX5_letOut, .selects RX5 yX5_letOut yX5_letOut, .code yX5_letOut cX5_letOut 2 none] ++ wsX60 ++ wsX40 ++ wsX50)
def wsX6_shareBack_r1 : List Cond := [Cond.fieldLink RX6 47 "CastDesk" "office" "LCastDesk$BoxOffice;", Cond.fieldLink RX6 265 "CastDesk$BoxOffice" "parts" "[I", Cond.fieldLink RX6 51 "CastDesk" "partCount" "I", Cond.fieldLink RX6 268 "CastDesk$BoxOffice" "promises" "[I", Cond.fieldLink RX6 271 "CastDesk$BoxOffice" "stars" "[I", Cond.methodLink RX6 165 yX6_actorIn, Cond.instanceMethod yX6_actorIn, Cond.selects RX6 yX6_actorIn yX6_actorIn, Cond.initialized RX6, Cond.code yX6_actorIn cX6_actorIn 3 (some .int), Cond.fieldLink RX6 19 "CastDesk" "rows" "LCastDesk$Rows;", Cond.methodLink RX6 244 yX1_rankOf, Cond.static yX1_rankOf, Cond.initialized RX1, Cond.code yX1_rankOf cX1_rankOf 2 (some .int), Cond.methodLink RX1 21 yX1_rankShift, Cond.static yX1_rankShift, Cond.code yX1_rankShift cX1_rankShift 1 (some .int), Cond.methodLink RX6 193 yX3_actorAt, Cond.instanceMethod yX3_actorAt, Cond.selects RX3 yX3_actorAt yX3_actorAt, Cond.initialized RX3, Cond.code yX3_actorAt cX3_actorAt 3 (some .int), Cond.fieldLink RX3 15 "CastDesk$Rows" "lengths" "[I"]
def wsX6_shareBack_r2 : List Cond := [Cond.fieldLink RX3 9 "CastDesk$Rows" "actors" "[I", Cond.methodLink RX6 153 yX1_strainOf, Cond.static yX1_strainOf, Cond.code yX1_strainOf cX1_strainOf 1 (some .int)]
def wsX6_shareBack : List Cond := .code yX6_shareBack cX6_shareBack 5 (some .int) :: ((wsX6_shareBack_r1 ++ wsX6_shareBack_r2) ++ wsX60 ++ wsX00 ++ wsX30)
def wsX6_refundSeats_r1 : List Cond := [Cond.fieldLink RX6 47 "CastDesk" "office" "LCastDesk$BoxOffice;", Cond.fieldLink RX6 190 "CastDesk$BoxOffice" "count" "I", Cond.fieldLink RX6 256 "CastDesk$BoxOffice" "shows" "[I", Cond.methodLink RX6 259 yX6_shareBack, Cond.instanceMethod yX6_shareBack, Cond.selects RX6 yX6_shareBack yX6_shareBack, Cond.initialized RX6, Cond.code yX6_shareBack cX6_shareBack 5 (some .int), Cond.fieldLink RX6 265 "CastDesk$BoxOffice" "parts" "[I", Cond.fieldLink RX6 51 "CastDesk" "partCount" "I", Cond.fieldLink RX6 268 "CastDesk$BoxOffice" "promises" "[I", Cond.fieldLink RX6 271 "CastDesk$BoxOffice" "stars" "[I", Cond.methodLink RX6 165 yX6_actorIn, Cond.instanceMethod yX6_actorIn, Cond.selects RX6 yX6_actorIn yX6_actorIn, Cond.code yX6_actorIn cX6_actorIn 3 (some .int), Cond.fieldLink RX6 19 "CastDesk" "rows" "LCastDesk$Rows;", Cond.methodLink RX6 244 yX1_rankOf, Cond.static yX1_rankOf, Cond.initialized RX1, Cond.code yX1_rankOf cX1_rankOf 2 (some .int), Cond.methodLink RX1 21 yX1_rankShift, Cond.static yX1_rankShift, Cond.code yX1_rankShift cX1_rankShift 1 (some .int)]
def wsX6_refundSeats_r2 : List Cond := [Cond.methodLink RX6 193 yX3_actorAt, Cond.instanceMethod yX3_actorAt, Cond.selects RX3 yX3_actorAt yX3_actorAt, Cond.initialized RX3, Cond.code yX3_actorAt cX3_actorAt 3 (some .int), Cond.fieldLink RX3 15 "CastDesk$Rows" "lengths" "[I", Cond.fieldLink RX3 9 "CastDesk$Rows" "actors" "[I", Cond.methodLink RX6 153 yX1_strainOf, Cond.static yX1_strainOf, Cond.code yX1_strainOf cX1_strainOf 1 (some .int), Cond.methodLink RX6 262 yX0_giveBack, Cond.instanceMethod yX0_giveBack, Cond.selects RX0 yX0_giveBack yX0_giveBack, Cond.initialized RX0, Cond.code yX0_giveBack cX0_giveBack 4 (some .int), Cond.fieldLink RX0 27 "CastDesk$BoxOffice" "prices" "[I", Cond.fieldLink RX0 24 "CastDesk$BoxOffice" "refunds" "[I", Cond.fieldLink RX0 34 "CastDesk$BoxOffice" "money" "I"]
def wsX6_refundSeats : List Cond := .code yX6_refundSeats cX6_refundSeats 6 (some .int) :: ((wsX6_refundSeats_r1 ++ wsX6_refundSeats_r2) ++ wsX60 ++ wsX00 ++ wsX30)
def wsX6_perform_r1 : List Cond := [Cond.fieldLink RX6 10 "CastDesk" "troupe" "LCastDesk$Troupe;", Cond.fieldLink RX6 139 "CastDesk$Troupe" "ill" "[I", Cond.fieldLink RX6 55 "CastDesk" "today" "I", Cond.fieldLink RX6 40 "CastDesk" "programme" "LCastDesk$Programme;", Cond.fieldLink RX6 185 "CastDesk$Programme" "states" "[I", Cond.fieldLink RX6 51 "CastDesk" "partCount" "I", Cond.fieldLink RX6 206 "CastDesk$Programme" "casts" "[I", Cond.methodLink RX6 150 yX6_bestCast, Cond.instanceMethod yX6_bestCast, Cond.selects RX6 yX6_bestCast yX6_bestCast, Cond.initialized RX6, Cond.code yX6_bestCast cX6_bestCast 2 (some .int), Cond.fieldLink RX6 33 "CastDesk" "casting" "LCastDesk$Casting;", Cond.methodLink RX6 156 yX6_offerActors, Cond.instanceMethod yX6_offerActors, Cond.selects RX6 yX6_offerActors yX6_offerActors, Cond.code yX6_offerActors cX6_offerActors 6 none, Cond.fieldLink RX6 19 "CastDesk" "rows" "LCastDesk$Rows;", Cond.fieldLink RX6 26 "CastDesk" "wardrobe" "LCastDesk$Wardrobe;", Cond.fieldLink RX6 72 "CastDesk$Troupe" "sizes" "[I", Cond.methodLink RX6 234 yX1_clear, Cond.instanceMethod yX1_clear, Cond.selects RX1 yX1_clear yX1_clear, Cond.initialized RX1]
def wsX6_perform_r2 : List Cond := [Cond.code yX1_clear cX1_clear 2 none, Cond.fieldLink RX1 11 "CastDesk$Casting" "actors" "[I", Cond.fieldLink RX1 25 "CastDesk$Casting" "setsBound" "I", Cond.methodLink RX6 193 yX3_actorAt, Cond.instanceMethod yX3_actorAt, Cond.selects RX3 yX3_actorAt yX3_actorAt, Cond.initialized RX3, Cond.code yX3_actorAt cX3_actorAt 3 (some .int), Cond.fieldLink RX3 15 "CastDesk$Rows" "lengths" "[I", Cond.fieldLink RX3 9 "CastDesk$Rows" "actors" "[I", Cond.methodLink RX6 146 yX6_isReady, Cond.instanceMethod yX6_isReady, Cond.selects RX6 yX6_isReady yX6_isReady, Cond.code yX6_isReady cX6_isReady 5 (some .boolean), Cond.fieldLink RX6 79 "CastDesk$Troupe" "known" "[I", Cond.methodLink RX6 142 yX6_has, Cond.static yX6_has, Cond.code yX6_has cX6_has 2 (some .boolean), Cond.methodLink RX6 228 yX5_lowestFitting, Cond.instanceMethod yX5_lowestFitting, Cond.selects RX5 yX5_lowestFitting yX5_lowestFitting, Cond.initialized RX5, Cond.code yX5_lowestFitting cX5_lowestFitting 4 (some .int), Cond.fieldLink RX5 22 "CastDesk$Wardrobe" "count" "I"]
def wsX6_perform_r3 : List Cond := [Cond.fieldLink RX5 15 "CastDesk$Wardrobe" "parts" "[I", Cond.fieldLink RX5 9 "CastDesk$Wardrobe" "sizes" "[I", Cond.methodLink RX6 231 yX5_lowestToLetOut, Cond.instanceMethod yX5_lowestToLetOut, Cond.selects RX5 yX5_lowestToLetOut yX5_lowestToLetOut, Cond.code yX5_lowestToLetOut cX5_lowestToLetOut 4 (some .int), Cond.fieldLink RX5 18 "CastDesk$Wardrobe" "isLetOut" "[Z", Cond.methodLink RX6 237 yX1_offer, Cond.instanceMethod yX1_offer, Cond.selects RX1 yX1_offer yX1_offer, Cond.code yX1_offer cX1_offer 6 none, Cond.fieldLink RX1 15 "CastDesk$Casting" "keys" "[I", Cond.methodLink RX1 29 Lib.Math.max.name, Cond.static Lib.Math.max.name, Cond.initialized "java/lang/Math", Cond.code Lib.Math.max.name Lib.Math.max.code 2 (some .int), Cond.methodLink RX1 21 yX1_rankShift, Cond.static yX1_rankShift, Cond.code yX1_rankShift cX1_rankShift 1 (some .int), Cond.methodLink RX6 241 yX1_leastKey, Cond.instanceMethod yX1_leastKey, Cond.selects RX1 yX1_leastKey yX1_leastKey, Cond.code yX1_leastKey cX1_leastKey 6 (some .int), Cond.fieldLink RX1 18 "CastDesk$Casting" "leastOfSet" "[I"]
def wsX6_perform_r4 : List Cond := [Cond.methodLink RX1 35 yJ6_bitCount_0f7a4, Cond.static yJ6_bitCount_0f7a4, Cond.initialized RJ6, Cond.code yJ6_bitCount_0f7a4 cJ6_bitCount_0f7a4 1 (some .int), Cond.constant RJ6 265 (1431655765), Cond.constant RJ6 266 (858993459), Cond.constant RJ6 267 (252645135), Cond.methodLink RX1 40 yX1_castPart, Cond.instanceMethod yX1_castPart, Cond.selects RX1 yX1_castPart yX1_castPart, Cond.code yX1_castPart cX1_castPart 9 none, Cond.static yX6_with, Cond.code yX6_with cX6_with 2 (some .int), Cond.methodLink RX6 165 yX6_actorIn, Cond.instanceMethod yX6_actorIn, Cond.selects RX6 yX6_actorIn yX6_actorIn, Cond.code yX6_actorIn cX6_actorIn 3 (some .int), Cond.methodLink RX6 244 yX1_rankOf, Cond.static yX1_rankOf, Cond.code yX1_rankOf cX1_rankOf 2 (some .int), Cond.methodLink RX6 247 yX6_dress, Cond.instanceMethod yX6_dress, Cond.selects RX6 yX6_dress yX6_dress, Cond.code yX6_dress cX6_dress 4 none]
def wsX6_perform_r5 : List Cond := [Cond.methodLink RX6 253 yX5_letOut, Cond.instanceMethod yX5_letOut, Cond.selects RX5 yX5_letOut yX5_letOut, Cond.code yX5_letOut cX5_letOut 2 none, Cond.methodLink RX6 250 yX6_refundSeats, Cond.instanceMethod yX6_refundSeats, Cond.selects RX6 yX6_refundSeats yX6_refundSeats, Cond.code yX6_refundSeats cX6_refundSeats 6 (some .int), Cond.fieldLink RX6 47 "CastDesk" "office" "LCastDesk$BoxOffice;", Cond.fieldLink RX6 190 "CastDesk$BoxOffice" "count" "I", Cond.fieldLink RX6 256 "CastDesk$BoxOffice" "shows" "[I", Cond.methodLink RX6 259 yX6_shareBack, Cond.instanceMethod yX6_shareBack, Cond.selects RX6 yX6_shareBack yX6_shareBack, Cond.code yX6_shareBack cX6_shareBack 5 (some .int), Cond.fieldLink RX6 265 "CastDesk$BoxOffice" "parts" "[I", Cond.fieldLink RX6 268 "CastDesk$BoxOffice" "promises" "[I", Cond.fieldLink RX6 271 "CastDesk$BoxOffice" "stars" "[I", Cond.methodLink RX6 153 yX1_strainOf, Cond.static yX1_strainOf, Cond.code yX1_strainOf cX1_strainOf 1 (some .int), Cond.methodLink RX6 262 yX0_giveBack, Cond.instanceMethod yX0_giveBack, Cond.selects RX0 yX0_giveBack yX0_giveBack]
def wsX6_perform_r6 : List Cond := [Cond.initialized RX0, Cond.code yX0_giveBack cX0_giveBack 4 (some .int), Cond.fieldLink RX0 27 "CastDesk$BoxOffice" "prices" "[I", Cond.fieldLink RX0 24 "CastDesk$BoxOffice" "refunds" "[I", Cond.fieldLink RX0 34 "CastDesk$BoxOffice" "money" "I"]
def wsX6_perform : List Cond := .code yX6_perform cX6_perform 5 (some .int) :: ((wsX6_perform_r1 ++ (wsX6_perform_r2 ++ (wsX6_perform_r3 ++ (wsX6_perform_r4 ++ (wsX6_perform_r5 ++ wsX6_perform_r6))))) ++ wsX60 ++ wsX40 ++ wsX20 ++ wsX10 ++ wsX30 ++ wsX50 ++ wsX00)
def wsX6_play_r1 : List Cond := [Cond.classLink RX6 95 "java/lang/IllegalStateException", Cond.initialized "java/lang/IllegalStateException", Cond.fieldLink RX6 55 "CastDesk" "today" "I", Cond.fieldLink RX6 40 "CastDesk" "programme" "LCastDesk$Programme;", Cond.methodLink RX6 171 yX2_showOn, Cond.instanceMethod yX2_showOn, Cond.selects RX2 yX2_showOn yX2_showOn, Cond.initialized RX2, Cond.code yX2_showOn cX2_showOn 3 (some .int), Cond.fieldLink RX2 21 "CastDesk$Programme" "count" "I", Cond.fieldLink RX2 18 "CastDesk$Programme" "days" "[I", Cond.methodLink RX6 203 yX6_perform, Cond.instanceMethod yX6_perform, Cond.selects RX6 yX6_perform yX6_perform, Cond.initialized RX6, Cond.code yX6_perform cX6_perform 5 (some .int), Cond.fieldLink RX6 10 "CastDesk" "troupe" "LCastDesk$Troupe;", Cond.fieldLink RX6 139 "CastDesk$Troupe" "ill" "[I", Cond.fieldLink RX6 185 "CastDesk$Programme" "states" "[I", Cond.fieldLink RX6 51 "CastDesk" "partCount" "I", Cond.fieldLink RX6 206 "CastDesk$Programme" "casts" "[I", Cond.methodLink RX6 150 yX6_bestCast, Cond.instanceMethod yX6_bestCast, Cond.selects RX6 yX6_bestCast yX6_bestCast]
def wsX6_play_r2 : List Cond := [Cond.code yX6_bestCast cX6_bestCast 2 (some .int), Cond.fieldLink RX6 33 "CastDesk" "casting" "LCastDesk$Casting;", Cond.methodLink RX6 156 yX6_offerActors, Cond.instanceMethod yX6_offerActors, Cond.selects RX6 yX6_offerActors yX6_offerActors, Cond.code yX6_offerActors cX6_offerActors 6 none, Cond.fieldLink RX6 19 "CastDesk" "rows" "LCastDesk$Rows;", Cond.fieldLink RX6 26 "CastDesk" "wardrobe" "LCastDesk$Wardrobe;", Cond.fieldLink RX6 72 "CastDesk$Troupe" "sizes" "[I", Cond.methodLink RX6 234 yX1_clear, Cond.instanceMethod yX1_clear, Cond.selects RX1 yX1_clear yX1_clear, Cond.initialized RX1, Cond.code yX1_clear cX1_clear 2 none, Cond.fieldLink RX1 11 "CastDesk$Casting" "actors" "[I", Cond.fieldLink RX1 25 "CastDesk$Casting" "setsBound" "I", Cond.methodLink RX6 193 yX3_actorAt, Cond.instanceMethod yX3_actorAt, Cond.selects RX3 yX3_actorAt yX3_actorAt, Cond.initialized RX3, Cond.code yX3_actorAt cX3_actorAt 3 (some .int), Cond.fieldLink RX3 15 "CastDesk$Rows" "lengths" "[I", Cond.fieldLink RX3 9 "CastDesk$Rows" "actors" "[I", Cond.methodLink RX6 146 yX6_isReady]
def wsX6_play_r3 : List Cond := [Cond.instanceMethod yX6_isReady, Cond.selects RX6 yX6_isReady yX6_isReady, Cond.code yX6_isReady cX6_isReady 5 (some .boolean), Cond.fieldLink RX6 79 "CastDesk$Troupe" "known" "[I", Cond.methodLink RX6 142 yX6_has, Cond.static yX6_has, Cond.code yX6_has cX6_has 2 (some .boolean), Cond.methodLink RX6 228 yX5_lowestFitting, Cond.instanceMethod yX5_lowestFitting, Cond.selects RX5 yX5_lowestFitting yX5_lowestFitting, Cond.initialized RX5, Cond.code yX5_lowestFitting cX5_lowestFitting 4 (some .int), Cond.fieldLink RX5 22 "CastDesk$Wardrobe" "count" "I", Cond.fieldLink RX5 15 "CastDesk$Wardrobe" "parts" "[I", Cond.fieldLink RX5 9 "CastDesk$Wardrobe" "sizes" "[I", Cond.methodLink RX6 231 yX5_lowestToLetOut, Cond.instanceMethod yX5_lowestToLetOut, Cond.selects RX5 yX5_lowestToLetOut yX5_lowestToLetOut, Cond.code yX5_lowestToLetOut cX5_lowestToLetOut 4 (some .int), Cond.fieldLink RX5 18 "CastDesk$Wardrobe" "isLetOut" "[Z", Cond.methodLink RX6 237 yX1_offer, Cond.instanceMethod yX1_offer, Cond.selects RX1 yX1_offer yX1_offer, Cond.code yX1_offer cX1_offer 6 none]
def wsX6_play_r4 : List Cond := [Cond.fieldLink RX1 15 "CastDesk$Casting" "keys" "[I", Cond.methodLink RX1 29 Lib.Math.max.name, Cond.static Lib.Math.max.name, Cond.initialized "java/lang/Math", Cond.code Lib.Math.max.name Lib.Math.max.code 2 (some .int), Cond.methodLink RX1 21 yX1_rankShift, Cond.static yX1_rankShift, Cond.code yX1_rankShift cX1_rankShift 1 (some .int), Cond.methodLink RX6 241 yX1_leastKey, Cond.instanceMethod yX1_leastKey, Cond.selects RX1 yX1_leastKey yX1_leastKey, Cond.code yX1_leastKey cX1_leastKey 6 (some .int), Cond.fieldLink RX1 18 "CastDesk$Casting" "leastOfSet" "[I", Cond.methodLink RX1 35 yJ6_bitCount_0f7a4, Cond.static yJ6_bitCount_0f7a4, Cond.initialized RJ6, Cond.code yJ6_bitCount_0f7a4 cJ6_bitCount_0f7a4 1 (some .int), Cond.constant RJ6 265 (1431655765), Cond.constant RJ6 266 (858993459), Cond.constant RJ6 267 (252645135), Cond.methodLink RX1 40 yX1_castPart, Cond.instanceMethod yX1_castPart, Cond.selects RX1 yX1_castPart yX1_castPart, Cond.code yX1_castPart cX1_castPart 9 none]
def wsX6_play_r5 : List Cond := [Cond.static yX6_with, Cond.code yX6_with cX6_with 2 (some .int), Cond.methodLink RX6 165 yX6_actorIn, Cond.instanceMethod yX6_actorIn, Cond.selects RX6 yX6_actorIn yX6_actorIn, Cond.code yX6_actorIn cX6_actorIn 3 (some .int), Cond.methodLink RX6 244 yX1_rankOf, Cond.static yX1_rankOf, Cond.code yX1_rankOf cX1_rankOf 2 (some .int), Cond.methodLink RX6 247 yX6_dress, Cond.instanceMethod yX6_dress, Cond.selects RX6 yX6_dress yX6_dress, Cond.code yX6_dress cX6_dress 4 none, Cond.methodLink RX6 253 yX5_letOut, Cond.instanceMethod yX5_letOut, Cond.selects RX5 yX5_letOut yX5_letOut, Cond.code yX5_letOut cX5_letOut 2 none, Cond.methodLink RX6 250 yX6_refundSeats, Cond.instanceMethod yX6_refundSeats, Cond.selects RX6 yX6_refundSeats yX6_refundSeats, Cond.code yX6_refundSeats cX6_refundSeats 6 (some .int), Cond.fieldLink RX6 47 "CastDesk" "office" "LCastDesk$BoxOffice;", Cond.fieldLink RX6 190 "CastDesk$BoxOffice" "count" "I", Cond.fieldLink RX6 256 "CastDesk$BoxOffice" "shows" "[I"]
def wsX6_play_r6 : List Cond := [Cond.methodLink RX6 259 yX6_shareBack, Cond.instanceMethod yX6_shareBack, Cond.selects RX6 yX6_shareBack yX6_shareBack, Cond.code yX6_shareBack cX6_shareBack 5 (some .int), Cond.fieldLink RX6 265 "CastDesk$BoxOffice" "parts" "[I", Cond.fieldLink RX6 268 "CastDesk$BoxOffice" "promises" "[I", Cond.fieldLink RX6 271 "CastDesk$BoxOffice" "stars" "[I", Cond.methodLink RX6 153 yX1_strainOf, Cond.static yX1_strainOf, Cond.code yX1_strainOf cX1_strainOf 1 (some .int), Cond.methodLink RX6 262 yX0_giveBack, Cond.instanceMethod yX0_giveBack, Cond.selects RX0 yX0_giveBack yX0_giveBack, Cond.initialized RX0, Cond.code yX0_giveBack cX0_giveBack 4 (some .int), Cond.fieldLink RX0 27 "CastDesk$BoxOffice" "prices" "[I", Cond.fieldLink RX0 24 "CastDesk$BoxOffice" "refunds" "[I", Cond.fieldLink RX0 34 "CastDesk$BoxOffice" "money" "I"]
def wsX6_play : List Cond := .code yX6_play cX6_play 3 (some .int) :: ((wsX6_play_r1 ++ (wsX6_play_r2 ++ (wsX6_play_r3 ++ (wsX6_play_r4 ++ (wsX6_play_r5 ++ wsX6_play_r6))))) ++ wsX60 ++ wsX20 ++ wsX40 ++ wsX10 ++ wsX30 ++ wsX50 ++ wsX00 ++ (vx_atS RX6 99 "java/lang/IllegalStateException" ["java/lang/RuntimeException", "java/lang/Exception"]).filter goodWord)
def wsX6_day : List Cond := .code yX6_day cX6_day 1 (some .int) :: ([.fieldLink RX6 55 "CastDesk" "today" "I"] ++ wsX60)
def wsX6_stateOf : List Cond := .code yX6_stateOf cX6_stateOf 2 (some .int) :: ([.fieldLink RX6 40 "CastDesk" "programme" "LCastDesk$Programme;", .fieldLink RX6 176 "CastDesk$Programme" "count" "I", .fieldLink RX6 185 "CastDesk$Programme" "states" "[I", .methodLink RX6 128 yX6_needOneOf, .static yX6_needOneOf, .initialized RX6, .code yX6_needOneOf cX6_needOneOf 2 none, .classLink RX6 215 "java/lang/IndexOutOfBoundsException", .initialized "java/lang/IndexOutOfBoundsException"] ++ wsX60 ++ wsX20 ++ (vx_atS RX6 219 "java/lang/IndexOutOfBoundsException" ["java/lang/RuntimeException", "java/lang/Exception"]).filter goodWord)
def wsX6_played : List Cond := .code yX6_played cX6_played 3 (some .int) :: ([.fieldLink RX6 40 "CastDesk" "programme" "LCastDesk$Programme;", .fieldLink RX6 176 "CastDesk$Programme" "count" "I", .fieldLink RX6 206 "CastDesk$Programme" "casts" "[I", .methodLink RX6 128 yX6_needOneOf, .static yX6_needOneOf, .initialized RX6, .code yX6_needOneOf cX6_needOneOf 2 none, .classLink RX6 215 "java/lang/IndexOutOfBoundsException", .initialized "java/lang/IndexOutOfBoundsException", .methodLink RX6 76 yX6_needPart, .static yX6_needPart, .code yX6_needPart cX6_needPart 1 none] ++ wsX60 ++ wsX20 ++ (vx_atS RX6 219 "java/lang/IndexOutOfBoundsException" ["java/lang/RuntimeException", "java/lang/Exception"]).filter goodWord)
def wsX6_refund : List Cond := .code yX6_refund cX6_refund 2 (some .int) :: ([.fieldLink RX6 47 "CastDesk" "office" "LCastDesk$BoxOffice;", .fieldLink RX6 190 "CastDesk$BoxOffice" "count" "I", .fieldLink RX6 209 "CastDesk$BoxOffice" "refunds" "[I", .methodLink RX6 128 yX6_needOneOf, .static yX6_needOneOf, .initialized RX6, .code yX6_needOneOf cX6_needOneOf 2 none, .classLink RX6 215 "java/lang/IndexOutOfBoundsException", .initialized "java/lang/IndexOutOfBoundsException"] ++ wsX60 ++ wsX00 ++ (vx_atS RX6 219 "java/lang/IndexOutOfBoundsException" ["java/lang/RuntimeException", "java/lang/Exception"]).filter goodWord)
def wsX6_takings : List Cond := .code yX6_takings cX6_takings 1 (some .int) :: ([.fieldLink RX6 47 "CastDesk" "office" "LCastDesk$BoxOffice;", .fieldLink RX6 212 "CastDesk$BoxOffice" "money" "I"] ++ wsX60 ++ wsX00)
def wsX7_init_r1 : List Cond := [Cond.methodLink RX7 1 objectInit, Cond.instanceMethod objectInit, Cond.code objectInit ⟨#[0xb1]⟩ 1 none, Cond.fieldLink RX7 7 "CastDeskModel" "parts" "I", Cond.arrayClass .int, Cond.fieldLink RX7 13 "CastDeskModel" "sizes" "[I", Cond.fieldLink RX7 17 "CastDeskModel" "known" "[I", Cond.fieldLink RX7 20 "CastDeskModel" "rows" "[I", Cond.fieldLink RX7 23 "CastDeskModel" "lengths" "[I", Cond.fieldLink RX7 26 "CastDeskModel" "costumePart" "[I", Cond.fieldLink RX7 29 "CastDeskModel" "costumeSize" "[I", Cond.fieldLink RX7 32 "CastDeskModel" "letOut" "[I", Cond.fieldLink RX7 35 "CastDeskModel" "ill" "[I", Cond.fieldLink RX7 38 "CastDeskModel" "showDay" "[I", Cond.fieldLink RX7 41 "CastDeskModel" "showState" "[I", Cond.fieldLink RX7 44 "CastDeskModel" "showCast" "[I", Cond.fieldLink RX7 47 "CastDeskModel" "seatShow" "[I", Cond.fieldLink RX7 50 "CastDeskModel" "seatPrice" "[I", Cond.fieldLink RX7 53 "CastDeskModel" "seatPromise" "[I", Cond.fieldLink RX7 56 "CastDeskModel" "seatPart" "[I", Cond.fieldLink RX7 59 "CastDeskModel" "seatStar" "[I", Cond.fieldLink RX7 62 "CastDeskModel" "seatRefund" "[I", Cond.fieldLink RX7 65 "CastDeskModel" "able" "[I", Cond.fieldLink RX7 68 "CastDeskModel" "cast" "[I"]
def wsX7_init_r2 : List Cond := [Cond.fieldLink RX7 71 "CastDeskModel" "before" "[I"]
def wsX7_init : List Cond := .code yX7_init cX7_init 2 none :: ((wsX7_init_r1 ++ wsX7_init_r2) ++ wsX70)
def wsX7_thrown : List Cond := .code yX7_thrown cX7_thrown 1 (some .int) :: ([.fieldLink RX7 74 "CastDeskModel" "thrown" "I"] ++ wsX70)
def wsX7_fails : List Cond := .code yX7_fails cX7_fails 2 (some .int) :: ([.fieldLink RX7 74 "CastDeskModel" "thrown" "I"] ++ wsX70)
def wsX7_in : List Cond := .code yX7_in cX7_in 3 (some .boolean) :: ([])
def wsX7_isActor : List Cond := .code yX7_isActor cX7_isActor 1 (some .boolean) :: ([.methodLink RX7 77 yX7_in, .static yX7_in, .initialized RX7, .code yX7_in cX7_in 3 (some .boolean)])
def wsX7_isPart : List Cond := .code yX7_isPart cX7_isPart 1 (some .boolean) :: ([.methodLink RX7 77 yX7_in, .static yX7_in, .initialized RX7, .code yX7_in cX7_in 3 (some .boolean)])
def wsX7_isDay : List Cond := .code yX7_isDay cX7_isDay 1 (some .boolean) :: ([.methodLink RX7 77 yX7_in, .static yX7_in, .initialized RX7, .code yX7_in cX7_in 3 (some .boolean)])
def wsX7_setParts : List Cond := .code yX7_setParts cX7_setParts 3 (some .int) :: ([.fieldLink RX7 74 "CastDeskModel" "thrown" "I", .fieldLink RX7 7 "CastDeskModel" "parts" "I", .methodLink RX7 77 yX7_in, .static yX7_in, .initialized RX7, .code yX7_in cX7_in 3 (some .boolean), .methodLink RX7 81 yX7_fails, .instanceMethod yX7_fails, .selects RX7 yX7_fails yX7_fails, .code yX7_fails cX7_fails 2 (some .int)] ++ wsX70)
def wsX7_setSize : List Cond := .code yX7_setSize cX7_setSize 4 (some .int) :: ([.fieldLink RX7 74 "CastDeskModel" "thrown" "I", .fieldLink RX7 13 "CastDeskModel" "sizes" "[I", .methodLink RX7 85 yX7_isActor, .static yX7_isActor, .initialized RX7, .code yX7_isActor cX7_isActor 1 (some .boolean), .methodLink RX7 77 yX7_in, .static yX7_in, .code yX7_in cX7_in 3 (some .boolean), .methodLink RX7 81 yX7_fails, .instanceMethod yX7_fails, .selects RX7 yX7_fails yX7_fails, .code yX7_fails cX7_fails 2 (some .int)] ++ wsX70)
def wsX7_knownBy : List Cond := .code yX7_knownBy cX7_knownBy 4 (some .int) :: ([.fieldLink RX7 17 "CastDeskModel" "known" "[I"] ++ wsX70)
def wsX7_knows : List Cond := .code yX7_knows cX7_knows 3 (some .boolean) :: ([.fieldLink RX7 17 "CastDeskModel" "known" "[I"] ++ wsX70)
def wsX7_learn : List Cond := .code yX7_learn cX7_learn 4 (some .int) :: ([.fieldLink RX7 74 "CastDeskModel" "thrown" "I", .fieldLink RX7 17 "CastDeskModel" "known" "[I", .methodLink RX7 85 yX7_isActor, .static yX7_isActor, .initialized RX7, .code yX7_isActor cX7_isActor 1 (some .boolean), .methodLink RX7 77 yX7_in, .static yX7_in, .code yX7_in cX7_in 3 (some .boolean), .methodLink RX7 89 yX7_isPart, .static yX7_isPart, .code yX7_isPart cX7_isPart 1 (some .boolean), .methodLink RX7 81 yX7_fails, .instanceMethod yX7_fails, .selects RX7 yX7_fails yX7_fails, .code yX7_fails cX7_fails 2 (some .int), .methodLink RX7 92 yX7_knows, .instanceMethod yX7_knows, .selects RX7 yX7_knows yX7_knows, .code yX7_knows cX7_knows 3 (some .boolean), .methodLink RX7 96 yX7_knownBy, .instanceMethod yX7_knownBy, .selects RX7 yX7_knownBy yX7_knownBy, .code yX7_knownBy cX7_knownBy 4 (some .int)] ++ wsX70)
def wsX7_rankOf : List Cond := .code yX7_rankOf cX7_rankOf 4 (some .int) :: ([.fieldLink RX7 23 "CastDeskModel" "lengths" "[I", .fieldLink RX7 20 "CastDeskModel" "rows" "[I"] ++ wsX70)
def wsX7_put : List Cond := .code yX7_put cX7_put 3 (some .int) :: ([.fieldLink RX7 74 "CastDeskModel" "thrown" "I", .fieldLink RX7 23 "CastDeskModel" "lengths" "[I", .fieldLink RX7 20 "CastDeskModel" "rows" "[I", .methodLink RX7 89 yX7_isPart, .static yX7_isPart, .initialized RX7, .code yX7_isPart cX7_isPart 1 (some .boolean), .methodLink RX7 77 yX7_in, .static yX7_in, .code yX7_in cX7_in 3 (some .boolean), .methodLink RX7 85 yX7_isActor, .static yX7_isActor, .code yX7_isActor cX7_isActor 1 (some .boolean), .methodLink RX7 81 yX7_fails, .instanceMethod yX7_fails, .selects RX7 yX7_fails yX7_fails, .code yX7_fails cX7_fails 2 (some .int), .methodLink RX7 99 yX7_rankOf, .instanceMethod yX7_rankOf, .selects RX7 yX7_rankOf yX7_rankOf, .code yX7_rankOf cX7_rankOf 4 (some .int)] ++ wsX70)
def wsX7_take : List Cond := .code yX7_take cX7_take 5 (some .int) :: ([.fieldLink RX7 74 "CastDeskModel" "thrown" "I", .fieldLink RX7 23 "CastDeskModel" "lengths" "[I", .fieldLink RX7 20 "CastDeskModel" "rows" "[I", .methodLink RX7 89 yX7_isPart, .static yX7_isPart, .initialized RX7, .code yX7_isPart cX7_isPart 1 (some .boolean), .methodLink RX7 77 yX7_in, .static yX7_in, .code yX7_in cX7_in 3 (some .boolean), .methodLink RX7 85 yX7_isActor, .static yX7_isActor, .code yX7_isActor cX7_isActor 1 (some .boolean), .methodLink RX7 81 yX7_fails, .instanceMethod yX7_fails, .selects RX7 yX7_fails yX7_fails, .code yX7_fails cX7_fails 2 (some .int), .methodLink RX7 99 yX7_rankOf, .instanceMethod yX7_rankOf, .selects RX7 yX7_rankOf yX7_rankOf, .code yX7_rankOf cX7_rankOf 4 (some .int)] ++ wsX70)
def wsX7_costume : List Cond := .code yX7_costume cX7_costume 3 (some .int) :: ([.fieldLink RX7 74 "CastDeskModel" "thrown" "I", .fieldLink RX7 103 "CastDeskModel" "costumes" "I", .fieldLink RX7 26 "CastDeskModel" "costumePart" "[I", .fieldLink RX7 29 "CastDeskModel" "costumeSize" "[I", .methodLink RX7 89 yX7_isPart, .static yX7_isPart, .initialized RX7, .code yX7_isPart cX7_isPart 1 (some .boolean), .methodLink RX7 77 yX7_in, .static yX7_in, .code yX7_in cX7_in 3 (some .boolean), .methodLink RX7 81 yX7_fails, .instanceMethod yX7_fails, .selects RX7 yX7_fails yX7_fails, .code yX7_fails cX7_fails 2 (some .int)] ++ wsX70)
def wsX7_sizeOf : List Cond := .code yX7_sizeOf cX7_sizeOf 2 (some .int) :: ([.fieldLink RX7 74 "CastDeskModel" "thrown" "I", .fieldLink RX7 103 "CastDeskModel" "costumes" "I", .fieldLink RX7 29 "CastDeskModel" "costumeSize" "[I", .methodLink RX7 77 yX7_in, .static yX7_in, .initialized RX7, .code yX7_in cX7_in 3 (some .boolean), .methodLink RX7 81 yX7_fails, .instanceMethod yX7_fails, .selects RX7 yX7_fails yX7_fails, .code yX7_fails cX7_fails 2 (some .int)] ++ wsX70)
def wsX7_cold : List Cond := .code yX7_cold cX7_cold 6 (some .int) :: ([.fieldLink RX7 74 "CastDeskModel" "thrown" "I", .fieldLink RX7 106 "CastDeskModel" "today" "I", .fieldLink RX7 35 "CastDeskModel" "ill" "[I", .methodLink RX7 85 yX7_isActor, .static yX7_isActor, .initialized RX7, .code yX7_isActor cX7_isActor 1 (some .boolean), .methodLink RX7 77 yX7_in, .static yX7_in, .code yX7_in cX7_in 3 (some .boolean), .methodLink RX7 81 yX7_fails, .instanceMethod yX7_fails, .selects RX7 yX7_fails yX7_fails, .code yX7_fails cX7_fails 2 (some .int)] ++ wsX70)
def wsX7_isIll : List Cond := .code yX7_isIll cX7_isIll 3 (some .boolean) :: ([.fieldLink RX7 74 "CastDeskModel" "thrown" "I", .fieldLink RX7 35 "CastDeskModel" "ill" "[I", .methodLink RX7 85 yX7_isActor, .static yX7_isActor, .initialized RX7, .code yX7_isActor cX7_isActor 1 (some .boolean), .methodLink RX7 77 yX7_in, .static yX7_in, .code yX7_in cX7_in 3 (some .boolean), .methodLink RX7 81 yX7_fails, .instanceMethod yX7_fails, .selects RX7 yX7_fails yX7_fails, .code yX7_fails cX7_fails 2 (some .int), .methodLink RX7 109 yX7_isDay, .static yX7_isDay, .code yX7_isDay cX7_isDay 1 (some .boolean)] ++ wsX70)
def wsX7_fits : List Cond := .code yX7_fits cX7_fits 5 (some .boolean) :: ([.fieldLink RX7 103 "CastDeskModel" "costumes" "I", .fieldLink RX7 26 "CastDeskModel" "costumePart" "[I", .fieldLink RX7 29 "CastDeskModel" "costumeSize" "[I", .fieldLink RX7 13 "CastDeskModel" "sizes" "[I"] ++ wsX70)
def wsX7_toLetOut : List Cond := .code yX7_toLetOut cX7_toLetOut 4 (some .int) :: ([.fieldLink RX7 103 "CastDeskModel" "costumes" "I", .fieldLink RX7 26 "CastDeskModel" "costumePart" "[I", .fieldLink RX7 32 "CastDeskModel" "letOut" "[I", .fieldLink RX7 29 "CastDeskModel" "costumeSize" "[I", .fieldLink RX7 13 "CastDeskModel" "sizes" "[I"] ++ wsX70)
def wsX7_can_r1 : List Cond := [Cond.fieldLink RX7 35 "CastDeskModel" "ill" "[I", Cond.methodLink RX7 99 yX7_rankOf, Cond.instanceMethod yX7_rankOf, Cond.selects RX7 yX7_rankOf yX7_rankOf, Cond.initialized RX7, Cond.code yX7_rankOf cX7_rankOf 4 (some .int), Cond.fieldLink RX7 23 "CastDeskModel" "lengths" "[I", Cond.fieldLink RX7 20 "CastDeskModel" "rows" "[I", Cond.methodLink RX7 92 yX7_knows, Cond.instanceMethod yX7_knows, Cond.selects RX7 yX7_knows yX7_knows, Cond.code yX7_knows cX7_knows 3 (some .boolean), Cond.fieldLink RX7 17 "CastDeskModel" "known" "[I", Cond.methodLink RX7 112 yX7_fits, Cond.instanceMethod yX7_fits, Cond.selects RX7 yX7_fits yX7_fits, Cond.code yX7_fits cX7_fits 5 (some .boolean), Cond.fieldLink RX7 103 "CastDeskModel" "costumes" "I", Cond.fieldLink RX7 26 "CastDeskModel" "costumePart" "[I", Cond.fieldLink RX7 29 "CastDeskModel" "costumeSize" "[I", Cond.fieldLink RX7 13 "CastDeskModel" "sizes" "[I", Cond.methodLink RX7 115 yX7_toLetOut, Cond.instanceMethod yX7_toLetOut, Cond.selects RX7 yX7_toLetOut yX7_toLetOut]
def wsX7_can_r2 : List Cond := [Cond.code yX7_toLetOut cX7_toLetOut 4 (some .int), Cond.fieldLink RX7 32 "CastDeskModel" "letOut" "[I"]
def wsX7_can : List Cond := .code yX7_can cX7_can 5 (some .boolean) :: ((wsX7_can_r1 ++ wsX7_can_r2) ++ wsX70)
def wsX7_canPlay_r1 : List Cond := [Cond.fieldLink RX7 74 "CastDeskModel" "thrown" "I", Cond.methodLink RX7 85 yX7_isActor, Cond.static yX7_isActor, Cond.initialized RX7, Cond.code yX7_isActor cX7_isActor 1 (some .boolean), Cond.methodLink RX7 77 yX7_in, Cond.static yX7_in, Cond.code yX7_in cX7_in 3 (some .boolean), Cond.methodLink RX7 89 yX7_isPart, Cond.static yX7_isPart, Cond.code yX7_isPart cX7_isPart 1 (some .boolean), Cond.methodLink RX7 81 yX7_fails, Cond.instanceMethod yX7_fails, Cond.selects RX7 yX7_fails yX7_fails, Cond.code yX7_fails cX7_fails 2 (some .int), Cond.methodLink RX7 109 yX7_isDay, Cond.static yX7_isDay, Cond.code yX7_isDay cX7_isDay 1 (some .boolean), Cond.methodLink RX7 118 yX7_can, Cond.instanceMethod yX7_can, Cond.selects RX7 yX7_can yX7_can, Cond.code yX7_can cX7_can 5 (some .boolean), Cond.fieldLink RX7 35 "CastDeskModel" "ill" "[I", Cond.methodLink RX7 99 yX7_rankOf]
def wsX7_canPlay_r2 : List Cond := [Cond.instanceMethod yX7_rankOf, Cond.selects RX7 yX7_rankOf yX7_rankOf, Cond.code yX7_rankOf cX7_rankOf 4 (some .int), Cond.fieldLink RX7 23 "CastDeskModel" "lengths" "[I", Cond.fieldLink RX7 20 "CastDeskModel" "rows" "[I", Cond.methodLink RX7 92 yX7_knows, Cond.instanceMethod yX7_knows, Cond.selects RX7 yX7_knows yX7_knows, Cond.code yX7_knows cX7_knows 3 (some .boolean), Cond.fieldLink RX7 17 "CastDeskModel" "known" "[I", Cond.methodLink RX7 112 yX7_fits, Cond.instanceMethod yX7_fits, Cond.selects RX7 yX7_fits yX7_fits, Cond.code yX7_fits cX7_fits 5 (some .boolean), Cond.fieldLink RX7 103 "CastDeskModel" "costumes" "I", Cond.fieldLink RX7 26 "CastDeskModel" "costumePart" "[I", Cond.fieldLink RX7 29 "CastDeskModel" "costumeSize" "[I", Cond.fieldLink RX7 13 "CastDeskModel" "sizes" "[I", Cond.methodLink RX7 115 yX7_toLetOut, Cond.instanceMethod yX7_toLetOut, Cond.selects RX7 yX7_toLetOut yX7_toLetOut, Cond.code yX7_toLetOut cX7_toLetOut 4 (some .int), Cond.fieldLink RX7 32 "CastDeskModel" "letOut" "[I"]
def wsX7_canPlay : List Cond := .code yX7_canPlay cX7_canPlay 4 (some .boolean) :: ((wsX7_canPlay_r1 ++ wsX7_canPlay_r2) ++ wsX70)
def wsX7_layAble_r1 : List Cond := [Cond.fieldLink RX7 7 "CastDeskModel" "parts" "I", Cond.fieldLink RX7 23 "CastDeskModel" "lengths" "[I", Cond.fieldLink RX7 20 "CastDeskModel" "rows" "[I", Cond.fieldLink RX7 65 "CastDeskModel" "able" "[I", Cond.methodLink RX7 118 yX7_can, Cond.instanceMethod yX7_can, Cond.selects RX7 yX7_can yX7_can, Cond.initialized RX7, Cond.code yX7_can cX7_can 5 (some .boolean), Cond.fieldLink RX7 35 "CastDeskModel" "ill" "[I", Cond.methodLink RX7 99 yX7_rankOf, Cond.instanceMethod yX7_rankOf, Cond.selects RX7 yX7_rankOf yX7_rankOf, Cond.code yX7_rankOf cX7_rankOf 4 (some .int), Cond.methodLink RX7 92 yX7_knows, Cond.instanceMethod yX7_knows, Cond.selects RX7 yX7_knows yX7_knows, Cond.code yX7_knows cX7_knows 3 (some .boolean), Cond.fieldLink RX7 17 "CastDeskModel" "known" "[I", Cond.methodLink RX7 112 yX7_fits, Cond.instanceMethod yX7_fits, Cond.selects RX7 yX7_fits yX7_fits, Cond.code yX7_fits cX7_fits 5 (some .boolean), Cond.fieldLink RX7 103 "CastDeskModel" "costumes" "I"]
def wsX7_layAble_r2 : List Cond := [Cond.fieldLink RX7 26 "CastDeskModel" "costumePart" "[I", Cond.fieldLink RX7 29 "CastDeskModel" "costumeSize" "[I", Cond.fieldLink RX7 13 "CastDeskModel" "sizes" "[I", Cond.methodLink RX7 115 yX7_toLetOut, Cond.instanceMethod yX7_toLetOut, Cond.selects RX7 yX7_toLetOut yX7_toLetOut, Cond.code yX7_toLetOut cX7_toLetOut 4 (some .int), Cond.fieldLink RX7 32 "CastDeskModel" "letOut" "[I"]
def wsX7_layAble : List Cond := .code yX7_layAble cX7_layAble 6 none :: ((wsX7_layAble_r1 ++ wsX7_layAble_r2) ++ wsX70)
def wsX7_firstBad : List Cond := .code yX7_firstBad cX7_firstBad 5 (some .int) :: ([.fieldLink RX7 7 "CastDeskModel" "parts" "I", .fieldLink RX7 65 "CastDeskModel" "able" "[I", .fieldLink RX7 20 "CastDeskModel" "rows" "[I"] ++ wsX70)
def wsX7_keep : List Cond := .code yX7_keep cX7_keep 6 none :: ([.fieldLink RX7 7 "CastDeskModel" "parts" "I", .fieldLink RX7 65 "CastDeskModel" "able" "[I", .fieldLink RX7 121 "CastDeskModel" "leastStrain" "I", .fieldLink RX7 124 "CastDeskModel" "leastWork" "I", .fieldLink RX7 68 "CastDeskModel" "cast" "[I", .fieldLink RX7 20 "CastDeskModel" "rows" "[I"] ++ wsX70)
def wsX7_lay_r1 : List Cond := [Cond.fieldLink RX7 121 "CastDeskModel" "leastStrain" "I", Cond.fieldLink RX7 124 "CastDeskModel" "leastWork" "I", Cond.fieldLink RX7 68 "CastDeskModel" "cast" "[I", Cond.fieldLink RX7 7 "CastDeskModel" "parts" "I", Cond.methodLink RX7 127 yX7_layAble, Cond.instanceMethod yX7_layAble, Cond.selects RX7 yX7_layAble yX7_layAble, Cond.initialized RX7, Cond.code yX7_layAble cX7_layAble 6 none, Cond.fieldLink RX7 23 "CastDeskModel" "lengths" "[I", Cond.fieldLink RX7 20 "CastDeskModel" "rows" "[I", Cond.fieldLink RX7 65 "CastDeskModel" "able" "[I", Cond.methodLink RX7 118 yX7_can, Cond.instanceMethod yX7_can, Cond.selects RX7 yX7_can yX7_can, Cond.code yX7_can cX7_can 5 (some .boolean), Cond.fieldLink RX7 35 "CastDeskModel" "ill" "[I", Cond.methodLink RX7 99 yX7_rankOf, Cond.instanceMethod yX7_rankOf, Cond.selects RX7 yX7_rankOf yX7_rankOf, Cond.code yX7_rankOf cX7_rankOf 4 (some .int), Cond.methodLink RX7 92 yX7_knows, Cond.instanceMethod yX7_knows, Cond.selects RX7 yX7_knows yX7_knows]
def wsX7_lay_r2 : List Cond := [Cond.code yX7_knows cX7_knows 3 (some .boolean), Cond.fieldLink RX7 17 "CastDeskModel" "known" "[I", Cond.methodLink RX7 112 yX7_fits, Cond.instanceMethod yX7_fits, Cond.selects RX7 yX7_fits yX7_fits, Cond.code yX7_fits cX7_fits 5 (some .boolean), Cond.fieldLink RX7 103 "CastDeskModel" "costumes" "I", Cond.fieldLink RX7 26 "CastDeskModel" "costumePart" "[I", Cond.fieldLink RX7 29 "CastDeskModel" "costumeSize" "[I", Cond.fieldLink RX7 13 "CastDeskModel" "sizes" "[I", Cond.methodLink RX7 115 yX7_toLetOut, Cond.instanceMethod yX7_toLetOut, Cond.selects RX7 yX7_toLetOut yX7_toLetOut, Cond.code yX7_toLetOut cX7_toLetOut 4 (some .int), Cond.fieldLink RX7 32 "CastDeskModel" "letOut" "[I", Cond.methodLink RX7 131 yX7_firstBad, Cond.instanceMethod yX7_firstBad, Cond.selects RX7 yX7_firstBad yX7_firstBad, Cond.code yX7_firstBad cX7_firstBad 5 (some .int), Cond.methodLink RX7 134 yX7_keep, Cond.instanceMethod yX7_keep, Cond.selects RX7 yX7_keep yX7_keep, Cond.code yX7_keep cX7_keep 6 none]
def wsX7_lay : List Cond := .code yX7_lay cX7_lay 6 (some .boolean) :: ((wsX7_lay_r1 ++ wsX7_lay_r2) ++ wsX70)
def wsX7_strain_r1 : List Cond := [Cond.fieldLink RX7 74 "CastDeskModel" "thrown" "I", Cond.fieldLink RX7 121 "CastDeskModel" "leastStrain" "I", Cond.methodLink RX7 109 yX7_isDay, Cond.static yX7_isDay, Cond.initialized RX7, Cond.code yX7_isDay cX7_isDay 1 (some .boolean), Cond.methodLink RX7 77 yX7_in, Cond.static yX7_in, Cond.code yX7_in cX7_in 3 (some .boolean), Cond.methodLink RX7 81 yX7_fails, Cond.instanceMethod yX7_fails, Cond.selects RX7 yX7_fails yX7_fails, Cond.code yX7_fails cX7_fails 2 (some .int), Cond.methodLink RX7 138 yX7_lay, Cond.instanceMethod yX7_lay, Cond.selects RX7 yX7_lay yX7_lay, Cond.code yX7_lay cX7_lay 6 (some .boolean), Cond.fieldLink RX7 124 "CastDeskModel" "leastWork" "I", Cond.fieldLink RX7 68 "CastDeskModel" "cast" "[I", Cond.fieldLink RX7 7 "CastDeskModel" "parts" "I", Cond.methodLink RX7 127 yX7_layAble, Cond.instanceMethod yX7_layAble, Cond.selects RX7 yX7_layAble yX7_layAble, Cond.code yX7_layAble cX7_layAble 6 none]
def wsX7_strain_r2 : List Cond := [Cond.fieldLink RX7 23 "CastDeskModel" "lengths" "[I", Cond.fieldLink RX7 20 "CastDeskModel" "rows" "[I", Cond.fieldLink RX7 65 "CastDeskModel" "able" "[I", Cond.methodLink RX7 118 yX7_can, Cond.instanceMethod yX7_can, Cond.selects RX7 yX7_can yX7_can, Cond.code yX7_can cX7_can 5 (some .boolean), Cond.fieldLink RX7 35 "CastDeskModel" "ill" "[I", Cond.methodLink RX7 99 yX7_rankOf, Cond.instanceMethod yX7_rankOf, Cond.selects RX7 yX7_rankOf yX7_rankOf, Cond.code yX7_rankOf cX7_rankOf 4 (some .int), Cond.methodLink RX7 92 yX7_knows, Cond.instanceMethod yX7_knows, Cond.selects RX7 yX7_knows yX7_knows, Cond.code yX7_knows cX7_knows 3 (some .boolean), Cond.fieldLink RX7 17 "CastDeskModel" "known" "[I", Cond.methodLink RX7 112 yX7_fits, Cond.instanceMethod yX7_fits, Cond.selects RX7 yX7_fits yX7_fits, Cond.code yX7_fits cX7_fits 5 (some .boolean), Cond.fieldLink RX7 103 "CastDeskModel" "costumes" "I", Cond.fieldLink RX7 26 "CastDeskModel" "costumePart" "[I", Cond.fieldLink RX7 29 "CastDeskModel" "costumeSize" "[I"]
def wsX7_strain_r3 : List Cond := [Cond.fieldLink RX7 13 "CastDeskModel" "sizes" "[I", Cond.methodLink RX7 115 yX7_toLetOut, Cond.instanceMethod yX7_toLetOut, Cond.selects RX7 yX7_toLetOut yX7_toLetOut, Cond.code yX7_toLetOut cX7_toLetOut 4 (some .int), Cond.fieldLink RX7 32 "CastDeskModel" "letOut" "[I", Cond.methodLink RX7 131 yX7_firstBad, Cond.instanceMethod yX7_firstBad, Cond.selects RX7 yX7_firstBad yX7_firstBad, Cond.code yX7_firstBad cX7_firstBad 5 (some .int), Cond.methodLink RX7 134 yX7_keep, Cond.instanceMethod yX7_keep, Cond.selects RX7 yX7_keep yX7_keep, Cond.code yX7_keep cX7_keep 6 none]
def wsX7_strain : List Cond := .code yX7_strain cX7_strain 2 (some .int) :: ((wsX7_strain_r1 ++ (wsX7_strain_r2 ++ wsX7_strain_r3)) ++ wsX70)
def wsX7_strainByAll_r1 : List Cond := [Cond.fieldLink RX7 74 "CastDeskModel" "thrown" "I", Cond.fieldLink RX7 121 "CastDeskModel" "leastStrain" "I", Cond.methodLink RX7 109 yX7_isDay, Cond.static yX7_isDay, Cond.initialized RX7, Cond.code yX7_isDay cX7_isDay 1 (some .boolean), Cond.methodLink RX7 77 yX7_in, Cond.static yX7_in, Cond.code yX7_in cX7_in 3 (some .boolean), Cond.methodLink RX7 81 yX7_fails, Cond.instanceMethod yX7_fails, Cond.selects RX7 yX7_fails yX7_fails, Cond.code yX7_fails cX7_fails 2 (some .int), Cond.methodLink RX7 138 yX7_lay, Cond.instanceMethod yX7_lay, Cond.selects RX7 yX7_lay yX7_lay, Cond.code yX7_lay cX7_lay 6 (some .boolean), Cond.fieldLink RX7 124 "CastDeskModel" "leastWork" "I", Cond.fieldLink RX7 68 "CastDeskModel" "cast" "[I", Cond.fieldLink RX7 7 "CastDeskModel" "parts" "I", Cond.methodLink RX7 127 yX7_layAble, Cond.instanceMethod yX7_layAble, Cond.selects RX7 yX7_layAble yX7_layAble, Cond.code yX7_layAble cX7_layAble 6 none]
def wsX7_strainByAll_r2 : List Cond := [Cond.fieldLink RX7 23 "CastDeskModel" "lengths" "[I", Cond.fieldLink RX7 20 "CastDeskModel" "rows" "[I", Cond.fieldLink RX7 65 "CastDeskModel" "able" "[I", Cond.methodLink RX7 118 yX7_can, Cond.instanceMethod yX7_can, Cond.selects RX7 yX7_can yX7_can, Cond.code yX7_can cX7_can 5 (some .boolean), Cond.fieldLink RX7 35 "CastDeskModel" "ill" "[I", Cond.methodLink RX7 99 yX7_rankOf, Cond.instanceMethod yX7_rankOf, Cond.selects RX7 yX7_rankOf yX7_rankOf, Cond.code yX7_rankOf cX7_rankOf 4 (some .int), Cond.methodLink RX7 92 yX7_knows, Cond.instanceMethod yX7_knows, Cond.selects RX7 yX7_knows yX7_knows, Cond.code yX7_knows cX7_knows 3 (some .boolean), Cond.fieldLink RX7 17 "CastDeskModel" "known" "[I", Cond.methodLink RX7 112 yX7_fits, Cond.instanceMethod yX7_fits, Cond.selects RX7 yX7_fits yX7_fits, Cond.code yX7_fits cX7_fits 5 (some .boolean), Cond.fieldLink RX7 103 "CastDeskModel" "costumes" "I", Cond.fieldLink RX7 26 "CastDeskModel" "costumePart" "[I", Cond.fieldLink RX7 29 "CastDeskModel" "costumeSize" "[I"]
def wsX7_strainByAll_r3 : List Cond := [Cond.fieldLink RX7 13 "CastDeskModel" "sizes" "[I", Cond.methodLink RX7 115 yX7_toLetOut, Cond.instanceMethod yX7_toLetOut, Cond.selects RX7 yX7_toLetOut yX7_toLetOut, Cond.code yX7_toLetOut cX7_toLetOut 4 (some .int), Cond.fieldLink RX7 32 "CastDeskModel" "letOut" "[I", Cond.methodLink RX7 131 yX7_firstBad, Cond.instanceMethod yX7_firstBad, Cond.selects RX7 yX7_firstBad yX7_firstBad, Cond.code yX7_firstBad cX7_firstBad 5 (some .int), Cond.methodLink RX7 134 yX7_keep, Cond.instanceMethod yX7_keep, Cond.selects RX7 yX7_keep yX7_keep, Cond.code yX7_keep cX7_keep 6 none]
def wsX7_strainByAll : List Cond := .code yX7_strainByAll cX7_strainByAll 2 (some .int) :: ((wsX7_strainByAll_r1 ++ (wsX7_strainByAll_r2 ++ wsX7_strainByAll_r3)) ++ wsX70)
def wsX7_work_r1 : List Cond := [Cond.fieldLink RX7 74 "CastDeskModel" "thrown" "I", Cond.fieldLink RX7 124 "CastDeskModel" "leastWork" "I", Cond.methodLink RX7 109 yX7_isDay, Cond.static yX7_isDay, Cond.initialized RX7, Cond.code yX7_isDay cX7_isDay 1 (some .boolean), Cond.methodLink RX7 77 yX7_in, Cond.static yX7_in, Cond.code yX7_in cX7_in 3 (some .boolean), Cond.methodLink RX7 81 yX7_fails, Cond.instanceMethod yX7_fails, Cond.selects RX7 yX7_fails yX7_fails, Cond.code yX7_fails cX7_fails 2 (some .int), Cond.methodLink RX7 138 yX7_lay, Cond.instanceMethod yX7_lay, Cond.selects RX7 yX7_lay yX7_lay, Cond.code yX7_lay cX7_lay 6 (some .boolean), Cond.fieldLink RX7 121 "CastDeskModel" "leastStrain" "I", Cond.fieldLink RX7 68 "CastDeskModel" "cast" "[I", Cond.fieldLink RX7 7 "CastDeskModel" "parts" "I", Cond.methodLink RX7 127 yX7_layAble, Cond.instanceMethod yX7_layAble, Cond.selects RX7 yX7_layAble yX7_layAble, Cond.code yX7_layAble cX7_layAble 6 none]
def wsX7_work_r2 : List Cond := [Cond.fieldLink RX7 23 "CastDeskModel" "lengths" "[I", Cond.fieldLink RX7 20 "CastDeskModel" "rows" "[I", Cond.fieldLink RX7 65 "CastDeskModel" "able" "[I", Cond.methodLink RX7 118 yX7_can, Cond.instanceMethod yX7_can, Cond.selects RX7 yX7_can yX7_can, Cond.code yX7_can cX7_can 5 (some .boolean), Cond.fieldLink RX7 35 "CastDeskModel" "ill" "[I", Cond.methodLink RX7 99 yX7_rankOf, Cond.instanceMethod yX7_rankOf, Cond.selects RX7 yX7_rankOf yX7_rankOf, Cond.code yX7_rankOf cX7_rankOf 4 (some .int), Cond.methodLink RX7 92 yX7_knows, Cond.instanceMethod yX7_knows, Cond.selects RX7 yX7_knows yX7_knows, Cond.code yX7_knows cX7_knows 3 (some .boolean), Cond.fieldLink RX7 17 "CastDeskModel" "known" "[I", Cond.methodLink RX7 112 yX7_fits, Cond.instanceMethod yX7_fits, Cond.selects RX7 yX7_fits yX7_fits, Cond.code yX7_fits cX7_fits 5 (some .boolean), Cond.fieldLink RX7 103 "CastDeskModel" "costumes" "I", Cond.fieldLink RX7 26 "CastDeskModel" "costumePart" "[I", Cond.fieldLink RX7 29 "CastDeskModel" "costumeSize" "[I"]
def wsX7_work_r3 : List Cond := [Cond.fieldLink RX7 13 "CastDeskModel" "sizes" "[I", Cond.methodLink RX7 115 yX7_toLetOut, Cond.instanceMethod yX7_toLetOut, Cond.selects RX7 yX7_toLetOut yX7_toLetOut, Cond.code yX7_toLetOut cX7_toLetOut 4 (some .int), Cond.fieldLink RX7 32 "CastDeskModel" "letOut" "[I", Cond.methodLink RX7 131 yX7_firstBad, Cond.instanceMethod yX7_firstBad, Cond.selects RX7 yX7_firstBad yX7_firstBad, Cond.code yX7_firstBad cX7_firstBad 5 (some .int), Cond.methodLink RX7 134 yX7_keep, Cond.instanceMethod yX7_keep, Cond.selects RX7 yX7_keep yX7_keep, Cond.code yX7_keep cX7_keep 6 none]
def wsX7_work : List Cond := .code yX7_work cX7_work 2 (some .int) :: ((wsX7_work_r1 ++ (wsX7_work_r2 ++ wsX7_work_r3)) ++ wsX70)
def wsX7_actorFor_r1 : List Cond := [Cond.fieldLink RX7 74 "CastDeskModel" "thrown" "I", Cond.fieldLink RX7 68 "CastDeskModel" "cast" "[I", Cond.methodLink RX7 89 yX7_isPart, Cond.static yX7_isPart, Cond.initialized RX7, Cond.code yX7_isPart cX7_isPart 1 (some .boolean), Cond.methodLink RX7 77 yX7_in, Cond.static yX7_in, Cond.code yX7_in cX7_in 3 (some .boolean), Cond.methodLink RX7 81 yX7_fails, Cond.instanceMethod yX7_fails, Cond.selects RX7 yX7_fails yX7_fails, Cond.code yX7_fails cX7_fails 2 (some .int), Cond.methodLink RX7 109 yX7_isDay, Cond.static yX7_isDay, Cond.code yX7_isDay cX7_isDay 1 (some .boolean), Cond.methodLink RX7 138 yX7_lay, Cond.instanceMethod yX7_lay, Cond.selects RX7 yX7_lay yX7_lay, Cond.code yX7_lay cX7_lay 6 (some .boolean), Cond.fieldLink RX7 121 "CastDeskModel" "leastStrain" "I", Cond.fieldLink RX7 124 "CastDeskModel" "leastWork" "I", Cond.fieldLink RX7 7 "CastDeskModel" "parts" "I", Cond.methodLink RX7 127 yX7_layAble]
def wsX7_actorFor_r2 : List Cond := [Cond.instanceMethod yX7_layAble, Cond.selects RX7 yX7_layAble yX7_layAble, Cond.code yX7_layAble cX7_layAble 6 none, Cond.fieldLink RX7 23 "CastDeskModel" "lengths" "[I", Cond.fieldLink RX7 20 "CastDeskModel" "rows" "[I", Cond.fieldLink RX7 65 "CastDeskModel" "able" "[I", Cond.methodLink RX7 118 yX7_can, Cond.instanceMethod yX7_can, Cond.selects RX7 yX7_can yX7_can, Cond.code yX7_can cX7_can 5 (some .boolean), Cond.fieldLink RX7 35 "CastDeskModel" "ill" "[I", Cond.methodLink RX7 99 yX7_rankOf, Cond.instanceMethod yX7_rankOf, Cond.selects RX7 yX7_rankOf yX7_rankOf, Cond.code yX7_rankOf cX7_rankOf 4 (some .int), Cond.methodLink RX7 92 yX7_knows, Cond.instanceMethod yX7_knows, Cond.selects RX7 yX7_knows yX7_knows, Cond.code yX7_knows cX7_knows 3 (some .boolean), Cond.fieldLink RX7 17 "CastDeskModel" "known" "[I", Cond.methodLink RX7 112 yX7_fits, Cond.instanceMethod yX7_fits, Cond.selects RX7 yX7_fits yX7_fits, Cond.code yX7_fits cX7_fits 5 (some .boolean)]
def wsX7_actorFor_r3 : List Cond := [Cond.fieldLink RX7 103 "CastDeskModel" "costumes" "I", Cond.fieldLink RX7 26 "CastDeskModel" "costumePart" "[I", Cond.fieldLink RX7 29 "CastDeskModel" "costumeSize" "[I", Cond.fieldLink RX7 13 "CastDeskModel" "sizes" "[I", Cond.methodLink RX7 115 yX7_toLetOut, Cond.instanceMethod yX7_toLetOut, Cond.selects RX7 yX7_toLetOut yX7_toLetOut, Cond.code yX7_toLetOut cX7_toLetOut 4 (some .int), Cond.fieldLink RX7 32 "CastDeskModel" "letOut" "[I", Cond.methodLink RX7 131 yX7_firstBad, Cond.instanceMethod yX7_firstBad, Cond.selects RX7 yX7_firstBad yX7_firstBad, Cond.code yX7_firstBad cX7_firstBad 5 (some .int), Cond.methodLink RX7 134 yX7_keep, Cond.instanceMethod yX7_keep, Cond.selects RX7 yX7_keep yX7_keep, Cond.code yX7_keep cX7_keep 6 none]
def wsX7_actorFor : List Cond := .code yX7_actorFor cX7_actorFor 3 (some .int) :: ((wsX7_actorFor_r1 ++ (wsX7_actorFor_r2 ++ wsX7_actorFor_r3)) ++ wsX70)
def wsX7_chain_r1 : List Cond := [Cond.fieldLink RX7 74 "CastDeskModel" "thrown" "I", Cond.fieldLink RX7 71 "CastDeskModel" "before" "[I", Cond.fieldLink RX7 68 "CastDeskModel" "cast" "[I", Cond.fieldLink RX7 7 "CastDeskModel" "parts" "I", Cond.methodLink RX7 85 yX7_isActor, Cond.static yX7_isActor, Cond.initialized RX7, Cond.code yX7_isActor cX7_isActor 1 (some .boolean), Cond.methodLink RX7 77 yX7_in, Cond.static yX7_in, Cond.code yX7_in cX7_in 3 (some .boolean), Cond.methodLink RX7 81 yX7_fails, Cond.instanceMethod yX7_fails, Cond.selects RX7 yX7_fails yX7_fails, Cond.code yX7_fails cX7_fails 2 (some .int), Cond.methodLink RX7 109 yX7_isDay, Cond.static yX7_isDay, Cond.code yX7_isDay cX7_isDay 1 (some .boolean), Cond.methodLink RX7 138 yX7_lay, Cond.instanceMethod yX7_lay, Cond.selects RX7 yX7_lay yX7_lay, Cond.code yX7_lay cX7_lay 6 (some .boolean), Cond.fieldLink RX7 121 "CastDeskModel" "leastStrain" "I", Cond.fieldLink RX7 124 "CastDeskModel" "leastWork" "I"]
def wsX7_chain_r2 : List Cond := [Cond.methodLink RX7 127 yX7_layAble, Cond.instanceMethod yX7_layAble, Cond.selects RX7 yX7_layAble yX7_layAble, Cond.code yX7_layAble cX7_layAble 6 none, Cond.fieldLink RX7 23 "CastDeskModel" "lengths" "[I", Cond.fieldLink RX7 20 "CastDeskModel" "rows" "[I", Cond.fieldLink RX7 65 "CastDeskModel" "able" "[I", Cond.methodLink RX7 118 yX7_can, Cond.instanceMethod yX7_can, Cond.selects RX7 yX7_can yX7_can, Cond.code yX7_can cX7_can 5 (some .boolean), Cond.fieldLink RX7 35 "CastDeskModel" "ill" "[I", Cond.methodLink RX7 99 yX7_rankOf, Cond.instanceMethod yX7_rankOf, Cond.selects RX7 yX7_rankOf yX7_rankOf, Cond.code yX7_rankOf cX7_rankOf 4 (some .int), Cond.methodLink RX7 92 yX7_knows, Cond.instanceMethod yX7_knows, Cond.selects RX7 yX7_knows yX7_knows, Cond.code yX7_knows cX7_knows 3 (some .boolean), Cond.fieldLink RX7 17 "CastDeskModel" "known" "[I", Cond.methodLink RX7 112 yX7_fits, Cond.instanceMethod yX7_fits, Cond.selects RX7 yX7_fits yX7_fits]
def wsX7_chain_r3 : List Cond := [Cond.code yX7_fits cX7_fits 5 (some .boolean), Cond.fieldLink RX7 103 "CastDeskModel" "costumes" "I", Cond.fieldLink RX7 26 "CastDeskModel" "costumePart" "[I", Cond.fieldLink RX7 29 "CastDeskModel" "costumeSize" "[I", Cond.fieldLink RX7 13 "CastDeskModel" "sizes" "[I", Cond.methodLink RX7 115 yX7_toLetOut, Cond.instanceMethod yX7_toLetOut, Cond.selects RX7 yX7_toLetOut yX7_toLetOut, Cond.code yX7_toLetOut cX7_toLetOut 4 (some .int), Cond.fieldLink RX7 32 "CastDeskModel" "letOut" "[I", Cond.methodLink RX7 131 yX7_firstBad, Cond.instanceMethod yX7_firstBad, Cond.selects RX7 yX7_firstBad yX7_firstBad, Cond.code yX7_firstBad cX7_firstBad 5 (some .int), Cond.methodLink RX7 134 yX7_keep, Cond.instanceMethod yX7_keep, Cond.selects RX7 yX7_keep yX7_keep, Cond.code yX7_keep cX7_keep 6 none]
def wsX7_chain : List Cond := .code yX7_chain cX7_chain 5 (some .int) :: ((wsX7_chain_r1 ++ (wsX7_chain_r2 ++ wsX7_chain_r3)) ++ wsX70)
def wsX7_showOn : List Cond := .code yX7_showOn cX7_showOn 4 (some .int) :: ([.fieldLink RX7 141 "CastDeskModel" "shows" "I", .fieldLink RX7 38 "CastDeskModel" "showDay" "[I"] ++ wsX70)
def wsX7_show : List Cond := .code yX7_show cX7_show 3 (some .int) :: ([.fieldLink RX7 74 "CastDeskModel" "thrown" "I", .fieldLink RX7 106 "CastDeskModel" "today" "I", .fieldLink RX7 141 "CastDeskModel" "shows" "I", .fieldLink RX7 38 "CastDeskModel" "showDay" "[I", .fieldLink RX7 44 "CastDeskModel" "showCast" "[I", .methodLink RX7 77 yX7_in, .static yX7_in, .initialized RX7, .code yX7_in cX7_in 3 (some .boolean), .methodLink RX7 81 yX7_fails, .instanceMethod yX7_fails, .selects RX7 yX7_fails yX7_fails, .code yX7_fails cX7_fails 2 (some .int), .methodLink RX7 144 yX7_showOn, .instanceMethod yX7_showOn, .selects RX7 yX7_showOn yX7_showOn, .code yX7_showOn cX7_showOn 4 (some .int)] ++ wsX70)
def wsX7_sell : List Cond := .code yX7_sell cX7_sell 5 (some .int) :: ([.fieldLink RX7 74 "CastDeskModel" "thrown" "I", .fieldLink RX7 141 "CastDeskModel" "shows" "I", .fieldLink RX7 41 "CastDeskModel" "showState" "[I", .fieldLink RX7 147 "CastDeskModel" "seats" "I", .fieldLink RX7 23 "CastDeskModel" "lengths" "[I", .fieldLink RX7 47 "CastDeskModel" "seatShow" "[I", .fieldLink RX7 50 "CastDeskModel" "seatPrice" "[I", .fieldLink RX7 53 "CastDeskModel" "seatPromise" "[I", .fieldLink RX7 56 "CastDeskModel" "seatPart" "[I", .fieldLink RX7 59 "CastDeskModel" "seatStar" "[I", .fieldLink RX7 20 "CastDeskModel" "rows" "[I", .fieldLink RX7 150 "CastDeskModel" "taken" "I", .methodLink RX7 77 yX7_in, .static yX7_in, .initialized RX7, .code yX7_in cX7_in 3 (some .boolean), .methodLink RX7 89 yX7_isPart, .static yX7_isPart, .code yX7_isPart cX7_isPart 1 (some .boolean), .methodLink RX7 81 yX7_fails, .instanceMethod yX7_fails, .selects RX7 yX7_fails yX7_fails, .code yX7_fails cX7_fails 2 (some .int)] ++ wsX70)
def wsX7_refundOf : List Cond := .code yX7_refundOf cX7_refundOf 4 (some .int) :: ([.fieldLink RX7 56 "CastDeskModel" "seatPart" "[I", .fieldLink RX7 50 "CastDeskModel" "seatPrice" "[I", .fieldLink RX7 53 "CastDeskModel" "seatPromise" "[I", .fieldLink RX7 121 "CastDeskModel" "leastStrain" "I", .fieldLink RX7 7 "CastDeskModel" "parts" "I", .fieldLink RX7 68 "CastDeskModel" "cast" "[I", .fieldLink RX7 59 "CastDeskModel" "seatStar" "[I", .methodLink RX7 99 yX7_rankOf, .instanceMethod yX7_rankOf, .selects RX7 yX7_rankOf yX7_rankOf, .initialized RX7, .code yX7_rankOf cX7_rankOf 4 (some .int), .fieldLink RX7 23 "CastDeskModel" "lengths" "[I", .fieldLink RX7 20 "CastDeskModel" "rows" "[I"] ++ wsX70)
def wsX7_refundAll : List Cond := .code yX7_refundAll cX7_refundAll 5 (some .int) :: ([.fieldLink RX7 147 "CastDeskModel" "seats" "I", .fieldLink RX7 47 "CastDeskModel" "seatShow" "[I", .fieldLink RX7 62 "CastDeskModel" "seatRefund" "[I", .fieldLink RX7 50 "CastDeskModel" "seatPrice" "[I", .methodLink RX7 153 yX7_refundOf, .instanceMethod yX7_refundOf, .selects RX7 yX7_refundOf yX7_refundOf, .initialized RX7, .code yX7_refundOf cX7_refundOf 4 (some .int), .fieldLink RX7 56 "CastDeskModel" "seatPart" "[I", .fieldLink RX7 53 "CastDeskModel" "seatPromise" "[I", .fieldLink RX7 121 "CastDeskModel" "leastStrain" "I", .fieldLink RX7 7 "CastDeskModel" "parts" "I", .fieldLink RX7 68 "CastDeskModel" "cast" "[I", .fieldLink RX7 59 "CastDeskModel" "seatStar" "[I", .methodLink RX7 99 yX7_rankOf, .instanceMethod yX7_rankOf, .selects RX7 yX7_rankOf yX7_rankOf, .code yX7_rankOf cX7_rankOf 4 (some .int), .fieldLink RX7 23 "CastDeskModel" "lengths" "[I", .fieldLink RX7 20 "CastDeskModel" "rows" "[I"] ++ wsX70)
def wsX7_perform : List Cond := .code yX7_perform cX7_perform 4 none :: ([.fieldLink RX7 41 "CastDeskModel" "showState" "[I", .fieldLink RX7 7 "CastDeskModel" "parts" "I", .fieldLink RX7 44 "CastDeskModel" "showCast" "[I", .fieldLink RX7 68 "CastDeskModel" "cast" "[I", .fieldLink RX7 29 "CastDeskModel" "costumeSize" "[I", .fieldLink RX7 32 "CastDeskModel" "letOut" "[I", .methodLink RX7 112 yX7_fits, .instanceMethod yX7_fits, .selects RX7 yX7_fits yX7_fits, .initialized RX7, .code yX7_fits cX7_fits 5 (some .boolean), .fieldLink RX7 103 "CastDeskModel" "costumes" "I", .fieldLink RX7 26 "CastDeskModel" "costumePart" "[I", .fieldLink RX7 13 "CastDeskModel" "sizes" "[I", .methodLink RX7 115 yX7_toLetOut, .instanceMethod yX7_toLetOut, .selects RX7 yX7_toLetOut yX7_toLetOut, .code yX7_toLetOut cX7_toLetOut 4 (some .int)] ++ wsX70)
def wsX7_play_r1 : List Cond := [Cond.fieldLink RX7 74 "CastDeskModel" "thrown" "I", Cond.fieldLink RX7 106 "CastDeskModel" "today" "I", Cond.fieldLink RX7 41 "CastDeskModel" "showState" "[I", Cond.fieldLink RX7 150 "CastDeskModel" "taken" "I", Cond.methodLink RX7 81 yX7_fails, Cond.instanceMethod yX7_fails, Cond.selects RX7 yX7_fails yX7_fails, Cond.initialized RX7, Cond.code yX7_fails cX7_fails 2 (some .int), Cond.methodLink RX7 144 yX7_showOn, Cond.instanceMethod yX7_showOn, Cond.selects RX7 yX7_showOn yX7_showOn, Cond.code yX7_showOn cX7_showOn 4 (some .int), Cond.fieldLink RX7 141 "CastDeskModel" "shows" "I", Cond.fieldLink RX7 38 "CastDeskModel" "showDay" "[I", Cond.methodLink RX7 138 yX7_lay, Cond.instanceMethod yX7_lay, Cond.selects RX7 yX7_lay yX7_lay, Cond.code yX7_lay cX7_lay 6 (some .boolean), Cond.fieldLink RX7 121 "CastDeskModel" "leastStrain" "I", Cond.fieldLink RX7 124 "CastDeskModel" "leastWork" "I", Cond.fieldLink RX7 68 "CastDeskModel" "cast" "[I", Cond.fieldLink RX7 7 "CastDeskModel" "parts" "I", Cond.methodLink RX7 127 yX7_layAble]
def wsX7_play_r2 : List Cond := [Cond.instanceMethod yX7_layAble, Cond.selects RX7 yX7_layAble yX7_layAble, Cond.code yX7_layAble cX7_layAble 6 none, Cond.fieldLink RX7 23 "CastDeskModel" "lengths" "[I", Cond.fieldLink RX7 20 "CastDeskModel" "rows" "[I", Cond.fieldLink RX7 65 "CastDeskModel" "able" "[I", Cond.methodLink RX7 118 yX7_can, Cond.instanceMethod yX7_can, Cond.selects RX7 yX7_can yX7_can, Cond.code yX7_can cX7_can 5 (some .boolean), Cond.fieldLink RX7 35 "CastDeskModel" "ill" "[I", Cond.methodLink RX7 99 yX7_rankOf, Cond.instanceMethod yX7_rankOf, Cond.selects RX7 yX7_rankOf yX7_rankOf, Cond.code yX7_rankOf cX7_rankOf 4 (some .int), Cond.methodLink RX7 92 yX7_knows, Cond.instanceMethod yX7_knows, Cond.selects RX7 yX7_knows yX7_knows, Cond.code yX7_knows cX7_knows 3 (some .boolean), Cond.fieldLink RX7 17 "CastDeskModel" "known" "[I", Cond.methodLink RX7 112 yX7_fits, Cond.instanceMethod yX7_fits, Cond.selects RX7 yX7_fits yX7_fits, Cond.code yX7_fits cX7_fits 5 (some .boolean)]
def wsX7_play_r3 : List Cond := [Cond.fieldLink RX7 103 "CastDeskModel" "costumes" "I", Cond.fieldLink RX7 26 "CastDeskModel" "costumePart" "[I", Cond.fieldLink RX7 29 "CastDeskModel" "costumeSize" "[I", Cond.fieldLink RX7 13 "CastDeskModel" "sizes" "[I", Cond.methodLink RX7 115 yX7_toLetOut, Cond.instanceMethod yX7_toLetOut, Cond.selects RX7 yX7_toLetOut yX7_toLetOut, Cond.code yX7_toLetOut cX7_toLetOut 4 (some .int), Cond.fieldLink RX7 32 "CastDeskModel" "letOut" "[I", Cond.methodLink RX7 131 yX7_firstBad, Cond.instanceMethod yX7_firstBad, Cond.selects RX7 yX7_firstBad yX7_firstBad, Cond.code yX7_firstBad cX7_firstBad 5 (some .int), Cond.methodLink RX7 134 yX7_keep, Cond.instanceMethod yX7_keep, Cond.selects RX7 yX7_keep yX7_keep, Cond.code yX7_keep cX7_keep 6 none, Cond.methodLink RX7 156 yX7_refundAll, Cond.instanceMethod yX7_refundAll, Cond.selects RX7 yX7_refundAll yX7_refundAll, Cond.code yX7_refundAll cX7_refundAll 5 (some .int), Cond.fieldLink RX7 147 "CastDeskModel" "seats" "I", Cond.fieldLink RX7 47 "CastDeskModel" "seatShow" "[I", Cond.fieldLink RX7 62 "CastDeskModel" "seatRefund" "[I"]
def wsX7_play_r4 : List Cond := [Cond.fieldLink RX7 50 "CastDeskModel" "seatPrice" "[I", Cond.methodLink RX7 153 yX7_refundOf, Cond.instanceMethod yX7_refundOf, Cond.selects RX7 yX7_refundOf yX7_refundOf, Cond.code yX7_refundOf cX7_refundOf 4 (some .int), Cond.fieldLink RX7 56 "CastDeskModel" "seatPart" "[I", Cond.fieldLink RX7 53 "CastDeskModel" "seatPromise" "[I", Cond.fieldLink RX7 59 "CastDeskModel" "seatStar" "[I", Cond.methodLink RX7 160 yX7_perform, Cond.instanceMethod yX7_perform, Cond.selects RX7 yX7_perform yX7_perform, Cond.code yX7_perform cX7_perform 4 none, Cond.fieldLink RX7 44 "CastDeskModel" "showCast" "[I"]
def wsX7_play : List Cond := .code yX7_play cX7_play 4 (some .int) :: ((wsX7_play_r1 ++ (wsX7_play_r2 ++ (wsX7_play_r3 ++ wsX7_play_r4))) ++ wsX70)
def wsX7_day : List Cond := .code yX7_day cX7_day 1 (some .int) :: ([.fieldLink RX7 74 "CastDeskModel" "thrown" "I", .fieldLink RX7 106 "CastDeskModel" "today" "I"] ++ wsX70)
def wsX7_stateOf : List Cond := .code yX7_stateOf cX7_stateOf 2 (some .int) :: ([.fieldLink RX7 74 "CastDeskModel" "thrown" "I", .fieldLink RX7 141 "CastDeskModel" "shows" "I", .fieldLink RX7 41 "CastDeskModel" "showState" "[I", .methodLink RX7 77 yX7_in, .static yX7_in, .initialized RX7, .code yX7_in cX7_in 3 (some .boolean), .methodLink RX7 81 yX7_fails, .instanceMethod yX7_fails, .selects RX7 yX7_fails yX7_fails, .code yX7_fails cX7_fails 2 (some .int)] ++ wsX70)
def wsX7_played : List Cond := .code yX7_played cX7_played 3 (some .int) :: ([.fieldLink RX7 74 "CastDeskModel" "thrown" "I", .fieldLink RX7 141 "CastDeskModel" "shows" "I", .fieldLink RX7 44 "CastDeskModel" "showCast" "[I", .methodLink RX7 77 yX7_in, .static yX7_in, .initialized RX7, .code yX7_in cX7_in 3 (some .boolean), .methodLink RX7 89 yX7_isPart, .static yX7_isPart, .code yX7_isPart cX7_isPart 1 (some .boolean), .methodLink RX7 81 yX7_fails, .instanceMethod yX7_fails, .selects RX7 yX7_fails yX7_fails, .code yX7_fails cX7_fails 2 (some .int)] ++ wsX70)
def wsX7_refund : List Cond := .code yX7_refund cX7_refund 2 (some .int) :: ([.fieldLink RX7 74 "CastDeskModel" "thrown" "I", .fieldLink RX7 147 "CastDeskModel" "seats" "I", .fieldLink RX7 62 "CastDeskModel" "seatRefund" "[I", .methodLink RX7 77 yX7_in, .static yX7_in, .initialized RX7, .code yX7_in cX7_in 3 (some .boolean), .methodLink RX7 81 yX7_fails, .instanceMethod yX7_fails, .selects RX7 yX7_fails yX7_fails, .code yX7_fails cX7_fails 2 (some .int)] ++ wsX70)
def wsX7_takings : List Cond := .code yX7_takings cX7_takings 1 (some .int) :: ([.fieldLink RX7 74 "CastDeskModel" "thrown" "I", .fieldLink RX7 150 "CastDeskModel" "taken" "I"] ++ wsX70)
def wsJ9_max_7cf53 : List Cond := .code yJ9_max_7cf53 cJ9_max_7cf53 2 (some .int) :: ([])
def wsL_setParts : List Cond := .codeWith yL_setParts cL_setParts 4 (some .int) [(0, 9, 12, 13)] :: ([.classLink RL 13 "java/lang/IllegalArgumentException", .methodLink RL 7 yX6_setParts, .instanceMethod yX6_setParts, .selects RX6 yX6_setParts yX6_setParts, .initialized RX6, .code yX6_setParts cX6_setParts 3 (some .int), .classLink RX6 58 "java/lang/IllegalArgumentException", .initialized "java/lang/IllegalArgumentException", .fieldLink RX6 51 "CastDesk" "partCount" "I"] ++ wsX60 ++ (vx_atS RX6 62 "java/lang/IllegalArgumentException" ["java/lang/RuntimeException", "java/lang/Exception"]).filter goodWord)
def wsL_setSize : List Cond := .codeWith yL_setSize cL_setSize 5 (some .int) [(0, 10, 13, 19), (0, 10, 17, 13)] :: ([.classLink RL 19 "java/lang/IndexOutOfBoundsException", .classLink RL 13 "java/lang/IllegalArgumentException", .methodLink RL 15 yX6_setSize, .instanceMethod yX6_setSize, .selects RX6 yX6_setSize yX6_setSize, .initialized RX6, .code yX6_setSize cX6_setSize 4 (some .int), .fieldLink RX6 10 "CastDesk" "troupe" "LCastDesk$Troupe;", .fieldLink RX6 72 "CastDesk$Troupe" "sizes" "[I", .methodLink RX6 65 yX6_needActor, .static yX6_needActor, .code yX6_needActor cX6_needActor 1 none, .classLink RX6 215 "java/lang/IndexOutOfBoundsException", .initialized "java/lang/IndexOutOfBoundsException", .methodLink RX6 69 yX6_needSize, .static yX6_needSize, .code yX6_needSize cX6_needSize 1 none, .classLink RX6 58 "java/lang/IllegalArgumentException", .initialized "java/lang/IllegalArgumentException"] ++ wsX60 ++ wsX40 ++ (vx_atS RX6 219 "java/lang/IndexOutOfBoundsException" ["java/lang/RuntimeException", "java/lang/Exception"]).filter goodWord ++ (vx_atS RX6 62 "java/lang/IllegalArgumentException" ["java/lang/RuntimeException", "java/lang/Exception"]).filter goodWord)
def wsL_learn_r1 : List Cond := [Cond.classLink RL 19 "java/lang/IndexOutOfBoundsException", Cond.classLink RL 25 "java/lang/IllegalStateException", Cond.methodLink RL 21 yX6_learn, Cond.instanceMethod yX6_learn, Cond.selects RX6 yX6_learn yX6_learn, Cond.initialized RX6, Cond.code yX6_learn cX6_learn 6 (some .int), Cond.classLink RX6 95 "java/lang/IllegalStateException", Cond.initialized "java/lang/IllegalStateException", Cond.fieldLink RX6 10 "CastDesk" "troupe" "LCastDesk$Troupe;", Cond.fieldLink RX6 79 "CastDesk$Troupe" "known" "[I", Cond.methodLink RX6 65 yX6_needActor, Cond.static yX6_needActor, Cond.code yX6_needActor cX6_needActor 1 none, Cond.classLink RX6 215 "java/lang/IndexOutOfBoundsException", Cond.initialized "java/lang/IndexOutOfBoundsException", Cond.methodLink RX6 76 yX6_needPart, Cond.static yX6_needPart, Cond.code yX6_needPart cX6_needPart 1 none, Cond.methodLink RX6 82 yX6_with, Cond.static yX6_with, Cond.code yX6_with cX6_with 2 (some .int), Cond.methodLink RX6 86 yX6_without, Cond.static yX6_without]
def wsL_learn_r2 : List Cond := [Cond.code yX6_without cX6_without 2 (some .int), Cond.methodLink RX6 89 yJ6_bitCount_0f7a4, Cond.static yJ6_bitCount_0f7a4, Cond.initialized RJ6, Cond.code yJ6_bitCount_0f7a4 cJ6_bitCount_0f7a4 1 (some .int), Cond.constant RJ6 265 (1431655765), Cond.constant RJ6 266 (858993459), Cond.constant RJ6 267 (252645135)]
def wsL_learn : List Cond := .codeWith yL_learn cL_learn 6 (some .int) [(0, 12, 15, 19), (0, 12, 19, 25)] :: ((wsL_learn_r1 ++ wsL_learn_r2) ++ wsX60 ++ wsX40 ++ (vx_atS RX6 99 "java/lang/IllegalStateException" ["java/lang/RuntimeException", "java/lang/Exception"]).filter goodWord ++ (vx_atS RX6 219 "java/lang/IndexOutOfBoundsException" ["java/lang/RuntimeException", "java/lang/Exception"]).filter goodWord)
def wsL_put_r1 : List Cond := [Cond.classLink RL 19 "java/lang/IndexOutOfBoundsException", Cond.classLink RL 25 "java/lang/IllegalStateException", Cond.methodLink RL 27 yX6_put, Cond.instanceMethod yX6_put, Cond.selects RX6 yX6_put yX6_put, Cond.initialized RX6, Cond.code yX6_put cX6_put 3 (some .int), Cond.classLink RX6 95 "java/lang/IllegalStateException", Cond.initialized "java/lang/IllegalStateException", Cond.fieldLink RX6 19 "CastDesk" "rows" "LCastDesk$Rows;", Cond.methodLink RX6 76 yX6_needPart, Cond.static yX6_needPart, Cond.code yX6_needPart cX6_needPart 1 none, Cond.classLink RX6 215 "java/lang/IndexOutOfBoundsException", Cond.initialized "java/lang/IndexOutOfBoundsException", Cond.methodLink RX6 65 yX6_needActor, Cond.static yX6_needActor, Cond.code yX6_needActor cX6_needActor 1 none, Cond.methodLink RX6 100 yX3_rankIn, Cond.instanceMethod yX3_rankIn, Cond.selects RX3 yX3_rankIn yX3_rankIn, Cond.initialized RX3, Cond.code yX3_rankIn cX3_rankIn 4 (some .int), Cond.fieldLink RX3 15 "CastDesk$Rows" "lengths" "[I"]
def wsL_put_r2 : List Cond := [Cond.fieldLink RX3 9 "CastDesk$Rows" "actors" "[I", Cond.methodLink RX6 105 yX3_isFull, Cond.instanceMethod yX3_isFull, Cond.selects RX3 yX3_isFull yX3_isFull, Cond.code yX3_isFull cX3_isFull 2 (some .boolean), Cond.methodLink RX6 111 yX3_append, Cond.instanceMethod yX3_append, Cond.selects RX3 yX3_append yX3_append, Cond.code yX3_append cX3_append 4 (some .int)]
def wsL_put : List Cond := .codeWith yL_put cL_put 5 (some .int) [(0, 10, 13, 19), (0, 10, 17, 25)] :: ((wsL_put_r1 ++ wsL_put_r2) ++ wsX60 ++ wsX30 ++ (vx_atS RX6 99 "java/lang/IllegalStateException" ["java/lang/RuntimeException", "java/lang/Exception"]).filter goodWord ++ (vx_atS RX6 219 "java/lang/IndexOutOfBoundsException" ["java/lang/RuntimeException", "java/lang/Exception"]).filter goodWord)
def wsL_take_r1 : List Cond := [Cond.classLink RL 19 "java/lang/IndexOutOfBoundsException", Cond.classLink RL 25 "java/lang/IllegalStateException", Cond.methodLink RL 30 yX6_take, Cond.instanceMethod yX6_take, Cond.selects RX6 yX6_take yX6_take, Cond.initialized RX6, Cond.code yX6_take cX6_take 4 (some .int), Cond.classLink RX6 95 "java/lang/IllegalStateException", Cond.initialized "java/lang/IllegalStateException", Cond.fieldLink RX6 19 "CastDesk" "rows" "LCastDesk$Rows;", Cond.methodLink RX6 76 yX6_needPart, Cond.static yX6_needPart, Cond.code yX6_needPart cX6_needPart 1 none, Cond.classLink RX6 215 "java/lang/IndexOutOfBoundsException", Cond.initialized "java/lang/IndexOutOfBoundsException", Cond.methodLink RX6 65 yX6_needActor, Cond.static yX6_needActor, Cond.code yX6_needActor cX6_needActor 1 none, Cond.methodLink RX6 100 yX3_rankIn, Cond.instanceMethod yX3_rankIn, Cond.selects RX3 yX3_rankIn yX3_rankIn, Cond.initialized RX3, Cond.code yX3_rankIn cX3_rankIn 4 (some .int), Cond.fieldLink RX3 15 "CastDesk$Rows" "lengths" "[I"]
def wsL_take_r2 : List Cond := [Cond.fieldLink RX3 9 "CastDesk$Rows" "actors" "[I", Cond.methodLink RX6 116 yX3_remove, Cond.instanceMethod yX3_remove, Cond.selects RX3 yX3_remove yX3_remove, Cond.code yX3_remove cX3_remove 4 none]
def wsL_take : List Cond := .codeWith yL_take cL_take 5 (some .int) [(0, 10, 13, 19), (0, 10, 17, 25)] :: ((wsL_take_r1 ++ wsL_take_r2) ++ wsX60 ++ wsX30 ++ (vx_atS RX6 99 "java/lang/IllegalStateException" ["java/lang/RuntimeException", "java/lang/Exception"]).filter goodWord ++ (vx_atS RX6 219 "java/lang/IndexOutOfBoundsException" ["java/lang/RuntimeException", "java/lang/Exception"]).filter goodWord)
def wsL_costume_r1 : List Cond := [Cond.classLink RL 19 "java/lang/IndexOutOfBoundsException", Cond.classLink RL 13 "java/lang/IllegalArgumentException", Cond.classLink RL 25 "java/lang/IllegalStateException", Cond.methodLink RL 33 yX6_costume, Cond.instanceMethod yX6_costume, Cond.selects RX6 yX6_costume yX6_costume, Cond.initialized RX6, Cond.code yX6_costume cX6_costume 3 (some .int), Cond.classLink RX6 95 "java/lang/IllegalStateException", Cond.initialized "java/lang/IllegalStateException", Cond.fieldLink RX6 26 "CastDesk" "wardrobe" "LCastDesk$Wardrobe;", Cond.fieldLink RX6 120 "CastDesk$Wardrobe" "count" "I", Cond.methodLink RX6 76 yX6_needPart, Cond.static yX6_needPart, Cond.code yX6_needPart cX6_needPart 1 none, Cond.classLink RX6 215 "java/lang/IndexOutOfBoundsException", Cond.initialized "java/lang/IndexOutOfBoundsException", Cond.methodLink RX6 69 yX6_needSize, Cond.static yX6_needSize, Cond.code yX6_needSize cX6_needSize 1 none, Cond.classLink RX6 58 "java/lang/IllegalArgumentException", Cond.initialized "java/lang/IllegalArgumentException", Cond.methodLink RX6 125 yX5_add, Cond.instanceMethod yX5_add]
def wsL_costume_r2 : List Cond := [Cond.selects RX5 yX5_add yX5_add, Cond.initialized RX5, Cond.code yX5_add cX5_add 3 (some .int), Cond.fieldLink RX5 15 "CastDesk$Wardrobe" "parts" "[I", Cond.fieldLink RX5 22 "CastDesk$Wardrobe" "count" "I", Cond.fieldLink RX5 9 "CastDesk$Wardrobe" "sizes" "[I"]
def wsL_costume : List Cond := .codeWith yL_costume cL_costume 5 (some .int) [(0, 10, 13, 19), (0, 10, 17, 13), (0, 10, 21, 25)] :: ((wsL_costume_r1 ++ wsL_costume_r2) ++ wsX60 ++ wsX50 ++ (vx_atS RX6 99 "java/lang/IllegalStateException" ["java/lang/RuntimeException", "java/lang/Exception"]).filter goodWord ++ (vx_atS RX6 219 "java/lang/IndexOutOfBoundsException" ["java/lang/RuntimeException", "java/lang/Exception"]).filter goodWord ++ (vx_atS RX6 62 "java/lang/IllegalArgumentException" ["java/lang/RuntimeException", "java/lang/Exception"]).filter goodWord)
def wsL_sizeOf : List Cond := .codeWith yL_sizeOf cL_sizeOf 4 (some .int) [(0, 9, 12, 19)] :: ([.classLink RL 19 "java/lang/IndexOutOfBoundsException", .methodLink RL 36 yX6_sizeOf, .instanceMethod yX6_sizeOf, .selects RX6 yX6_sizeOf yX6_sizeOf, .initialized RX6, .code yX6_sizeOf cX6_sizeOf 2 (some .int), .fieldLink RX6 26 "CastDesk" "wardrobe" "LCastDesk$Wardrobe;", .fieldLink RX6 120 "CastDesk$Wardrobe" "count" "I", .fieldLink RX6 131 "CastDesk$Wardrobe" "sizes" "[I", .methodLink RX6 128 yX6_needOneOf, .static yX6_needOneOf, .code yX6_needOneOf cX6_needOneOf 2 none, .classLink RX6 215 "java/lang/IndexOutOfBoundsException", .initialized "java/lang/IndexOutOfBoundsException"] ++ wsX60 ++ wsX50 ++ (vx_atS RX6 219 "java/lang/IndexOutOfBoundsException" ["java/lang/RuntimeException", "java/lang/Exception"]).filter goodWord)
def wsL_cold_r1 : List Cond := [Cond.classLink RL 19 "java/lang/IndexOutOfBoundsException", Cond.classLink RL 13 "java/lang/IllegalArgumentException", Cond.methodLink RL 39 yX6_cold, Cond.instanceMethod yX6_cold, Cond.selects RX6 yX6_cold yX6_cold, Cond.initialized RX6, Cond.code yX6_cold cX6_cold 4 (some .int), Cond.fieldLink RX6 55 "CastDesk" "today" "I", Cond.fieldLink RX6 10 "CastDesk" "troupe" "LCastDesk$Troupe;", Cond.methodLink RX6 65 yX6_needActor, Cond.static yX6_needActor, Cond.code yX6_needActor cX6_needActor 1 none, Cond.classLink RX6 215 "java/lang/IndexOutOfBoundsException", Cond.initialized "java/lang/IndexOutOfBoundsException", Cond.methodLink RX6 132 yX6_needDay, Cond.static yX6_needDay, Cond.code yX6_needDay cX6_needDay 2 none, Cond.classLink RX6 58 "java/lang/IllegalArgumentException", Cond.initialized "java/lang/IllegalArgumentException", Cond.methodLink RX6 135 yX4_fallIll, Cond.instanceMethod yX4_fallIll, Cond.selects RX4 yX4_fallIll yX4_fallIll, Cond.initialized RX4, Cond.code yX4_fallIll cX4_fallIll 6 (some .int)]
def wsL_cold_r2 : List Cond := [Cond.fieldLink RX4 18 "CastDesk$Troupe" "ill" "[I", Cond.static yX6_has, Cond.code yX6_has cX6_has 2 (some .boolean), Cond.static yX6_with, Cond.code yX6_with cX6_with 2 (some .int)]
def wsL_cold : List Cond := .codeWith yL_cold cL_cold 6 (some .int) [(0, 12, 15, 19), (0, 12, 19, 13)] :: ((wsL_cold_r1 ++ wsL_cold_r2) ++ wsX60 ++ wsX40 ++ (vx_atS RX6 219 "java/lang/IndexOutOfBoundsException" ["java/lang/RuntimeException", "java/lang/Exception"]).filter goodWord ++ (vx_atS RX6 62 "java/lang/IllegalArgumentException" ["java/lang/RuntimeException", "java/lang/Exception"]).filter goodWord)
def wsL_isIll : List Cond := .codeWith yL_isIll cL_isIll 5 (some .int) [(0, 17, 20, 19), (0, 17, 24, 13)] :: ([.classLink RL 19 "java/lang/IndexOutOfBoundsException", .classLink RL 13 "java/lang/IllegalArgumentException", .methodLink RL 43 yX6_isIll, .instanceMethod yX6_isIll, .selects RX6 yX6_isIll yX6_isIll, .initialized RX6, .code yX6_isIll cX6_isIll 3 (some .boolean), .fieldLink RX6 10 "CastDesk" "troupe" "LCastDesk$Troupe;", .fieldLink RX6 139 "CastDesk$Troupe" "ill" "[I", .methodLink RX6 65 yX6_needActor, .static yX6_needActor, .code yX6_needActor cX6_needActor 1 none, .classLink RX6 215 "java/lang/IndexOutOfBoundsException", .initialized "java/lang/IndexOutOfBoundsException", .methodLink RX6 132 yX6_needDay, .static yX6_needDay, .code yX6_needDay cX6_needDay 2 none, .classLink RX6 58 "java/lang/IllegalArgumentException", .initialized "java/lang/IllegalArgumentException", .methodLink RX6 142 yX6_has, .static yX6_has, .code yX6_has cX6_has 2 (some .boolean)] ++ wsX60 ++ wsX40 ++ (vx_atS RX6 219 "java/lang/IndexOutOfBoundsException" ["java/lang/RuntimeException", "java/lang/Exception"]).filter goodWord ++ (vx_atS RX6 62 "java/lang/IllegalArgumentException" ["java/lang/RuntimeException", "java/lang/Exception"]).filter goodWord)
def wsL_canPlay_r1 : List Cond := [Cond.classLink RL 19 "java/lang/IndexOutOfBoundsException", Cond.classLink RL 13 "java/lang/IllegalArgumentException", Cond.methodLink RL 47 yX6_canPlay, Cond.instanceMethod yX6_canPlay, Cond.selects RX6 yX6_canPlay yX6_canPlay, Cond.initialized RX6, Cond.code yX6_canPlay cX6_canPlay 4 (some .boolean), Cond.fieldLink RX6 19 "CastDesk" "rows" "LCastDesk$Rows;", Cond.fieldLink RX6 10 "CastDesk" "troupe" "LCastDesk$Troupe;", Cond.fieldLink RX6 139 "CastDesk$Troupe" "ill" "[I", Cond.methodLink RX6 65 yX6_needActor, Cond.static yX6_needActor, Cond.code yX6_needActor cX6_needActor 1 none, Cond.classLink RX6 215 "java/lang/IndexOutOfBoundsException", Cond.initialized "java/lang/IndexOutOfBoundsException", Cond.methodLink RX6 76 yX6_needPart, Cond.static yX6_needPart, Cond.code yX6_needPart cX6_needPart 1 none, Cond.methodLink RX6 132 yX6_needDay, Cond.static yX6_needDay, Cond.code yX6_needDay cX6_needDay 2 none, Cond.classLink RX6 58 "java/lang/IllegalArgumentException", Cond.initialized "java/lang/IllegalArgumentException", Cond.methodLink RX6 100 yX3_rankIn]
def wsL_canPlay_r2 : List Cond := [Cond.instanceMethod yX3_rankIn, Cond.selects RX3 yX3_rankIn yX3_rankIn, Cond.initialized RX3, Cond.code yX3_rankIn cX3_rankIn 4 (some .int), Cond.fieldLink RX3 15 "CastDesk$Rows" "lengths" "[I", Cond.fieldLink RX3 9 "CastDesk$Rows" "actors" "[I", Cond.methodLink RX6 146 yX6_isReady, Cond.instanceMethod yX6_isReady, Cond.selects RX6 yX6_isReady yX6_isReady, Cond.code yX6_isReady cX6_isReady 5 (some .boolean), Cond.fieldLink RX6 72 "CastDesk$Troupe" "sizes" "[I", Cond.fieldLink RX6 79 "CastDesk$Troupe" "known" "[I", Cond.fieldLink RX6 26 "CastDesk" "wardrobe" "LCastDesk$Wardrobe;", Cond.methodLink RX6 142 yX6_has, Cond.static yX6_has, Cond.code yX6_has cX6_has 2 (some .boolean), Cond.methodLink RX6 228 yX5_lowestFitting, Cond.instanceMethod yX5_lowestFitting, Cond.selects RX5 yX5_lowestFitting yX5_lowestFitting, Cond.initialized RX5, Cond.code yX5_lowestFitting cX5_lowestFitting 4 (some .int), Cond.fieldLink RX5 22 "CastDesk$Wardrobe" "count" "I", Cond.fieldLink RX5 15 "CastDesk$Wardrobe" "parts" "[I", Cond.fieldLink RX5 9 "CastDesk$Wardrobe" "sizes" "[I"]
def wsL_canPlay_r3 : List Cond := [Cond.methodLink RX6 231 yX5_lowestToLetOut, Cond.instanceMethod yX5_lowestToLetOut, Cond.selects RX5 yX5_lowestToLetOut yX5_lowestToLetOut, Cond.code yX5_lowestToLetOut cX5_lowestToLetOut 4 (some .int), Cond.fieldLink RX5 18 "CastDesk$Wardrobe" "isLetOut" "[Z"]
def wsL_canPlay : List Cond := .codeWith yL_canPlay cL_canPlay 6 (some .int) [(0, 19, 22, 19), (0, 19, 26, 13)] :: ((wsL_canPlay_r1 ++ (wsL_canPlay_r2 ++ wsL_canPlay_r3)) ++ wsX60 ++ wsX40 ++ wsX30 ++ wsX50 ++ (vx_atS RX6 219 "java/lang/IndexOutOfBoundsException" ["java/lang/RuntimeException", "java/lang/Exception"]).filter goodWord ++ (vx_atS RX6 62 "java/lang/IllegalArgumentException" ["java/lang/RuntimeException", "java/lang/Exception"]).filter goodWord)
def wsL_strain_r1 : List Cond := [Cond.classLink RL 13 "java/lang/IllegalArgumentException", Cond.methodLink RL 51 yX6_strain, Cond.instanceMethod yX6_strain, Cond.selects RX6 yX6_strain yX6_strain, Cond.initialized RX6, Cond.code yX6_strain cX6_strain 3 (some .int), Cond.fieldLink RX6 10 "CastDesk" "troupe" "LCastDesk$Troupe;", Cond.fieldLink RX6 139 "CastDesk$Troupe" "ill" "[I", Cond.methodLink RX6 132 yX6_needDay, Cond.static yX6_needDay, Cond.code yX6_needDay cX6_needDay 2 none, Cond.classLink RX6 58 "java/lang/IllegalArgumentException", Cond.initialized "java/lang/IllegalArgumentException", Cond.methodLink RX6 150 yX6_bestCast, Cond.instanceMethod yX6_bestCast, Cond.selects RX6 yX6_bestCast yX6_bestCast, Cond.code yX6_bestCast cX6_bestCast 2 (some .int), Cond.fieldLink RX6 33 "CastDesk" "casting" "LCastDesk$Casting;", Cond.fieldLink RX6 51 "CastDesk" "partCount" "I", Cond.methodLink RX6 156 yX6_offerActors, Cond.instanceMethod yX6_offerActors, Cond.selects RX6 yX6_offerActors yX6_offerActors, Cond.code yX6_offerActors cX6_offerActors 6 none, Cond.fieldLink RX6 19 "CastDesk" "rows" "LCastDesk$Rows;"]
def wsL_strain_r2 : List Cond := [Cond.fieldLink RX6 26 "CastDesk" "wardrobe" "LCastDesk$Wardrobe;", Cond.fieldLink RX6 72 "CastDesk$Troupe" "sizes" "[I", Cond.methodLink RX6 234 yX1_clear, Cond.instanceMethod yX1_clear, Cond.selects RX1 yX1_clear yX1_clear, Cond.initialized RX1, Cond.code yX1_clear cX1_clear 2 none, Cond.fieldLink RX1 11 "CastDesk$Casting" "actors" "[I", Cond.fieldLink RX1 25 "CastDesk$Casting" "setsBound" "I", Cond.methodLink RX6 193 yX3_actorAt, Cond.instanceMethod yX3_actorAt, Cond.selects RX3 yX3_actorAt yX3_actorAt, Cond.initialized RX3, Cond.code yX3_actorAt cX3_actorAt 3 (some .int), Cond.fieldLink RX3 15 "CastDesk$Rows" "lengths" "[I", Cond.fieldLink RX3 9 "CastDesk$Rows" "actors" "[I", Cond.methodLink RX6 146 yX6_isReady, Cond.instanceMethod yX6_isReady, Cond.selects RX6 yX6_isReady yX6_isReady, Cond.code yX6_isReady cX6_isReady 5 (some .boolean), Cond.fieldLink RX6 79 "CastDesk$Troupe" "known" "[I", Cond.methodLink RX6 142 yX6_has, Cond.static yX6_has, Cond.code yX6_has cX6_has 2 (some .boolean)]
def wsL_strain_r3 : List Cond := [Cond.methodLink RX6 228 yX5_lowestFitting, Cond.instanceMethod yX5_lowestFitting, Cond.selects RX5 yX5_lowestFitting yX5_lowestFitting, Cond.initialized RX5, Cond.code yX5_lowestFitting cX5_lowestFitting 4 (some .int), Cond.fieldLink RX5 22 "CastDesk$Wardrobe" "count" "I", Cond.fieldLink RX5 15 "CastDesk$Wardrobe" "parts" "[I", Cond.fieldLink RX5 9 "CastDesk$Wardrobe" "sizes" "[I", Cond.methodLink RX6 231 yX5_lowestToLetOut, Cond.instanceMethod yX5_lowestToLetOut, Cond.selects RX5 yX5_lowestToLetOut yX5_lowestToLetOut, Cond.code yX5_lowestToLetOut cX5_lowestToLetOut 4 (some .int), Cond.fieldLink RX5 18 "CastDesk$Wardrobe" "isLetOut" "[Z", Cond.methodLink RX6 237 yX1_offer, Cond.instanceMethod yX1_offer, Cond.selects RX1 yX1_offer yX1_offer, Cond.code yX1_offer cX1_offer 6 none, Cond.fieldLink RX1 15 "CastDesk$Casting" "keys" "[I", Cond.methodLink RX1 29 Lib.Math.max.name, Cond.static Lib.Math.max.name, Cond.initialized "java/lang/Math", Cond.code Lib.Math.max.name Lib.Math.max.code 2 (some .int), Cond.methodLink RX1 21 yX1_rankShift, Cond.static yX1_rankShift]
def wsL_strain_r4 : List Cond := [Cond.code yX1_rankShift cX1_rankShift 1 (some .int), Cond.methodLink RX6 241 yX1_leastKey, Cond.instanceMethod yX1_leastKey, Cond.selects RX1 yX1_leastKey yX1_leastKey, Cond.code yX1_leastKey cX1_leastKey 6 (some .int), Cond.fieldLink RX1 18 "CastDesk$Casting" "leastOfSet" "[I", Cond.methodLink RX1 35 yJ6_bitCount_0f7a4, Cond.static yJ6_bitCount_0f7a4, Cond.initialized RJ6, Cond.code yJ6_bitCount_0f7a4 cJ6_bitCount_0f7a4 1 (some .int), Cond.constant RJ6 265 (1431655765), Cond.constant RJ6 266 (858993459), Cond.constant RJ6 267 (252645135), Cond.methodLink RX1 40 yX1_castPart, Cond.instanceMethod yX1_castPart, Cond.selects RX1 yX1_castPart yX1_castPart, Cond.code yX1_castPart cX1_castPart 9 none, Cond.static yX6_with, Cond.code yX6_with cX6_with 2 (some .int), Cond.methodLink RX6 153 yX1_strainOf, Cond.static yX1_strainOf, Cond.code yX1_strainOf cX1_strainOf 1 (some .int)]
def wsL_strain : List Cond := .codeWith yL_strain cL_strain 4 (some .int) [(0, 9, 12, 13)] :: ((wsL_strain_r1 ++ (wsL_strain_r2 ++ (wsL_strain_r3 ++ wsL_strain_r4))) ++ wsX60 ++ wsX40 ++ wsX10 ++ wsX30 ++ wsX50 ++ (vx_atS RX6 62 "java/lang/IllegalArgumentException" ["java/lang/RuntimeException", "java/lang/Exception"]).filter goodWord)
def wsL_strainByAll_r1 : List Cond := [Cond.classLink RL 13 "java/lang/IllegalArgumentException", Cond.methodLink RL 54 yX6_strainByAll, Cond.instanceMethod yX6_strainByAll, Cond.selects RX6 yX6_strainByAll yX6_strainByAll, Cond.initialized RX6, Cond.code yX6_strainByAll cX6_strainByAll 2 (some .int), Cond.fieldLink RX6 10 "CastDesk" "troupe" "LCastDesk$Troupe;", Cond.fieldLink RX6 139 "CastDesk$Troupe" "ill" "[I", Cond.fieldLink RX6 33 "CastDesk" "casting" "LCastDesk$Casting;", Cond.fieldLink RX6 51 "CastDesk" "partCount" "I", Cond.methodLink RX6 132 yX6_needDay, Cond.static yX6_needDay, Cond.code yX6_needDay cX6_needDay 2 none, Cond.classLink RX6 58 "java/lang/IllegalArgumentException", Cond.initialized "java/lang/IllegalArgumentException", Cond.methodLink RX6 156 yX6_offerActors, Cond.instanceMethod yX6_offerActors, Cond.selects RX6 yX6_offerActors yX6_offerActors, Cond.code yX6_offerActors cX6_offerActors 6 none, Cond.fieldLink RX6 19 "CastDesk" "rows" "LCastDesk$Rows;", Cond.fieldLink RX6 26 "CastDesk" "wardrobe" "LCastDesk$Wardrobe;", Cond.fieldLink RX6 72 "CastDesk$Troupe" "sizes" "[I", Cond.methodLink RX6 234 yX1_clear, Cond.instanceMethod yX1_clear]
def wsL_strainByAll_r2 : List Cond := [Cond.selects RX1 yX1_clear yX1_clear, Cond.initialized RX1, Cond.code yX1_clear cX1_clear 2 none, Cond.fieldLink RX1 11 "CastDesk$Casting" "actors" "[I", Cond.fieldLink RX1 25 "CastDesk$Casting" "setsBound" "I", Cond.methodLink RX6 193 yX3_actorAt, Cond.instanceMethod yX3_actorAt, Cond.selects RX3 yX3_actorAt yX3_actorAt, Cond.initialized RX3, Cond.code yX3_actorAt cX3_actorAt 3 (some .int), Cond.fieldLink RX3 15 "CastDesk$Rows" "lengths" "[I", Cond.fieldLink RX3 9 "CastDesk$Rows" "actors" "[I", Cond.methodLink RX6 146 yX6_isReady, Cond.instanceMethod yX6_isReady, Cond.selects RX6 yX6_isReady yX6_isReady, Cond.code yX6_isReady cX6_isReady 5 (some .boolean), Cond.fieldLink RX6 79 "CastDesk$Troupe" "known" "[I", Cond.methodLink RX6 142 yX6_has, Cond.static yX6_has, Cond.code yX6_has cX6_has 2 (some .boolean), Cond.methodLink RX6 228 yX5_lowestFitting, Cond.instanceMethod yX5_lowestFitting, Cond.selects RX5 yX5_lowestFitting yX5_lowestFitting, Cond.initialized RX5]
def wsL_strainByAll_r3 : List Cond := [Cond.code yX5_lowestFitting cX5_lowestFitting 4 (some .int), Cond.fieldLink RX5 22 "CastDesk$Wardrobe" "count" "I", Cond.fieldLink RX5 15 "CastDesk$Wardrobe" "parts" "[I", Cond.fieldLink RX5 9 "CastDesk$Wardrobe" "sizes" "[I", Cond.methodLink RX6 231 yX5_lowestToLetOut, Cond.instanceMethod yX5_lowestToLetOut, Cond.selects RX5 yX5_lowestToLetOut yX5_lowestToLetOut, Cond.code yX5_lowestToLetOut cX5_lowestToLetOut 4 (some .int), Cond.fieldLink RX5 18 "CastDesk$Wardrobe" "isLetOut" "[Z", Cond.methodLink RX6 237 yX1_offer, Cond.instanceMethod yX1_offer, Cond.selects RX1 yX1_offer yX1_offer, Cond.code yX1_offer cX1_offer 6 none, Cond.fieldLink RX1 15 "CastDesk$Casting" "keys" "[I", Cond.methodLink RX1 29 Lib.Math.max.name, Cond.static Lib.Math.max.name, Cond.initialized "java/lang/Math", Cond.code Lib.Math.max.name Lib.Math.max.code 2 (some .int), Cond.methodLink RX1 21 yX1_rankShift, Cond.static yX1_rankShift, Cond.code yX1_rankShift cX1_rankShift 1 (some .int), Cond.methodLink RX6 159 yX1_leastStrain, Cond.instanceMethod yX1_leastStrain, Cond.selects RX1 yX1_leastStrain yX1_leastStrain]
def wsL_strainByAll_r4 : List Cond := [Cond.code yX1_leastStrain cX1_leastStrain 2 (some .int), Cond.methodLink RX1 51 yX1_leastFrom, Cond.static yX1_leastFrom, Cond.code yX1_leastFrom cX1_leastFrom 8 (some .int), Cond.static yX6_with, Cond.code yX6_with cX6_with 2 (some .int)]
def wsL_strainByAll : List Cond := .codeWith yL_strainByAll cL_strainByAll 4 (some .int) [(0, 9, 12, 13)] :: ((wsL_strainByAll_r1 ++ (wsL_strainByAll_r2 ++ (wsL_strainByAll_r3 ++ wsL_strainByAll_r4))) ++ wsX60 ++ wsX40 ++ wsX10 ++ wsX30 ++ wsX50 ++ (vx_atS RX6 62 "java/lang/IllegalArgumentException" ["java/lang/RuntimeException", "java/lang/Exception"]).filter goodWord)
def wsL_work_r1 : List Cond := [Cond.classLink RL 13 "java/lang/IllegalArgumentException", Cond.methodLink RL 57 yX6_work, Cond.instanceMethod yX6_work, Cond.selects RX6 yX6_work yX6_work, Cond.initialized RX6, Cond.code yX6_work cX6_work 3 (some .int), Cond.fieldLink RX6 10 "CastDesk" "troupe" "LCastDesk$Troupe;", Cond.fieldLink RX6 139 "CastDesk$Troupe" "ill" "[I", Cond.methodLink RX6 132 yX6_needDay, Cond.static yX6_needDay, Cond.code yX6_needDay cX6_needDay 2 none, Cond.classLink RX6 58 "java/lang/IllegalArgumentException", Cond.initialized "java/lang/IllegalArgumentException", Cond.methodLink RX6 150 yX6_bestCast, Cond.instanceMethod yX6_bestCast, Cond.selects RX6 yX6_bestCast yX6_bestCast, Cond.code yX6_bestCast cX6_bestCast 2 (some .int), Cond.fieldLink RX6 33 "CastDesk" "casting" "LCastDesk$Casting;", Cond.fieldLink RX6 51 "CastDesk" "partCount" "I", Cond.methodLink RX6 156 yX6_offerActors, Cond.instanceMethod yX6_offerActors, Cond.selects RX6 yX6_offerActors yX6_offerActors, Cond.code yX6_offerActors cX6_offerActors 6 none, Cond.fieldLink RX6 19 "CastDesk" "rows" "LCastDesk$Rows;"]
def wsL_work_r2 : List Cond := [Cond.fieldLink RX6 26 "CastDesk" "wardrobe" "LCastDesk$Wardrobe;", Cond.fieldLink RX6 72 "CastDesk$Troupe" "sizes" "[I", Cond.methodLink RX6 234 yX1_clear, Cond.instanceMethod yX1_clear, Cond.selects RX1 yX1_clear yX1_clear, Cond.initialized RX1, Cond.code yX1_clear cX1_clear 2 none, Cond.fieldLink RX1 11 "CastDesk$Casting" "actors" "[I", Cond.fieldLink RX1 25 "CastDesk$Casting" "setsBound" "I", Cond.methodLink RX6 193 yX3_actorAt, Cond.instanceMethod yX3_actorAt, Cond.selects RX3 yX3_actorAt yX3_actorAt, Cond.initialized RX3, Cond.code yX3_actorAt cX3_actorAt 3 (some .int), Cond.fieldLink RX3 15 "CastDesk$Rows" "lengths" "[I", Cond.fieldLink RX3 9 "CastDesk$Rows" "actors" "[I", Cond.methodLink RX6 146 yX6_isReady, Cond.instanceMethod yX6_isReady, Cond.selects RX6 yX6_isReady yX6_isReady, Cond.code yX6_isReady cX6_isReady 5 (some .boolean), Cond.fieldLink RX6 79 "CastDesk$Troupe" "known" "[I", Cond.methodLink RX6 142 yX6_has, Cond.static yX6_has, Cond.code yX6_has cX6_has 2 (some .boolean)]
def wsL_work_r3 : List Cond := [Cond.methodLink RX6 228 yX5_lowestFitting, Cond.instanceMethod yX5_lowestFitting, Cond.selects RX5 yX5_lowestFitting yX5_lowestFitting, Cond.initialized RX5, Cond.code yX5_lowestFitting cX5_lowestFitting 4 (some .int), Cond.fieldLink RX5 22 "CastDesk$Wardrobe" "count" "I", Cond.fieldLink RX5 15 "CastDesk$Wardrobe" "parts" "[I", Cond.fieldLink RX5 9 "CastDesk$Wardrobe" "sizes" "[I", Cond.methodLink RX6 231 yX5_lowestToLetOut, Cond.instanceMethod yX5_lowestToLetOut, Cond.selects RX5 yX5_lowestToLetOut yX5_lowestToLetOut, Cond.code yX5_lowestToLetOut cX5_lowestToLetOut 4 (some .int), Cond.fieldLink RX5 18 "CastDesk$Wardrobe" "isLetOut" "[Z", Cond.methodLink RX6 237 yX1_offer, Cond.instanceMethod yX1_offer, Cond.selects RX1 yX1_offer yX1_offer, Cond.code yX1_offer cX1_offer 6 none, Cond.fieldLink RX1 15 "CastDesk$Casting" "keys" "[I", Cond.methodLink RX1 29 Lib.Math.max.name, Cond.static Lib.Math.max.name, Cond.initialized "java/lang/Math", Cond.code Lib.Math.max.name Lib.Math.max.code 2 (some .int), Cond.methodLink RX1 21 yX1_rankShift, Cond.static yX1_rankShift]
def wsL_work_r4 : List Cond := [Cond.code yX1_rankShift cX1_rankShift 1 (some .int), Cond.methodLink RX6 241 yX1_leastKey, Cond.instanceMethod yX1_leastKey, Cond.selects RX1 yX1_leastKey yX1_leastKey, Cond.code yX1_leastKey cX1_leastKey 6 (some .int), Cond.fieldLink RX1 18 "CastDesk$Casting" "leastOfSet" "[I", Cond.methodLink RX1 35 yJ6_bitCount_0f7a4, Cond.static yJ6_bitCount_0f7a4, Cond.initialized RJ6, Cond.code yJ6_bitCount_0f7a4 cJ6_bitCount_0f7a4 1 (some .int), Cond.constant RJ6 265 (1431655765), Cond.constant RJ6 266 (858993459), Cond.constant RJ6 267 (252645135), Cond.methodLink RX1 40 yX1_castPart, Cond.instanceMethod yX1_castPart, Cond.selects RX1 yX1_castPart yX1_castPart, Cond.code yX1_castPart cX1_castPart 9 none, Cond.static yX6_with, Cond.code yX6_with cX6_with 2 (some .int), Cond.methodLink RX6 162 yX1_workOf, Cond.static yX1_workOf, Cond.code yX1_workOf cX1_workOf 1 (some .int)]
def wsL_work : List Cond := .codeWith yL_work cL_work 4 (some .int) [(0, 9, 12, 13)] :: ((wsL_work_r1 ++ (wsL_work_r2 ++ (wsL_work_r3 ++ wsL_work_r4))) ++ wsX60 ++ wsX40 ++ wsX10 ++ wsX30 ++ wsX50 ++ (vx_atS RX6 62 "java/lang/IllegalArgumentException" ["java/lang/RuntimeException", "java/lang/Exception"]).filter goodWord)
def wsL_actorFor_r1 : List Cond := [Cond.classLink RL 19 "java/lang/IndexOutOfBoundsException", Cond.classLink RL 13 "java/lang/IllegalArgumentException", Cond.methodLink RL 60 yX6_actorFor, Cond.instanceMethod yX6_actorFor, Cond.selects RX6 yX6_actorFor yX6_actorFor, Cond.initialized RX6, Cond.code yX6_actorFor cX6_actorFor 4 (some .int), Cond.fieldLink RX6 10 "CastDesk" "troupe" "LCastDesk$Troupe;", Cond.fieldLink RX6 139 "CastDesk$Troupe" "ill" "[I", Cond.fieldLink RX6 51 "CastDesk" "partCount" "I", Cond.methodLink RX6 76 yX6_needPart, Cond.static yX6_needPart, Cond.code yX6_needPart cX6_needPart 1 none, Cond.classLink RX6 215 "java/lang/IndexOutOfBoundsException", Cond.initialized "java/lang/IndexOutOfBoundsException", Cond.methodLink RX6 132 yX6_needDay, Cond.static yX6_needDay, Cond.code yX6_needDay cX6_needDay 2 none, Cond.classLink RX6 58 "java/lang/IllegalArgumentException", Cond.initialized "java/lang/IllegalArgumentException", Cond.methodLink RX6 150 yX6_bestCast, Cond.instanceMethod yX6_bestCast, Cond.selects RX6 yX6_bestCast yX6_bestCast, Cond.code yX6_bestCast cX6_bestCast 2 (some .int)]
def wsL_actorFor_r2 : List Cond := [Cond.fieldLink RX6 33 "CastDesk" "casting" "LCastDesk$Casting;", Cond.methodLink RX6 156 yX6_offerActors, Cond.instanceMethod yX6_offerActors, Cond.selects RX6 yX6_offerActors yX6_offerActors, Cond.code yX6_offerActors cX6_offerActors 6 none, Cond.fieldLink RX6 19 "CastDesk" "rows" "LCastDesk$Rows;", Cond.fieldLink RX6 26 "CastDesk" "wardrobe" "LCastDesk$Wardrobe;", Cond.fieldLink RX6 72 "CastDesk$Troupe" "sizes" "[I", Cond.methodLink RX6 234 yX1_clear, Cond.instanceMethod yX1_clear, Cond.selects RX1 yX1_clear yX1_clear, Cond.initialized RX1, Cond.code yX1_clear cX1_clear 2 none, Cond.fieldLink RX1 11 "CastDesk$Casting" "actors" "[I", Cond.fieldLink RX1 25 "CastDesk$Casting" "setsBound" "I", Cond.methodLink RX6 193 yX3_actorAt, Cond.instanceMethod yX3_actorAt, Cond.selects RX3 yX3_actorAt yX3_actorAt, Cond.initialized RX3, Cond.code yX3_actorAt cX3_actorAt 3 (some .int), Cond.fieldLink RX3 15 "CastDesk$Rows" "lengths" "[I", Cond.fieldLink RX3 9 "CastDesk$Rows" "actors" "[I", Cond.methodLink RX6 146 yX6_isReady, Cond.instanceMethod yX6_isReady]
def wsL_actorFor_r3 : List Cond := [Cond.selects RX6 yX6_isReady yX6_isReady, Cond.code yX6_isReady cX6_isReady 5 (some .boolean), Cond.fieldLink RX6 79 "CastDesk$Troupe" "known" "[I", Cond.methodLink RX6 142 yX6_has, Cond.static yX6_has, Cond.code yX6_has cX6_has 2 (some .boolean), Cond.methodLink RX6 228 yX5_lowestFitting, Cond.instanceMethod yX5_lowestFitting, Cond.selects RX5 yX5_lowestFitting yX5_lowestFitting, Cond.initialized RX5, Cond.code yX5_lowestFitting cX5_lowestFitting 4 (some .int), Cond.fieldLink RX5 22 "CastDesk$Wardrobe" "count" "I", Cond.fieldLink RX5 15 "CastDesk$Wardrobe" "parts" "[I", Cond.fieldLink RX5 9 "CastDesk$Wardrobe" "sizes" "[I", Cond.methodLink RX6 231 yX5_lowestToLetOut, Cond.instanceMethod yX5_lowestToLetOut, Cond.selects RX5 yX5_lowestToLetOut yX5_lowestToLetOut, Cond.code yX5_lowestToLetOut cX5_lowestToLetOut 4 (some .int), Cond.fieldLink RX5 18 "CastDesk$Wardrobe" "isLetOut" "[Z", Cond.methodLink RX6 237 yX1_offer, Cond.instanceMethod yX1_offer, Cond.selects RX1 yX1_offer yX1_offer, Cond.code yX1_offer cX1_offer 6 none, Cond.fieldLink RX1 15 "CastDesk$Casting" "keys" "[I"]
def wsL_actorFor_r4 : List Cond := [Cond.methodLink RX1 29 Lib.Math.max.name, Cond.static Lib.Math.max.name, Cond.initialized "java/lang/Math", Cond.code Lib.Math.max.name Lib.Math.max.code 2 (some .int), Cond.methodLink RX1 21 yX1_rankShift, Cond.static yX1_rankShift, Cond.code yX1_rankShift cX1_rankShift 1 (some .int), Cond.methodLink RX6 241 yX1_leastKey, Cond.instanceMethod yX1_leastKey, Cond.selects RX1 yX1_leastKey yX1_leastKey, Cond.code yX1_leastKey cX1_leastKey 6 (some .int), Cond.fieldLink RX1 18 "CastDesk$Casting" "leastOfSet" "[I", Cond.methodLink RX1 35 yJ6_bitCount_0f7a4, Cond.static yJ6_bitCount_0f7a4, Cond.initialized RJ6, Cond.code yJ6_bitCount_0f7a4 cJ6_bitCount_0f7a4 1 (some .int), Cond.constant RJ6 265 (1431655765), Cond.constant RJ6 266 (858993459), Cond.constant RJ6 267 (252645135), Cond.methodLink RX1 40 yX1_castPart, Cond.instanceMethod yX1_castPart, Cond.selects RX1 yX1_castPart yX1_castPart, Cond.code yX1_castPart cX1_castPart 9 none, Cond.static yX6_with]
def wsL_actorFor_r5 : List Cond := [Cond.code yX6_with cX6_with 2 (some .int), Cond.methodLink RX6 165 yX6_actorIn, Cond.instanceMethod yX6_actorIn, Cond.selects RX6 yX6_actorIn yX6_actorIn, Cond.code yX6_actorIn cX6_actorIn 3 (some .int), Cond.methodLink RX6 244 yX1_rankOf, Cond.static yX1_rankOf, Cond.code yX1_rankOf cX1_rankOf 2 (some .int)]
def wsL_actorFor : List Cond := .codeWith yL_actorFor cL_actorFor 5 (some .int) [(0, 10, 13, 19), (0, 10, 17, 13)] :: ((wsL_actorFor_r1 ++ (wsL_actorFor_r2 ++ (wsL_actorFor_r3 ++ (wsL_actorFor_r4 ++ wsL_actorFor_r5)))) ++ wsX60 ++ wsX40 ++ wsX10 ++ wsX30 ++ wsX50 ++ (vx_atS RX6 219 "java/lang/IndexOutOfBoundsException" ["java/lang/RuntimeException", "java/lang/Exception"]).filter goodWord ++ (vx_atS RX6 62 "java/lang/IllegalArgumentException" ["java/lang/RuntimeException", "java/lang/Exception"]).filter goodWord)
def wsL_chain_r1 : List Cond := [Cond.classLink RL 19 "java/lang/IndexOutOfBoundsException", Cond.classLink RL 13 "java/lang/IllegalArgumentException", Cond.methodLink RL 63 yX6_chain, Cond.instanceMethod yX6_chain, Cond.selects RX6 yX6_chain yX6_chain, Cond.initialized RX6, Cond.code yX6_chain cX6_chain 5 (some .int), Cond.fieldLink RX6 10 "CastDesk" "troupe" "LCastDesk$Troupe;", Cond.fieldLink RX6 139 "CastDesk$Troupe" "ill" "[I", Cond.methodLink RX6 65 yX6_needActor, Cond.static yX6_needActor, Cond.code yX6_needActor cX6_needActor 1 none, Cond.classLink RX6 215 "java/lang/IndexOutOfBoundsException", Cond.initialized "java/lang/IndexOutOfBoundsException", Cond.methodLink RX6 132 yX6_needDay, Cond.static yX6_needDay, Cond.code yX6_needDay cX6_needDay 2 none, Cond.classLink RX6 58 "java/lang/IllegalArgumentException", Cond.initialized "java/lang/IllegalArgumentException", Cond.methodLink RX6 150 yX6_bestCast, Cond.instanceMethod yX6_bestCast, Cond.selects RX6 yX6_bestCast yX6_bestCast, Cond.code yX6_bestCast cX6_bestCast 2 (some .int), Cond.fieldLink RX6 33 "CastDesk" "casting" "LCastDesk$Casting;"]
def wsL_chain_r2 : List Cond := [Cond.fieldLink RX6 51 "CastDesk" "partCount" "I", Cond.methodLink RX6 156 yX6_offerActors, Cond.instanceMethod yX6_offerActors, Cond.selects RX6 yX6_offerActors yX6_offerActors, Cond.code yX6_offerActors cX6_offerActors 6 none, Cond.fieldLink RX6 19 "CastDesk" "rows" "LCastDesk$Rows;", Cond.fieldLink RX6 26 "CastDesk" "wardrobe" "LCastDesk$Wardrobe;", Cond.fieldLink RX6 72 "CastDesk$Troupe" "sizes" "[I", Cond.methodLink RX6 234 yX1_clear, Cond.instanceMethod yX1_clear, Cond.selects RX1 yX1_clear yX1_clear, Cond.initialized RX1, Cond.code yX1_clear cX1_clear 2 none, Cond.fieldLink RX1 11 "CastDesk$Casting" "actors" "[I", Cond.fieldLink RX1 25 "CastDesk$Casting" "setsBound" "I", Cond.methodLink RX6 193 yX3_actorAt, Cond.instanceMethod yX3_actorAt, Cond.selects RX3 yX3_actorAt yX3_actorAt, Cond.initialized RX3, Cond.code yX3_actorAt cX3_actorAt 3 (some .int), Cond.fieldLink RX3 15 "CastDesk$Rows" "lengths" "[I", Cond.fieldLink RX3 9 "CastDesk$Rows" "actors" "[I", Cond.methodLink RX6 146 yX6_isReady, Cond.instanceMethod yX6_isReady]
def wsL_chain_r3 : List Cond := [Cond.selects RX6 yX6_isReady yX6_isReady, Cond.code yX6_isReady cX6_isReady 5 (some .boolean), Cond.fieldLink RX6 79 "CastDesk$Troupe" "known" "[I", Cond.methodLink RX6 142 yX6_has, Cond.static yX6_has, Cond.code yX6_has cX6_has 2 (some .boolean), Cond.methodLink RX6 228 yX5_lowestFitting, Cond.instanceMethod yX5_lowestFitting, Cond.selects RX5 yX5_lowestFitting yX5_lowestFitting, Cond.initialized RX5, Cond.code yX5_lowestFitting cX5_lowestFitting 4 (some .int), Cond.fieldLink RX5 22 "CastDesk$Wardrobe" "count" "I", Cond.fieldLink RX5 15 "CastDesk$Wardrobe" "parts" "[I", Cond.fieldLink RX5 9 "CastDesk$Wardrobe" "sizes" "[I", Cond.methodLink RX6 231 yX5_lowestToLetOut, Cond.instanceMethod yX5_lowestToLetOut, Cond.selects RX5 yX5_lowestToLetOut yX5_lowestToLetOut, Cond.code yX5_lowestToLetOut cX5_lowestToLetOut 4 (some .int), Cond.fieldLink RX5 18 "CastDesk$Wardrobe" "isLetOut" "[Z", Cond.methodLink RX6 237 yX1_offer, Cond.instanceMethod yX1_offer, Cond.selects RX1 yX1_offer yX1_offer, Cond.code yX1_offer cX1_offer 6 none, Cond.fieldLink RX1 15 "CastDesk$Casting" "keys" "[I"]
def wsL_chain_r4 : List Cond := [Cond.methodLink RX1 29 Lib.Math.max.name, Cond.static Lib.Math.max.name, Cond.initialized "java/lang/Math", Cond.code Lib.Math.max.name Lib.Math.max.code 2 (some .int), Cond.methodLink RX1 21 yX1_rankShift, Cond.static yX1_rankShift, Cond.code yX1_rankShift cX1_rankShift 1 (some .int), Cond.methodLink RX6 241 yX1_leastKey, Cond.instanceMethod yX1_leastKey, Cond.selects RX1 yX1_leastKey yX1_leastKey, Cond.code yX1_leastKey cX1_leastKey 6 (some .int), Cond.fieldLink RX1 18 "CastDesk$Casting" "leastOfSet" "[I", Cond.methodLink RX1 35 yJ6_bitCount_0f7a4, Cond.static yJ6_bitCount_0f7a4, Cond.initialized RJ6, Cond.code yJ6_bitCount_0f7a4 cJ6_bitCount_0f7a4 1 (some .int), Cond.constant RJ6 265 (1431655765), Cond.constant RJ6 266 (858993459), Cond.constant RJ6 267 (252645135), Cond.methodLink RX1 40 yX1_castPart, Cond.instanceMethod yX1_castPart, Cond.selects RX1 yX1_castPart yX1_castPart, Cond.code yX1_castPart cX1_castPart 9 none, Cond.static yX6_with]
def wsL_chain_r5 : List Cond := [Cond.code yX6_with cX6_with 2 (some .int), Cond.methodLink RX6 82 yX6_with, Cond.methodLink RX6 168 yX6_countOthers, Cond.instanceMethod yX6_countOthers, Cond.selects RX6 yX6_countOthers yX6_countOthers, Cond.code yX6_countOthers cX6_countOthers 5 (some .int), Cond.methodLink RX6 165 yX6_actorIn, Cond.instanceMethod yX6_actorIn, Cond.selects RX6 yX6_actorIn yX6_actorIn, Cond.code yX6_actorIn cX6_actorIn 3 (some .int), Cond.methodLink RX6 244 yX1_rankOf, Cond.static yX1_rankOf, Cond.code yX1_rankOf cX1_rankOf 2 (some .int)]
def wsL_chain : List Cond := .codeWith yL_chain cL_chain 5 (some .int) [(0, 10, 13, 19), (0, 10, 17, 13)] :: ((wsL_chain_r1 ++ (wsL_chain_r2 ++ (wsL_chain_r3 ++ (wsL_chain_r4 ++ wsL_chain_r5)))) ++ wsX60 ++ wsX40 ++ wsX10 ++ wsX30 ++ wsX50 ++ (vx_atS RX6 219 "java/lang/IndexOutOfBoundsException" ["java/lang/RuntimeException", "java/lang/Exception"]).filter goodWord ++ (vx_atS RX6 62 "java/lang/IllegalArgumentException" ["java/lang/RuntimeException", "java/lang/Exception"]).filter goodWord)
def wsL_show_r1 : List Cond := [Cond.classLink RL 13 "java/lang/IllegalArgumentException", Cond.classLink RL 25 "java/lang/IllegalStateException", Cond.methodLink RL 66 yX6_show, Cond.instanceMethod yX6_show, Cond.selects RX6 yX6_show yX6_show, Cond.initialized RX6, Cond.code yX6_show cX6_show 2 (some .int), Cond.classLink RX6 95 "java/lang/IllegalStateException", Cond.initialized "java/lang/IllegalStateException", Cond.fieldLink RX6 55 "CastDesk" "today" "I", Cond.fieldLink RX6 40 "CastDesk" "programme" "LCastDesk$Programme;", Cond.fieldLink RX6 176 "CastDesk$Programme" "count" "I", Cond.methodLink RX6 132 yX6_needDay, Cond.static yX6_needDay, Cond.code yX6_needDay cX6_needDay 2 none, Cond.classLink RX6 58 "java/lang/IllegalArgumentException", Cond.initialized "java/lang/IllegalArgumentException", Cond.methodLink RX6 171 yX2_showOn, Cond.instanceMethod yX2_showOn, Cond.selects RX2 yX2_showOn yX2_showOn, Cond.initialized RX2, Cond.code yX2_showOn cX2_showOn 3 (some .int), Cond.fieldLink RX2 21 "CastDesk$Programme" "count" "I", Cond.fieldLink RX2 18 "CastDesk$Programme" "days" "[I"]
def wsL_show_r2 : List Cond := [Cond.methodLink RX6 179 yX2_add, Cond.instanceMethod yX2_add, Cond.selects RX2 yX2_add yX2_add, Cond.code yX2_add cX2_add 2 (some .int), Cond.fieldLink RX2 9 "CastDesk$Programme" "states" "[I"]
def wsL_show : List Cond := .codeWith yL_show cL_show 4 (some .int) [(0, 9, 12, 13), (0, 9, 15, 25)] :: ((wsL_show_r1 ++ wsL_show_r2) ++ wsX60 ++ wsX20 ++ (vx_atS RX6 99 "java/lang/IllegalStateException" ["java/lang/RuntimeException", "java/lang/Exception"]).filter goodWord ++ (vx_atS RX6 62 "java/lang/IllegalArgumentException" ["java/lang/RuntimeException", "java/lang/Exception"]).filter goodWord)
def wsL_sell_r1 : List Cond := [Cond.classLink RL 19 "java/lang/IndexOutOfBoundsException", Cond.classLink RL 13 "java/lang/IllegalArgumentException", Cond.classLink RL 25 "java/lang/IllegalStateException", Cond.methodLink RL 69 yX6_sell, Cond.instanceMethod yX6_sell, Cond.selects RX6 yX6_sell yX6_sell, Cond.initialized RX6, Cond.code yX6_sell cX6_sell 6 (some .int), Cond.classLink RX6 58 "java/lang/IllegalArgumentException", Cond.initialized "java/lang/IllegalArgumentException", Cond.classLink RX6 95 "java/lang/IllegalStateException", Cond.initialized "java/lang/IllegalStateException", Cond.fieldLink RX6 40 "CastDesk" "programme" "LCastDesk$Programme;", Cond.fieldLink RX6 176 "CastDesk$Programme" "count" "I", Cond.fieldLink RX6 185 "CastDesk$Programme" "states" "[I", Cond.fieldLink RX6 47 "CastDesk" "office" "LCastDesk$BoxOffice;", Cond.fieldLink RX6 190 "CastDesk$BoxOffice" "count" "I", Cond.fieldLink RX6 19 "CastDesk" "rows" "LCastDesk$Rows;", Cond.methodLink RX6 128 yX6_needOneOf, Cond.static yX6_needOneOf, Cond.code yX6_needOneOf cX6_needOneOf 2 none, Cond.classLink RX6 215 "java/lang/IndexOutOfBoundsException", Cond.initialized "java/lang/IndexOutOfBoundsException", Cond.methodLink RX6 76 yX6_needPart]
def wsL_sell_r2 : List Cond := [Cond.static yX6_needPart, Cond.code yX6_needPart cX6_needPart 1 none, Cond.methodLink RX6 193 yX3_actorAt, Cond.instanceMethod yX3_actorAt, Cond.selects RX3 yX3_actorAt yX3_actorAt, Cond.initialized RX3, Cond.code yX3_actorAt cX3_actorAt 3 (some .int), Cond.fieldLink RX3 15 "CastDesk$Rows" "lengths" "[I", Cond.fieldLink RX3 9 "CastDesk$Rows" "actors" "[I", Cond.methodLink RX6 198 yX0_add, Cond.instanceMethod yX0_add, Cond.selects RX0 yX0_add yX0_add, Cond.initialized RX0, Cond.code yX0_add cX0_add 6 (some .int), Cond.fieldLink RX0 9 "CastDesk$BoxOffice" "shows" "[I", Cond.fieldLink RX0 30 "CastDesk$BoxOffice" "count" "I", Cond.fieldLink RX0 27 "CastDesk$BoxOffice" "prices" "[I", Cond.fieldLink RX0 15 "CastDesk$BoxOffice" "promises" "[I", Cond.fieldLink RX0 18 "CastDesk$BoxOffice" "parts" "[I", Cond.fieldLink RX0 21 "CastDesk$BoxOffice" "stars" "[I", Cond.fieldLink RX0 34 "CastDesk$BoxOffice" "money" "I"]
def wsL_sell : List Cond := .codeWith yL_sell cL_sell 7 (some .int) [(0, 14, 17, 19), (0, 14, 21, 13), (0, 14, 25, 25)] :: ((wsL_sell_r1 ++ wsL_sell_r2) ++ wsX60 ++ wsX20 ++ wsX00 ++ wsX30 ++ (vx_atS RX6 62 "java/lang/IllegalArgumentException" ["java/lang/RuntimeException", "java/lang/Exception"]).filter goodWord ++ (vx_atS RX6 99 "java/lang/IllegalStateException" ["java/lang/RuntimeException", "java/lang/Exception"]).filter goodWord ++ (vx_atS RX6 219 "java/lang/IndexOutOfBoundsException" ["java/lang/RuntimeException", "java/lang/Exception"]).filter goodWord)
def wsL_play_r1 : List Cond := [Cond.classLink RL 25 "java/lang/IllegalStateException", Cond.methodLink RL 73 yX6_play, Cond.instanceMethod yX6_play, Cond.selects RX6 yX6_play yX6_play, Cond.initialized RX6, Cond.code yX6_play cX6_play 3 (some .int), Cond.classLink RX6 95 "java/lang/IllegalStateException", Cond.initialized "java/lang/IllegalStateException", Cond.fieldLink RX6 55 "CastDesk" "today" "I", Cond.fieldLink RX6 40 "CastDesk" "programme" "LCastDesk$Programme;", Cond.methodLink RX6 171 yX2_showOn, Cond.instanceMethod yX2_showOn, Cond.selects RX2 yX2_showOn yX2_showOn, Cond.initialized RX2, Cond.code yX2_showOn cX2_showOn 3 (some .int), Cond.fieldLink RX2 21 "CastDesk$Programme" "count" "I", Cond.fieldLink RX2 18 "CastDesk$Programme" "days" "[I", Cond.methodLink RX6 203 yX6_perform, Cond.instanceMethod yX6_perform, Cond.selects RX6 yX6_perform yX6_perform, Cond.code yX6_perform cX6_perform 5 (some .int), Cond.fieldLink RX6 10 "CastDesk" "troupe" "LCastDesk$Troupe;", Cond.fieldLink RX6 139 "CastDesk$Troupe" "ill" "[I", Cond.fieldLink RX6 185 "CastDesk$Programme" "states" "[I"]
def wsL_play_r2 : List Cond := [Cond.fieldLink RX6 51 "CastDesk" "partCount" "I", Cond.fieldLink RX6 206 "CastDesk$Programme" "casts" "[I", Cond.methodLink RX6 150 yX6_bestCast, Cond.instanceMethod yX6_bestCast, Cond.selects RX6 yX6_bestCast yX6_bestCast, Cond.code yX6_bestCast cX6_bestCast 2 (some .int), Cond.fieldLink RX6 33 "CastDesk" "casting" "LCastDesk$Casting;", Cond.methodLink RX6 156 yX6_offerActors, Cond.instanceMethod yX6_offerActors, Cond.selects RX6 yX6_offerActors yX6_offerActors, Cond.code yX6_offerActors cX6_offerActors 6 none, Cond.fieldLink RX6 19 "CastDesk" "rows" "LCastDesk$Rows;", Cond.fieldLink RX6 26 "CastDesk" "wardrobe" "LCastDesk$Wardrobe;", Cond.fieldLink RX6 72 "CastDesk$Troupe" "sizes" "[I", Cond.methodLink RX6 234 yX1_clear, Cond.instanceMethod yX1_clear, Cond.selects RX1 yX1_clear yX1_clear, Cond.initialized RX1, Cond.code yX1_clear cX1_clear 2 none, Cond.fieldLink RX1 11 "CastDesk$Casting" "actors" "[I", Cond.fieldLink RX1 25 "CastDesk$Casting" "setsBound" "I", Cond.methodLink RX6 193 yX3_actorAt, Cond.instanceMethod yX3_actorAt, Cond.selects RX3 yX3_actorAt yX3_actorAt]
def wsL_play_r3 : List Cond := [Cond.initialized RX3, Cond.code yX3_actorAt cX3_actorAt 3 (some .int), Cond.fieldLink RX3 15 "CastDesk$Rows" "lengths" "[I", Cond.fieldLink RX3 9 "CastDesk$Rows" "actors" "[I", Cond.methodLink RX6 146 yX6_isReady, Cond.instanceMethod yX6_isReady, Cond.selects RX6 yX6_isReady yX6_isReady, Cond.code yX6_isReady cX6_isReady 5 (some .boolean), Cond.fieldLink RX6 79 "CastDesk$Troupe" "known" "[I", Cond.methodLink RX6 142 yX6_has, Cond.static yX6_has, Cond.code yX6_has cX6_has 2 (some .boolean), Cond.methodLink RX6 228 yX5_lowestFitting, Cond.instanceMethod yX5_lowestFitting, Cond.selects RX5 yX5_lowestFitting yX5_lowestFitting, Cond.initialized RX5, Cond.code yX5_lowestFitting cX5_lowestFitting 4 (some .int), Cond.fieldLink RX5 22 "CastDesk$Wardrobe" "count" "I", Cond.fieldLink RX5 15 "CastDesk$Wardrobe" "parts" "[I", Cond.fieldLink RX5 9 "CastDesk$Wardrobe" "sizes" "[I", Cond.methodLink RX6 231 yX5_lowestToLetOut, Cond.instanceMethod yX5_lowestToLetOut, Cond.selects RX5 yX5_lowestToLetOut yX5_lowestToLetOut, Cond.code yX5_lowestToLetOut cX5_lowestToLetOut 4 (some .int)]
def wsL_play_r4 : List Cond := [Cond.fieldLink RX5 18 "CastDesk$Wardrobe" "isLetOut" "[Z", Cond.methodLink RX6 237 yX1_offer, Cond.instanceMethod yX1_offer, Cond.selects RX1 yX1_offer yX1_offer, Cond.code yX1_offer cX1_offer 6 none, Cond.fieldLink RX1 15 "CastDesk$Casting" "keys" "[I", Cond.methodLink RX1 29 Lib.Math.max.name, Cond.static Lib.Math.max.name, Cond.initialized "java/lang/Math", Cond.code Lib.Math.max.name Lib.Math.max.code 2 (some .int), Cond.methodLink RX1 21 yX1_rankShift, Cond.static yX1_rankShift, Cond.code yX1_rankShift cX1_rankShift 1 (some .int), Cond.methodLink RX6 241 yX1_leastKey, Cond.instanceMethod yX1_leastKey, Cond.selects RX1 yX1_leastKey yX1_leastKey, Cond.code yX1_leastKey cX1_leastKey 6 (some .int), Cond.fieldLink RX1 18 "CastDesk$Casting" "leastOfSet" "[I", Cond.methodLink RX1 35 yJ6_bitCount_0f7a4, Cond.static yJ6_bitCount_0f7a4, Cond.initialized RJ6, Cond.code yJ6_bitCount_0f7a4 cJ6_bitCount_0f7a4 1 (some .int), Cond.constant RJ6 265 (1431655765), Cond.constant RJ6 266 (858993459)]
def wsL_play_r5 : List Cond := [Cond.constant RJ6 267 (252645135), Cond.methodLink RX1 40 yX1_castPart, Cond.instanceMethod yX1_castPart, Cond.selects RX1 yX1_castPart yX1_castPart, Cond.code yX1_castPart cX1_castPart 9 none, Cond.static yX6_with, Cond.code yX6_with cX6_with 2 (some .int), Cond.methodLink RX6 165 yX6_actorIn, Cond.instanceMethod yX6_actorIn, Cond.selects RX6 yX6_actorIn yX6_actorIn, Cond.code yX6_actorIn cX6_actorIn 3 (some .int), Cond.methodLink RX6 244 yX1_rankOf, Cond.static yX1_rankOf, Cond.code yX1_rankOf cX1_rankOf 2 (some .int), Cond.methodLink RX6 247 yX6_dress, Cond.instanceMethod yX6_dress, Cond.selects RX6 yX6_dress yX6_dress, Cond.code yX6_dress cX6_dress 4 none, Cond.methodLink RX6 253 yX5_letOut, Cond.instanceMethod yX5_letOut, Cond.selects RX5 yX5_letOut yX5_letOut, Cond.code yX5_letOut cX5_letOut 2 none, Cond.methodLink RX6 250 yX6_refundSeats, Cond.instanceMethod yX6_refundSeats]
def wsL_play_r6 : List Cond := [Cond.selects RX6 yX6_refundSeats yX6_refundSeats, Cond.code yX6_refundSeats cX6_refundSeats 6 (some .int), Cond.fieldLink RX6 47 "CastDesk" "office" "LCastDesk$BoxOffice;", Cond.fieldLink RX6 190 "CastDesk$BoxOffice" "count" "I", Cond.fieldLink RX6 256 "CastDesk$BoxOffice" "shows" "[I", Cond.methodLink RX6 259 yX6_shareBack, Cond.instanceMethod yX6_shareBack, Cond.selects RX6 yX6_shareBack yX6_shareBack, Cond.code yX6_shareBack cX6_shareBack 5 (some .int), Cond.fieldLink RX6 265 "CastDesk$BoxOffice" "parts" "[I", Cond.fieldLink RX6 268 "CastDesk$BoxOffice" "promises" "[I", Cond.fieldLink RX6 271 "CastDesk$BoxOffice" "stars" "[I", Cond.methodLink RX6 153 yX1_strainOf, Cond.static yX1_strainOf, Cond.code yX1_strainOf cX1_strainOf 1 (some .int), Cond.methodLink RX6 262 yX0_giveBack, Cond.instanceMethod yX0_giveBack, Cond.selects RX0 yX0_giveBack yX0_giveBack, Cond.initialized RX0, Cond.code yX0_giveBack cX0_giveBack 4 (some .int), Cond.fieldLink RX0 27 "CastDesk$BoxOffice" "prices" "[I", Cond.fieldLink RX0 24 "CastDesk$BoxOffice" "refunds" "[I", Cond.fieldLink RX0 34 "CastDesk$BoxOffice" "money" "I"]
def wsL_play : List Cond := .codeWith yL_play cL_play 3 (some .int) [(0, 8, 11, 25)] :: ((wsL_play_r1 ++ (wsL_play_r2 ++ (wsL_play_r3 ++ (wsL_play_r4 ++ (wsL_play_r5 ++ wsL_play_r6))))) ++ wsX60 ++ wsX20 ++ wsX40 ++ wsX10 ++ wsX30 ++ wsX50 ++ wsX00 ++ (vx_atS RX6 99 "java/lang/IllegalStateException" ["java/lang/RuntimeException", "java/lang/Exception"]).filter goodWord)
def wsL_stateOf : List Cond := .codeWith yL_stateOf cL_stateOf 4 (some .int) [(0, 9, 12, 19)] :: ([.classLink RL 19 "java/lang/IndexOutOfBoundsException", .methodLink RL 77 yX6_stateOf, .instanceMethod yX6_stateOf, .selects RX6 yX6_stateOf yX6_stateOf, .initialized RX6, .code yX6_stateOf cX6_stateOf 2 (some .int), .fieldLink RX6 40 "CastDesk" "programme" "LCastDesk$Programme;", .fieldLink RX6 176 "CastDesk$Programme" "count" "I", .fieldLink RX6 185 "CastDesk$Programme" "states" "[I", .methodLink RX6 128 yX6_needOneOf, .static yX6_needOneOf, .code yX6_needOneOf cX6_needOneOf 2 none, .classLink RX6 215 "java/lang/IndexOutOfBoundsException", .initialized "java/lang/IndexOutOfBoundsException"] ++ wsX60 ++ wsX20 ++ (vx_atS RX6 219 "java/lang/IndexOutOfBoundsException" ["java/lang/RuntimeException", "java/lang/Exception"]).filter goodWord)
def wsL_played : List Cond := .codeWith yL_played cL_played 5 (some .int) [(0, 10, 13, 19)] :: ([.classLink RL 19 "java/lang/IndexOutOfBoundsException", .methodLink RL 80 yX6_played, .instanceMethod yX6_played, .selects RX6 yX6_played yX6_played, .initialized RX6, .code yX6_played cX6_played 3 (some .int), .fieldLink RX6 40 "CastDesk" "programme" "LCastDesk$Programme;", .fieldLink RX6 176 "CastDesk$Programme" "count" "I", .fieldLink RX6 206 "CastDesk$Programme" "casts" "[I", .methodLink RX6 128 yX6_needOneOf, .static yX6_needOneOf, .code yX6_needOneOf cX6_needOneOf 2 none, .classLink RX6 215 "java/lang/IndexOutOfBoundsException", .initialized "java/lang/IndexOutOfBoundsException", .methodLink RX6 76 yX6_needPart, .static yX6_needPart, .code yX6_needPart cX6_needPart 1 none] ++ wsX60 ++ wsX20 ++ (vx_atS RX6 219 "java/lang/IndexOutOfBoundsException" ["java/lang/RuntimeException", "java/lang/Exception"]).filter goodWord)
def wsL_refund : List Cond := .codeWith yL_refund cL_refund 4 (some .int) [(0, 9, 12, 19)] :: ([.classLink RL 19 "java/lang/IndexOutOfBoundsException", .methodLink RL 83 yX6_refund, .instanceMethod yX6_refund, .selects RX6 yX6_refund yX6_refund, .initialized RX6, .code yX6_refund cX6_refund 2 (some .int), .fieldLink RX6 47 "CastDesk" "office" "LCastDesk$BoxOffice;", .fieldLink RX6 190 "CastDesk$BoxOffice" "count" "I", .fieldLink RX6 209 "CastDesk$BoxOffice" "refunds" "[I", .methodLink RX6 128 yX6_needOneOf, .static yX6_needOneOf, .code yX6_needOneOf cX6_needOneOf 2 none, .classLink RX6 215 "java/lang/IndexOutOfBoundsException", .initialized "java/lang/IndexOutOfBoundsException"] ++ wsX60 ++ wsX00 ++ (vx_atS RX6 219 "java/lang/IndexOutOfBoundsException" ["java/lang/RuntimeException", "java/lang/Exception"]).filter goodWord)
def wsL_law0_r1 : List Cond := [Cond.classLink RL 8 RX6, Cond.instantiable RX6 8, Cond.initialized RX6, Cond.classLink RL 87 RX7, Cond.instantiable RX7 29, Cond.initialized RX7, Cond.arrayClass .long, Cond.methodLink RL 86 yX6_init, Cond.instanceMethod yX6_init, Cond.code yX6_init cX6_init 1 none, Cond.methodLink RX6 1 objectInit, Cond.instanceMethod objectInit, Cond.code objectInit ⟨#[0xb1]⟩ 1 none, Cond.classLink RX6 7 RX4, Cond.instantiable RX4 3, Cond.initialized RX4, Cond.fieldLink RX6 10 "CastDesk" "troupe" "LCastDesk$Troupe;", Cond.classLink RX6 16 RX3, Cond.instantiable RX3 2, Cond.initialized RX3, Cond.fieldLink RX6 19 "CastDesk" "rows" "LCastDesk$Rows;", Cond.classLink RX6 23 RX5, Cond.instantiable RX5 4, Cond.initialized RX5]
def wsL_law0_r2 : List Cond := [Cond.fieldLink RX6 26 "CastDesk" "wardrobe" "LCastDesk$Wardrobe;", Cond.classLink RX6 30 RX1, Cond.instantiable RX1 4, Cond.initialized RX1, Cond.fieldLink RX6 33 "CastDesk" "casting" "LCastDesk$Casting;", Cond.classLink RX6 37 RX2, Cond.instantiable RX2 4, Cond.initialized RX2, Cond.fieldLink RX6 40 "CastDesk" "programme" "LCastDesk$Programme;", Cond.classLink RX6 44 RX0, Cond.instantiable RX0 8, Cond.initialized RX0, Cond.fieldLink RX6 47 "CastDesk" "office" "LCastDesk$BoxOffice;", Cond.fieldLink RX6 51 "CastDesk" "partCount" "I", Cond.fieldLink RX6 55 "CastDesk" "today" "I", Cond.methodLink RX6 9 yX4_init, Cond.instanceMethod yX4_init, Cond.code yX4_init cX4_init 2 none, Cond.methodLink RX4 3 objectInit, Cond.arrayClass .int, Cond.fieldLink RX4 9 "CastDesk$Troupe" "sizes" "[I", Cond.fieldLink RX4 15 "CastDesk$Troupe" "known" "[I", Cond.fieldLink RX4 18 "CastDesk$Troupe" "ill" "[I", Cond.instanceMethod yX3_init]
def wsL_law0_r3 : List Cond := [Cond.code yX3_init cX3_init 1 none, Cond.methodLink RX3 3 objectInit, Cond.fieldLink RX3 9 "CastDesk$Rows" "actors" "[I", Cond.fieldLink RX3 15 "CastDesk$Rows" "lengths" "[I", Cond.instanceMethod yX5_init, Cond.code yX5_init cX5_init 1 none, Cond.methodLink RX5 3 objectInit, Cond.fieldLink RX5 9 "CastDesk$Wardrobe" "sizes" "[I", Cond.fieldLink RX5 15 "CastDesk$Wardrobe" "parts" "[I", Cond.arrayClass .boolean, Cond.fieldLink RX5 18 "CastDesk$Wardrobe" "isLetOut" "[Z", Cond.methodLink RX6 32 yX1_init, Cond.instanceMethod yX1_init, Cond.code yX1_init cX1_init 2 none, Cond.methodLink RX1 5 objectInit, Cond.fieldLink RX1 11 "CastDesk$Casting" "actors" "[I", Cond.fieldLink RX1 15 "CastDesk$Casting" "keys" "[I", Cond.fieldLink RX1 18 "CastDesk$Casting" "leastOfSet" "[I", Cond.methodLink RX6 39 yX2_init, Cond.instanceMethod yX2_init, Cond.code yX2_init cX2_init 2 none, Cond.methodLink RX2 3 objectInit, Cond.fieldLink RX2 9 "CastDesk$Programme" "states" "[I", Cond.fieldLink RX2 15 "CastDesk$Programme" "casts" "[I"]
def wsL_law0_r4 : List Cond := [Cond.fieldLink RX2 18 "CastDesk$Programme" "days" "[I", Cond.instanceMethod yX0_init, Cond.code yX0_init cX0_init 1 none, Cond.methodLink RX0 3 objectInit, Cond.fieldLink RX0 9 "CastDesk$BoxOffice" "shows" "[I", Cond.fieldLink RX0 15 "CastDesk$BoxOffice" "promises" "[I", Cond.fieldLink RX0 18 "CastDesk$BoxOffice" "parts" "[I", Cond.fieldLink RX0 21 "CastDesk$BoxOffice" "stars" "[I", Cond.fieldLink RX0 24 "CastDesk$BoxOffice" "refunds" "[I", Cond.fieldLink RX0 27 "CastDesk$BoxOffice" "prices" "[I", Cond.methodLink RL 89 yX7_init, Cond.instanceMethod yX7_init, Cond.code yX7_init cX7_init 2 none, Cond.methodLink RX7 1 objectInit, Cond.fieldLink RX7 7 "CastDeskModel" "parts" "I", Cond.fieldLink RX7 13 "CastDeskModel" "sizes" "[I", Cond.fieldLink RX7 17 "CastDeskModel" "known" "[I", Cond.fieldLink RX7 20 "CastDeskModel" "rows" "[I", Cond.fieldLink RX7 23 "CastDeskModel" "lengths" "[I", Cond.fieldLink RX7 26 "CastDeskModel" "costumePart" "[I", Cond.fieldLink RX7 29 "CastDeskModel" "costumeSize" "[I", Cond.fieldLink RX7 32 "CastDeskModel" "letOut" "[I", Cond.fieldLink RX7 35 "CastDeskModel" "ill" "[I", Cond.fieldLink RX7 38 "CastDeskModel" "showDay" "[I"]
def wsL_law0_r5 : List Cond := [Cond.fieldLink RX7 41 "CastDeskModel" "showState" "[I", Cond.fieldLink RX7 44 "CastDeskModel" "showCast" "[I", Cond.fieldLink RX7 47 "CastDeskModel" "seatShow" "[I", Cond.fieldLink RX7 50 "CastDeskModel" "seatPrice" "[I", Cond.fieldLink RX7 53 "CastDeskModel" "seatPromise" "[I", Cond.fieldLink RX7 56 "CastDeskModel" "seatPart" "[I", Cond.fieldLink RX7 59 "CastDeskModel" "seatStar" "[I", Cond.fieldLink RX7 62 "CastDeskModel" "seatRefund" "[I", Cond.fieldLink RX7 65 "CastDeskModel" "able" "[I", Cond.fieldLink RX7 68 "CastDeskModel" "cast" "[I", Cond.fieldLink RX7 71 "CastDeskModel" "before" "[I", Cond.methodLink RL 90 yL_setParts, Cond.static yL_setParts, Cond.initialized RL, Cond.codeWith yL_setParts cL_setParts 4 (some .int) [(0, 9, 12, 13)], Cond.classLink RL 13 "java/lang/IllegalArgumentException", Cond.methodLink RL 7 yX6_setParts, Cond.instanceMethod yX6_setParts, Cond.selects RX6 yX6_setParts yX6_setParts, Cond.code yX6_setParts cX6_setParts 3 (some .int), Cond.classLink RX6 58 "java/lang/IllegalArgumentException", Cond.initialized "java/lang/IllegalArgumentException", Cond.methodLink RL 95 yX7_setParts, Cond.instanceMethod yX7_setParts]
def wsL_law0_r6 : List Cond := [Cond.selects RX7 yX7_setParts yX7_setParts, Cond.code yX7_setParts cX7_setParts 3 (some .int), Cond.fieldLink RX7 74 "CastDeskModel" "thrown" "I", Cond.methodLink RX7 77 yX7_in, Cond.static yX7_in, Cond.code yX7_in cX7_in 3 (some .boolean), Cond.methodLink RX7 81 yX7_fails, Cond.instanceMethod yX7_fails, Cond.selects RX7 yX7_fails yX7_fails, Cond.code yX7_fails cX7_fails 2 (some .int), Cond.methodLink RL 96 yX7_thrown, Cond.instanceMethod yX7_thrown, Cond.selects RX7 yX7_thrown yX7_thrown, Cond.code yX7_thrown cX7_thrown 1 (some .int), Cond.methodLink RL 99 yL_setSize, Cond.static yL_setSize, Cond.codeWith yL_setSize cL_setSize 5 (some .int) [(0, 10, 13, 19), (0, 10, 17, 13)], Cond.classLink RL 19 "java/lang/IndexOutOfBoundsException", Cond.methodLink RL 15 yX6_setSize, Cond.instanceMethod yX6_setSize, Cond.selects RX6 yX6_setSize yX6_setSize, Cond.code yX6_setSize cX6_setSize 4 (some .int), Cond.fieldLink RX6 72 "CastDesk$Troupe" "sizes" "[I", Cond.methodLink RX6 65 yX6_needActor]
def wsL_law0_r7 : List Cond := [Cond.static yX6_needActor, Cond.code yX6_needActor cX6_needActor 1 none, Cond.classLink RX6 215 "java/lang/IndexOutOfBoundsException", Cond.initialized "java/lang/IndexOutOfBoundsException", Cond.methodLink RX6 69 yX6_needSize, Cond.static yX6_needSize, Cond.code yX6_needSize cX6_needSize 1 none, Cond.methodLink RL 102 yX7_setSize, Cond.instanceMethod yX7_setSize, Cond.selects RX7 yX7_setSize yX7_setSize, Cond.code yX7_setSize cX7_setSize 4 (some .int), Cond.methodLink RX7 85 yX7_isActor, Cond.static yX7_isActor, Cond.code yX7_isActor cX7_isActor 1 (some .boolean), Cond.methodLink RL 103 yL_learn, Cond.static yL_learn, Cond.codeWith yL_learn cL_learn 6 (some .int) [(0, 12, 15, 19), (0, 12, 19, 25)], Cond.classLink RL 25 "java/lang/IllegalStateException", Cond.methodLink RL 21 yX6_learn, Cond.instanceMethod yX6_learn, Cond.selects RX6 yX6_learn yX6_learn, Cond.code yX6_learn cX6_learn 6 (some .int), Cond.classLink RX6 95 "java/lang/IllegalStateException", Cond.initialized "java/lang/IllegalStateException"]
def wsL_law0_r8 : List Cond := [Cond.fieldLink RX6 79 "CastDesk$Troupe" "known" "[I", Cond.methodLink RX6 76 yX6_needPart, Cond.static yX6_needPart, Cond.code yX6_needPart cX6_needPart 1 none, Cond.methodLink RX6 82 yX6_with, Cond.static yX6_with, Cond.code yX6_with cX6_with 2 (some .int), Cond.methodLink RX6 86 yX6_without, Cond.static yX6_without, Cond.code yX6_without cX6_without 2 (some .int), Cond.methodLink RX6 89 yJ6_bitCount_0f7a4, Cond.static yJ6_bitCount_0f7a4, Cond.initialized RJ6, Cond.code yJ6_bitCount_0f7a4 cJ6_bitCount_0f7a4 1 (some .int), Cond.constant RJ6 265 (1431655765), Cond.constant RJ6 266 (858993459), Cond.constant RJ6 267 (252645135), Cond.methodLink RL 106 yX7_learn, Cond.instanceMethod yX7_learn, Cond.selects RX7 yX7_learn yX7_learn, Cond.code yX7_learn cX7_learn 4 (some .int), Cond.methodLink RX7 89 yX7_isPart, Cond.static yX7_isPart, Cond.code yX7_isPart cX7_isPart 1 (some .boolean)]
def wsL_law0_r9 : List Cond := [Cond.methodLink RX7 92 yX7_knows, Cond.instanceMethod yX7_knows, Cond.selects RX7 yX7_knows yX7_knows, Cond.code yX7_knows cX7_knows 3 (some .boolean), Cond.methodLink RX7 96 yX7_knownBy, Cond.instanceMethod yX7_knownBy, Cond.selects RX7 yX7_knownBy yX7_knownBy, Cond.code yX7_knownBy cX7_knownBy 4 (some .int), Cond.methodLink RL 107 yL_put, Cond.static yL_put, Cond.codeWith yL_put cL_put 5 (some .int) [(0, 10, 13, 19), (0, 10, 17, 25)], Cond.methodLink RL 27 yX6_put, Cond.instanceMethod yX6_put, Cond.selects RX6 yX6_put yX6_put, Cond.code yX6_put cX6_put 3 (some .int), Cond.methodLink RX6 100 yX3_rankIn, Cond.instanceMethod yX3_rankIn, Cond.selects RX3 yX3_rankIn yX3_rankIn, Cond.code yX3_rankIn cX3_rankIn 4 (some .int), Cond.methodLink RX6 105 yX3_isFull, Cond.instanceMethod yX3_isFull, Cond.selects RX3 yX3_isFull yX3_isFull, Cond.code yX3_isFull cX3_isFull 2 (some .boolean), Cond.methodLink RX6 111 yX3_append]
def wsL_law0_r10 : List Cond := [Cond.instanceMethod yX3_append, Cond.selects RX3 yX3_append yX3_append, Cond.code yX3_append cX3_append 4 (some .int), Cond.methodLink RL 109 yX7_put, Cond.instanceMethod yX7_put, Cond.selects RX7 yX7_put yX7_put, Cond.code yX7_put cX7_put 3 (some .int), Cond.methodLink RX7 99 yX7_rankOf, Cond.instanceMethod yX7_rankOf, Cond.selects RX7 yX7_rankOf yX7_rankOf, Cond.code yX7_rankOf cX7_rankOf 4 (some .int), Cond.methodLink RL 110 yL_take, Cond.static yL_take, Cond.codeWith yL_take cL_take 5 (some .int) [(0, 10, 13, 19), (0, 10, 17, 25)], Cond.methodLink RL 30 yX6_take, Cond.instanceMethod yX6_take, Cond.selects RX6 yX6_take yX6_take, Cond.code yX6_take cX6_take 4 (some .int), Cond.methodLink RX6 116 yX3_remove, Cond.instanceMethod yX3_remove, Cond.selects RX3 yX3_remove yX3_remove, Cond.code yX3_remove cX3_remove 4 none, Cond.methodLink RL 112 yX7_take, Cond.instanceMethod yX7_take]
def wsL_law0_r11 : List Cond := [Cond.selects RX7 yX7_take yX7_take, Cond.code yX7_take cX7_take 5 (some .int), Cond.methodLink RL 113 yL_costume, Cond.static yL_costume, Cond.codeWith yL_costume cL_costume 5 (some .int) [(0, 10, 13, 19), (0, 10, 17, 13), (0, 10, 21, 25)], Cond.methodLink RL 33 yX6_costume, Cond.instanceMethod yX6_costume, Cond.selects RX6 yX6_costume yX6_costume, Cond.code yX6_costume cX6_costume 3 (some .int), Cond.fieldLink RX6 120 "CastDesk$Wardrobe" "count" "I", Cond.methodLink RX6 125 yX5_add, Cond.instanceMethod yX5_add, Cond.selects RX5 yX5_add yX5_add, Cond.code yX5_add cX5_add 3 (some .int), Cond.fieldLink RX5 22 "CastDesk$Wardrobe" "count" "I", Cond.methodLink RL 115 yX7_costume, Cond.instanceMethod yX7_costume, Cond.selects RX7 yX7_costume yX7_costume, Cond.code yX7_costume cX7_costume 3 (some .int), Cond.fieldLink RX7 103 "CastDeskModel" "costumes" "I", Cond.methodLink RL 116 yL_sizeOf, Cond.static yL_sizeOf, Cond.codeWith yL_sizeOf cL_sizeOf 4 (some .int) [(0, 9, 12, 19)], Cond.methodLink RL 36 yX6_sizeOf]
def wsL_law0_r12 : List Cond := [Cond.instanceMethod yX6_sizeOf, Cond.selects RX6 yX6_sizeOf yX6_sizeOf, Cond.code yX6_sizeOf cX6_sizeOf 2 (some .int), Cond.fieldLink RX6 131 "CastDesk$Wardrobe" "sizes" "[I", Cond.methodLink RX6 128 yX6_needOneOf, Cond.static yX6_needOneOf, Cond.code yX6_needOneOf cX6_needOneOf 2 none, Cond.methodLink RL 118 yX7_sizeOf, Cond.instanceMethod yX7_sizeOf, Cond.selects RX7 yX7_sizeOf yX7_sizeOf, Cond.code yX7_sizeOf cX7_sizeOf 2 (some .int), Cond.methodLink RL 119 yL_cold, Cond.static yL_cold, Cond.codeWith yL_cold cL_cold 6 (some .int) [(0, 12, 15, 19), (0, 12, 19, 13)], Cond.methodLink RL 39 yX6_cold, Cond.instanceMethod yX6_cold, Cond.selects RX6 yX6_cold yX6_cold, Cond.code yX6_cold cX6_cold 4 (some .int), Cond.methodLink RX6 132 yX6_needDay, Cond.static yX6_needDay, Cond.code yX6_needDay cX6_needDay 2 none, Cond.methodLink RX6 135 yX4_fallIll, Cond.instanceMethod yX4_fallIll, Cond.selects RX4 yX4_fallIll yX4_fallIll]
def wsL_law0_r13 : List Cond := [Cond.code yX4_fallIll cX4_fallIll 6 (some .int), Cond.static yX6_has, Cond.code yX6_has cX6_has 2 (some .boolean), Cond.methodLink RL 122 yX7_cold, Cond.instanceMethod yX7_cold, Cond.selects RX7 yX7_cold yX7_cold, Cond.code yX7_cold cX7_cold 6 (some .int), Cond.fieldLink RX7 106 "CastDeskModel" "today" "I", Cond.methodLink RL 123 yL_isIll, Cond.static yL_isIll, Cond.codeWith yL_isIll cL_isIll 5 (some .int) [(0, 17, 20, 19), (0, 17, 24, 13)], Cond.methodLink RL 43 yX6_isIll, Cond.instanceMethod yX6_isIll, Cond.selects RX6 yX6_isIll yX6_isIll, Cond.code yX6_isIll cX6_isIll 3 (some .boolean), Cond.fieldLink RX6 139 "CastDesk$Troupe" "ill" "[I", Cond.methodLink RX6 142 yX6_has, Cond.methodLink RL 125 yX7_isIll, Cond.instanceMethod yX7_isIll, Cond.selects RX7 yX7_isIll yX7_isIll, Cond.code yX7_isIll cX7_isIll 3 (some .boolean), Cond.methodLink RX7 109 yX7_isDay, Cond.static yX7_isDay, Cond.code yX7_isDay cX7_isDay 1 (some .boolean)]
def wsL_law0_r14 : List Cond := [Cond.methodLink RL 126 yL_canPlay, Cond.static yL_canPlay, Cond.codeWith yL_canPlay cL_canPlay 6 (some .int) [(0, 19, 22, 19), (0, 19, 26, 13)], Cond.methodLink RL 47 yX6_canPlay, Cond.instanceMethod yX6_canPlay, Cond.selects RX6 yX6_canPlay yX6_canPlay, Cond.code yX6_canPlay cX6_canPlay 4 (some .boolean), Cond.methodLink RX6 146 yX6_isReady, Cond.instanceMethod yX6_isReady, Cond.selects RX6 yX6_isReady yX6_isReady, Cond.code yX6_isReady cX6_isReady 5 (some .boolean), Cond.methodLink RX6 228 yX5_lowestFitting, Cond.instanceMethod yX5_lowestFitting, Cond.selects RX5 yX5_lowestFitting yX5_lowestFitting, Cond.code yX5_lowestFitting cX5_lowestFitting 4 (some .int), Cond.methodLink RX6 231 yX5_lowestToLetOut, Cond.instanceMethod yX5_lowestToLetOut, Cond.selects RX5 yX5_lowestToLetOut yX5_lowestToLetOut, Cond.code yX5_lowestToLetOut cX5_lowestToLetOut 4 (some .int), Cond.methodLink RL 128 yX7_canPlay, Cond.instanceMethod yX7_canPlay, Cond.selects RX7 yX7_canPlay yX7_canPlay, Cond.code yX7_canPlay cX7_canPlay 4 (some .boolean), Cond.methodLink RX7 118 yX7_can]
def wsL_law0_r15 : List Cond := [Cond.instanceMethod yX7_can, Cond.selects RX7 yX7_can yX7_can, Cond.code yX7_can cX7_can 5 (some .boolean), Cond.methodLink RX7 112 yX7_fits, Cond.instanceMethod yX7_fits, Cond.selects RX7 yX7_fits yX7_fits, Cond.code yX7_fits cX7_fits 5 (some .boolean), Cond.methodLink RX7 115 yX7_toLetOut, Cond.instanceMethod yX7_toLetOut, Cond.selects RX7 yX7_toLetOut yX7_toLetOut, Cond.code yX7_toLetOut cX7_toLetOut 4 (some .int), Cond.methodLink RL 129 yL_strain, Cond.static yL_strain, Cond.codeWith yL_strain cL_strain 4 (some .int) [(0, 9, 12, 13)], Cond.methodLink RL 51 yX6_strain, Cond.instanceMethod yX6_strain, Cond.selects RX6 yX6_strain yX6_strain, Cond.code yX6_strain cX6_strain 3 (some .int), Cond.methodLink RX6 150 yX6_bestCast, Cond.instanceMethod yX6_bestCast, Cond.selects RX6 yX6_bestCast yX6_bestCast, Cond.code yX6_bestCast cX6_bestCast 2 (some .int), Cond.methodLink RX6 156 yX6_offerActors, Cond.instanceMethod yX6_offerActors]
def wsL_law0_r16 : List Cond := [Cond.selects RX6 yX6_offerActors yX6_offerActors, Cond.code yX6_offerActors cX6_offerActors 6 none, Cond.methodLink RX6 234 yX1_clear, Cond.instanceMethod yX1_clear, Cond.selects RX1 yX1_clear yX1_clear, Cond.code yX1_clear cX1_clear 2 none, Cond.fieldLink RX1 25 "CastDesk$Casting" "setsBound" "I", Cond.methodLink RX6 193 yX3_actorAt, Cond.instanceMethod yX3_actorAt, Cond.selects RX3 yX3_actorAt yX3_actorAt, Cond.code yX3_actorAt cX3_actorAt 3 (some .int), Cond.methodLink RX6 237 yX1_offer, Cond.instanceMethod yX1_offer, Cond.selects RX1 yX1_offer yX1_offer, Cond.code yX1_offer cX1_offer 6 none, Cond.methodLink RX1 29 Lib.Math.max.name, Cond.static Lib.Math.max.name, Cond.initialized "java/lang/Math", Cond.code Lib.Math.max.name Lib.Math.max.code 2 (some .int), Cond.methodLink RX1 21 yX1_rankShift, Cond.static yX1_rankShift, Cond.code yX1_rankShift cX1_rankShift 1 (some .int), Cond.methodLink RX6 241 yX1_leastKey, Cond.instanceMethod yX1_leastKey]
def wsL_law0_r17 : List Cond := [Cond.selects RX1 yX1_leastKey yX1_leastKey, Cond.code yX1_leastKey cX1_leastKey 6 (some .int), Cond.methodLink RX1 35 yJ6_bitCount_0f7a4, Cond.methodLink RX1 40 yX1_castPart, Cond.instanceMethod yX1_castPart, Cond.selects RX1 yX1_castPart yX1_castPart, Cond.code yX1_castPart cX1_castPart 9 none, Cond.methodLink RX6 153 yX1_strainOf, Cond.static yX1_strainOf, Cond.code yX1_strainOf cX1_strainOf 1 (some .int), Cond.methodLink RL 131 yX7_strain, Cond.instanceMethod yX7_strain, Cond.selects RX7 yX7_strain yX7_strain, Cond.code yX7_strain cX7_strain 2 (some .int), Cond.fieldLink RX7 121 "CastDeskModel" "leastStrain" "I", Cond.methodLink RX7 138 yX7_lay, Cond.instanceMethod yX7_lay, Cond.selects RX7 yX7_lay yX7_lay, Cond.code yX7_lay cX7_lay 6 (some .boolean), Cond.fieldLink RX7 124 "CastDeskModel" "leastWork" "I", Cond.methodLink RX7 127 yX7_layAble, Cond.instanceMethod yX7_layAble, Cond.selects RX7 yX7_layAble yX7_layAble, Cond.code yX7_layAble cX7_layAble 6 none]
def wsL_law0_r18 : List Cond := [Cond.methodLink RX7 131 yX7_firstBad, Cond.instanceMethod yX7_firstBad, Cond.selects RX7 yX7_firstBad yX7_firstBad, Cond.code yX7_firstBad cX7_firstBad 5 (some .int), Cond.methodLink RX7 134 yX7_keep, Cond.instanceMethod yX7_keep, Cond.selects RX7 yX7_keep yX7_keep, Cond.code yX7_keep cX7_keep 6 none, Cond.methodLink RL 132 yL_strainByAll, Cond.static yL_strainByAll, Cond.codeWith yL_strainByAll cL_strainByAll 4 (some .int) [(0, 9, 12, 13)], Cond.methodLink RL 54 yX6_strainByAll, Cond.instanceMethod yX6_strainByAll, Cond.selects RX6 yX6_strainByAll yX6_strainByAll, Cond.code yX6_strainByAll cX6_strainByAll 2 (some .int), Cond.methodLink RX6 159 yX1_leastStrain, Cond.instanceMethod yX1_leastStrain, Cond.selects RX1 yX1_leastStrain yX1_leastStrain, Cond.code yX1_leastStrain cX1_leastStrain 2 (some .int), Cond.methodLink RX1 51 yX1_leastFrom, Cond.static yX1_leastFrom, Cond.code yX1_leastFrom cX1_leastFrom 8 (some .int), Cond.methodLink RL 134 yX7_strainByAll, Cond.instanceMethod yX7_strainByAll]
def wsL_law0_r19 : List Cond := [Cond.selects RX7 yX7_strainByAll yX7_strainByAll, Cond.code yX7_strainByAll cX7_strainByAll 2 (some .int), Cond.methodLink RL 135 yL_work, Cond.static yL_work, Cond.codeWith yL_work cL_work 4 (some .int) [(0, 9, 12, 13)], Cond.methodLink RL 57 yX6_work, Cond.instanceMethod yX6_work, Cond.selects RX6 yX6_work yX6_work, Cond.code yX6_work cX6_work 3 (some .int), Cond.methodLink RX6 162 yX1_workOf, Cond.static yX1_workOf, Cond.code yX1_workOf cX1_workOf 1 (some .int), Cond.methodLink RL 137 yX7_work, Cond.instanceMethod yX7_work, Cond.selects RX7 yX7_work yX7_work, Cond.code yX7_work cX7_work 2 (some .int), Cond.methodLink RL 138 yL_actorFor, Cond.static yL_actorFor, Cond.codeWith yL_actorFor cL_actorFor 5 (some .int) [(0, 10, 13, 19), (0, 10, 17, 13)], Cond.methodLink RL 60 yX6_actorFor, Cond.instanceMethod yX6_actorFor, Cond.selects RX6 yX6_actorFor yX6_actorFor, Cond.code yX6_actorFor cX6_actorFor 4 (some .int), Cond.methodLink RX6 165 yX6_actorIn]
def wsL_law0_r20 : List Cond := [Cond.instanceMethod yX6_actorIn, Cond.selects RX6 yX6_actorIn yX6_actorIn, Cond.code yX6_actorIn cX6_actorIn 3 (some .int), Cond.methodLink RX6 244 yX1_rankOf, Cond.static yX1_rankOf, Cond.code yX1_rankOf cX1_rankOf 2 (some .int), Cond.methodLink RL 140 yX7_actorFor, Cond.instanceMethod yX7_actorFor, Cond.selects RX7 yX7_actorFor yX7_actorFor, Cond.code yX7_actorFor cX7_actorFor 3 (some .int), Cond.methodLink RL 141 yL_chain, Cond.static yL_chain, Cond.codeWith yL_chain cL_chain 5 (some .int) [(0, 10, 13, 19), (0, 10, 17, 13)], Cond.methodLink RL 63 yX6_chain, Cond.instanceMethod yX6_chain, Cond.selects RX6 yX6_chain yX6_chain, Cond.code yX6_chain cX6_chain 5 (some .int), Cond.methodLink RX6 168 yX6_countOthers, Cond.instanceMethod yX6_countOthers, Cond.selects RX6 yX6_countOthers yX6_countOthers, Cond.code yX6_countOthers cX6_countOthers 5 (some .int), Cond.methodLink RL 143 yX7_chain, Cond.instanceMethod yX7_chain, Cond.selects RX7 yX7_chain yX7_chain]
def wsL_law0_r21 : List Cond := [Cond.code yX7_chain cX7_chain 5 (some .int), Cond.methodLink RL 144 yL_show, Cond.static yL_show, Cond.codeWith yL_show cL_show 4 (some .int) [(0, 9, 12, 13), (0, 9, 15, 25)], Cond.methodLink RL 66 yX6_show, Cond.instanceMethod yX6_show, Cond.selects RX6 yX6_show yX6_show, Cond.code yX6_show cX6_show 2 (some .int), Cond.fieldLink RX6 176 "CastDesk$Programme" "count" "I", Cond.methodLink RX6 171 yX2_showOn, Cond.instanceMethod yX2_showOn, Cond.selects RX2 yX2_showOn yX2_showOn, Cond.code yX2_showOn cX2_showOn 3 (some .int), Cond.fieldLink RX2 21 "CastDesk$Programme" "count" "I", Cond.methodLink RX6 179 yX2_add, Cond.instanceMethod yX2_add, Cond.selects RX2 yX2_add yX2_add, Cond.code yX2_add cX2_add 2 (some .int), Cond.methodLink RL 146 yX7_show, Cond.instanceMethod yX7_show, Cond.selects RX7 yX7_show yX7_show, Cond.code yX7_show cX7_show 3 (some .int), Cond.fieldLink RX7 141 "CastDeskModel" "shows" "I", Cond.methodLink RX7 144 yX7_showOn]
def wsL_law0_r22 : List Cond := [Cond.instanceMethod yX7_showOn, Cond.selects RX7 yX7_showOn yX7_showOn, Cond.code yX7_showOn cX7_showOn 4 (some .int), Cond.methodLink RL 147 yL_sell, Cond.static yL_sell, Cond.codeWith yL_sell cL_sell 7 (some .int) [(0, 14, 17, 19), (0, 14, 21, 13), (0, 14, 25, 25)], Cond.methodLink RL 69 yX6_sell, Cond.instanceMethod yX6_sell, Cond.selects RX6 yX6_sell yX6_sell, Cond.code yX6_sell cX6_sell 6 (some .int), Cond.fieldLink RX6 185 "CastDesk$Programme" "states" "[I", Cond.fieldLink RX6 190 "CastDesk$BoxOffice" "count" "I", Cond.methodLink RX6 198 yX0_add, Cond.instanceMethod yX0_add, Cond.selects RX0 yX0_add yX0_add, Cond.code yX0_add cX0_add 6 (some .int), Cond.fieldLink RX0 30 "CastDesk$BoxOffice" "count" "I", Cond.fieldLink RX0 34 "CastDesk$BoxOffice" "money" "I", Cond.methodLink RL 150 yX7_sell, Cond.instanceMethod yX7_sell, Cond.selects RX7 yX7_sell yX7_sell, Cond.code yX7_sell cX7_sell 5 (some .int), Cond.fieldLink RX7 147 "CastDeskModel" "seats" "I", Cond.fieldLink RX7 150 "CastDeskModel" "taken" "I"]
def wsL_law0_r23 : List Cond := [Cond.methodLink RL 151 yL_play, Cond.static yL_play, Cond.codeWith yL_play cL_play 3 (some .int) [(0, 8, 11, 25)], Cond.methodLink RL 73 yX6_play, Cond.instanceMethod yX6_play, Cond.selects RX6 yX6_play yX6_play, Cond.code yX6_play cX6_play 3 (some .int), Cond.methodLink RX6 203 yX6_perform, Cond.instanceMethod yX6_perform, Cond.selects RX6 yX6_perform yX6_perform, Cond.code yX6_perform cX6_perform 5 (some .int), Cond.fieldLink RX6 206 "CastDesk$Programme" "casts" "[I", Cond.methodLink RX6 247 yX6_dress, Cond.instanceMethod yX6_dress, Cond.selects RX6 yX6_dress yX6_dress, Cond.code yX6_dress cX6_dress 4 none, Cond.methodLink RX6 253 yX5_letOut, Cond.instanceMethod yX5_letOut, Cond.selects RX5 yX5_letOut yX5_letOut, Cond.code yX5_letOut cX5_letOut 2 none, Cond.methodLink RX6 250 yX6_refundSeats, Cond.instanceMethod yX6_refundSeats, Cond.selects RX6 yX6_refundSeats yX6_refundSeats, Cond.code yX6_refundSeats cX6_refundSeats 6 (some .int)]
def wsL_law0_r24 : List Cond := [Cond.fieldLink RX6 256 "CastDesk$BoxOffice" "shows" "[I", Cond.methodLink RX6 259 yX6_shareBack, Cond.instanceMethod yX6_shareBack, Cond.selects RX6 yX6_shareBack yX6_shareBack, Cond.code yX6_shareBack cX6_shareBack 5 (some .int), Cond.fieldLink RX6 265 "CastDesk$BoxOffice" "parts" "[I", Cond.fieldLink RX6 268 "CastDesk$BoxOffice" "promises" "[I", Cond.fieldLink RX6 271 "CastDesk$BoxOffice" "stars" "[I", Cond.methodLink RX6 262 yX0_giveBack, Cond.instanceMethod yX0_giveBack, Cond.selects RX0 yX0_giveBack yX0_giveBack, Cond.code yX0_giveBack cX0_giveBack 4 (some .int), Cond.methodLink RL 154 yX7_play, Cond.instanceMethod yX7_play, Cond.selects RX7 yX7_play yX7_play, Cond.code yX7_play cX7_play 4 (some .int), Cond.methodLink RX7 156 yX7_refundAll, Cond.instanceMethod yX7_refundAll, Cond.selects RX7 yX7_refundAll yX7_refundAll, Cond.code yX7_refundAll cX7_refundAll 5 (some .int), Cond.methodLink RX7 153 yX7_refundOf, Cond.instanceMethod yX7_refundOf, Cond.selects RX7 yX7_refundOf yX7_refundOf, Cond.code yX7_refundOf cX7_refundOf 4 (some .int)]
def wsL_law0_r25 : List Cond := [Cond.methodLink RX7 160 yX7_perform, Cond.instanceMethod yX7_perform, Cond.selects RX7 yX7_perform yX7_perform, Cond.code yX7_perform cX7_perform 4 none, Cond.methodLink RL 155 yX6_day, Cond.instanceMethod yX6_day, Cond.selects RX6 yX6_day yX6_day, Cond.code yX6_day cX6_day 1 (some .int), Cond.methodLink RL 158 yX7_day, Cond.instanceMethod yX7_day, Cond.selects RX7 yX7_day yX7_day, Cond.code yX7_day cX7_day 1 (some .int), Cond.methodLink RL 159 yL_stateOf, Cond.static yL_stateOf, Cond.codeWith yL_stateOf cL_stateOf 4 (some .int) [(0, 9, 12, 19)], Cond.methodLink RL 77 yX6_stateOf, Cond.instanceMethod yX6_stateOf, Cond.selects RX6 yX6_stateOf yX6_stateOf, Cond.code yX6_stateOf cX6_stateOf 2 (some .int), Cond.methodLink RL 161 yX7_stateOf, Cond.instanceMethod yX7_stateOf, Cond.selects RX7 yX7_stateOf yX7_stateOf, Cond.code yX7_stateOf cX7_stateOf 2 (some .int), Cond.methodLink RL 162 yL_played]
def wsL_law0_r26 : List Cond := [Cond.static yL_played, Cond.codeWith yL_played cL_played 5 (some .int) [(0, 10, 13, 19)], Cond.methodLink RL 80 yX6_played, Cond.instanceMethod yX6_played, Cond.selects RX6 yX6_played yX6_played, Cond.code yX6_played cX6_played 3 (some .int), Cond.methodLink RL 164 yX7_played, Cond.instanceMethod yX7_played, Cond.selects RX7 yX7_played yX7_played, Cond.code yX7_played cX7_played 3 (some .int), Cond.methodLink RL 165 yL_refund, Cond.static yL_refund, Cond.codeWith yL_refund cL_refund 4 (some .int) [(0, 9, 12, 19)], Cond.methodLink RL 83 yX6_refund, Cond.instanceMethod yX6_refund, Cond.selects RX6 yX6_refund yX6_refund, Cond.code yX6_refund cX6_refund 2 (some .int), Cond.fieldLink RX6 209 "CastDesk$BoxOffice" "refunds" "[I", Cond.methodLink RL 167 yX7_refund, Cond.instanceMethod yX7_refund, Cond.selects RX7 yX7_refund yX7_refund, Cond.code yX7_refund cX7_refund 2 (some .int), Cond.methodLink RL 168 yX6_takings, Cond.instanceMethod yX6_takings]
def wsL_law0_r27 : List Cond := [Cond.selects RX6 yX6_takings yX6_takings, Cond.code yX6_takings cX6_takings 1 (some .int), Cond.fieldLink RX6 212 "CastDesk$BoxOffice" "money" "I", Cond.methodLink RL 171 yX7_takings, Cond.instanceMethod yX7_takings, Cond.selects RX7 yX7_takings yX7_takings, Cond.code yX7_takings cX7_takings 1 (some .int)]
def wsL_law0 : List Cond := (wsL_law0_r1 ++ (wsL_law0_r2 ++ (wsL_law0_r3 ++ (wsL_law0_r4 ++ (wsL_law0_r5 ++ (wsL_law0_r6 ++ (wsL_law0_r7 ++ (wsL_law0_r8 ++ (wsL_law0_r9 ++ (wsL_law0_r10 ++ (wsL_law0_r11 ++ (wsL_law0_r12 ++ (wsL_law0_r13 ++ (wsL_law0_r14 ++ (wsL_law0_r15 ++ (wsL_law0_r16 ++ (wsL_law0_r17 ++ (wsL_law0_r18 ++ (wsL_law0_r19 ++ (wsL_law0_r20 ++ (wsL_law0_r21 ++ (wsL_law0_r22 ++ (wsL_law0_r23 ++ (wsL_law0_r24 ++ (wsL_law0_r25 ++ (wsL_law0_r26 ++ wsL_law0_r27)))))))))))))))))))))))))) ++ wsX60 ++ wsX70 ++ wsX40 ++ wsX30 ++ wsX50 ++ wsX10 ++ wsX20 ++ wsX00 ++ ([] : List Cond)
def wsL_law : List Cond := wsL_law0 ++ (vx_atS RX6 62 "java/lang/IllegalArgumentException" ["java/lang/RuntimeException", "java/lang/Exception"]).filter goodWord ++ (vx_atS RX6 219 "java/lang/IndexOutOfBoundsException" ["java/lang/RuntimeException", "java/lang/Exception"]).filter goodWord ++ (vx_atS RX6 99 "java/lang/IllegalStateException" ["java/lang/RuntimeException", "java/lang/Exception"]).filter goodWord
theorem mem_r {big ws : List Cond} (ps : List Nat) (hp : ws = ps.filterMap (fun i => big[i]?)) : ∀ w ∈ ws, w ∈ big := by
  intro w hw
  rw [hp] at hw
  obtain ⟨i, -, hi⟩ := List.mem_filterMap.mp hw
  exact List.mem_of_getElem? hi
set_option maxRecDepth 20000 in
theorem wsL_law0_r1_q : ∀ w ∈ wsL_law0_r1, w ∈ lw_tbl := mem_r [43, 44, 27, 649, 650, 34, 911, 45, 46, 47, 48, 49, 50, 51, 52, 28, 185, 71, 72, 29, 186, 84, 85, 30] (by decide +kernel)
set_option maxRecDepth 20000 in
theorem wsL_law0_r2_q : ∀ w ∈ wsL_law0_r2, w ∈ lw_tbl := mem_r [187, 106, 107, 31, 188, 125, 126, 32, 189, 147, 148, 33, 190, 191, 192, 53, 54, 55, 56, 70, 57, 59, 61, 74] (by decide +kernel)
set_option maxRecDepth 20000 in
theorem wsL_law0_r3_q : ∀ w ∈ wsL_law0_r3, w ∈ lw_tbl := mem_r [75, 76, 77, 78, 87, 88, 89, 90, 92, 105, 93, 108, 109, 110, 111, 112, 113, 114, 127, 128, 129, 130, 131, 133] (by decide +kernel)
set_option maxRecDepth 20000 in
theorem wsL_law0_r4_q : ∀ w ∈ wsL_law0_r4, w ∈ lw_tbl := mem_r [135, 150, 151, 152, 153, 155, 157, 159, 161, 163, 651, 652, 653, 654, 655, 656, 657, 658, 659, 660, 661, 662, 664, 665] (by decide +kernel)
set_option maxRecDepth 20000 in
theorem wsL_law0_r5_q : ∀ w ∈ wsL_law0_r5, w ∈ lw_tbl := mem_r [666, 667, 669, 670, 671, 672, 673, 674, 678, 679, 680, 218, 219, 26, 220, 221, 222, 223, 224, 225, 226, 38, 747, 748] (by decide +kernel)
set_option maxRecDepth 20000 in
theorem wsL_law0_r6_q : ∀ w ∈ wsL_law0_r6, w ∈ lw_tbl := mem_r [749, 750, 683, 751, 752, 753, 754, 756, 11, 757, 743, 744, 745, 746, 294, 295, 296, 297, 298, 299, 300, 301, 58, 302] (by decide +kernel)
set_option maxRecDepth 20000 in
theorem wsL_law0_r7_q : ∀ w ∈ wsL_law0_r7, w ∈ lw_tbl := mem_r [303, 304, 305, 39, 321, 322, 323, 758, 759, 760, 761, 762, 763, 764, 325, 326, 327, 328, 329, 330, 331, 332, 349, 41] (by decide +kernel)
set_option maxRecDepth 20000 in
theorem wsL_law0_r8_q : ∀ w ∈ wsL_law0_r8, w ∈ lw_tbl := mem_r [60, 333, 334, 335, 337, 338, 339, 340, 341, 342, 343, 344, 40, 345, 346, 347, 348, 765, 766, 767, 768, 769, 770, 771] (by decide +kernel)
set_option maxRecDepth 20000 in
theorem wsL_law0_r9_q : ∀ w ∈ wsL_law0_r9, w ∈ lw_tbl := mem_r [772, 774, 12, 775, 776, 778, 13, 779, 365, 366, 367, 368, 369, 370, 371, 372, 373, 374, 375, 377, 378, 379, 380, 382] (by decide +kernel)
set_option maxRecDepth 20000 in
theorem wsL_law0_r10_q : ∀ w ∈ wsL_law0_r10, w ∈ lw_tbl := mem_r [383, 384, 385, 780, 781, 782, 783, 784, 786, 14, 787, 386, 387, 388, 389, 390, 391, 392, 394, 395, 396, 397, 788, 789] (by decide +kernel)
set_option maxRecDepth 20000 in
theorem wsL_law0_r11_q : ∀ w ∈ wsL_law0_r11, w ∈ lw_tbl := mem_r [790, 791, 398, 399, 400, 401, 402, 403, 404, 95, 406, 407, 408, 409, 94, 792, 793, 794, 795, 663, 410, 411, 412, 413] (by decide +kernel)
set_option maxRecDepth 20000 in
theorem wsL_law0_r12_q : ∀ w ∈ wsL_law0_r12, w ∈ lw_tbl := mem_r [414, 415, 416, 91, 417, 418, 419, 796, 797, 798, 799, 421, 422, 423, 424, 425, 426, 427, 428, 429, 430, 432, 433, 434] (by decide +kernel)
set_option maxRecDepth 20000 in
theorem wsL_law0_r13_q : ∀ w ∈ wsL_law0_r13, w ∈ lw_tbl := mem_r [435, 437, 438, 800, 801, 802, 803, 676, 440, 441, 442, 443, 444, 445, 446, 62, 447, 804, 805, 806, 807, 808, 809, 810] (by decide +kernel)
set_option maxRecDepth 20000 in
theorem wsL_law0_r14_q : ∀ w ∈ wsL_law0_r14, w ∈ lw_tbl := mem_r [448, 449, 450, 451, 452, 453, 454, 455, 457, 1, 458, 459, 460, 461, 462, 463, 464, 465, 466, 811, 812, 813, 814, 815] (by decide +kernel)
set_option maxRecDepth 20000 in
theorem wsL_law0_r15_q : ∀ w ∈ wsL_law0_r15, w ∈ lw_tbl := mem_r [817, 15, 818, 819, 821, 16, 822, 823, 825, 17, 826, 467, 468, 469, 470, 471, 472, 473, 474, 476, 2, 477, 478, 480] (by decide +kernel)
set_option maxRecDepth 20000 in
theorem wsL_law0_r16_q : ∀ w ∈ wsL_law0_r16, w ∈ lw_tbl := mem_r [3, 481, 482, 483, 484, 485, 115, 486, 487, 488, 489, 490, 491, 492, 493, 497, 498, 42, 499, 494, 495, 496, 500, 501] (by decide +kernel)
set_option maxRecDepth 20000 in
theorem wsL_law0_r17_q : ∀ w ∈ wsL_law0_r17, w ∈ lw_tbl := mem_r [502, 503, 504, 505, 507, 4, 508, 511, 512, 513, 827, 828, 829, 830, 681, 831, 833, 18, 834, 682, 835, 837, 19, 838] (by decide +kernel)
set_option maxRecDepth 20000 in
theorem wsL_law0_r18_q : ∀ w ∈ wsL_law0_r18, w ∈ lw_tbl := mem_r [839, 841, 20, 842, 843, 845, 21, 846, 514, 515, 516, 517, 518, 519, 520, 521, 522, 523, 524, 525, 526, 527, 847, 848] (by decide +kernel)
set_option maxRecDepth 20000 in
theorem wsL_law0_r19_q : ∀ w ∈ wsL_law0_r19, w ∈ lw_tbl := mem_r [849, 850, 528, 529, 530, 531, 532, 533, 534, 535, 536, 537, 851, 852, 853, 854, 538, 539, 540, 541, 542, 543, 544, 545] (by decide +kernel)
set_option maxRecDepth 20000 in
theorem wsL_law0_r20_q : ∀ w ∈ wsL_law0_r20, w ∈ lw_tbl := mem_r [547, 5, 548, 549, 550, 551, 855, 856, 857, 858, 552, 553, 554, 555, 556, 557, 558, 559, 561, 6, 562, 859, 860, 861] (by decide +kernel)
set_option maxRecDepth 20000 in
theorem wsL_law0_r21_q : ∀ w ∈ wsL_law0_r21, w ∈ lw_tbl := mem_r [862, 563, 564, 565, 566, 567, 568, 569, 137, 570, 571, 572, 573, 136, 576, 577, 578, 579, 863, 864, 865, 866, 668, 867] (by decide +kernel)
set_option maxRecDepth 20000 in
theorem wsL_law0_r22_q : ∀ w ∈ wsL_law0_r22, w ∈ lw_tbl := mem_r [869, 22, 870, 580, 581, 582, 583, 584, 585, 586, 132, 165, 592, 593, 594, 595, 164, 166, 871, 872, 873, 874, 675, 677] (by decide +kernel)
set_option maxRecDepth 20000 in
theorem wsL_law0_r23_q : ∀ w ∈ wsL_law0_r23, w ∈ lw_tbl := mem_r [596, 597, 598, 599, 600, 601, 602, 604, 606, 7, 607, 134, 608, 610, 8, 611, 612, 613, 614, 615, 616, 618, 9, 619] (by decide +kernel)
set_option maxRecDepth 20000 in
theorem wsL_law0_r24_q : ∀ w ∈ wsL_law0_r24, w ∈ lw_tbl := mem_r [154, 620, 622, 10, 623, 158, 156, 160, 624, 625, 626, 627, 875, 876, 877, 878, 879, 881, 23, 882, 883, 885, 24, 886] (by decide +kernel)
set_option maxRecDepth 20000 in
theorem wsL_law0_r25_q : ∀ w ∈ wsL_law0_r25, w ∈ lw_tbl := mem_r [887, 889, 25, 890, 210, 211, 212, 213, 891, 892, 893, 894, 628, 629, 630, 631, 632, 633, 634, 895, 896, 897, 898, 635] (by decide +kernel)
set_option maxRecDepth 20000 in
theorem wsL_law0_r26_q : ∀ w ∈ wsL_law0_r26, w ∈ lw_tbl := mem_r [636, 637, 638, 639, 640, 641, 899, 900, 901, 902, 642, 643, 644, 645, 646, 647, 648, 162, 903, 904, 905, 906, 214, 215] (by decide +kernel)
set_option maxRecDepth 20000 in
theorem wsL_law0_r27_q : ∀ w ∈ wsL_law0_r27, w ∈ lw_tbl := mem_r [216, 217, 167, 907, 908, 909, 910] (by decide +kernel)
set_option maxRecDepth 20000 in
theorem wsX60_q : ∀ w ∈ wsX60, w ∈ lw_tbl := mem_r [193, 195, 197, 199, 201, 203, 205, 207] (by decide +kernel)
set_option maxRecDepth 20000 in
theorem wsX70_q : ∀ w ∈ wsX70, w ∈ lw_tbl := mem_r [684, 686, 688, 690, 692, 694, 696, 698, 700, 702, 704, 706, 708, 710, 712, 714, 716, 718, 720, 722, 724, 726, 728, 730, 732, 734, 736, 738, 740] (by decide +kernel)
set_option maxRecDepth 20000 in
theorem wsX40_q : ∀ w ∈ wsX40, w ∈ lw_tbl := mem_r [63, 65, 67] (by decide +kernel)
set_option maxRecDepth 20000 in
theorem wsX30_q : ∀ w ∈ wsX30, w ∈ lw_tbl := mem_r [79, 81] (by decide +kernel)
set_option maxRecDepth 20000 in
theorem wsX50_q : ∀ w ∈ wsX50, w ∈ lw_tbl := mem_r [96, 98, 100, 102] (by decide +kernel)
set_option maxRecDepth 20000 in
theorem wsX10_q : ∀ w ∈ wsX10, w ∈ lw_tbl := mem_r [116, 118, 120, 122] (by decide +kernel)
set_option maxRecDepth 20000 in
theorem wsX20_q : ∀ w ∈ wsX20, w ∈ lw_tbl := mem_r [138, 140, 142, 144] (by decide +kernel)
set_option maxRecDepth 20000 in
theorem wsX00_q : ∀ w ∈ wsX00, w ∈ lw_tbl := mem_r [168, 170, 172, 174, 176, 178, 180, 182] (by decide +kernel)
theorem wsL_law_in0 : ∀ w ∈ wsL_law0, w ∈ lw_tbl := by
  show ∀ w ∈ (wsL_law0_r1 ++ (wsL_law0_r2 ++ (wsL_law0_r3 ++ (wsL_law0_r4 ++ (wsL_law0_r5 ++ (wsL_law0_r6 ++ (wsL_law0_r7 ++ (wsL_law0_r8 ++ (wsL_law0_r9 ++ (wsL_law0_r10 ++ (wsL_law0_r11 ++ (wsL_law0_r12 ++ (wsL_law0_r13 ++ (wsL_law0_r14 ++ (wsL_law0_r15 ++ (wsL_law0_r16 ++ (wsL_law0_r17 ++ (wsL_law0_r18 ++ (wsL_law0_r19 ++ (wsL_law0_r20 ++ (wsL_law0_r21 ++ (wsL_law0_r22 ++ (wsL_law0_r23 ++ (wsL_law0_r24 ++ (wsL_law0_r25 ++ (wsL_law0_r26 ++ (wsL_law0_r27))))))))))))))))))))))))))) ++ wsX60 ++ wsX70 ++ wsX40 ++ wsX30 ++ wsX50 ++ wsX10 ++ wsX20 ++ wsX00 ++ ([] : List Cond), w ∈ lw_tbl
  exact List.forall_mem_append.mpr ⟨List.forall_mem_append.mpr ⟨List.forall_mem_append.mpr ⟨List.forall_mem_append.mpr ⟨List.forall_mem_append.mpr ⟨List.forall_mem_append.mpr ⟨List.forall_mem_append.mpr ⟨List.forall_mem_append.mpr ⟨List.forall_mem_append.mpr ⟨List.forall_mem_append.mpr ⟨wsL_law0_r1_q, List.forall_mem_append.mpr ⟨wsL_law0_r2_q, List.forall_mem_append.mpr ⟨wsL_law0_r3_q, List.forall_mem_append.mpr ⟨wsL_law0_r4_q, List.forall_mem_append.mpr ⟨wsL_law0_r5_q, List.forall_mem_append.mpr ⟨wsL_law0_r6_q, List.forall_mem_append.mpr ⟨wsL_law0_r7_q, List.forall_mem_append.mpr ⟨wsL_law0_r8_q, List.forall_mem_append.mpr ⟨wsL_law0_r9_q, List.forall_mem_append.mpr ⟨wsL_law0_r10_q, List.forall_mem_append.mpr ⟨wsL_law0_r11_q, List.forall_mem_append.mpr ⟨wsL_law0_r12_q, List.forall_mem_append.mpr ⟨wsL_law0_r13_q, List.forall_mem_append.mpr ⟨wsL_law0_r14_q, List.forall_mem_append.mpr ⟨wsL_law0_r15_q, List.forall_mem_append.mpr ⟨wsL_law0_r16_q, List.forall_mem_append.mpr ⟨wsL_law0_r17_q, List.forall_mem_append.mpr ⟨wsL_law0_r18_q, List.forall_mem_append.mpr ⟨wsL_law0_r19_q, List.forall_mem_append.mpr ⟨wsL_law0_r20_q, List.forall_mem_append.mpr ⟨wsL_law0_r21_q, List.forall_mem_append.mpr ⟨wsL_law0_r22_q, List.forall_mem_append.mpr ⟨wsL_law0_r23_q, List.forall_mem_append.mpr ⟨wsL_law0_r24_q, List.forall_mem_append.mpr ⟨wsL_law0_r25_q, List.forall_mem_append.mpr ⟨wsL_law0_r26_q, wsL_law0_r27_q⟩⟩⟩⟩⟩⟩⟩⟩⟩⟩⟩⟩⟩⟩⟩⟩⟩⟩⟩⟩⟩⟩⟩⟩⟩⟩, wsX60_q⟩, wsX70_q⟩, wsX40_q⟩, wsX30_q⟩, wsX50_q⟩, wsX10_q⟩, wsX20_q⟩, wsX00_q⟩, fun _ h => absurd h List.not_mem_nil⟩
theorem wsL_law_x0 : ∀ w ∈ (vx_atS RX6 62 "java/lang/IllegalArgumentException" ["java/lang/RuntimeException", "java/lang/Exception"]).filter goodWord, w ∈ lw_tbl := by decide +kernel
theorem wsL_law_x1 : ∀ w ∈ (vx_atS RX6 219 "java/lang/IndexOutOfBoundsException" ["java/lang/RuntimeException", "java/lang/Exception"]).filter goodWord, w ∈ lw_tbl := by decide +kernel
theorem wsL_law_x2 : ∀ w ∈ (vx_atS RX6 99 "java/lang/IllegalStateException" ["java/lang/RuntimeException", "java/lang/Exception"]).filter goodWord, w ∈ lw_tbl := by decide +kernel
theorem wsL_law_in : ∀ w ∈ wsL_law, w ∈ lw_tbl := fun w h => (List.mem_append.mp h).elim (fun h => (List.mem_append.mp h).elim (fun h => (List.mem_append.mp h).elim (fun h => wsL_law_in0 w h) (fun h => wsL_law_x0 w h)) (fun h => wsL_law_x1 w h)) (fun h => wsL_law_x2 w h)
theorem inlX0 : ∀ w ∈ wsX00, w ∈ wsL_law := fun _ h => List.mem_append_left _ (List.mem_append_left _ (List.mem_append_left _ (List.mem_append_left _ (List.mem_append_right _ h))))
theorem inX0 : ∀ w ∈ wsX00, w ∈ lw_tbl := fun w h => wsL_law_in w (inlX0 w h)
theorem inlX1 : ∀ w ∈ wsX10, w ∈ wsL_law := fun _ h => List.mem_append_left _ (List.mem_append_left _ (List.mem_append_left _ (List.mem_append_left _ (List.mem_append_left _ (List.mem_append_left _ (List.mem_append_right _ h))))))
theorem inX1 : ∀ w ∈ wsX10, w ∈ lw_tbl := fun w h => wsL_law_in w (inlX1 w h)
theorem inlX2 : ∀ w ∈ wsX20, w ∈ wsL_law := fun _ h => List.mem_append_left _ (List.mem_append_left _ (List.mem_append_left _ (List.mem_append_left _ (List.mem_append_left _ (List.mem_append_right _ h)))))
theorem inX2 : ∀ w ∈ wsX20, w ∈ lw_tbl := fun w h => wsL_law_in w (inlX2 w h)
theorem inlX3 : ∀ w ∈ wsX30, w ∈ wsL_law := fun _ h => List.mem_append_left _ (List.mem_append_left _ (List.mem_append_left _ (List.mem_append_left _ (List.mem_append_left _ (List.mem_append_left _ (List.mem_append_left _ (List.mem_append_left _ (List.mem_append_right _ h))))))))
theorem inX3 : ∀ w ∈ wsX30, w ∈ lw_tbl := fun w h => wsL_law_in w (inlX3 w h)
theorem inlX4 : ∀ w ∈ wsX40, w ∈ wsL_law := fun _ h => List.mem_append_left _ (List.mem_append_left _ (List.mem_append_left _ (List.mem_append_left _ (List.mem_append_left _ (List.mem_append_left _ (List.mem_append_left _ (List.mem_append_left _ (List.mem_append_left _ (List.mem_append_right _ h)))))))))
theorem inX4 : ∀ w ∈ wsX40, w ∈ lw_tbl := fun w h => wsL_law_in w (inlX4 w h)
theorem inlX5 : ∀ w ∈ wsX50, w ∈ wsL_law := fun _ h => List.mem_append_left _ (List.mem_append_left _ (List.mem_append_left _ (List.mem_append_left _ (List.mem_append_left _ (List.mem_append_left _ (List.mem_append_left _ (List.mem_append_right _ h)))))))
theorem inX5 : ∀ w ∈ wsX50, w ∈ lw_tbl := fun w h => wsL_law_in w (inlX5 w h)
theorem inlX6 : ∀ w ∈ wsX60, w ∈ wsL_law := fun _ h => List.mem_append_left _ (List.mem_append_left _ (List.mem_append_left _ (List.mem_append_left _ (List.mem_append_left _ (List.mem_append_left _ (List.mem_append_left _ (List.mem_append_left _ (List.mem_append_left _ (List.mem_append_left _ (List.mem_append_left _ (List.mem_append_right _ h)))))))))))
theorem inX6 : ∀ w ∈ wsX60, w ∈ lw_tbl := fun w h => wsL_law_in w (inlX6 w h)
theorem inlX7 : ∀ w ∈ wsX70, w ∈ wsL_law := fun _ h => List.mem_append_left _ (List.mem_append_left _ (List.mem_append_left _ (List.mem_append_left _ (List.mem_append_left _ (List.mem_append_left _ (List.mem_append_left _ (List.mem_append_left _ (List.mem_append_left _ (List.mem_append_left _ (List.mem_append_right _ h))))))))))
theorem inX7 : ∀ w ∈ wsX70, w ∈ lw_tbl := fun w h => wsL_law_in w (inlX7 w h)
theorem inJ6 : ∀ w ∈ wsJ60, w ∈ lw_tbl := by decide +kernel
theorem inJ9 : ∀ w ∈ wsJ90, w ∈ lw_tbl := by decide +kernel
theorem inJ0 : ∀ w ∈ wsJ00, w ∈ lw_tbl := by decide +kernel
set_option maxRecDepth 20000 in
theorem ggX1_rankOf_X1_rankShift : GoodIn wsX1_rankOf wsX1_rankShift := goodIn_r _ [4] (by decide +kernel) (by decide +kernel)
set_option maxRecDepth 20000 in
theorem gX1_rankOf_X1_rankShift : GoodIn wsX1_rankOf (va_wsS RX1 21 yX1_rankShift wsX1_rankShift) := goodIn_app (goodIn_of _ (by decide +kernel)) ggX1_rankOf_X1_rankShift
set_option maxRecDepth 20000 in
theorem ggX1_offer_X1_rankShift : GoodIn wsX1_offer wsX1_rankShift := goodIn_r _ [11] (by decide +kernel) (by decide +kernel)
set_option maxRecDepth 20000 in
theorem gX1_offer_X1_rankShift : GoodIn wsX1_offer (va_wsS RX1 21 yX1_rankShift wsX1_rankShift) := goodIn_app (goodIn_of _ (by decide +kernel)) ggX1_offer_X1_rankShift
set_option maxRecDepth 20000 in
theorem ggX1_leastKey_J6_bitCount_0f7a4 : GoodIn wsX1_leastKey wsJ6_bitCount_0f7a4 := goodIn_r _ [6, 7, 8, 9] (by decide +kernel) (by decide +kernel)
set_option maxRecDepth 20000 in
theorem gX1_leastKey_J6_bitCount_0f7a4 : GoodIn wsX1_leastKey (va_wsS RX1 35 yJ6_bitCount_0f7a4 wsJ6_bitCount_0f7a4) := goodIn_app (goodIn_of _ (by decide +kernel)) ggX1_leastKey_J6_bitCount_0f7a4
set_option maxRecDepth 20000 in
theorem ggX1_leastKey_X1_castPart : GoodIn wsX1_leastKey wsX1_castPart := goodIn_r _ [14, 15, 16, 1, 17, 18, 19, 20, 21, 22, 23, 24, 25] (by decide +kernel) (by decide +kernel)
set_option maxRecDepth 20000 in
theorem gX1_leastKey_X1_castPart : GoodIn wsX1_leastKey (wsV RX1 40 RX1 yX1_castPart wsX1_castPart) := goodIn_app (goodIn_of _ (by decide +kernel)) ggX1_leastKey_X1_castPart
set_option maxRecDepth 20000 in
theorem ggX1_castPart_X6_has : GoodIn wsX1_castPart wsX6_has := goodIn_r _ [6] (by decide +kernel) (by decide +kernel)
set_option maxRecDepth 20000 in
theorem gX1_castPart_X6_has_n44 : GoodIn wsX1_castPart (wsX6_has) := ggX1_castPart_X6_has
set_option maxRecDepth 20000 in
theorem ggX1_castPart_X6_with : GoodIn wsX1_castPart wsX6_with := goodIn_r _ [8] (by decide +kernel) (by decide +kernel)
set_option maxRecDepth 20000 in
theorem gX1_castPart_X6_with_n48 : GoodIn wsX1_castPart (wsX6_with) := ggX1_castPart_X6_with
set_option maxRecDepth 20000 in
theorem ggX1_leastStrain_X1_leastFrom : GoodIn wsX1_leastStrain wsX1_leastFrom := goodIn_r _ [5, 6, 7, 8, 9, 10, 2, 3, 4] (by decide +kernel) (by decide +kernel)
set_option maxRecDepth 20000 in
theorem gX1_leastStrain_X1_leastFrom : GoodIn wsX1_leastStrain (va_wsS RX1 51 yX1_leastFrom wsX1_leastFrom) := goodIn_app (goodIn_of _ (by decide +kernel)) ggX1_leastStrain_X1_leastFrom
set_option maxRecDepth 20000 in
theorem ggX1_leastFrom_X6_has : GoodIn wsX1_leastFrom wsX6_has := goodIn_r _ [3] (by decide +kernel) (by decide +kernel)
set_option maxRecDepth 20000 in
theorem gX1_leastFrom_X6_has_n44 : GoodIn wsX1_leastFrom (wsX6_has) := ggX1_leastFrom_X6_has
set_option maxRecDepth 20000 in
theorem ggX1_leastFrom_X6_with : GoodIn wsX1_leastFrom wsX6_with := goodIn_r _ [5] (by decide +kernel) (by decide +kernel)
set_option maxRecDepth 20000 in
theorem gX1_leastFrom_X6_with_n48 : GoodIn wsX1_leastFrom (wsX6_with) := ggX1_leastFrom_X6_with
set_option maxRecDepth 20000 in
theorem ggX1_leastFrom_X1_leastFrom : GoodIn wsX1_leastFrom wsX1_leastFrom := goodIn_r _ [0, 1, 2, 3, 4, 5, 6, 7, 8] (by decide +kernel) (by decide +kernel)
set_option maxRecDepth 20000 in
theorem gX1_leastFrom_X1_leastFrom : GoodIn wsX1_leastFrom (va_wsS RX1 51 yX1_leastFrom wsX1_leastFrom) := goodIn_app (goodIn_of _ (by decide +kernel)) ggX1_leastFrom_X1_leastFrom
set_option maxRecDepth 20000 in
theorem ggX4_fallIll_X6_has : GoodIn wsX4_fallIll wsX6_has := goodIn_r _ [4] (by decide +kernel) (by decide +kernel)
set_option maxRecDepth 20000 in
theorem gX4_fallIll_X6_has_n21 : GoodIn wsX4_fallIll (wsX6_has) := ggX4_fallIll_X6_has
set_option maxRecDepth 20000 in
theorem ggX4_fallIll_X6_with : GoodIn wsX4_fallIll wsX6_with := goodIn_r _ [6] (by decide +kernel) (by decide +kernel)
set_option maxRecDepth 20000 in
theorem gX4_fallIll_X6_with_n25 : GoodIn wsX4_fallIll (wsX6_with) := ggX4_fallIll_X6_with
set_option maxRecDepth 20000 in
theorem ggX6_init_X4_init : GoodIn wsX6_init wsX4_init := goodIn_r _ [32, 33, 2, 3, 34, 35, 36, 37, 73, 74, 75] (by decide +kernel) (by decide +kernel)
set_option maxRecDepth 20000 in
theorem gX6_init_X4_init : GoodIn wsX6_init (wsX4_init) := ggX6_init_X4_init
set_option maxRecDepth 20000 in
theorem ggX6_init_X3_init : GoodIn wsX6_init wsX3_init := goodIn_r _ [39, 40, 2, 3, 34, 41, 42, 84, 85] (by decide +kernel) (by decide +kernel)
set_option maxRecDepth 20000 in
theorem gX6_init_X3_init_n18 : GoodIn wsX6_init (wsX3_init) := ggX6_init_X3_init
set_option maxRecDepth 20000 in
theorem ggX6_init_X5_init : GoodIn wsX6_init wsX5_init := goodIn_r _ [44, 45, 2, 3, 34, 46, 47, 48, 49, 86, 87, 88, 89] (by decide +kernel) (by decide +kernel)
set_option maxRecDepth 20000 in
theorem gX6_init_X5_init_n25 : GoodIn wsX6_init (wsX5_init) := ggX6_init_X5_init
set_option maxRecDepth 20000 in
theorem ggX6_init_X1_init : GoodIn wsX6_init wsX1_init := goodIn_r _ [52, 53, 2, 3, 34, 54, 55, 56, 90, 91, 92, 93] (by decide +kernel) (by decide +kernel)
set_option maxRecDepth 20000 in
theorem gX6_init_X1_init : GoodIn wsX6_init (wsX1_init) := ggX6_init_X1_init
set_option maxRecDepth 20000 in
theorem ggX6_init_X2_init : GoodIn wsX6_init wsX2_init := goodIn_r _ [59, 60, 2, 3, 34, 61, 62, 63, 94, 95, 96, 97] (by decide +kernel) (by decide +kernel)
set_option maxRecDepth 20000 in
theorem gX6_init_X2_init : GoodIn wsX6_init (wsX2_init) := ggX6_init_X2_init
set_option maxRecDepth 20000 in
theorem ggX6_init_X0_init : GoodIn wsX6_init wsX0_init := goodIn_r _ [65, 66, 2, 3, 34, 67, 68, 69, 70, 71, 72, 98, 99, 100, 101, 102, 103, 104, 105] (by decide +kernel) (by decide +kernel)
set_option maxRecDepth 20000 in
theorem gX6_init_X0_init_n46 : GoodIn wsX6_init (wsX0_init) := ggX6_init_X0_init
set_option maxRecDepth 20000 in
theorem ggX6_setSize_X6_needActor : GoodIn wsX6_setSize wsX6_needActor := goodIn_ca (goodIn_r _ [6, 7, 8] (by decide +kernel) (by decide +kernel)) (goodIn_sub (fun _ h => List.mem_cons_of_mem _ (List.mem_append_left _ (List.mem_append_right _ h))) (by decide +kernel))
set_option maxRecDepth 20000 in
theorem gX6_setSize_X6_needActor : GoodIn wsX6_setSize (va_wsS RX6 65 yX6_needActor wsX6_needActor) := goodIn_app (goodIn_of _ (by decide +kernel)) ggX6_setSize_X6_needActor
set_option maxRecDepth 20000 in
theorem ggX6_setSize_X6_needSize : GoodIn wsX6_setSize wsX6_needSize := goodIn_ca (goodIn_r _ [11, 12, 13] (by decide +kernel) (by decide +kernel)) (goodIn_sub (fun _ h => List.mem_cons_of_mem _ (List.mem_append_right _ h)) (by decide +kernel))
set_option maxRecDepth 20000 in
theorem gX6_setSize_X6_needSize : GoodIn wsX6_setSize (va_wsS RX6 69 yX6_needSize wsX6_needSize) := goodIn_app (goodIn_of _ (by decide +kernel)) ggX6_setSize_X6_needSize
set_option maxRecDepth 20000 in
theorem ggX6_learn_X6_needActor : GoodIn wsX6_learn wsX6_needActor := goodIn_ca (goodIn_r _ [8, 9, 10] (by decide +kernel) (by decide +kernel)) (goodIn_sub (fun _ h => List.mem_cons_of_mem _ (List.mem_append_right _ h)) (by decide +kernel))
set_option maxRecDepth 20000 in
theorem gX6_learn_X6_needActor : GoodIn wsX6_learn (va_wsS RX6 65 yX6_needActor wsX6_needActor) := goodIn_app (goodIn_of _ (by decide +kernel)) ggX6_learn_X6_needActor
set_option maxRecDepth 20000 in
theorem ggX6_learn_X6_needPart : GoodIn wsX6_learn wsX6_needPart := goodIn_ca (goodIn_r _ [13, 9, 10] (by decide +kernel) (by decide +kernel)) (goodIn_sub (fun _ h => List.mem_cons_of_mem _ (List.mem_append_right _ h)) (by decide +kernel))
set_option maxRecDepth 20000 in
theorem gX6_learn_X6_needPart : GoodIn wsX6_learn (va_wsS RX6 76 yX6_needPart wsX6_needPart) := goodIn_app (goodIn_of _ (by decide +kernel)) ggX6_learn_X6_needPart
set_option maxRecDepth 20000 in
theorem ggX6_learn_X6_with : GoodIn wsX6_learn wsX6_with := goodIn_r _ [16] (by decide +kernel) (by decide +kernel)
set_option maxRecDepth 20000 in
theorem gX6_learn_X6_with : GoodIn wsX6_learn (va_wsS RX6 82 yX6_with wsX6_with) := goodIn_app (goodIn_of _ (by decide +kernel)) ggX6_learn_X6_with
set_option maxRecDepth 20000 in
theorem ggX6_learn_X6_without : GoodIn wsX6_learn wsX6_without := goodIn_r _ [19] (by decide +kernel) (by decide +kernel)
set_option maxRecDepth 20000 in
theorem gX6_learn_X6_without : GoodIn wsX6_learn (va_wsS RX6 86 yX6_without wsX6_without) := goodIn_app (goodIn_of _ (by decide +kernel)) ggX6_learn_X6_without
set_option maxRecDepth 20000 in
theorem ggX6_learn_J6_bitCount_0f7a4 : GoodIn wsX6_learn wsJ6_bitCount_0f7a4 := goodIn_r _ [23, 24, 25, 26] (by decide +kernel) (by decide +kernel)
set_option maxRecDepth 20000 in
theorem gX6_learn_J6_bitCount_0f7a4 : GoodIn wsX6_learn (va_wsS RX6 89 yJ6_bitCount_0f7a4 wsJ6_bitCount_0f7a4) := goodIn_app (goodIn_of _ (by decide +kernel)) ggX6_learn_J6_bitCount_0f7a4
set_option maxRecDepth 20000 in
theorem ggX6_put_X6_needPart : GoodIn wsX6_put wsX6_needPart := goodIn_ca (goodIn_r _ [7, 8, 9] (by decide +kernel) (by decide +kernel)) (goodIn_sub (fun _ h => List.mem_cons_of_mem _ (List.mem_append_right _ h)) (by decide +kernel))
set_option maxRecDepth 20000 in
theorem gX6_put_X6_needPart : GoodIn wsX6_put (va_wsS RX6 76 yX6_needPart wsX6_needPart) := goodIn_app (goodIn_of _ (by decide +kernel)) ggX6_put_X6_needPart
set_option maxRecDepth 20000 in
theorem ggX6_put_X6_needActor : GoodIn wsX6_put wsX6_needActor := goodIn_ca (goodIn_r _ [12, 8, 9] (by decide +kernel) (by decide +kernel)) (goodIn_sub (fun _ h => List.mem_cons_of_mem _ (List.mem_append_right _ h)) (by decide +kernel))
set_option maxRecDepth 20000 in
theorem gX6_put_X6_needActor : GoodIn wsX6_put (va_wsS RX6 65 yX6_needActor wsX6_needActor) := goodIn_app (goodIn_of _ (by decide +kernel)) ggX6_put_X6_needActor
set_option maxRecDepth 20000 in
theorem ggX6_put_X3_rankIn : GoodIn wsX6_put wsX3_rankIn := goodIn_r _ [17, 18, 19, 36, 37] (by decide +kernel) (by decide +kernel)
set_option maxRecDepth 20000 in
theorem gX6_put_X3_rankIn : GoodIn wsX6_put (wsV RX6 100 RX3 yX3_rankIn wsX3_rankIn) := goodIn_app (goodIn_of _ (by decide +kernel)) ggX6_put_X3_rankIn
set_option maxRecDepth 20000 in
theorem ggX6_put_X3_isFull : GoodIn wsX6_put wsX3_isFull := goodIn_r _ [23, 18, 36, 37] (by decide +kernel) (by decide +kernel)
set_option maxRecDepth 20000 in
theorem gX6_put_X3_isFull : GoodIn wsX6_put (wsV RX6 105 RX3 yX3_isFull wsX3_isFull) := goodIn_app (goodIn_of _ (by decide +kernel)) ggX6_put_X3_isFull
set_option maxRecDepth 20000 in
theorem ggX6_put_X3_append : GoodIn wsX6_put wsX3_append := goodIn_r _ [27, 18, 19, 36, 37] (by decide +kernel) (by decide +kernel)
set_option maxRecDepth 20000 in
theorem gX6_put_X3_append : GoodIn wsX6_put (wsV RX6 111 RX3 yX3_append wsX3_append) := goodIn_app (goodIn_of _ (by decide +kernel)) ggX6_put_X3_append
set_option maxRecDepth 20000 in
theorem ggX6_take_X6_needPart : GoodIn wsX6_take wsX6_needPart := goodIn_ca (goodIn_r _ [7, 8, 9] (by decide +kernel) (by decide +kernel)) (goodIn_sub (fun _ h => List.mem_cons_of_mem _ (List.mem_append_right _ h)) (by decide +kernel))
set_option maxRecDepth 20000 in
theorem gX6_take_X6_needPart : GoodIn wsX6_take (va_wsS RX6 76 yX6_needPart wsX6_needPart) := goodIn_app (goodIn_of _ (by decide +kernel)) ggX6_take_X6_needPart
set_option maxRecDepth 20000 in
theorem ggX6_take_X6_needActor : GoodIn wsX6_take wsX6_needActor := goodIn_ca (goodIn_r _ [12, 8, 9] (by decide +kernel) (by decide +kernel)) (goodIn_sub (fun _ h => List.mem_cons_of_mem _ (List.mem_append_right _ h)) (by decide +kernel))
set_option maxRecDepth 20000 in
theorem gX6_take_X6_needActor : GoodIn wsX6_take (va_wsS RX6 65 yX6_needActor wsX6_needActor) := goodIn_app (goodIn_of _ (by decide +kernel)) ggX6_take_X6_needActor
set_option maxRecDepth 20000 in
theorem ggX6_take_X3_rankIn : GoodIn wsX6_take wsX3_rankIn := goodIn_r _ [17, 18, 19, 32, 33] (by decide +kernel) (by decide +kernel)
set_option maxRecDepth 20000 in
theorem gX6_take_X3_rankIn : GoodIn wsX6_take (wsV RX6 100 RX3 yX3_rankIn wsX3_rankIn) := goodIn_app (goodIn_of _ (by decide +kernel)) ggX6_take_X3_rankIn
set_option maxRecDepth 20000 in
theorem ggX6_take_X3_remove : GoodIn wsX6_take wsX3_remove := goodIn_r _ [23, 18, 19, 32, 33] (by decide +kernel) (by decide +kernel)
set_option maxRecDepth 20000 in
theorem gX6_take_X3_remove : GoodIn wsX6_take (wsV RX6 116 RX3 yX3_remove wsX3_remove) := goodIn_app (goodIn_of _ (by decide +kernel)) ggX6_take_X3_remove
set_option maxRecDepth 20000 in
theorem ggX6_costume_X6_needPart : GoodIn wsX6_costume wsX6_needPart := goodIn_ca (goodIn_r _ [8, 9, 10] (by decide +kernel) (by decide +kernel)) (goodIn_sub (fun _ h => List.mem_cons_of_mem _ (List.mem_append_left _ (List.mem_append_right _ h))) (by decide +kernel))
set_option maxRecDepth 20000 in
theorem gX6_costume_X6_needPart : GoodIn wsX6_costume (va_wsS RX6 76 yX6_needPart wsX6_needPart) := goodIn_app (goodIn_of _ (by decide +kernel)) ggX6_costume_X6_needPart
set_option maxRecDepth 20000 in
theorem ggX6_costume_X6_needSize : GoodIn wsX6_costume wsX6_needSize := goodIn_ca (goodIn_r _ [13, 14, 15] (by decide +kernel) (by decide +kernel)) (goodIn_sub (fun _ h => List.mem_cons_of_mem _ (List.mem_append_right _ h)) (by decide +kernel))
set_option maxRecDepth 20000 in
theorem gX6_costume_X6_needSize : GoodIn wsX6_costume (va_wsS RX6 69 yX6_needSize wsX6_needSize) := goodIn_app (goodIn_of _ (by decide +kernel)) ggX6_costume_X6_needSize
set_option maxRecDepth 20000 in
theorem ggX6_costume_X5_add : GoodIn wsX6_costume wsX5_add := goodIn_r _ [20, 21, 22, 23, 32, 33, 34, 35] (by decide +kernel) (by decide +kernel)
set_option maxRecDepth 20000 in
theorem gX6_costume_X5_add : GoodIn wsX6_costume (wsV RX6 125 RX5 yX5_add wsX5_add) := goodIn_app (goodIn_of _ (by decide +kernel)) ggX6_costume_X5_add
set_option maxRecDepth 20000 in
theorem ggX6_sizeOf_X6_needOneOf : GoodIn wsX6_sizeOf wsX6_needOneOf := goodIn_ca (goodIn_r _ [7, 8, 9] (by decide +kernel) (by decide +kernel)) (goodIn_sub (fun _ h => List.mem_cons_of_mem _ (List.mem_append_right _ h)) (by decide +kernel))
set_option maxRecDepth 20000 in
theorem gX6_sizeOf_X6_needOneOf : GoodIn wsX6_sizeOf (va_wsS RX6 128 yX6_needOneOf wsX6_needOneOf) := goodIn_app (goodIn_of _ (by decide +kernel)) ggX6_sizeOf_X6_needOneOf
set_option maxRecDepth 20000 in
theorem ggX6_cold_X6_needActor : GoodIn wsX6_cold wsX6_needActor := goodIn_ca (goodIn_r _ [6, 7, 8] (by decide +kernel) (by decide +kernel)) (goodIn_sub (fun _ h => List.mem_cons_of_mem _ (List.mem_append_left _ (List.mem_append_right _ h))) (by decide +kernel))
set_option maxRecDepth 20000 in
theorem gX6_cold_X6_needActor : GoodIn wsX6_cold (va_wsS RX6 65 yX6_needActor wsX6_needActor) := goodIn_app (goodIn_of _ (by decide +kernel)) ggX6_cold_X6_needActor
set_option maxRecDepth 20000 in
theorem ggX6_cold_X6_needDay : GoodIn wsX6_cold wsX6_needDay := goodIn_ca (goodIn_r _ [11, 12, 13] (by decide +kernel) (by decide +kernel)) (goodIn_sub (fun _ h => List.mem_cons_of_mem _ (List.mem_append_right _ h)) (by decide +kernel))
set_option maxRecDepth 20000 in
theorem gX6_cold_X6_needDay : GoodIn wsX6_cold (va_wsS RX6 132 yX6_needDay wsX6_needDay) := goodIn_app (goodIn_of _ (by decide +kernel)) ggX6_cold_X6_needDay
set_option maxRecDepth 20000 in
theorem ggX6_cold_X4_fallIll : GoodIn wsX6_cold wsX4_fallIll := goodIn_r _ [18, 19, 20, 5, 21, 22, 23, 32, 33, 34] (by decide +kernel) (by decide +kernel)
set_option maxRecDepth 20000 in
theorem gX6_cold_X4_fallIll : GoodIn wsX6_cold (wsV RX6 135 RX4 yX4_fallIll wsX4_fallIll) := goodIn_app (goodIn_of _ (by decide +kernel)) ggX6_cold_X4_fallIll
set_option maxRecDepth 20000 in
theorem ggX6_isIll_X6_needActor : GoodIn wsX6_isIll wsX6_needActor := goodIn_ca (goodIn_r _ [6, 7, 8] (by decide +kernel) (by decide +kernel)) (goodIn_sub (fun _ h => List.mem_cons_of_mem _ (List.mem_append_left _ (List.mem_append_right _ h))) (by decide +kernel))
set_option maxRecDepth 20000 in
theorem gX6_isIll_X6_needActor : GoodIn wsX6_isIll (va_wsS RX6 65 yX6_needActor wsX6_needActor) := goodIn_app (goodIn_of _ (by decide +kernel)) ggX6_isIll_X6_needActor
set_option maxRecDepth 20000 in
theorem ggX6_isIll_X6_needDay : GoodIn wsX6_isIll wsX6_needDay := goodIn_ca (goodIn_r _ [11, 12, 13] (by decide +kernel) (by decide +kernel)) (goodIn_sub (fun _ h => List.mem_cons_of_mem _ (List.mem_append_right _ h)) (by decide +kernel))
set_option maxRecDepth 20000 in
theorem gX6_isIll_X6_needDay : GoodIn wsX6_isIll (va_wsS RX6 132 yX6_needDay wsX6_needDay) := goodIn_app (goodIn_of _ (by decide +kernel)) ggX6_isIll_X6_needDay
set_option maxRecDepth 20000 in
theorem ggX6_isIll_X6_has : GoodIn wsX6_isIll wsX6_has := goodIn_r _ [16] (by decide +kernel) (by decide +kernel)
set_option maxRecDepth 20000 in
theorem gX6_isIll_X6_has : GoodIn wsX6_isIll (va_wsS RX6 142 yX6_has wsX6_has) := goodIn_app (goodIn_of _ (by decide +kernel)) ggX6_isIll_X6_has
set_option maxRecDepth 20000 in
theorem ggX6_canPlay_X6_needActor : GoodIn wsX6_canPlay wsX6_needActor := goodIn_ca (goodIn_r _ [7, 8, 9] (by decide +kernel) (by decide +kernel)) (goodIn_sub (fun _ h => List.mem_cons_of_mem _ (List.mem_append_left _ (List.mem_append_right _ h))) (by decide +kernel))
set_option maxRecDepth 20000 in
theorem gX6_canPlay_X6_needActor : GoodIn wsX6_canPlay (va_wsS RX6 65 yX6_needActor wsX6_needActor) := goodIn_app (goodIn_of _ (by decide +kernel)) ggX6_canPlay_X6_needActor
set_option maxRecDepth 20000 in
theorem ggX6_canPlay_X6_needPart : GoodIn wsX6_canPlay wsX6_needPart := goodIn_ca (goodIn_r _ [12, 8, 9] (by decide +kernel) (by decide +kernel)) (goodIn_sub (fun _ h => List.mem_cons_of_mem _ (List.mem_append_left _ (List.mem_append_right _ h))) (by decide +kernel))
set_option maxRecDepth 20000 in
theorem gX6_canPlay_X6_needPart : GoodIn wsX6_canPlay (va_wsS RX6 76 yX6_needPart wsX6_needPart) := goodIn_app (goodIn_of _ (by decide +kernel)) ggX6_canPlay_X6_needPart
set_option maxRecDepth 20000 in
theorem ggX6_canPlay_X6_needDay : GoodIn wsX6_canPlay wsX6_needDay := goodIn_ca (goodIn_r _ [15, 16, 17] (by decide +kernel) (by decide +kernel)) (goodIn_sub (fun _ h => List.mem_cons_of_mem _ (List.mem_append_right _ h)) (by decide +kernel))
set_option maxRecDepth 20000 in
theorem gX6_canPlay_X6_needDay : GoodIn wsX6_canPlay (va_wsS RX6 132 yX6_needDay wsX6_needDay) := goodIn_app (goodIn_of _ (by decide +kernel)) ggX6_canPlay_X6_needDay
set_option maxRecDepth 20000 in
theorem ggX6_canPlay_X3_rankIn : GoodIn wsX6_canPlay wsX3_rankIn := goodIn_r _ [22, 23, 24, 59, 60] (by decide +kernel) (by decide +kernel)
set_option maxRecDepth 20000 in
theorem gX6_canPlay_X3_rankIn : GoodIn wsX6_canPlay (wsV RX6 100 RX3 yX3_rankIn wsX3_rankIn) := goodIn_app (goodIn_of _ (by decide +kernel)) ggX6_canPlay_X3_rankIn
set_option maxRecDepth 20000 in
theorem ggX6_canPlay_X6_isReady : GoodIn wsX6_canPlay wsX6_isReady := goodIn_r _ [28, 2, 29, 30, 31, 32, 33, 6, 34, 35, 36, 37, 38, 39, 40, 41, 42, 43, 44, 45, 46, 47, 48, 49, 50, 51, 52, 53, 54, 55, 56, 57, 58, 61, 62, 63, 64] (by decide +kernel) (by decide +kernel)
set_option maxRecDepth 20000 in
theorem gX6_canPlay_X6_isReady : GoodIn wsX6_canPlay (wsV RX6 146 RX6 yX6_isReady wsX6_isReady) := goodIn_app (goodIn_of _ (by decide +kernel)) ggX6_canPlay_X6_isReady
set_option maxRecDepth 20000 in
theorem ggX6_strain_X6_needDay : GoodIn wsX6_strain wsX6_needDay := goodIn_ca (goodIn_r _ [6, 7, 8] (by decide +kernel) (by decide +kernel)) (goodIn_sub (fun _ h => List.mem_cons_of_mem _ (List.mem_append_right _ h)) (by decide +kernel))
set_option maxRecDepth 20000 in
theorem gX6_strain_X6_needDay : GoodIn wsX6_strain (va_wsS RX6 132 yX6_needDay wsX6_needDay) := goodIn_app (goodIn_of _ (by decide +kernel)) ggX6_strain_X6_needDay
set_option maxRecDepth 20000 in
theorem ggX6_strain_X6_bestCast : GoodIn wsX6_strain wsX6_bestCast := goodIn_r _ [12, 13, 14, 15, 16, 17, 5, 18, 19, 20, 1, 21, 22, 23, 24, 25, 26, 27, 28, 29, 30, 31, 32, 33, 34, 35, 36, 37, 38, 39, 40, 41, 42, 43, 44, 45, 46, 47, 48, 49, 50, 51, 52, 53, 54, 55, 56, 57, 58, 59, 60, 61, 62, 63, 64, 65, 66, 67, 68, 69, 70, 71, 72, 73, 74, 75, 76, 77, 78, 79, 80, 81, 82, 83, 84, 85, 86, 90, 91, 92, 93, 94, 95, 96, 97, 98, 99, 100, 101, 102, 103, 104, 105, 106, 107, 108, 109, 110] (by decide +kernel) (by decide +kernel)
set_option maxRecDepth 20000 in
theorem gX6_strain_X6_bestCast : GoodIn wsX6_strain (wsV RX6 150 RX6 yX6_bestCast wsX6_bestCast) := goodIn_app (goodIn_of _ (by decide +kernel)) ggX6_strain_X6_bestCast
set_option maxRecDepth 20000 in
theorem ggX6_strain_X1_strainOf : GoodIn wsX6_strain wsX1_strainOf := goodIn_r _ [89] (by decide +kernel) (by decide +kernel)
set_option maxRecDepth 20000 in
theorem gX6_strain_X1_strainOf : GoodIn wsX6_strain (va_wsS RX6 153 yX1_strainOf wsX1_strainOf) := goodIn_app (goodIn_of _ (by decide +kernel)) ggX6_strain_X1_strainOf
set_option maxRecDepth 20000 in
theorem ggX6_strainByAll_X6_needDay : GoodIn wsX6_strainByAll wsX6_needDay := goodIn_ca (goodIn_r _ [8, 9, 10] (by decide +kernel) (by decide +kernel)) (goodIn_sub (fun _ h => List.mem_cons_of_mem _ (List.mem_append_right _ h)) (by decide +kernel))
set_option maxRecDepth 20000 in
theorem gX6_strainByAll_X6_needDay : GoodIn wsX6_strainByAll (va_wsS RX6 132 yX6_needDay wsX6_needDay) := goodIn_app (goodIn_of _ (by decide +kernel)) ggX6_strainByAll_X6_needDay
set_option maxRecDepth 20000 in
theorem ggX6_strainByAll_X6_offerActors : GoodIn wsX6_strainByAll wsX6_offerActors := goodIn_r _ [14, 3, 4, 15, 16, 1, 17, 18, 19, 20, 21, 22, 23, 24, 25, 26, 27, 28, 29, 30, 31, 32, 33, 34, 7, 35, 36, 37, 38, 39, 40, 41, 42, 43, 44, 45, 46, 47, 48, 49, 50, 51, 52, 53, 54, 55, 56, 57, 58, 59, 60, 61, 62, 63, 64, 74, 75, 76, 77, 78, 79, 80, 81, 82, 83, 84, 85, 86, 87, 88, 89, 90, 91, 92, 93, 94] (by decide +kernel) (by decide +kernel)
set_option maxRecDepth 20000 in
theorem gX6_strainByAll_X6_offerActors : GoodIn wsX6_strainByAll (wsV RX6 156 RX6 yX6_offerActors wsX6_offerActors) := goodIn_app (goodIn_of _ (by decide +kernel)) ggX6_strainByAll_X6_offerActors
set_option maxRecDepth 20000 in
theorem ggX6_strainByAll_X1_leastStrain : GoodIn wsX6_strainByAll wsX1_leastStrain := goodIn_r _ [68, 23, 69, 70, 21, 71, 38, 7, 39, 72, 73, 85, 86, 87, 88] (by decide +kernel) (by decide +kernel)
set_option maxRecDepth 20000 in
theorem gX6_strainByAll_X1_leastStrain : GoodIn wsX6_strainByAll (wsV RX6 159 RX1 yX1_leastStrain wsX1_leastStrain) := goodIn_app (goodIn_of _ (by decide +kernel)) ggX6_strainByAll_X1_leastStrain
set_option maxRecDepth 20000 in
theorem ggX6_work_X6_needDay : GoodIn wsX6_work wsX6_needDay := goodIn_ca (goodIn_r _ [6, 7, 8] (by decide +kernel) (by decide +kernel)) (goodIn_sub (fun _ h => List.mem_cons_of_mem _ (List.mem_append_right _ h)) (by decide +kernel))
set_option maxRecDepth 20000 in
theorem gX6_work_X6_needDay : GoodIn wsX6_work (va_wsS RX6 132 yX6_needDay wsX6_needDay) := goodIn_app (goodIn_of _ (by decide +kernel)) ggX6_work_X6_needDay
set_option maxRecDepth 20000 in
theorem ggX6_work_X6_bestCast : GoodIn wsX6_work wsX6_bestCast := goodIn_r _ [12, 13, 14, 15, 16, 17, 5, 18, 19, 20, 1, 21, 22, 23, 24, 25, 26, 27, 28, 29, 30, 31, 32, 33, 34, 35, 36, 37, 38, 39, 40, 41, 42, 43, 44, 45, 46, 47, 48, 49, 50, 51, 52, 53, 54, 55, 56, 57, 58, 59, 60, 61, 62, 63, 64, 65, 66, 67, 68, 69, 70, 71, 72, 73, 74, 75, 76, 77, 78, 79, 80, 81, 82, 83, 84, 85, 86, 90, 91, 92, 93, 94, 95, 96, 97, 98, 99, 100, 101, 102, 103, 104, 105, 106, 107, 108, 109, 110] (by decide +kernel) (by decide +kernel)
set_option maxRecDepth 20000 in
theorem gX6_work_X6_bestCast : GoodIn wsX6_work (wsV RX6 150 RX6 yX6_bestCast wsX6_bestCast) := goodIn_app (goodIn_of _ (by decide +kernel)) ggX6_work_X6_bestCast
set_option maxRecDepth 20000 in
theorem ggX6_work_X1_workOf : GoodIn wsX6_work wsX1_workOf := goodIn_r _ [89] (by decide +kernel) (by decide +kernel)
set_option maxRecDepth 20000 in
theorem gX6_work_X1_workOf : GoodIn wsX6_work (va_wsS RX6 162 yX1_workOf wsX1_workOf) := goodIn_app (goodIn_of _ (by decide +kernel)) ggX6_work_X1_workOf
set_option maxRecDepth 20000 in
theorem ggX6_actorFor_X6_needPart : GoodIn wsX6_actorFor wsX6_needPart := goodIn_ca (goodIn_r _ [7, 8, 9] (by decide +kernel) (by decide +kernel)) (goodIn_sub (fun _ h => List.mem_cons_of_mem _ (List.mem_append_left _ (List.mem_append_right _ h))) (by decide +kernel))
set_option maxRecDepth 20000 in
theorem gX6_actorFor_X6_needPart : GoodIn wsX6_actorFor (va_wsS RX6 76 yX6_needPart wsX6_needPart) := goodIn_app (goodIn_of _ (by decide +kernel)) ggX6_actorFor_X6_needPart
set_option maxRecDepth 20000 in
theorem ggX6_actorFor_X6_needDay : GoodIn wsX6_actorFor wsX6_needDay := goodIn_ca (goodIn_r _ [12, 13, 14] (by decide +kernel) (by decide +kernel)) (goodIn_sub (fun _ h => List.mem_cons_of_mem _ (List.mem_append_right _ h)) (by decide +kernel))
set_option maxRecDepth 20000 in
theorem gX6_actorFor_X6_needDay : GoodIn wsX6_actorFor (va_wsS RX6 132 yX6_needDay wsX6_needDay) := goodIn_app (goodIn_of _ (by decide +kernel)) ggX6_actorFor_X6_needDay
set_option maxRecDepth 20000 in
theorem ggX6_actorFor_X6_bestCast : GoodIn wsX6_actorFor wsX6_bestCast := goodIn_r _ [18, 19, 3, 20, 21, 22, 6, 23, 24, 25, 1, 26, 27, 28, 29, 30, 31, 32, 33, 34, 35, 36, 37, 38, 39, 40, 41, 42, 43, 44, 45, 46, 47, 48, 49, 50, 51, 52, 53, 54, 55, 56, 57, 58, 59, 60, 61, 62, 63, 64, 65, 66, 67, 68, 69, 70, 71, 72, 73, 74, 75, 76, 77, 78, 79, 80, 81, 82, 83, 84, 85, 86, 87, 88, 89, 90, 91, 99, 100, 101, 102, 103, 104, 105, 106, 107, 108, 109, 110, 111, 112, 113, 114, 115, 116, 117, 118, 119] (by decide +kernel) (by decide +kernel)
set_option maxRecDepth 20000 in
theorem gX6_actorFor_X6_bestCast : GoodIn wsX6_actorFor (wsV RX6 150 RX6 yX6_bestCast wsX6_bestCast) := goodIn_app (goodIn_of _ (by decide +kernel)) ggX6_actorFor_X6_bestCast
set_option maxRecDepth 20000 in
theorem ggX6_actorFor_X6_actorIn : GoodIn wsX6_actorFor wsX6_actorIn := goodIn_r _ [95, 24, 96, 97, 30, 98, 71, 72, 73, 34, 35, 36, 37, 38, 39, 40, 99, 100, 101, 102, 103, 104, 105, 106, 114, 115] (by decide +kernel) (by decide +kernel)
set_option maxRecDepth 20000 in
theorem gX6_actorFor_X6_actorIn : GoodIn wsX6_actorFor (wsV RX6 165 RX6 yX6_actorIn wsX6_actorIn) := goodIn_app (goodIn_of _ (by decide +kernel)) ggX6_actorFor_X6_actorIn
set_option maxRecDepth 20000 in
theorem ggX6_chain_X6_needActor : GoodIn wsX6_chain wsX6_needActor := goodIn_ca (goodIn_r _ [6, 7, 8] (by decide +kernel) (by decide +kernel)) (goodIn_sub (fun _ h => List.mem_cons_of_mem _ (List.mem_append_left _ (List.mem_append_right _ h))) (by decide +kernel))
set_option maxRecDepth 20000 in
theorem gX6_chain_X6_needActor : GoodIn wsX6_chain (va_wsS RX6 65 yX6_needActor wsX6_needActor) := goodIn_app (goodIn_of _ (by decide +kernel)) ggX6_chain_X6_needActor
set_option maxRecDepth 20000 in
theorem ggX6_chain_X6_needDay : GoodIn wsX6_chain wsX6_needDay := goodIn_ca (goodIn_r _ [11, 12, 13] (by decide +kernel) (by decide +kernel)) (goodIn_sub (fun _ h => List.mem_cons_of_mem _ (List.mem_append_right _ h)) (by decide +kernel))
set_option maxRecDepth 20000 in
theorem gX6_chain_X6_needDay : GoodIn wsX6_chain (va_wsS RX6 132 yX6_needDay wsX6_needDay) := goodIn_app (goodIn_of _ (by decide +kernel)) ggX6_chain_X6_needDay
set_option maxRecDepth 20000 in
theorem ggX6_chain_X6_bestCast : GoodIn wsX6_chain wsX6_bestCast := goodIn_r _ [17, 18, 19, 20, 21, 22, 5, 23, 24, 25, 1, 26, 27, 28, 29, 30, 31, 32, 33, 34, 35, 36, 37, 38, 39, 40, 41, 42, 43, 44, 45, 46, 47, 48, 49, 50, 51, 52, 53, 54, 55, 56, 57, 58, 59, 60, 61, 62, 63, 64, 65, 66, 67, 68, 69, 70, 71, 72, 73, 74, 75, 76, 77, 78, 79, 80, 81, 82, 83, 84, 85, 86, 87, 88, 89, 90, 91, 104, 105, 106, 107, 108, 109, 110, 111, 112, 113, 114, 115, 116, 117, 118, 119, 120, 121, 122, 123, 124] (by decide +kernel) (by decide +kernel)
set_option maxRecDepth 20000 in
theorem gX6_chain_X6_bestCast : GoodIn wsX6_chain (wsV RX6 150 RX6 yX6_bestCast wsX6_bestCast) := goodIn_app (goodIn_of _ (by decide +kernel)) ggX6_chain_X6_bestCast
set_option maxRecDepth 20000 in
theorem ggX6_chain_X6_with : GoodIn wsX6_chain wsX6_with := goodIn_r _ [91] (by decide +kernel) (by decide +kernel)
set_option maxRecDepth 20000 in
theorem gX6_chain_X6_with : GoodIn wsX6_chain (va_wsS RX6 82 yX6_with wsX6_with) := goodIn_app (goodIn_of _ (by decide +kernel)) ggX6_chain_X6_with
set_option maxRecDepth 20000 in
theorem ggX6_chain_X6_countOthers : GoodIn wsX6_chain wsX6_countOthers := goodIn_r _ [96, 19, 97, 98, 99, 5, 100, 24, 101, 102, 30, 103, 71, 72, 73, 34, 35, 36, 37, 38, 39, 40, 104, 105, 106, 107, 108, 109, 110, 111, 119, 120] (by decide +kernel) (by decide +kernel)
set_option maxRecDepth 20000 in
theorem gX6_chain_X6_countOthers : GoodIn wsX6_chain (wsV RX6 168 RX6 yX6_countOthers wsX6_countOthers) := goodIn_app (goodIn_of _ (by decide +kernel)) ggX6_chain_X6_countOthers
set_option maxRecDepth 20000 in
theorem ggX6_show_X6_needDay : GoodIn wsX6_show wsX6_needDay := goodIn_ca (goodIn_r _ [9, 10, 11] (by decide +kernel) (by decide +kernel)) (goodIn_sub (fun _ h => List.mem_cons_of_mem _ (List.mem_append_right _ h)) (by decide +kernel))
set_option maxRecDepth 20000 in
theorem gX6_show_X6_needDay : GoodIn wsX6_show (va_wsS RX6 132 yX6_needDay wsX6_needDay) := goodIn_app (goodIn_of _ (by decide +kernel)) ggX6_show_X6_needDay
set_option maxRecDepth 20000 in
theorem ggX6_show_X2_showOn : GoodIn wsX6_show wsX2_showOn := goodIn_r _ [16, 17, 18, 32, 33, 34, 35] (by decide +kernel) (by decide +kernel)
set_option maxRecDepth 20000 in
theorem gX6_show_X2_showOn : GoodIn wsX6_show (wsV RX6 171 RX2 yX2_showOn wsX2_showOn) := goodIn_app (goodIn_of _ (by decide +kernel)) ggX6_show_X2_showOn
set_option maxRecDepth 20000 in
theorem ggX6_show_X2_add : GoodIn wsX6_show wsX2_add := goodIn_r _ [22, 18, 17, 23, 32, 33, 34, 35] (by decide +kernel) (by decide +kernel)
set_option maxRecDepth 20000 in
theorem gX6_show_X2_add : GoodIn wsX6_show (wsV RX6 179 RX2 yX2_add wsX2_add) := goodIn_app (goodIn_of _ (by decide +kernel)) ggX6_show_X2_add
set_option maxRecDepth 20000 in
theorem ggX6_sell_X6_needOneOf : GoodIn wsX6_sell wsX6_needOneOf := goodIn_ca (goodIn_r _ [14, 15, 16] (by decide +kernel) (by decide +kernel)) (goodIn_sub (fun _ h => List.mem_cons_of_mem _ (List.mem_append_right _ h)) (by decide +kernel))
set_option maxRecDepth 20000 in
theorem gX6_sell_X6_needOneOf : GoodIn wsX6_sell (va_wsS RX6 128 yX6_needOneOf wsX6_needOneOf) := goodIn_app (goodIn_of _ (by decide +kernel)) ggX6_sell_X6_needOneOf
set_option maxRecDepth 20000 in
theorem ggX6_sell_X6_needPart : GoodIn wsX6_sell wsX6_needPart := goodIn_ca (goodIn_r _ [19, 15, 16] (by decide +kernel) (by decide +kernel)) (goodIn_sub (fun _ h => List.mem_cons_of_mem _ (List.mem_append_right _ h)) (by decide +kernel))
set_option maxRecDepth 20000 in
theorem gX6_sell_X6_needPart : GoodIn wsX6_sell (va_wsS RX6 76 yX6_needPart wsX6_needPart) := goodIn_app (goodIn_of _ (by decide +kernel)) ggX6_sell_X6_needPart
set_option maxRecDepth 20000 in
theorem ggX6_sell_X3_actorAt : GoodIn wsX6_sell wsX3_actorAt := goodIn_r _ [24, 25, 26, 59, 60] (by decide +kernel) (by decide +kernel)
set_option maxRecDepth 20000 in
theorem gX6_sell_X3_actorAt : GoodIn wsX6_sell (wsV RX6 193 RX3 yX3_actorAt wsX3_actorAt) := goodIn_app (goodIn_of _ (by decide +kernel)) ggX6_sell_X3_actorAt
set_option maxRecDepth 20000 in
theorem ggX6_sell_X0_add : GoodIn wsX6_sell wsX0_add := goodIn_r _ [31, 32, 33, 34, 35, 36, 37, 38, 51, 52, 53, 54, 55, 56, 57, 58] (by decide +kernel) (by decide +kernel)
set_option maxRecDepth 20000 in
theorem gX6_sell_X0_add : GoodIn wsX6_sell (wsV RX6 198 RX0 yX0_add wsX0_add) := goodIn_app (goodIn_of _ (by decide +kernel)) ggX6_sell_X0_add
set_option maxRecDepth 20000 in
theorem ggX6_play_X2_showOn : GoodIn wsX6_play wsX2_showOn := goodIn_r _ [9, 10, 11, 147, 148, 149, 150] (by decide +kernel) (by decide +kernel)
set_option maxRecDepth 20000 in
theorem gX6_play_X2_showOn : GoodIn wsX6_play (wsV RX6 171 RX2 yX2_showOn wsX2_showOn) := goodIn_app (goodIn_of _ (by decide +kernel)) ggX6_play_X2_showOn
set_option maxRecDepth 20000 in
theorem ggX6_play_X6_perform : GoodIn wsX6_play wsX6_perform := goodIn_r _ [16, 17, 18, 3, 4, 19, 20, 21, 22, 23, 24, 15, 25, 26, 27, 28, 29, 30, 31, 32, 33, 34, 35, 36, 37, 38, 39, 40, 41, 42, 43, 44, 45, 46, 47, 48, 49, 50, 51, 52, 53, 54, 55, 56, 57, 58, 59, 60, 61, 62, 63, 64, 65, 66, 67, 68, 69, 70, 71, 72, 73, 74, 75, 76, 77, 78, 79, 80, 81, 82, 83, 84, 85, 86, 87, 88, 89, 90, 91, 92, 93, 94, 95, 96, 97, 98, 99, 100, 101, 102, 103, 104, 105, 106, 107, 108, 109, 110, 111, 112, 113, 114, 115, 116, 117, 118, 119, 120, 121, 122, 123, 124, 125, 126, 127, 128, 129, 130, 131, 132, 133, 134, 135, 136, 137, 138, 139, 140, 141, 142, 143, 144, 145, 146, 151, 152, 153, 147, 148, 149, 150, 154, 155, 156, 157, 158, 159, 160, 161, 162, 163, 164, 165, 166, 167, 168, 169, 170, 171] (by decide +kernel) (by decide +kernel)
set_option maxRecDepth 20000 in
theorem gX6_play_X6_perform : GoodIn wsX6_play (wsV RX6 203 RX6 yX6_perform wsX6_perform) := goodIn_app (goodIn_of _ (by decide +kernel)) ggX6_play_X6_perform
set_option maxRecDepth 20000 in
theorem ggX6_stateOf_X6_needOneOf : GoodIn wsX6_stateOf wsX6_needOneOf := goodIn_ca (goodIn_r _ [7, 8, 9] (by decide +kernel) (by decide +kernel)) (goodIn_sub (fun _ h => List.mem_cons_of_mem _ (List.mem_append_right _ h)) (by decide +kernel))
set_option maxRecDepth 20000 in
theorem gX6_stateOf_X6_needOneOf : GoodIn wsX6_stateOf (va_wsS RX6 128 yX6_needOneOf wsX6_needOneOf) := goodIn_app (goodIn_of _ (by decide +kernel)) ggX6_stateOf_X6_needOneOf
set_option maxRecDepth 20000 in
theorem ggX6_played_X6_needOneOf : GoodIn wsX6_played wsX6_needOneOf := goodIn_ca (goodIn_r _ [7, 8, 9] (by decide +kernel) (by decide +kernel)) (goodIn_sub (fun _ h => List.mem_cons_of_mem _ (List.mem_append_right _ h)) (by decide +kernel))
set_option maxRecDepth 20000 in
theorem gX6_played_X6_needOneOf : GoodIn wsX6_played (va_wsS RX6 128 yX6_needOneOf wsX6_needOneOf) := goodIn_app (goodIn_of _ (by decide +kernel)) ggX6_played_X6_needOneOf
set_option maxRecDepth 20000 in
theorem ggX6_played_X6_needPart : GoodIn wsX6_played wsX6_needPart := goodIn_ca (goodIn_r _ [12, 8, 9] (by decide +kernel) (by decide +kernel)) (goodIn_sub (fun _ h => List.mem_cons_of_mem _ (List.mem_append_right _ h)) (by decide +kernel))
set_option maxRecDepth 20000 in
theorem gX6_played_X6_needPart : GoodIn wsX6_played (va_wsS RX6 76 yX6_needPart wsX6_needPart) := goodIn_app (goodIn_of _ (by decide +kernel)) ggX6_played_X6_needPart
set_option maxRecDepth 20000 in
theorem ggX6_refund_X6_needOneOf : GoodIn wsX6_refund wsX6_needOneOf := goodIn_ca (goodIn_r _ [7, 8, 9] (by decide +kernel) (by decide +kernel)) (goodIn_sub (fun _ h => List.mem_cons_of_mem _ (List.mem_append_right _ h)) (by decide +kernel))
set_option maxRecDepth 20000 in
theorem gX6_refund_X6_needOneOf : GoodIn wsX6_refund (va_wsS RX6 128 yX6_needOneOf wsX6_needOneOf) := goodIn_app (goodIn_of _ (by decide +kernel)) ggX6_refund_X6_needOneOf
set_option maxRecDepth 20000 in
theorem ggX6_isReady_X6_has : GoodIn wsX6_isReady wsX6_has := goodIn_r _ [8] (by decide +kernel) (by decide +kernel)
set_option maxRecDepth 20000 in
theorem gX6_isReady_X6_has : GoodIn wsX6_isReady (va_wsS RX6 142 yX6_has wsX6_has) := goodIn_app (goodIn_of _ (by decide +kernel)) ggX6_isReady_X6_has
set_option maxRecDepth 20000 in
theorem ggX6_isReady_X5_lowestFitting : GoodIn wsX6_isReady wsX5_lowestFitting := goodIn_r _ [13, 14, 15, 16, 33, 34, 35, 36] (by decide +kernel) (by decide +kernel)
set_option maxRecDepth 20000 in
theorem gX6_isReady_X5_lowestFitting : GoodIn wsX6_isReady (wsV RX6 228 RX5 yX5_lowestFitting wsX5_lowestFitting) := goodIn_app (goodIn_of _ (by decide +kernel)) ggX6_isReady_X5_lowestFitting
set_option maxRecDepth 20000 in
theorem ggX6_isReady_X5_lowestToLetOut : GoodIn wsX6_isReady wsX5_lowestToLetOut := goodIn_r _ [20, 14, 15, 16, 21, 33, 34, 35, 36] (by decide +kernel) (by decide +kernel)
set_option maxRecDepth 20000 in
theorem gX6_isReady_X5_lowestToLetOut : GoodIn wsX6_isReady (wsV RX6 231 RX5 yX5_lowestToLetOut wsX5_lowestToLetOut) := goodIn_app (goodIn_of _ (by decide +kernel)) ggX6_isReady_X5_lowestToLetOut
set_option maxRecDepth 20000 in
theorem ggX6_offerActors_X1_clear : GoodIn wsX6_offerActors wsX1_clear := goodIn_r _ [11, 12, 13, 66, 67, 68, 69] (by decide +kernel) (by decide +kernel)
set_option maxRecDepth 20000 in
theorem gX6_offerActors_X1_clear : GoodIn wsX6_offerActors (wsV RX6 234 RX1 yX1_clear wsX1_clear) := goodIn_app (goodIn_of _ (by decide +kernel)) ggX6_offerActors_X1_clear
set_option maxRecDepth 20000 in
theorem ggX6_offerActors_X3_actorAt : GoodIn wsX6_offerActors wsX3_actorAt := goodIn_r _ [18, 19, 20, 70, 71] (by decide +kernel) (by decide +kernel)
set_option maxRecDepth 20000 in
theorem gX6_offerActors_X3_actorAt : GoodIn wsX6_offerActors (wsV RX6 193 RX3 yX3_actorAt wsX3_actorAt) := goodIn_app (goodIn_of _ (by decide +kernel)) ggX6_offerActors_X3_actorAt
set_option maxRecDepth 20000 in
theorem ggX6_offerActors_X6_isReady : GoodIn wsX6_offerActors wsX6_isReady := goodIn_r _ [25, 5, 6, 26, 4, 27, 28, 24, 29, 30, 31, 32, 33, 34, 35, 36, 37, 38, 39, 40, 41, 42, 55, 56, 57, 58, 59, 60, 61, 62, 63, 64, 65, 72, 73, 74, 75] (by decide +kernel) (by decide +kernel)
set_option maxRecDepth 20000 in
theorem gX6_offerActors_X6_isReady : GoodIn wsX6_offerActors (wsV RX6 146 RX6 yX6_isReady wsX6_isReady) := goodIn_app (goodIn_of _ (by decide +kernel)) ggX6_offerActors_X6_isReady
set_option maxRecDepth 20000 in
theorem ggX6_offerActors_X5_lowestFitting : GoodIn wsX6_offerActors wsX5_lowestFitting := goodIn_r _ [34, 35, 36, 37, 72, 73, 74, 75] (by decide +kernel) (by decide +kernel)
set_option maxRecDepth 20000 in
theorem gX6_offerActors_X5_lowestFitting : GoodIn wsX6_offerActors (wsV RX6 228 RX5 yX5_lowestFitting wsX5_lowestFitting) := goodIn_app (goodIn_of _ (by decide +kernel)) ggX6_offerActors_X5_lowestFitting
set_option maxRecDepth 20000 in
theorem ggX6_offerActors_X1_offer : GoodIn wsX6_offerActors wsX1_offer := goodIn_r _ [46, 12, 47, 13, 48, 49, 50, 51, 52, 53, 10, 54, 66, 67, 68, 69] (by decide +kernel) (by decide +kernel)
set_option maxRecDepth 20000 in
theorem gX6_offerActors_X1_offer : GoodIn wsX6_offerActors (wsV RX6 237 RX1 yX1_offer wsX1_offer) := goodIn_app (goodIn_of _ (by decide +kernel)) ggX6_offerActors_X1_offer
set_option maxRecDepth 20000 in
theorem ggX6_bestCast_X6_offerActors : GoodIn wsX6_bestCast wsX6_offerActors := goodIn_r _ [7, 1, 2, 8, 9, 10, 11, 12, 13, 14, 15, 16, 17, 18, 19, 20, 21, 22, 23, 24, 25, 26, 27, 28, 6, 29, 30, 31, 32, 33, 34, 35, 36, 37, 38, 39, 40, 41, 42, 43, 44, 45, 46, 47, 48, 49, 50, 51, 52, 53, 54, 55, 56, 57, 58, 77, 78, 79, 80, 81, 82, 83, 84, 85, 86, 87, 88, 89, 90, 91, 92, 93, 94, 95, 96, 97] (by decide +kernel) (by decide +kernel)
set_option maxRecDepth 20000 in
theorem gX6_bestCast_X6_offerActors : GoodIn wsX6_bestCast (wsV RX6 156 RX6 yX6_offerActors wsX6_offerActors) := goodIn_app (goodIn_of _ (by decide +kernel)) ggX6_bestCast_X6_offerActors
set_option maxRecDepth 20000 in
theorem ggX6_bestCast_X1_leastKey : GoodIn wsX6_bestCast wsX1_leastKey := goodIn_r _ [62, 63, 18, 64, 65, 66, 67, 68, 69, 70, 71, 72, 73, 15, 74, 17, 51, 32, 6, 33, 75, 76, 88, 89, 90, 91] (by decide +kernel) (by decide +kernel)
set_option maxRecDepth 20000 in
theorem gX6_bestCast_X1_leastKey : GoodIn wsX6_bestCast (wsV RX6 241 RX1 yX1_leastKey wsX1_leastKey) := goodIn_app (goodIn_of _ (by decide +kernel)) ggX6_bestCast_X1_leastKey
set_option maxRecDepth 20000 in
theorem ggX6_actorIn_X1_rankOf : GoodIn wsX6_actorIn wsX1_rankOf := goodIn_r _ [5, 6, 7, 4, 8] (by decide +kernel) (by decide +kernel)
set_option maxRecDepth 20000 in
theorem gX6_actorIn_X1_rankOf : GoodIn wsX6_actorIn (va_wsS RX6 244 yX1_rankOf wsX1_rankOf) := goodIn_app (goodIn_of _ (by decide +kernel)) ggX6_actorIn_X1_rankOf
set_option maxRecDepth 20000 in
theorem ggX6_actorIn_X3_actorAt : GoodIn wsX6_actorIn wsX3_actorAt := goodIn_r _ [13, 14, 15, 24, 25] (by decide +kernel) (by decide +kernel)
set_option maxRecDepth 20000 in
theorem gX6_actorIn_X3_actorAt : GoodIn wsX6_actorIn (wsV RX6 193 RX3 yX3_actorAt wsX3_actorAt) := goodIn_app (goodIn_of _ (by decide +kernel)) ggX6_actorIn_X3_actorAt
set_option maxRecDepth 20000 in
theorem ggX6_countOthers_X6_actorIn : GoodIn wsX6_countOthers wsX6_actorIn := goodIn_r _ [6, 7, 8, 9, 10, 11, 12, 13, 14, 15, 16, 17, 18, 19, 20, 21, 22, 23, 24, 25, 26, 27, 28, 29, 30, 31] (by decide +kernel) (by decide +kernel)
set_option maxRecDepth 20000 in
theorem gX6_countOthers_X6_actorIn : GoodIn wsX6_countOthers (wsV RX6 165 RX6 yX6_actorIn wsX6_actorIn) := goodIn_app (goodIn_of _ (by decide +kernel)) ggX6_countOthers_X6_actorIn
set_option maxRecDepth 20000 in
theorem ggX6_perform_X6_bestCast : GoodIn wsX6_perform wsX6_bestCast := goodIn_r _ [12, 13, 6, 14, 15, 16, 11, 17, 18, 19, 1, 20, 21, 22, 23, 24, 25, 26, 27, 28, 29, 30, 31, 32, 33, 34, 35, 36, 37, 38, 39, 40, 41, 42, 43, 44, 45, 46, 47, 48, 49, 50, 51, 52, 53, 54, 55, 56, 57, 58, 59, 60, 61, 62, 63, 64, 65, 66, 67, 68, 69, 70, 71, 72, 73, 74, 75, 76, 77, 78, 79, 80, 81, 82, 83, 84, 85, 126, 127, 128, 129, 130, 131, 132, 133, 134, 135, 136, 141, 142, 143, 144, 145, 146, 147, 148, 149, 150] (by decide +kernel) (by decide +kernel)
set_option maxRecDepth 20000 in
theorem gX6_perform_X6_bestCast : GoodIn wsX6_perform (wsV RX6 150 RX6 yX6_bestCast wsX6_bestCast) := goodIn_app (goodIn_of _ (by decide +kernel)) ggX6_perform_X6_bestCast
set_option maxRecDepth 20000 in
theorem ggX6_perform_X6_actorIn : GoodIn wsX6_perform wsX6_actorIn := goodIn_r _ [89, 18, 90, 91, 24, 92, 65, 66, 67, 28, 29, 30, 31, 32, 33, 34, 126, 127, 128, 129, 130, 131, 132, 133, 145, 146] (by decide +kernel) (by decide +kernel)
set_option maxRecDepth 20000 in
theorem gX6_perform_X6_actorIn : GoodIn wsX6_perform (wsV RX6 165 RX6 yX6_actorIn wsX6_actorIn) := goodIn_app (goodIn_of _ (by decide +kernel)) ggX6_perform_X6_actorIn
set_option maxRecDepth 20000 in
theorem ggX6_perform_X6_dress : GoodIn wsX6_perform wsX6_dress := goodIn_r _ [96, 1, 20, 19, 43, 44, 45, 46, 47, 48, 49, 50, 51, 52, 53, 54, 55, 97, 98, 99, 100, 126, 127, 128, 129, 130, 131, 132, 133, 134, 135, 136, 147, 148, 149, 150] (by decide +kernel) (by decide +kernel)
set_option maxRecDepth 20000 in
theorem gX6_perform_X6_dress : GoodIn wsX6_perform (wsV RX6 247 RX6 yX6_dress wsX6_dress) := goodIn_app (goodIn_of _ (by decide +kernel)) ggX6_perform_X6_dress
set_option maxRecDepth 20000 in
theorem ggX6_perform_X6_refundSeats : GoodIn wsX6_perform wsX6_refundSeats := goodIn_r _ [104, 105, 106, 107, 108, 109, 110, 11, 111, 112, 6, 113, 114, 86, 87, 88, 89, 18, 90, 91, 24, 92, 65, 66, 67, 28, 29, 30, 31, 32, 33, 34, 115, 116, 117, 118, 119, 120, 121, 122, 123, 124, 125, 126, 127, 128, 129, 130, 131, 132, 133, 151, 152, 153, 154, 155, 156, 157, 158, 145, 146] (by decide +kernel) (by decide +kernel)
set_option maxRecDepth 20000 in
theorem gX6_perform_X6_refundSeats : GoodIn wsX6_perform (wsV RX6 250 RX6 yX6_refundSeats wsX6_refundSeats) := goodIn_app (goodIn_of _ (by decide +kernel)) ggX6_perform_X6_refundSeats
set_option maxRecDepth 20000 in
theorem ggX6_dress_X5_lowestFitting : GoodIn wsX6_dress wsX5_lowestFitting := goodIn_r _ [8, 9, 10, 11, 32, 33, 34, 35] (by decide +kernel) (by decide +kernel)
set_option maxRecDepth 20000 in
theorem gX6_dress_X5_lowestFitting : GoodIn wsX6_dress (wsV RX6 228 RX5 yX5_lowestFitting wsX5_lowestFitting) := goodIn_app (goodIn_of _ (by decide +kernel)) ggX6_dress_X5_lowestFitting
set_option maxRecDepth 20000 in
theorem ggX6_dress_X5_lowestToLetOut : GoodIn wsX6_dress wsX5_lowestToLetOut := goodIn_r _ [15, 9, 10, 11, 16, 32, 33, 34, 35] (by decide +kernel) (by decide +kernel)
set_option maxRecDepth 20000 in
theorem gX6_dress_X5_lowestToLetOut : GoodIn wsX6_dress (wsV RX6 231 RX5 yX5_lowestToLetOut wsX5_lowestToLetOut) := goodIn_app (goodIn_of _ (by decide +kernel)) ggX6_dress_X5_lowestToLetOut
set_option maxRecDepth 20000 in
theorem ggX6_dress_X5_letOut : GoodIn wsX6_dress wsX5_letOut := goodIn_r _ [20, 11, 16, 32, 33, 34, 35] (by decide +kernel) (by decide +kernel)
set_option maxRecDepth 20000 in
theorem gX6_dress_X5_letOut : GoodIn wsX6_dress (wsV RX6 253 RX5 yX5_letOut wsX5_letOut) := goodIn_app (goodIn_of _ (by decide +kernel)) ggX6_dress_X5_letOut
set_option maxRecDepth 20000 in
theorem ggX6_refundSeats_X6_shareBack : GoodIn wsX6_refundSeats wsX6_shareBack := goodIn_r _ [8, 1, 9, 10, 11, 12, 13, 14, 15, 7, 16, 17, 18, 19, 20, 21, 22, 23, 24, 25, 26, 27, 28, 29, 30, 31, 32, 33, 34, 43, 44, 45, 46, 47, 48, 49, 50, 51, 52, 53, 54, 55, 56, 57, 58, 59, 60] (by decide +kernel) (by decide +kernel)
set_option maxRecDepth 20000 in
theorem gX6_refundSeats_X6_shareBack : GoodIn wsX6_refundSeats (wsV RX6 259 RX6 yX6_shareBack wsX6_shareBack) := goodIn_app (goodIn_of _ (by decide +kernel)) ggX6_refundSeats_X6_shareBack
set_option maxRecDepth 20000 in
theorem ggX6_refundSeats_X0_giveBack : GoodIn wsX6_refundSeats wsX0_giveBack := goodIn_r _ [39, 40, 41, 42, 51, 52, 53, 54, 55, 56, 57, 58] (by decide +kernel) (by decide +kernel)
set_option maxRecDepth 20000 in
theorem gX6_refundSeats_X0_giveBack : GoodIn wsX6_refundSeats (wsV RX6 262 RX0 yX0_giveBack wsX0_giveBack) := goodIn_app (goodIn_of _ (by decide +kernel)) ggX6_refundSeats_X0_giveBack
set_option maxRecDepth 20000 in
theorem ggX6_shareBack_X6_actorIn : GoodIn wsX6_shareBack wsX6_actorIn := goodIn_r _ [10, 11, 12, 13, 14, 15, 16, 17, 18, 19, 20, 21, 22, 23, 24, 25, 29, 30, 31, 32, 33, 34, 35, 36, 45, 46] (by decide +kernel) (by decide +kernel)
set_option maxRecDepth 20000 in
theorem gX6_shareBack_X6_actorIn : GoodIn wsX6_shareBack (wsV RX6 165 RX6 yX6_actorIn wsX6_actorIn) := goodIn_app (goodIn_of _ (by decide +kernel)) ggX6_shareBack_X6_actorIn
set_option maxRecDepth 20000 in
theorem ggX6_shareBack_X1_strainOf : GoodIn wsX6_shareBack wsX1_strainOf := goodIn_r _ [28] (by decide +kernel) (by decide +kernel)
set_option maxRecDepth 20000 in
theorem gX6_shareBack_X1_strainOf : GoodIn wsX6_shareBack (va_wsS RX6 153 yX1_strainOf wsX1_strainOf) := goodIn_app (goodIn_of _ (by decide +kernel)) ggX6_shareBack_X1_strainOf
set_option maxRecDepth 20000 in
theorem ggX6_shareBack_X1_rankOf : GoodIn wsX6_shareBack wsX1_rankOf := goodIn_r _ [15, 16, 17, 14, 18] (by decide +kernel) (by decide +kernel)
set_option maxRecDepth 20000 in
theorem gX6_shareBack_X1_rankOf : GoodIn wsX6_shareBack (va_wsS RX6 244 yX1_rankOf wsX1_rankOf) := goodIn_app (goodIn_of _ (by decide +kernel)) ggX6_shareBack_X1_rankOf
set_option maxRecDepth 20000 in
theorem ggX7_isActor_X7_in : GoodIn wsX7_isActor wsX7_in := goodIn_r _ [4] (by decide +kernel) (by decide +kernel)
set_option maxRecDepth 20000 in
theorem gX7_isActor_X7_in : GoodIn wsX7_isActor (va_wsS RX7 77 yX7_in wsX7_in) := goodIn_app (goodIn_of _ (by decide +kernel)) ggX7_isActor_X7_in
set_option maxRecDepth 20000 in
theorem ggX7_isPart_X7_in : GoodIn wsX7_isPart wsX7_in := goodIn_r _ [4] (by decide +kernel) (by decide +kernel)
set_option maxRecDepth 20000 in
theorem gX7_isPart_X7_in : GoodIn wsX7_isPart (va_wsS RX7 77 yX7_in wsX7_in) := goodIn_app (goodIn_of _ (by decide +kernel)) ggX7_isPart_X7_in
set_option maxRecDepth 20000 in
theorem ggX7_isDay_X7_in : GoodIn wsX7_isDay wsX7_in := goodIn_r _ [4] (by decide +kernel) (by decide +kernel)
set_option maxRecDepth 20000 in
theorem gX7_isDay_X7_in : GoodIn wsX7_isDay (va_wsS RX7 77 yX7_in wsX7_in) := goodIn_app (goodIn_of _ (by decide +kernel)) ggX7_isDay_X7_in
set_option maxRecDepth 20000 in
theorem ggX7_setParts_X7_in : GoodIn wsX7_setParts wsX7_in := goodIn_r _ [6] (by decide +kernel) (by decide +kernel)
set_option maxRecDepth 20000 in
theorem gX7_setParts_X7_in : GoodIn wsX7_setParts (va_wsS RX7 77 yX7_in wsX7_in) := goodIn_app (goodIn_of _ (by decide +kernel)) ggX7_setParts_X7_in
set_option maxRecDepth 20000 in
theorem ggX7_setParts_X7_fails : GoodIn wsX7_setParts wsX7_fails := goodIn_r _ [10, 1, 11, 12, 13, 14, 15, 16, 17, 18, 19, 20, 21, 22, 23, 24, 25, 26, 27, 28, 29, 30, 31, 32, 33, 34, 35, 36, 37, 38, 39] (by decide +kernel) (by decide +kernel)
set_option maxRecDepth 20000 in
theorem gX7_setParts_X7_fails : GoodIn wsX7_setParts (wsV RX7 81 RX7 yX7_fails wsX7_fails) := goodIn_app (goodIn_of _ (by decide +kernel)) ggX7_setParts_X7_fails
set_option maxRecDepth 20000 in
theorem ggX7_setSize_X7_isActor : GoodIn wsX7_setSize wsX7_isActor := goodIn_r _ [6, 7, 8, 5, 9] (by decide +kernel) (by decide +kernel)
set_option maxRecDepth 20000 in
theorem gX7_setSize_X7_isActor : GoodIn wsX7_setSize (va_wsS RX7 85 yX7_isActor wsX7_isActor) := goodIn_app (goodIn_of _ (by decide +kernel)) ggX7_setSize_X7_isActor
set_option maxRecDepth 20000 in
theorem ggX7_setSize_X7_fails : GoodIn wsX7_setSize wsX7_fails := goodIn_r _ [13, 1, 14, 15, 16, 17, 18, 19, 20, 21, 22, 23, 24, 25, 26, 27, 28, 29, 30, 31, 32, 33, 34, 35, 36, 37, 38, 39, 40, 41, 42] (by decide +kernel) (by decide +kernel)
set_option maxRecDepth 20000 in
theorem gX7_setSize_X7_fails : GoodIn wsX7_setSize (wsV RX7 81 RX7 yX7_fails wsX7_fails) := goodIn_app (goodIn_of _ (by decide +kernel)) ggX7_setSize_X7_fails
set_option maxRecDepth 20000 in
theorem ggX7_setSize_X7_in : GoodIn wsX7_setSize wsX7_in := goodIn_r _ [9] (by decide +kernel) (by decide +kernel)
set_option maxRecDepth 20000 in
theorem gX7_setSize_X7_in : GoodIn wsX7_setSize (va_wsS RX7 77 yX7_in wsX7_in) := goodIn_app (goodIn_of _ (by decide +kernel)) ggX7_setSize_X7_in
set_option maxRecDepth 20000 in
theorem ggX7_learn_X7_isActor : GoodIn wsX7_learn wsX7_isActor := goodIn_r _ [6, 7, 8, 5, 9] (by decide +kernel) (by decide +kernel)
set_option maxRecDepth 20000 in
theorem gX7_learn_X7_isActor : GoodIn wsX7_learn (va_wsS RX7 85 yX7_isActor wsX7_isActor) := goodIn_app (goodIn_of _ (by decide +kernel)) ggX7_learn_X7_isActor
set_option maxRecDepth 20000 in
theorem ggX7_learn_X7_isPart : GoodIn wsX7_learn wsX7_isPart := goodIn_r _ [12, 7, 8, 5, 9] (by decide +kernel) (by decide +kernel)
set_option maxRecDepth 20000 in
theorem gX7_learn_X7_isPart : GoodIn wsX7_learn (va_wsS RX7 89 yX7_isPart wsX7_isPart) := goodIn_app (goodIn_of _ (by decide +kernel)) ggX7_learn_X7_isPart
set_option maxRecDepth 20000 in
theorem ggX7_learn_X7_fails : GoodIn wsX7_learn wsX7_fails := goodIn_r _ [16, 1, 25, 26, 27, 28, 29, 30, 31, 32, 33, 34, 35, 36, 37, 38, 39, 40, 41, 42, 43, 44, 45, 46, 47, 48, 49, 50, 51, 52, 53] (by decide +kernel) (by decide +kernel)
set_option maxRecDepth 20000 in
theorem gX7_learn_X7_fails : GoodIn wsX7_learn (wsV RX7 81 RX7 yX7_fails wsX7_fails) := goodIn_app (goodIn_of _ (by decide +kernel)) ggX7_learn_X7_fails
set_option maxRecDepth 20000 in
theorem ggX7_learn_X7_knows : GoodIn wsX7_learn wsX7_knows := goodIn_r _ [20, 2, 25, 26, 27, 28, 29, 30, 31, 32, 33, 34, 35, 36, 37, 38, 39, 40, 41, 42, 43, 44, 45, 46, 47, 48, 49, 50, 51, 52, 53] (by decide +kernel) (by decide +kernel)
set_option maxRecDepth 20000 in
theorem gX7_learn_X7_knows : GoodIn wsX7_learn (wsV RX7 92 RX7 yX7_knows wsX7_knows) := goodIn_app (goodIn_of _ (by decide +kernel)) ggX7_learn_X7_knows
set_option maxRecDepth 20000 in
theorem ggX7_learn_X7_knownBy : GoodIn wsX7_learn wsX7_knownBy := goodIn_r _ [24, 2, 25, 26, 27, 28, 29, 30, 31, 32, 33, 34, 35, 36, 37, 38, 39, 40, 41, 42, 43, 44, 45, 46, 47, 48, 49, 50, 51, 52, 53] (by decide +kernel) (by decide +kernel)
set_option maxRecDepth 20000 in
theorem gX7_learn_X7_knownBy : GoodIn wsX7_learn (wsV RX7 96 RX7 yX7_knownBy wsX7_knownBy) := goodIn_app (goodIn_of _ (by decide +kernel)) ggX7_learn_X7_knownBy
set_option maxRecDepth 20000 in
theorem ggX7_put_X7_isPart : GoodIn wsX7_put wsX7_isPart := goodIn_r _ [7, 8, 9, 6, 10] (by decide +kernel) (by decide +kernel)
set_option maxRecDepth 20000 in
theorem gX7_put_X7_isPart : GoodIn wsX7_put (va_wsS RX7 89 yX7_isPart wsX7_isPart) := goodIn_app (goodIn_of _ (by decide +kernel)) ggX7_put_X7_isPart
set_option maxRecDepth 20000 in
theorem ggX7_put_X7_isActor : GoodIn wsX7_put wsX7_isActor := goodIn_r _ [13, 8, 9, 6, 10] (by decide +kernel) (by decide +kernel)
set_option maxRecDepth 20000 in
theorem gX7_put_X7_isActor : GoodIn wsX7_put (va_wsS RX7 85 yX7_isActor wsX7_isActor) := goodIn_app (goodIn_of _ (by decide +kernel)) ggX7_put_X7_isActor
set_option maxRecDepth 20000 in
theorem ggX7_put_X7_fails : GoodIn wsX7_put wsX7_fails := goodIn_r _ [17, 1, 22, 23, 24, 25, 26, 27, 28, 29, 30, 31, 32, 33, 34, 35, 36, 37, 38, 39, 40, 41, 42, 43, 44, 45, 46, 47, 48, 49, 50] (by decide +kernel) (by decide +kernel)
set_option maxRecDepth 20000 in
theorem gX7_put_X7_fails : GoodIn wsX7_put (wsV RX7 81 RX7 yX7_fails wsX7_fails) := goodIn_app (goodIn_of _ (by decide +kernel)) ggX7_put_X7_fails
set_option maxRecDepth 20000 in
theorem ggX7_put_X7_rankOf : GoodIn wsX7_put wsX7_rankOf := goodIn_r _ [21, 2, 3, 22, 23, 24, 25, 26, 27, 28, 29, 30, 31, 32, 33, 34, 35, 36, 37, 38, 39, 40, 41, 42, 43, 44, 45, 46, 47, 48, 49, 50] (by decide +kernel) (by decide +kernel)
set_option maxRecDepth 20000 in
theorem gX7_put_X7_rankOf : GoodIn wsX7_put (wsV RX7 99 RX7 yX7_rankOf wsX7_rankOf) := goodIn_app (goodIn_of _ (by decide +kernel)) ggX7_put_X7_rankOf
set_option maxRecDepth 20000 in
theorem ggX7_take_X7_isPart : GoodIn wsX7_take wsX7_isPart := goodIn_r _ [7, 8, 9, 6, 10] (by decide +kernel) (by decide +kernel)
set_option maxRecDepth 20000 in
theorem gX7_take_X7_isPart : GoodIn wsX7_take (va_wsS RX7 89 yX7_isPart wsX7_isPart) := goodIn_app (goodIn_of _ (by decide +kernel)) ggX7_take_X7_isPart
set_option maxRecDepth 20000 in
theorem ggX7_take_X7_isActor : GoodIn wsX7_take wsX7_isActor := goodIn_r _ [13, 8, 9, 6, 10] (by decide +kernel) (by decide +kernel)
set_option maxRecDepth 20000 in
theorem gX7_take_X7_isActor : GoodIn wsX7_take (va_wsS RX7 85 yX7_isActor wsX7_isActor) := goodIn_app (goodIn_of _ (by decide +kernel)) ggX7_take_X7_isActor
set_option maxRecDepth 20000 in
theorem ggX7_take_X7_fails : GoodIn wsX7_take wsX7_fails := goodIn_r _ [17, 1, 22, 23, 24, 25, 26, 27, 28, 29, 30, 31, 32, 33, 34, 35, 36, 37, 38, 39, 40, 41, 42, 43, 44, 45, 46, 47, 48, 49, 50] (by decide +kernel) (by decide +kernel)
set_option maxRecDepth 20000 in
theorem gX7_take_X7_fails : GoodIn wsX7_take (wsV RX7 81 RX7 yX7_fails wsX7_fails) := goodIn_app (goodIn_of _ (by decide +kernel)) ggX7_take_X7_fails
set_option maxRecDepth 20000 in
theorem ggX7_take_X7_rankOf : GoodIn wsX7_take wsX7_rankOf := goodIn_r _ [21, 2, 3, 22, 23, 24, 25, 26, 27, 28, 29, 30, 31, 32, 33, 34, 35, 36, 37, 38, 39, 40, 41, 42, 43, 44, 45, 46, 47, 48, 49, 50] (by decide +kernel) (by decide +kernel)
set_option maxRecDepth 20000 in
theorem gX7_take_X7_rankOf : GoodIn wsX7_take (wsV RX7 99 RX7 yX7_rankOf wsX7_rankOf) := goodIn_app (goodIn_of _ (by decide +kernel)) ggX7_take_X7_rankOf
set_option maxRecDepth 20000 in
theorem ggX7_costume_X7_isPart : GoodIn wsX7_costume wsX7_isPart := goodIn_r _ [8, 9, 10, 7, 11] (by decide +kernel) (by decide +kernel)
set_option maxRecDepth 20000 in
theorem gX7_costume_X7_isPart : GoodIn wsX7_costume (va_wsS RX7 89 yX7_isPart wsX7_isPart) := goodIn_app (goodIn_of _ (by decide +kernel)) ggX7_costume_X7_isPart
set_option maxRecDepth 20000 in
theorem ggX7_costume_X7_fails : GoodIn wsX7_costume wsX7_fails := goodIn_r _ [15, 1, 16, 17, 18, 19, 20, 21, 22, 23, 24, 25, 26, 27, 28, 29, 30, 31, 32, 33, 34, 35, 36, 37, 38, 39, 40, 41, 42, 43, 44] (by decide +kernel) (by decide +kernel)
set_option maxRecDepth 20000 in
theorem gX7_costume_X7_fails : GoodIn wsX7_costume (wsV RX7 81 RX7 yX7_fails wsX7_fails) := goodIn_app (goodIn_of _ (by decide +kernel)) ggX7_costume_X7_fails
set_option maxRecDepth 20000 in
theorem ggX7_costume_X7_in : GoodIn wsX7_costume wsX7_in := goodIn_r _ [11] (by decide +kernel) (by decide +kernel)
set_option maxRecDepth 20000 in
theorem gX7_costume_X7_in : GoodIn wsX7_costume (va_wsS RX7 77 yX7_in wsX7_in) := goodIn_app (goodIn_of _ (by decide +kernel)) ggX7_costume_X7_in
set_option maxRecDepth 20000 in
theorem ggX7_sizeOf_X7_in : GoodIn wsX7_sizeOf wsX7_in := goodIn_r _ [7] (by decide +kernel) (by decide +kernel)
set_option maxRecDepth 20000 in
theorem gX7_sizeOf_X7_in : GoodIn wsX7_sizeOf (va_wsS RX7 77 yX7_in wsX7_in) := goodIn_app (goodIn_of _ (by decide +kernel)) ggX7_sizeOf_X7_in
set_option maxRecDepth 20000 in
theorem ggX7_sizeOf_X7_fails : GoodIn wsX7_sizeOf wsX7_fails := goodIn_r _ [11, 1, 12, 13, 14, 15, 16, 17, 18, 19, 20, 21, 22, 23, 24, 25, 26, 27, 28, 29, 30, 31, 32, 33, 34, 35, 36, 37, 38, 39, 40] (by decide +kernel) (by decide +kernel)
set_option maxRecDepth 20000 in
theorem gX7_sizeOf_X7_fails : GoodIn wsX7_sizeOf (wsV RX7 81 RX7 yX7_fails wsX7_fails) := goodIn_app (goodIn_of _ (by decide +kernel)) ggX7_sizeOf_X7_fails
set_option maxRecDepth 20000 in
theorem ggX7_cold_X7_isActor : GoodIn wsX7_cold wsX7_isActor := goodIn_r _ [7, 8, 9, 6, 10] (by decide +kernel) (by decide +kernel)
set_option maxRecDepth 20000 in
theorem gX7_cold_X7_isActor : GoodIn wsX7_cold (va_wsS RX7 85 yX7_isActor wsX7_isActor) := goodIn_app (goodIn_of _ (by decide +kernel)) ggX7_cold_X7_isActor
set_option maxRecDepth 20000 in
theorem ggX7_cold_X7_fails : GoodIn wsX7_cold wsX7_fails := goodIn_r _ [14, 1, 15, 16, 17, 18, 19, 20, 21, 22, 23, 24, 25, 26, 27, 28, 29, 30, 31, 32, 33, 34, 35, 36, 37, 38, 39, 40, 41, 42, 43] (by decide +kernel) (by decide +kernel)
set_option maxRecDepth 20000 in
theorem gX7_cold_X7_fails : GoodIn wsX7_cold (wsV RX7 81 RX7 yX7_fails wsX7_fails) := goodIn_app (goodIn_of _ (by decide +kernel)) ggX7_cold_X7_fails
set_option maxRecDepth 20000 in
theorem ggX7_cold_X7_in : GoodIn wsX7_cold wsX7_in := goodIn_r _ [10] (by decide +kernel) (by decide +kernel)
set_option maxRecDepth 20000 in
theorem gX7_cold_X7_in : GoodIn wsX7_cold (va_wsS RX7 77 yX7_in wsX7_in) := goodIn_app (goodIn_of _ (by decide +kernel)) ggX7_cold_X7_in
set_option maxRecDepth 20000 in
theorem ggX7_isIll_X7_isActor : GoodIn wsX7_isIll wsX7_isActor := goodIn_r _ [6, 7, 8, 5, 9] (by decide +kernel) (by decide +kernel)
set_option maxRecDepth 20000 in
theorem gX7_isIll_X7_isActor : GoodIn wsX7_isIll (va_wsS RX7 85 yX7_isActor wsX7_isActor) := goodIn_app (goodIn_of _ (by decide +kernel)) ggX7_isIll_X7_isActor
set_option maxRecDepth 20000 in
theorem ggX7_isIll_X7_fails : GoodIn wsX7_isIll wsX7_fails := goodIn_r _ [13, 1, 17, 18, 19, 20, 21, 22, 23, 24, 25, 26, 27, 28, 29, 30, 31, 32, 33, 34, 35, 36, 37, 38, 39, 40, 41, 42, 43, 44, 45] (by decide +kernel) (by decide +kernel)
set_option maxRecDepth 20000 in
theorem gX7_isIll_X7_fails : GoodIn wsX7_isIll (wsV RX7 81 RX7 yX7_fails wsX7_fails) := goodIn_app (goodIn_of _ (by decide +kernel)) ggX7_isIll_X7_fails
set_option maxRecDepth 20000 in
theorem ggX7_isIll_X7_isDay : GoodIn wsX7_isIll wsX7_isDay := goodIn_r _ [16, 7, 8, 5, 9] (by decide +kernel) (by decide +kernel)
set_option maxRecDepth 20000 in
theorem gX7_isIll_X7_isDay : GoodIn wsX7_isIll (va_wsS RX7 109 yX7_isDay wsX7_isDay) := goodIn_app (goodIn_of _ (by decide +kernel)) ggX7_isIll_X7_isDay
set_option maxRecDepth 20000 in
theorem ggX7_can_X7_rankOf : GoodIn wsX7_can wsX7_rankOf := goodIn_r _ [6, 7, 8, 27, 28, 29, 30, 31, 32, 33, 34, 35, 36, 37, 38, 39, 40, 41, 42, 43, 44, 45, 46, 47, 48, 49, 50, 51, 52, 53, 54, 55] (by decide +kernel) (by decide +kernel)
set_option maxRecDepth 20000 in
theorem gX7_can_X7_rankOf : GoodIn wsX7_can (wsV RX7 99 RX7 yX7_rankOf wsX7_rankOf) := goodIn_app (goodIn_of _ (by decide +kernel)) ggX7_can_X7_rankOf
set_option maxRecDepth 20000 in
theorem ggX7_can_X7_knows : GoodIn wsX7_can wsX7_knows := goodIn_r _ [12, 13, 27, 28, 29, 30, 31, 32, 33, 34, 35, 36, 37, 38, 39, 40, 41, 42, 43, 44, 45, 46, 47, 48, 49, 50, 51, 52, 53, 54, 55] (by decide +kernel) (by decide +kernel)
set_option maxRecDepth 20000 in
theorem gX7_can_X7_knows : GoodIn wsX7_can (wsV RX7 92 RX7 yX7_knows wsX7_knows) := goodIn_app (goodIn_of _ (by decide +kernel)) ggX7_can_X7_knows
set_option maxRecDepth 20000 in
theorem ggX7_can_X7_fits : GoodIn wsX7_can wsX7_fits := goodIn_r _ [17, 18, 19, 20, 21, 27, 28, 29, 30, 31, 32, 33, 34, 35, 36, 37, 38, 39, 40, 41, 42, 43, 44, 45, 46, 47, 48, 49, 50, 51, 52, 53, 54, 55] (by decide +kernel) (by decide +kernel)
set_option maxRecDepth 20000 in
theorem gX7_can_X7_fits : GoodIn wsX7_can (wsV RX7 112 RX7 yX7_fits wsX7_fits) := goodIn_app (goodIn_of _ (by decide +kernel)) ggX7_can_X7_fits
set_option maxRecDepth 20000 in
theorem ggX7_can_X7_toLetOut : GoodIn wsX7_can wsX7_toLetOut := goodIn_r _ [25, 18, 19, 26, 20, 21, 27, 28, 29, 30, 31, 32, 33, 34, 35, 36, 37, 38, 39, 40, 41, 42, 43, 44, 45, 46, 47, 48, 49, 50, 51, 52, 53, 54, 55] (by decide +kernel) (by decide +kernel)
set_option maxRecDepth 20000 in
theorem gX7_can_X7_toLetOut : GoodIn wsX7_can (wsV RX7 115 RX7 yX7_toLetOut wsX7_toLetOut) := goodIn_app (goodIn_of _ (by decide +kernel)) ggX7_can_X7_toLetOut
set_option maxRecDepth 20000 in
theorem ggX7_canPlay_X7_isActor : GoodIn wsX7_canPlay wsX7_isActor := goodIn_r _ [5, 6, 7, 4, 8] (by decide +kernel) (by decide +kernel)
set_option maxRecDepth 20000 in
theorem gX7_canPlay_X7_isActor : GoodIn wsX7_canPlay (va_wsS RX7 85 yX7_isActor wsX7_isActor) := goodIn_app (goodIn_of _ (by decide +kernel)) ggX7_canPlay_X7_isActor
set_option maxRecDepth 20000 in
theorem ggX7_canPlay_X7_isPart : GoodIn wsX7_canPlay wsX7_isPart := goodIn_r _ [11, 6, 7, 4, 8] (by decide +kernel) (by decide +kernel)
set_option maxRecDepth 20000 in
theorem gX7_canPlay_X7_isPart : GoodIn wsX7_canPlay (va_wsS RX7 89 yX7_isPart wsX7_isPart) := goodIn_app (goodIn_of _ (by decide +kernel)) ggX7_canPlay_X7_isPart
set_option maxRecDepth 20000 in
theorem ggX7_canPlay_X7_fails : GoodIn wsX7_canPlay wsX7_fails := goodIn_r _ [15, 1, 48, 49, 50, 51, 52, 53, 54, 55, 56, 57, 58, 59, 60, 61, 62, 63, 64, 65, 66, 67, 68, 69, 70, 71, 72, 73, 74, 75, 76] (by decide +kernel) (by decide +kernel)
set_option maxRecDepth 20000 in
theorem gX7_canPlay_X7_fails : GoodIn wsX7_canPlay (wsV RX7 81 RX7 yX7_fails wsX7_fails) := goodIn_app (goodIn_of _ (by decide +kernel)) ggX7_canPlay_X7_fails
set_option maxRecDepth 20000 in
theorem ggX7_canPlay_X7_isDay : GoodIn wsX7_canPlay wsX7_isDay := goodIn_r _ [18, 6, 7, 4, 8] (by decide +kernel) (by decide +kernel)
set_option maxRecDepth 20000 in
theorem gX7_canPlay_X7_isDay : GoodIn wsX7_canPlay (va_wsS RX7 109 yX7_isDay wsX7_isDay) := goodIn_app (goodIn_of _ (by decide +kernel)) ggX7_canPlay_X7_isDay
set_option maxRecDepth 20000 in
theorem ggX7_canPlay_X7_can : GoodIn wsX7_canPlay wsX7_can := goodIn_r _ [22, 23, 24, 25, 26, 4, 27, 28, 29, 30, 31, 32, 33, 34, 35, 36, 37, 38, 39, 40, 41, 42, 43, 44, 45, 46, 47, 48, 49, 50, 51, 52, 53, 54, 55, 56, 57, 58, 59, 60, 61, 62, 63, 64, 65, 66, 67, 68, 69, 70, 71, 72, 73, 74, 75, 76] (by decide +kernel) (by decide +kernel)
set_option maxRecDepth 20000 in
theorem gX7_canPlay_X7_can : GoodIn wsX7_canPlay (wsV RX7 118 RX7 yX7_can wsX7_can) := goodIn_app (goodIn_of _ (by decide +kernel)) ggX7_canPlay_X7_can
set_option maxRecDepth 20000 in
theorem ggX7_layAble_X7_can : GoodIn wsX7_layAble wsX7_can := goodIn_r _ [9, 10, 11, 12, 13, 8, 14, 2, 3, 15, 16, 17, 18, 19, 20, 21, 22, 23, 24, 25, 26, 27, 28, 29, 30, 31, 32, 33, 34, 35, 36, 37, 38, 39, 40, 41, 42, 43, 44, 45, 46, 47, 48, 49, 50, 51, 52, 53, 54, 55, 56, 57, 58, 59, 60, 61] (by decide +kernel) (by decide +kernel)
set_option maxRecDepth 20000 in
theorem gX7_layAble_X7_can : GoodIn wsX7_layAble (wsV RX7 118 RX7 yX7_can wsX7_can) := goodIn_app (goodIn_of _ (by decide +kernel)) ggX7_layAble_X7_can
set_option maxRecDepth 20000 in
theorem ggX7_layAble_X7_fits : GoodIn wsX7_layAble wsX7_fits := goodIn_r _ [23, 24, 25, 26, 27, 33, 34, 35, 36, 37, 38, 39, 40, 41, 42, 43, 44, 45, 46, 47, 48, 49, 50, 51, 52, 53, 54, 55, 56, 57, 58, 59, 60, 61] (by decide +kernel) (by decide +kernel)
set_option maxRecDepth 20000 in
theorem gX7_layAble_X7_fits : GoodIn wsX7_layAble (wsV RX7 112 RX7 yX7_fits wsX7_fits) := goodIn_app (goodIn_of _ (by decide +kernel)) ggX7_layAble_X7_fits
set_option maxRecDepth 20000 in
theorem ggX7_lay_X7_layAble : GoodIn wsX7_lay wsX7_layAble := goodIn_r _ [9, 4, 10, 11, 12, 13, 14, 15, 8, 16, 17, 18, 19, 20, 21, 22, 23, 24, 25, 26, 27, 28, 29, 30, 31, 32, 33, 34, 35, 36, 37, 38, 39, 48, 49, 50, 51, 52, 53, 54, 55, 56, 57, 58, 59, 60, 61, 62, 63, 64, 65, 66, 67, 68, 69, 70, 71, 72, 73, 74, 75, 76] (by decide +kernel) (by decide +kernel)
set_option maxRecDepth 20000 in
theorem gX7_lay_X7_layAble : GoodIn wsX7_lay (wsV RX7 127 RX7 yX7_layAble wsX7_layAble) := goodIn_app (goodIn_of _ (by decide +kernel)) ggX7_lay_X7_layAble
set_option maxRecDepth 20000 in
theorem ggX7_lay_X7_firstBad : GoodIn wsX7_lay wsX7_firstBad := goodIn_r _ [43, 4, 12, 11, 48, 49, 50, 51, 52, 53, 54, 55, 56, 57, 58, 59, 60, 61, 62, 63, 64, 65, 66, 67, 68, 69, 70, 71, 72, 73, 74, 75, 76] (by decide +kernel) (by decide +kernel)
set_option maxRecDepth 20000 in
theorem gX7_lay_X7_firstBad : GoodIn wsX7_lay (wsV RX7 131 RX7 yX7_firstBad wsX7_firstBad) := goodIn_app (goodIn_of _ (by decide +kernel)) ggX7_lay_X7_firstBad
set_option maxRecDepth 20000 in
theorem ggX7_lay_X7_keep : GoodIn wsX7_lay wsX7_keep := goodIn_r _ [47, 4, 12, 1, 2, 3, 11, 48, 49, 50, 51, 52, 53, 54, 55, 56, 57, 58, 59, 60, 61, 62, 63, 64, 65, 66, 67, 68, 69, 70, 71, 72, 73, 74, 75, 76] (by decide +kernel) (by decide +kernel)
set_option maxRecDepth 20000 in
theorem gX7_lay_X7_keep : GoodIn wsX7_lay (wsV RX7 134 RX7 yX7_keep wsX7_keep) := goodIn_app (goodIn_of _ (by decide +kernel)) ggX7_lay_X7_keep
set_option maxRecDepth 20000 in
theorem ggX7_strain_X7_isDay : GoodIn wsX7_strain wsX7_isDay := goodIn_r _ [6, 7, 8, 5, 9] (by decide +kernel) (by decide +kernel)
set_option maxRecDepth 20000 in
theorem gX7_strain_X7_isDay : GoodIn wsX7_strain (va_wsS RX7 109 yX7_isDay wsX7_isDay) := goodIn_app (goodIn_of _ (by decide +kernel)) ggX7_strain_X7_isDay
set_option maxRecDepth 20000 in
theorem ggX7_strain_X7_fails : GoodIn wsX7_strain wsX7_fails := goodIn_r _ [13, 1, 63, 64, 65, 66, 67, 68, 69, 70, 71, 72, 73, 74, 75, 76, 77, 78, 79, 80, 81, 82, 83, 84, 85, 86, 87, 88, 89, 90, 91] (by decide +kernel) (by decide +kernel)
set_option maxRecDepth 20000 in
theorem gX7_strain_X7_fails : GoodIn wsX7_strain (wsV RX7 81 RX7 yX7_fails wsX7_fails) := goodIn_app (goodIn_of _ (by decide +kernel)) ggX7_strain_X7_fails
set_option maxRecDepth 20000 in
theorem ggX7_strain_X7_lay : GoodIn wsX7_strain wsX7_lay := goodIn_r _ [17, 2, 18, 19, 20, 21, 22, 23, 5, 24, 25, 26, 27, 28, 29, 30, 31, 32, 33, 34, 35, 36, 37, 38, 39, 40, 41, 42, 43, 44, 45, 46, 47, 48, 49, 50, 51, 52, 53, 54, 55, 56, 57, 58, 59, 60, 61, 62, 63, 64, 65, 66, 67, 68, 69, 70, 71, 72, 73, 74, 75, 76, 77, 78, 79, 80, 81, 82, 83, 84, 85, 86, 87, 88, 89, 90, 91] (by decide +kernel) (by decide +kernel)
set_option maxRecDepth 20000 in
theorem gX7_strain_X7_lay : GoodIn wsX7_strain (wsV RX7 138 RX7 yX7_lay wsX7_lay) := goodIn_app (goodIn_of _ (by decide +kernel)) ggX7_strain_X7_lay
set_option maxRecDepth 20000 in
theorem ggX7_strainByAll_X7_isDay : GoodIn wsX7_strainByAll wsX7_isDay := goodIn_r _ [6, 7, 8, 5, 9] (by decide +kernel) (by decide +kernel)
set_option maxRecDepth 20000 in
theorem gX7_strainByAll_X7_isDay : GoodIn wsX7_strainByAll (va_wsS RX7 109 yX7_isDay wsX7_isDay) := goodIn_app (goodIn_of _ (by decide +kernel)) ggX7_strainByAll_X7_isDay
set_option maxRecDepth 20000 in
theorem ggX7_strainByAll_X7_fails : GoodIn wsX7_strainByAll wsX7_fails := goodIn_r _ [13, 1, 63, 64, 65, 66, 67, 68, 69, 70, 71, 72, 73, 74, 75, 76, 77, 78, 79, 80, 81, 82, 83, 84, 85, 86, 87, 88, 89, 90, 91] (by decide +kernel) (by decide +kernel)
set_option maxRecDepth 20000 in
theorem gX7_strainByAll_X7_fails : GoodIn wsX7_strainByAll (wsV RX7 81 RX7 yX7_fails wsX7_fails) := goodIn_app (goodIn_of _ (by decide +kernel)) ggX7_strainByAll_X7_fails
set_option maxRecDepth 20000 in
theorem ggX7_strainByAll_X7_lay : GoodIn wsX7_strainByAll wsX7_lay := goodIn_r _ [17, 2, 18, 19, 20, 21, 22, 23, 5, 24, 25, 26, 27, 28, 29, 30, 31, 32, 33, 34, 35, 36, 37, 38, 39, 40, 41, 42, 43, 44, 45, 46, 47, 48, 49, 50, 51, 52, 53, 54, 55, 56, 57, 58, 59, 60, 61, 62, 63, 64, 65, 66, 67, 68, 69, 70, 71, 72, 73, 74, 75, 76, 77, 78, 79, 80, 81, 82, 83, 84, 85, 86, 87, 88, 89, 90, 91] (by decide +kernel) (by decide +kernel)
set_option maxRecDepth 20000 in
theorem gX7_strainByAll_X7_lay : GoodIn wsX7_strainByAll (wsV RX7 138 RX7 yX7_lay wsX7_lay) := goodIn_app (goodIn_of _ (by decide +kernel)) ggX7_strainByAll_X7_lay
set_option maxRecDepth 20000 in
theorem ggX7_work_X7_isDay : GoodIn wsX7_work wsX7_isDay := goodIn_r _ [6, 7, 8, 5, 9] (by decide +kernel) (by decide +kernel)
set_option maxRecDepth 20000 in
theorem gX7_work_X7_isDay : GoodIn wsX7_work (va_wsS RX7 109 yX7_isDay wsX7_isDay) := goodIn_app (goodIn_of _ (by decide +kernel)) ggX7_work_X7_isDay
set_option maxRecDepth 20000 in
theorem ggX7_work_X7_fails : GoodIn wsX7_work wsX7_fails := goodIn_r _ [13, 1, 63, 64, 65, 66, 67, 68, 69, 70, 71, 72, 73, 74, 75, 76, 77, 78, 79, 80, 81, 82, 83, 84, 85, 86, 87, 88, 89, 90, 91] (by decide +kernel) (by decide +kernel)
set_option maxRecDepth 20000 in
theorem gX7_work_X7_fails : GoodIn wsX7_work (wsV RX7 81 RX7 yX7_fails wsX7_fails) := goodIn_app (goodIn_of _ (by decide +kernel)) ggX7_work_X7_fails
set_option maxRecDepth 20000 in
theorem ggX7_work_X7_lay : GoodIn wsX7_work wsX7_lay := goodIn_r _ [17, 18, 2, 19, 20, 21, 22, 23, 5, 24, 25, 26, 27, 28, 29, 30, 31, 32, 33, 34, 35, 36, 37, 38, 39, 40, 41, 42, 43, 44, 45, 46, 47, 48, 49, 50, 51, 52, 53, 54, 55, 56, 57, 58, 59, 60, 61, 62, 63, 64, 65, 66, 67, 68, 69, 70, 71, 72, 73, 74, 75, 76, 77, 78, 79, 80, 81, 82, 83, 84, 85, 86, 87, 88, 89, 90, 91] (by decide +kernel) (by decide +kernel)
set_option maxRecDepth 20000 in
theorem gX7_work_X7_lay : GoodIn wsX7_work (wsV RX7 138 RX7 yX7_lay wsX7_lay) := goodIn_app (goodIn_of _ (by decide +kernel)) ggX7_work_X7_lay
set_option maxRecDepth 20000 in
theorem ggX7_actorFor_X7_isPart : GoodIn wsX7_actorFor wsX7_isPart := goodIn_r _ [6, 7, 8, 5, 9] (by decide +kernel) (by decide +kernel)
set_option maxRecDepth 20000 in
theorem gX7_actorFor_X7_isPart : GoodIn wsX7_actorFor (va_wsS RX7 89 yX7_isPart wsX7_isPart) := goodIn_app (goodIn_of _ (by decide +kernel)) ggX7_actorFor_X7_isPart
set_option maxRecDepth 20000 in
theorem ggX7_actorFor_X7_fails : GoodIn wsX7_actorFor wsX7_fails := goodIn_r _ [13, 1, 66, 67, 68, 69, 70, 71, 72, 73, 74, 75, 76, 77, 78, 79, 80, 81, 82, 83, 84, 85, 86, 87, 88, 89, 90, 91, 92, 93, 94] (by decide +kernel) (by decide +kernel)
set_option maxRecDepth 20000 in
theorem gX7_actorFor_X7_fails : GoodIn wsX7_actorFor (wsV RX7 81 RX7 yX7_fails wsX7_fails) := goodIn_app (goodIn_of _ (by decide +kernel)) ggX7_actorFor_X7_fails
set_option maxRecDepth 20000 in
theorem ggX7_actorFor_X7_isDay : GoodIn wsX7_actorFor wsX7_isDay := goodIn_r _ [16, 7, 8, 5, 9] (by decide +kernel) (by decide +kernel)
set_option maxRecDepth 20000 in
theorem gX7_actorFor_X7_isDay : GoodIn wsX7_actorFor (va_wsS RX7 109 yX7_isDay wsX7_isDay) := goodIn_app (goodIn_of _ (by decide +kernel)) ggX7_actorFor_X7_isDay
set_option maxRecDepth 20000 in
theorem ggX7_actorFor_X7_lay : GoodIn wsX7_actorFor wsX7_lay := goodIn_r _ [20, 21, 22, 2, 23, 24, 25, 26, 5, 27, 28, 29, 30, 31, 32, 33, 34, 35, 36, 37, 38, 39, 40, 41, 42, 43, 44, 45, 46, 47, 48, 49, 50, 51, 52, 53, 54, 55, 56, 57, 58, 59, 60, 61, 62, 63, 64, 65, 66, 67, 68, 69, 70, 71, 72, 73, 74, 75, 76, 77, 78, 79, 80, 81, 82, 83, 84, 85, 86, 87, 88, 89, 90, 91, 92, 93, 94] (by decide +kernel) (by decide +kernel)
set_option maxRecDepth 20000 in
theorem gX7_actorFor_X7_lay : GoodIn wsX7_actorFor (wsV RX7 138 RX7 yX7_lay wsX7_lay) := goodIn_app (goodIn_of _ (by decide +kernel)) ggX7_actorFor_X7_lay
set_option maxRecDepth 20000 in
theorem ggX7_chain_X7_isActor : GoodIn wsX7_chain wsX7_isActor := goodIn_r _ [8, 9, 10, 7, 11] (by decide +kernel) (by decide +kernel)
set_option maxRecDepth 20000 in
theorem gX7_chain_X7_isActor : GoodIn wsX7_chain (va_wsS RX7 85 yX7_isActor wsX7_isActor) := goodIn_app (goodIn_of _ (by decide +kernel)) ggX7_chain_X7_isActor
set_option maxRecDepth 20000 in
theorem ggX7_chain_X7_fails : GoodIn wsX7_chain wsX7_fails := goodIn_r _ [15, 1, 67, 68, 69, 70, 71, 72, 73, 74, 75, 76, 77, 78, 79, 80, 81, 82, 83, 84, 85, 86, 87, 88, 89, 90, 91, 92, 93, 94, 95] (by decide +kernel) (by decide +kernel)
set_option maxRecDepth 20000 in
theorem gX7_chain_X7_fails : GoodIn wsX7_chain (wsV RX7 81 RX7 yX7_fails wsX7_fails) := goodIn_app (goodIn_of _ (by decide +kernel)) ggX7_chain_X7_fails
set_option maxRecDepth 20000 in
theorem ggX7_chain_X7_isDay : GoodIn wsX7_chain wsX7_isDay := goodIn_r _ [18, 9, 10, 7, 11] (by decide +kernel) (by decide +kernel)
set_option maxRecDepth 20000 in
theorem gX7_chain_X7_isDay : GoodIn wsX7_chain (va_wsS RX7 109 yX7_isDay wsX7_isDay) := goodIn_app (goodIn_of _ (by decide +kernel)) ggX7_chain_X7_isDay
set_option maxRecDepth 20000 in
theorem ggX7_chain_X7_lay : GoodIn wsX7_chain wsX7_lay := goodIn_r _ [22, 23, 24, 3, 4, 25, 26, 27, 7, 28, 29, 30, 31, 32, 33, 34, 35, 36, 37, 38, 39, 40, 41, 42, 43, 44, 45, 46, 47, 48, 49, 50, 51, 52, 53, 54, 55, 56, 57, 58, 59, 60, 61, 62, 63, 64, 65, 66, 67, 68, 69, 70, 71, 72, 73, 74, 75, 76, 77, 78, 79, 80, 81, 82, 83, 84, 85, 86, 87, 88, 89, 90, 91, 92, 93, 94, 95] (by decide +kernel) (by decide +kernel)
set_option maxRecDepth 20000 in
theorem gX7_chain_X7_lay : GoodIn wsX7_chain (wsV RX7 138 RX7 yX7_lay wsX7_lay) := goodIn_app (goodIn_of _ (by decide +kernel)) ggX7_chain_X7_lay
set_option maxRecDepth 20000 in
theorem ggX7_show_X7_in : GoodIn wsX7_show wsX7_in := goodIn_r _ [9] (by decide +kernel) (by decide +kernel)
set_option maxRecDepth 20000 in
theorem gX7_show_X7_in : GoodIn wsX7_show (va_wsS RX7 77 yX7_in wsX7_in) := goodIn_app (goodIn_of _ (by decide +kernel)) ggX7_show_X7_in
set_option maxRecDepth 20000 in
theorem ggX7_show_X7_fails : GoodIn wsX7_show wsX7_fails := goodIn_r _ [13, 1, 18, 19, 20, 21, 22, 23, 24, 25, 26, 27, 28, 29, 30, 31, 32, 33, 34, 35, 36, 37, 38, 39, 40, 41, 42, 43, 44, 45, 46] (by decide +kernel) (by decide +kernel)
set_option maxRecDepth 20000 in
theorem gX7_show_X7_fails : GoodIn wsX7_show (wsV RX7 81 RX7 yX7_fails wsX7_fails) := goodIn_app (goodIn_of _ (by decide +kernel)) ggX7_show_X7_fails
set_option maxRecDepth 20000 in
theorem ggX7_show_X7_showOn : GoodIn wsX7_show wsX7_showOn := goodIn_r _ [17, 3, 4, 18, 19, 20, 21, 22, 23, 24, 25, 26, 27, 28, 29, 30, 31, 32, 33, 34, 35, 36, 37, 38, 39, 40, 41, 42, 43, 44, 45, 46] (by decide +kernel) (by decide +kernel)
set_option maxRecDepth 20000 in
theorem gX7_show_X7_showOn : GoodIn wsX7_show (wsV RX7 144 RX7 yX7_showOn wsX7_showOn) := goodIn_app (goodIn_of _ (by decide +kernel)) ggX7_show_X7_showOn
set_option maxRecDepth 20000 in
theorem ggX7_sell_X7_in : GoodIn wsX7_sell wsX7_in := goodIn_r _ [16] (by decide +kernel) (by decide +kernel)
set_option maxRecDepth 20000 in
theorem gX7_sell_X7_in : GoodIn wsX7_sell (va_wsS RX7 77 yX7_in wsX7_in) := goodIn_app (goodIn_of _ (by decide +kernel)) ggX7_sell_X7_in
set_option maxRecDepth 20000 in
theorem ggX7_sell_X7_isPart : GoodIn wsX7_sell wsX7_isPart := goodIn_r _ [19, 13, 14, 15, 16] (by decide +kernel) (by decide +kernel)
set_option maxRecDepth 20000 in
theorem gX7_sell_X7_isPart : GoodIn wsX7_sell (va_wsS RX7 89 yX7_isPart wsX7_isPart) := goodIn_app (goodIn_of _ (by decide +kernel)) ggX7_sell_X7_isPart
set_option maxRecDepth 20000 in
theorem ggX7_sell_X7_fails : GoodIn wsX7_sell wsX7_fails := goodIn_r _ [23, 1, 24, 25, 26, 27, 28, 29, 30, 31, 32, 33, 34, 35, 36, 37, 38, 39, 40, 41, 42, 43, 44, 45, 46, 47, 48, 49, 50, 51, 52] (by decide +kernel) (by decide +kernel)
set_option maxRecDepth 20000 in
theorem gX7_sell_X7_fails : GoodIn wsX7_sell (wsV RX7 81 RX7 yX7_fails wsX7_fails) := goodIn_app (goodIn_of _ (by decide +kernel)) ggX7_sell_X7_fails
set_option maxRecDepth 20000 in
theorem ggX7_refundOf_X7_rankOf : GoodIn wsX7_refundOf wsX7_rankOf := goodIn_r _ [12, 13, 14, 15, 16, 17, 18, 19, 20, 21, 22, 23, 24, 25, 26, 27, 28, 29, 30, 31, 32, 33, 34, 35, 36, 37, 38, 39, 40, 41, 42, 43] (by decide +kernel) (by decide +kernel)
set_option maxRecDepth 20000 in
theorem gX7_refundOf_X7_rankOf : GoodIn wsX7_refundOf (wsV RX7 99 RX7 yX7_rankOf wsX7_rankOf) := goodIn_app (goodIn_of _ (by decide +kernel)) ggX7_refundOf_X7_rankOf
set_option maxRecDepth 20000 in
theorem ggX7_refundAll_X7_refundOf : GoodIn wsX7_refundAll wsX7_refundOf := goodIn_r _ [9, 10, 4, 11, 12, 13, 14, 15, 16, 17, 18, 8, 19, 20, 21, 22, 23, 24, 25, 26, 27, 28, 29, 30, 31, 32, 33, 34, 35, 36, 37, 38, 39, 40, 41, 42, 43, 44, 45, 46, 47, 48, 49, 50] (by decide +kernel) (by decide +kernel)
set_option maxRecDepth 20000 in
theorem gX7_refundAll_X7_refundOf : GoodIn wsX7_refundAll (wsV RX7 153 RX7 yX7_refundOf wsX7_refundOf) := goodIn_app (goodIn_of _ (by decide +kernel)) ggX7_refundAll_X7_refundOf
set_option maxRecDepth 20000 in
theorem ggX7_perform_X7_fits : GoodIn wsX7_perform wsX7_fits := goodIn_r _ [11, 12, 13, 5, 14, 19, 20, 21, 22, 23, 24, 25, 26, 27, 28, 29, 30, 31, 32, 33, 34, 35, 36, 37, 38, 39, 40, 41, 42, 43, 44, 45, 46, 47] (by decide +kernel) (by decide +kernel)
set_option maxRecDepth 20000 in
theorem gX7_perform_X7_fits : GoodIn wsX7_perform (wsV RX7 112 RX7 yX7_fits wsX7_fits) := goodIn_app (goodIn_of _ (by decide +kernel)) ggX7_perform_X7_fits
set_option maxRecDepth 20000 in
theorem ggX7_perform_X7_toLetOut : GoodIn wsX7_perform wsX7_toLetOut := goodIn_r _ [18, 12, 13, 6, 5, 14, 19, 20, 21, 22, 23, 24, 25, 26, 27, 28, 29, 30, 31, 32, 33, 34, 35, 36, 37, 38, 39, 40, 41, 42, 43, 44, 45, 46, 47] (by decide +kernel) (by decide +kernel)
set_option maxRecDepth 20000 in
theorem gX7_perform_X7_toLetOut : GoodIn wsX7_perform (wsV RX7 115 RX7 yX7_toLetOut wsX7_toLetOut) := goodIn_app (goodIn_of _ (by decide +kernel)) ggX7_perform_X7_toLetOut
set_option maxRecDepth 20000 in
theorem ggX7_play_X7_fails : GoodIn wsX7_play wsX7_fails := goodIn_r _ [9, 1, 86, 87, 88, 89, 90, 91, 92, 93, 94, 95, 96, 97, 98, 99, 100, 101, 102, 103, 104, 105, 106, 107, 108, 109, 110, 111, 112, 113, 114] (by decide +kernel) (by decide +kernel)
set_option maxRecDepth 20000 in
theorem gX7_play_X7_fails : GoodIn wsX7_play (wsV RX7 81 RX7 yX7_fails wsX7_fails) := goodIn_app (goodIn_of _ (by decide +kernel)) ggX7_play_X7_fails
set_option maxRecDepth 20000 in
theorem ggX7_play_X7_showOn : GoodIn wsX7_play wsX7_showOn := goodIn_r _ [13, 14, 15, 86, 87, 88, 89, 90, 91, 92, 93, 94, 95, 96, 97, 98, 99, 100, 101, 102, 103, 104, 105, 106, 107, 108, 109, 110, 111, 112, 113, 114] (by decide +kernel) (by decide +kernel)
set_option maxRecDepth 20000 in
theorem gX7_play_X7_showOn : GoodIn wsX7_play (wsV RX7 144 RX7 yX7_showOn wsX7_showOn) := goodIn_app (goodIn_of _ (by decide +kernel)) ggX7_play_X7_showOn
set_option maxRecDepth 20000 in
theorem ggX7_play_X7_lay : GoodIn wsX7_play wsX7_lay := goodIn_r _ [19, 20, 21, 22, 23, 24, 25, 26, 8, 27, 28, 29, 30, 31, 32, 33, 34, 35, 36, 37, 38, 39, 40, 41, 42, 43, 44, 45, 46, 47, 48, 49, 50, 51, 52, 53, 54, 55, 56, 57, 58, 59, 60, 61, 62, 63, 64, 65, 86, 87, 88, 89, 90, 91, 92, 93, 94, 95, 96, 97, 98, 99, 100, 101, 102, 103, 104, 105, 106, 107, 108, 109, 110, 111, 112, 113, 114] (by decide +kernel) (by decide +kernel)
set_option maxRecDepth 20000 in
theorem gX7_play_X7_lay : GoodIn wsX7_play (wsV RX7 138 RX7 yX7_lay wsX7_lay) := goodIn_app (goodIn_of _ (by decide +kernel)) ggX7_play_X7_lay
set_option maxRecDepth 20000 in
theorem ggX7_play_X7_refundAll : GoodIn wsX7_play wsX7_refundAll := goodIn_r _ [69, 70, 71, 72, 73, 74, 75, 76, 8, 77, 78, 79, 20, 23, 22, 80, 36, 37, 38, 39, 28, 29, 86, 87, 88, 89, 90, 91, 92, 93, 94, 95, 96, 97, 98, 99, 100, 101, 102, 103, 104, 105, 106, 107, 108, 109, 110, 111, 112, 113, 114] (by decide +kernel) (by decide +kernel)
set_option maxRecDepth 20000 in
theorem gX7_play_X7_refundAll : GoodIn wsX7_play (wsV RX7 156 RX7 yX7_refundAll wsX7_refundAll) := goodIn_app (goodIn_of _ (by decide +kernel)) ggX7_play_X7_refundAll
set_option maxRecDepth 20000 in
theorem ggX7_play_X7_perform : GoodIn wsX7_play wsX7_perform := goodIn_r _ [84, 3, 23, 85, 22, 51, 57, 45, 46, 47, 8, 48, 49, 50, 52, 53, 54, 55, 56, 86, 87, 88, 89, 90, 91, 92, 93, 94, 95, 96, 97, 98, 99, 100, 101, 102, 103, 104, 105, 106, 107, 108, 109, 110, 111, 112, 113, 114] (by decide +kernel) (by decide +kernel)
set_option maxRecDepth 20000 in
theorem gX7_play_X7_perform : GoodIn wsX7_play (wsV RX7 160 RX7 yX7_perform wsX7_perform) := goodIn_app (goodIn_of _ (by decide +kernel)) ggX7_play_X7_perform
set_option maxRecDepth 20000 in
theorem ggX7_stateOf_X7_in : GoodIn wsX7_stateOf wsX7_in := goodIn_r _ [7] (by decide +kernel) (by decide +kernel)
set_option maxRecDepth 20000 in
theorem gX7_stateOf_X7_in : GoodIn wsX7_stateOf (va_wsS RX7 77 yX7_in wsX7_in) := goodIn_app (goodIn_of _ (by decide +kernel)) ggX7_stateOf_X7_in
set_option maxRecDepth 20000 in
theorem ggX7_stateOf_X7_fails : GoodIn wsX7_stateOf wsX7_fails := goodIn_r _ [11, 1, 12, 13, 14, 15, 16, 17, 18, 19, 20, 21, 22, 23, 24, 25, 26, 27, 28, 29, 30, 31, 32, 33, 34, 35, 36, 37, 38, 39, 40] (by decide +kernel) (by decide +kernel)
set_option maxRecDepth 20000 in
theorem gX7_stateOf_X7_fails : GoodIn wsX7_stateOf (wsV RX7 81 RX7 yX7_fails wsX7_fails) := goodIn_app (goodIn_of _ (by decide +kernel)) ggX7_stateOf_X7_fails
set_option maxRecDepth 20000 in
theorem ggX7_played_X7_in : GoodIn wsX7_played wsX7_in := goodIn_r _ [7] (by decide +kernel) (by decide +kernel)
set_option maxRecDepth 20000 in
theorem gX7_played_X7_in : GoodIn wsX7_played (va_wsS RX7 77 yX7_in wsX7_in) := goodIn_app (goodIn_of _ (by decide +kernel)) ggX7_played_X7_in
set_option maxRecDepth 20000 in
theorem ggX7_played_X7_isPart : GoodIn wsX7_played wsX7_isPart := goodIn_r _ [10, 4, 5, 6, 7] (by decide +kernel) (by decide +kernel)
set_option maxRecDepth 20000 in
theorem gX7_played_X7_isPart : GoodIn wsX7_played (va_wsS RX7 89 yX7_isPart wsX7_isPart) := goodIn_app (goodIn_of _ (by decide +kernel)) ggX7_played_X7_isPart
set_option maxRecDepth 20000 in
theorem ggX7_played_X7_fails : GoodIn wsX7_played wsX7_fails := goodIn_r _ [14, 1, 15, 16, 17, 18, 19, 20, 21, 22, 23, 24, 25, 26, 27, 28, 29, 30, 31, 32, 33, 34, 35, 36, 37, 38, 39, 40, 41, 42, 43] (by decide +kernel) (by decide +kernel)
set_option maxRecDepth 20000 in
theorem gX7_played_X7_fails : GoodIn wsX7_played (wsV RX7 81 RX7 yX7_fails wsX7_fails) := goodIn_app (goodIn_of _ (by decide +kernel)) ggX7_played_X7_fails
set_option maxRecDepth 20000 in
theorem ggX7_refund_X7_in : GoodIn wsX7_refund wsX7_in := goodIn_r _ [7] (by decide +kernel) (by decide +kernel)
set_option maxRecDepth 20000 in
theorem gX7_refund_X7_in : GoodIn wsX7_refund (va_wsS RX7 77 yX7_in wsX7_in) := goodIn_app (goodIn_of _ (by decide +kernel)) ggX7_refund_X7_in
set_option maxRecDepth 20000 in
theorem ggX7_refund_X7_fails : GoodIn wsX7_refund wsX7_fails := goodIn_r _ [11, 1, 12, 13, 14, 15, 16, 17, 18, 19, 20, 21, 22, 23, 24, 25, 26, 27, 28, 29, 30, 31, 32, 33, 34, 35, 36, 37, 38, 39, 40] (by decide +kernel) (by decide +kernel)
set_option maxRecDepth 20000 in
theorem gX7_refund_X7_fails : GoodIn wsX7_refund (wsV RX7 81 RX7 yX7_fails wsX7_fails) := goodIn_app (goodIn_of _ (by decide +kernel)) ggX7_refund_X7_fails
set_option maxRecDepth 20000 in
theorem ggL_setParts_X6_setParts : GoodIn wsL_setParts wsX6_setParts := goodIn_ca (goodIn_r _ [6, 7, 8, 9, 10, 11, 12, 13, 14, 15, 16, 17] (by decide +kernel) (by decide +kernel)) (goodIn_sub (fun _ h => List.mem_cons_of_mem _ (List.mem_append_right _ h)) (by decide +kernel))
set_option maxRecDepth 20000 in
theorem gL_setParts_X6_setParts : GoodIn wsL_setParts (wsV RL 7 RX6 yX6_setParts wsX6_setParts) := goodIn_app (goodIn_of _ (by decide +kernel)) ggL_setParts_X6_setParts
set_option maxRecDepth 20000 in
theorem ggL_setSize_X6_setSize : GoodIn wsL_setSize wsX6_setSize := goodIn_ca (goodIn_ca (goodIn_r _ [7, 8, 9, 10, 11, 6, 12, 13, 14, 15, 16, 17, 18, 19, 20, 21, 22, 23, 24, 25, 26, 27, 28, 29, 30] (by decide +kernel) (by decide +kernel)) (goodIn_sub (fun _ h => List.mem_cons_of_mem _ (List.mem_append_left _ (List.mem_append_right _ h))) (by decide +kernel))) (goodIn_sub (fun _ h => List.mem_cons_of_mem _ (List.mem_append_right _ h)) (by decide +kernel))
set_option maxRecDepth 20000 in
theorem gL_setSize_X6_setSize : GoodIn wsL_setSize (wsV RL 15 RX6 yX6_setSize wsX6_setSize) := goodIn_app (goodIn_of _ (by decide +kernel)) ggL_setSize_X6_setSize
set_option maxRecDepth 20000 in
theorem ggL_learn_X6_learn : GoodIn wsL_learn wsX6_learn := goodIn_ca (goodIn_ca (goodIn_r _ [7, 8, 9, 10, 11, 12, 13, 6, 14, 15, 16, 17, 18, 19, 20, 21, 22, 23, 24, 25, 26, 27, 28, 29, 30, 31, 32, 33, 34, 35, 36, 37, 38, 39, 40, 41, 42, 43] (by decide +kernel) (by decide +kernel)) (goodIn_sub (fun _ h => List.mem_cons_of_mem _ (List.mem_append_left _ (List.mem_append_right _ h))) (by decide +kernel))) (goodIn_sub (fun _ h => List.mem_cons_of_mem _ (List.mem_append_right _ h)) (by decide +kernel))
set_option maxRecDepth 20000 in
theorem gL_learn_X6_learn : GoodIn wsL_learn (wsV RL 21 RX6 yX6_learn wsX6_learn) := goodIn_app (goodIn_of _ (by decide +kernel)) ggL_learn_X6_learn
set_option maxRecDepth 20000 in
theorem ggL_put_X6_put : GoodIn wsL_put wsX6_put := goodIn_ca (goodIn_ca (goodIn_r _ [7, 8, 9, 10, 11, 12, 6, 13, 14, 15, 16, 17, 18, 19, 20, 21, 22, 23, 24, 25, 26, 27, 28, 29, 30, 31, 32, 33, 34, 35, 36, 37, 38, 39, 40, 41, 42, 43] (by decide +kernel) (by decide +kernel)) (goodIn_sub (fun _ h => List.mem_cons_of_mem _ (List.mem_append_left _ (List.mem_append_right _ h))) (by decide +kernel))) (goodIn_sub (fun _ h => List.mem_cons_of_mem _ (List.mem_append_right _ h)) (by decide +kernel))
set_option maxRecDepth 20000 in
theorem gL_put_X6_put : GoodIn wsL_put (wsV RL 27 RX6 yX6_put wsX6_put) := goodIn_app (goodIn_of _ (by decide +kernel)) ggL_put_X6_put
set_option maxRecDepth 20000 in
theorem ggL_take_X6_take : GoodIn wsL_take wsX6_take := goodIn_ca (goodIn_ca (goodIn_r _ [7, 8, 9, 10, 11, 12, 6, 13, 14, 15, 16, 17, 18, 19, 20, 21, 22, 23, 24, 25, 26, 27, 28, 29, 30, 31, 32, 33, 34, 35, 36, 37, 38, 39] (by decide +kernel) (by decide +kernel)) (goodIn_sub (fun _ h => List.mem_cons_of_mem _ (List.mem_append_left _ (List.mem_append_right _ h))) (by decide +kernel))) (goodIn_sub (fun _ h => List.mem_cons_of_mem _ (List.mem_append_right _ h)) (by decide +kernel))
set_option maxRecDepth 20000 in
theorem gL_take_X6_take : GoodIn wsL_take (wsV RL 30 RX6 yX6_take wsX6_take) := goodIn_app (goodIn_of _ (by decide +kernel)) ggL_take_X6_take
set_option maxRecDepth 20000 in
theorem ggL_costume_X6_costume : GoodIn wsL_costume wsX6_costume := goodIn_ca (goodIn_ca (goodIn_ca (goodIn_r _ [8, 9, 10, 11, 12, 13, 14, 7, 15, 16, 17, 18, 19, 20, 21, 22, 23, 24, 25, 26, 27, 28, 29, 30, 31, 32, 33, 34, 35, 36, 37, 38, 39, 40, 41, 42] (by decide +kernel) (by decide +kernel)) (goodIn_sub (fun _ h => List.mem_cons_of_mem _ (List.mem_append_left _ (List.mem_append_left _ (List.mem_append_right _ h)))) (by decide +kernel))) (goodIn_sub (fun _ h => List.mem_cons_of_mem _ (List.mem_append_left _ (List.mem_append_right _ h))) (by decide +kernel))) (goodIn_sub (fun _ h => List.mem_cons_of_mem _ (List.mem_append_right _ h)) (by decide +kernel))
set_option maxRecDepth 20000 in
theorem gL_costume_X6_costume : GoodIn wsL_costume (wsV RL 33 RX6 yX6_costume wsX6_costume) := goodIn_app (goodIn_of _ (by decide +kernel)) ggL_costume_X6_costume
set_option maxRecDepth 20000 in
theorem ggL_sizeOf_X6_sizeOf : GoodIn wsL_sizeOf wsX6_sizeOf := goodIn_ca (goodIn_r _ [6, 7, 8, 9, 10, 11, 5, 12, 13, 14, 15, 16, 17, 18, 19, 20, 21, 22, 23, 24, 25, 26] (by decide +kernel) (by decide +kernel)) (goodIn_sub (fun _ h => List.mem_cons_of_mem _ (List.mem_append_right _ h)) (by decide +kernel))
set_option maxRecDepth 20000 in
theorem gL_sizeOf_X6_sizeOf : GoodIn wsL_sizeOf (wsV RL 36 RX6 yX6_sizeOf wsX6_sizeOf) := goodIn_app (goodIn_of _ (by decide +kernel)) ggL_sizeOf_X6_sizeOf
set_option maxRecDepth 20000 in
theorem ggL_cold_X6_cold : GoodIn wsL_cold wsX6_cold := goodIn_ca (goodIn_ca (goodIn_r _ [7, 8, 9, 10, 11, 6, 12, 13, 14, 15, 16, 17, 18, 19, 20, 21, 22, 23, 24, 25, 26, 27, 28, 29, 30, 31, 32, 33, 34, 35, 36, 37, 38, 39, 40] (by decide +kernel) (by decide +kernel)) (goodIn_sub (fun _ h => List.mem_cons_of_mem _ (List.mem_append_left _ (List.mem_append_right _ h))) (by decide +kernel))) (goodIn_sub (fun _ h => List.mem_cons_of_mem _ (List.mem_append_right _ h)) (by decide +kernel))
set_option maxRecDepth 20000 in
theorem gL_cold_X6_cold : GoodIn wsL_cold (wsV RL 39 RX6 yX6_cold wsX6_cold) := goodIn_app (goodIn_of _ (by decide +kernel)) ggL_cold_X6_cold
set_option maxRecDepth 20000 in
theorem ggL_isIll_X6_isIll : GoodIn wsL_isIll wsX6_isIll := goodIn_ca (goodIn_ca (goodIn_r _ [7, 8, 9, 10, 11, 6, 12, 13, 14, 15, 16, 17, 18, 19, 20, 21, 22, 23, 24, 25, 26, 27, 28, 29, 30, 31, 32, 33] (by decide +kernel) (by decide +kernel)) (goodIn_sub (fun _ h => List.mem_cons_of_mem _ (List.mem_append_left _ (List.mem_append_right _ h))) (by decide +kernel))) (goodIn_sub (fun _ h => List.mem_cons_of_mem _ (List.mem_append_right _ h)) (by decide +kernel))
set_option maxRecDepth 20000 in
theorem gL_isIll_X6_isIll : GoodIn wsL_isIll (wsV RL 43 RX6 yX6_isIll wsX6_isIll) := goodIn_app (goodIn_of _ (by decide +kernel)) ggL_isIll_X6_isIll
set_option maxRecDepth 20000 in
theorem ggL_canPlay_X6_canPlay : GoodIn wsL_canPlay wsX6_canPlay := goodIn_ca (goodIn_ca (goodIn_r _ [7, 8, 9, 10, 11, 12, 6, 13, 14, 15, 16, 17, 18, 19, 20, 21, 22, 23, 24, 25, 26, 27, 28, 29, 30, 31, 32, 33, 34, 35, 36, 37, 38, 39, 40, 41, 42, 43, 44, 45, 46, 47, 48, 49, 50, 51, 52, 53, 54, 55, 56, 57, 58, 59, 60, 61, 62, 63, 64, 65, 66, 67, 68, 69, 70] (by decide +kernel) (by decide +kernel)) (goodIn_sub (fun _ h => List.mem_cons_of_mem _ (List.mem_append_left _ (List.mem_append_right _ h))) (by decide +kernel))) (goodIn_sub (fun _ h => List.mem_cons_of_mem _ (List.mem_append_right _ h)) (by decide +kernel))
set_option maxRecDepth 20000 in
theorem gL_canPlay_X6_canPlay : GoodIn wsL_canPlay (wsV RL 47 RX6 yX6_canPlay wsX6_canPlay) := goodIn_app (goodIn_of _ (by decide +kernel)) ggL_canPlay_X6_canPlay
set_option maxRecDepth 20000 in
theorem ggL_strain_X6_strain : GoodIn wsL_strain wsX6_strain := goodIn_ca (goodIn_r _ [6, 7, 8, 9, 10, 5, 11, 12, 13, 14, 15, 16, 17, 18, 19, 20, 21, 22, 23, 24, 25, 26, 27, 28, 29, 30, 31, 32, 33, 34, 35, 36, 37, 38, 39, 40, 41, 42, 43, 44, 45, 46, 47, 48, 49, 50, 51, 52, 53, 54, 55, 56, 57, 58, 59, 60, 61, 62, 63, 64, 65, 66, 67, 68, 69, 70, 71, 72, 73, 74, 75, 76, 77, 78, 79, 80, 81, 82, 83, 84, 85, 86, 87, 88, 89, 90, 91, 92, 93, 94, 95, 96, 97, 98, 99, 100, 101, 102, 103, 104, 105, 106, 107, 108, 109, 110, 111, 112, 113, 114, 115] (by decide +kernel) (by decide +kernel)) (goodIn_sub (fun _ h => List.mem_cons_of_mem _ (List.mem_append_right _ h)) (by decide +kernel))
set_option maxRecDepth 20000 in
theorem gL_strain_X6_strain : GoodIn wsL_strain (wsV RL 51 RX6 yX6_strain wsX6_strain) := goodIn_app (goodIn_of _ (by decide +kernel)) ggL_strain_X6_strain
set_option maxRecDepth 20000 in
theorem ggL_strainByAll_X6_strainByAll : GoodIn wsL_strainByAll wsX6_strainByAll := goodIn_ca (goodIn_r _ [6, 7, 8, 9, 10, 11, 12, 5, 13, 14, 15, 16, 17, 18, 19, 20, 21, 22, 23, 24, 25, 26, 27, 28, 29, 30, 31, 32, 33, 34, 35, 36, 37, 38, 39, 40, 41, 42, 43, 44, 45, 46, 47, 48, 49, 50, 51, 52, 53, 54, 55, 56, 57, 58, 59, 60, 61, 62, 63, 64, 65, 66, 67, 68, 69, 70, 71, 72, 73, 74, 75, 76, 77, 78, 79, 80, 81, 82, 83, 84, 85, 86, 87, 88, 89, 90, 91, 92, 93, 94, 95, 96, 97, 98, 99] (by decide +kernel) (by decide +kernel)) (goodIn_sub (fun _ h => List.mem_cons_of_mem _ (List.mem_append_right _ h)) (by decide +kernel))
set_option maxRecDepth 20000 in
theorem gL_strainByAll_X6_strainByAll : GoodIn wsL_strainByAll (wsV RL 54 RX6 yX6_strainByAll wsX6_strainByAll) := goodIn_app (goodIn_of _ (by decide +kernel)) ggL_strainByAll_X6_strainByAll
set_option maxRecDepth 20000 in
theorem ggL_work_X6_work : GoodIn wsL_work wsX6_work := goodIn_ca (goodIn_r _ [6, 7, 8, 9, 10, 5, 11, 12, 13, 14, 15, 16, 17, 18, 19, 20, 21, 22, 23, 24, 25, 26, 27, 28, 29, 30, 31, 32, 33, 34, 35, 36, 37, 38, 39, 40, 41, 42, 43, 44, 45, 46, 47, 48, 49, 50, 51, 52, 53, 54, 55, 56, 57, 58, 59, 60, 61, 62, 63, 64, 65, 66, 67, 68, 69, 70, 71, 72, 73, 74, 75, 76, 77, 78, 79, 80, 81, 82, 83, 84, 85, 86, 87, 88, 89, 90, 91, 92, 93, 94, 95, 96, 97, 98, 99, 100, 101, 102, 103, 104, 105, 106, 107, 108, 109, 110, 111, 112, 113, 114, 115] (by decide +kernel) (by decide +kernel)) (goodIn_sub (fun _ h => List.mem_cons_of_mem _ (List.mem_append_right _ h)) (by decide +kernel))
set_option maxRecDepth 20000 in
theorem gL_work_X6_work : GoodIn wsL_work (wsV RL 57 RX6 yX6_work wsX6_work) := goodIn_app (goodIn_of _ (by decide +kernel)) ggL_work_X6_work
set_option maxRecDepth 20000 in
theorem ggL_actorFor_X6_actorFor : GoodIn wsL_actorFor wsX6_actorFor := goodIn_ca (goodIn_ca (goodIn_r _ [7, 8, 9, 10, 11, 12, 6, 13, 14, 15, 16, 17, 18, 19, 20, 21, 22, 23, 24, 25, 26, 27, 28, 29, 30, 31, 32, 33, 34, 35, 36, 37, 38, 39, 40, 41, 42, 43, 44, 45, 46, 47, 48, 49, 50, 51, 52, 53, 54, 55, 56, 57, 58, 59, 60, 61, 62, 63, 64, 65, 66, 67, 68, 69, 70, 71, 72, 73, 74, 75, 76, 77, 78, 79, 80, 81, 82, 83, 84, 85, 86, 87, 88, 89, 90, 91, 92, 93, 94, 95, 96, 97, 98, 99, 100, 101, 102, 103, 104, 105, 106, 107, 108, 109, 110, 111, 112, 113, 114, 115, 116, 117, 118, 119, 120, 121, 122, 123, 124, 125] (by decide +kernel) (by decide +kernel)) (goodIn_sub (fun _ h => List.mem_cons_of_mem _ (List.mem_append_left _ (List.mem_append_right _ h))) (by decide +kernel))) (goodIn_sub (fun _ h => List.mem_cons_of_mem _ (List.mem_append_right _ h)) (by decide +kernel))
set_option maxRecDepth 20000 in
theorem gL_actorFor_X6_actorFor : GoodIn wsL_actorFor (wsV RL 60 RX6 yX6_actorFor wsX6_actorFor) := goodIn_app (goodIn_of _ (by decide +kernel)) ggL_actorFor_X6_actorFor
set_option maxRecDepth 20000 in
theorem ggL_chain_X6_chain : GoodIn wsL_chain wsX6_chain := goodIn_ca (goodIn_ca (goodIn_r _ [7, 8, 9, 10, 11, 6, 12, 13, 14, 15, 16, 17, 18, 19, 20, 21, 22, 23, 24, 25, 26, 27, 28, 29, 30, 31, 32, 33, 34, 35, 36, 37, 38, 39, 40, 41, 42, 43, 44, 45, 46, 47, 48, 49, 50, 51, 52, 53, 54, 55, 56, 57, 58, 59, 60, 61, 62, 63, 64, 65, 66, 67, 68, 69, 70, 71, 72, 73, 74, 75, 76, 77, 78, 79, 80, 81, 82, 83, 84, 85, 86, 87, 88, 89, 90, 91, 92, 93, 94, 95, 96, 97, 98, 99, 100, 101, 102, 103, 104, 105, 106, 107, 108, 109, 110, 111, 112, 113, 114, 115, 116, 117, 118, 119, 120, 121, 122, 123, 124, 125, 126, 127, 128, 129, 130] (by decide +kernel) (by decide +kernel)) (goodIn_sub (fun _ h => List.mem_cons_of_mem _ (List.mem_append_left _ (List.mem_append_right _ h))) (by decide +kernel))) (goodIn_sub (fun _ h => List.mem_cons_of_mem _ (List.mem_append_right _ h)) (by decide +kernel))
set_option maxRecDepth 20000 in
theorem gL_chain_X6_chain : GoodIn wsL_chain (wsV RL 63 RX6 yX6_chain wsX6_chain) := goodIn_app (goodIn_of _ (by decide +kernel)) ggL_chain_X6_chain
set_option maxRecDepth 20000 in
theorem ggL_show_X6_show : GoodIn wsL_show wsX6_show := goodIn_ca (goodIn_ca (goodIn_r _ [7, 8, 9, 10, 11, 12, 13, 14, 6, 15, 16, 17, 18, 19, 20, 21, 22, 23, 24, 25, 26, 27, 28, 29, 30, 31, 32, 33, 34, 35, 36, 37, 38, 39, 40, 41] (by decide +kernel) (by decide +kernel)) (goodIn_sub (fun _ h => List.mem_cons_of_mem _ (List.mem_append_left _ (List.mem_append_right _ h))) (by decide +kernel))) (goodIn_sub (fun _ h => List.mem_cons_of_mem _ (List.mem_append_right _ h)) (by decide +kernel))
set_option maxRecDepth 20000 in
theorem gL_show_X6_show : GoodIn wsL_show (wsV RL 66 RX6 yX6_show wsX6_show) := goodIn_app (goodIn_of _ (by decide +kernel)) ggL_show_X6_show
set_option maxRecDepth 20000 in
theorem ggL_sell_X6_sell : GoodIn wsL_sell wsX6_sell := goodIn_ca (goodIn_ca (goodIn_ca (goodIn_r _ [8, 9, 10, 11, 12, 13, 14, 15, 16, 17, 18, 19, 20, 7, 21, 22, 23, 24, 25, 26, 27, 28, 29, 30, 31, 32, 33, 34, 35, 36, 37, 38, 39, 40, 41, 42, 43, 44, 45, 46, 47, 48, 49, 50, 51, 52, 53, 54, 55, 56, 57, 58, 59, 60, 61, 62, 63, 64, 65, 66, 67] (by decide +kernel) (by decide +kernel)) (goodIn_sub (fun _ h => List.mem_cons_of_mem _ (List.mem_append_left _ (List.mem_append_left _ (List.mem_append_right _ h)))) (by decide +kernel))) (goodIn_sub (fun _ h => List.mem_cons_of_mem _ (List.mem_append_left _ (List.mem_append_right _ h))) (by decide +kernel))) (goodIn_sub (fun _ h => List.mem_cons_of_mem _ (List.mem_append_right _ h)) (by decide +kernel))
set_option maxRecDepth 20000 in
theorem gL_sell_X6_sell : GoodIn wsL_sell (wsV RL 69 RX6 yX6_sell wsX6_sell) := goodIn_app (goodIn_of _ (by decide +kernel)) ggL_sell_X6_sell
set_option maxRecDepth 20000 in
theorem ggL_play_X6_play : GoodIn wsL_play wsX6_play := goodIn_ca (goodIn_r _ [6, 7, 8, 9, 10, 11, 12, 13, 14, 15, 16, 17, 18, 19, 20, 5, 21, 22, 23, 24, 25, 26, 27, 28, 29, 30, 31, 32, 33, 34, 35, 36, 37, 38, 39, 40, 41, 42, 43, 44, 45, 46, 47, 48, 49, 50, 51, 52, 53, 54, 55, 56, 57, 58, 59, 60, 61, 62, 63, 64, 65, 66, 67, 68, 69, 70, 71, 72, 73, 74, 75, 76, 77, 78, 79, 80, 81, 82, 83, 84, 85, 86, 87, 88, 89, 90, 91, 92, 93, 94, 95, 96, 97, 98, 99, 100, 101, 102, 103, 104, 105, 106, 107, 108, 109, 110, 111, 112, 113, 114, 115, 116, 117, 118, 119, 120, 121, 122, 123, 124, 125, 126, 127, 128, 129, 130, 131, 132, 133, 134, 135, 136, 137, 138, 139, 140, 141, 142, 143, 144, 145, 146, 147, 148, 149, 150, 151, 152, 153, 154, 155, 156, 157, 158, 159, 160, 161, 162, 163, 164, 165, 166, 167, 168, 169, 170, 171, 172, 173, 174, 175, 176] (by decide +kernel) (by decide +kernel)) (goodIn_sub (fun _ h => List.mem_cons_of_mem _ (List.mem_append_right _ h)) (by decide +kernel))
set_option maxRecDepth 20000 in
theorem gL_play_X6_play : GoodIn wsL_play (wsV RL 73 RX6 yX6_play wsX6_play) := goodIn_app (goodIn_of _ (by decide +kernel)) ggL_play_X6_play
set_option maxRecDepth 20000 in
theorem ggL_stateOf_X6_stateOf : GoodIn wsL_stateOf wsX6_stateOf := goodIn_ca (goodIn_r _ [6, 7, 8, 9, 10, 11, 5, 12, 13, 14, 15, 16, 17, 18, 19, 20, 21, 22, 23, 24, 25, 26] (by decide +kernel) (by decide +kernel)) (goodIn_sub (fun _ h => List.mem_cons_of_mem _ (List.mem_append_right _ h)) (by decide +kernel))
set_option maxRecDepth 20000 in
theorem gL_stateOf_X6_stateOf : GoodIn wsL_stateOf (wsV RL 77 RX6 yX6_stateOf wsX6_stateOf) := goodIn_app (goodIn_of _ (by decide +kernel)) ggL_stateOf_X6_stateOf
set_option maxRecDepth 20000 in
theorem ggL_played_X6_played : GoodIn wsL_played wsX6_played := goodIn_ca (goodIn_r _ [6, 7, 8, 9, 10, 11, 5, 12, 13, 14, 15, 16, 17, 18, 19, 20, 21, 22, 23, 24, 25, 26, 27, 28, 29] (by decide +kernel) (by decide +kernel)) (goodIn_sub (fun _ h => List.mem_cons_of_mem _ (List.mem_append_right _ h)) (by decide +kernel))
set_option maxRecDepth 20000 in
theorem gL_played_X6_played : GoodIn wsL_played (wsV RL 80 RX6 yX6_played wsX6_played) := goodIn_app (goodIn_of _ (by decide +kernel)) ggL_played_X6_played
set_option maxRecDepth 20000 in
theorem ggL_refund_X6_refund : GoodIn wsL_refund wsX6_refund := goodIn_ca (goodIn_r _ [6, 7, 8, 9, 10, 11, 5, 12, 13, 14, 15, 16, 17, 18, 19, 20, 21, 22, 23, 24, 25, 26, 27, 28, 29, 30] (by decide +kernel) (by decide +kernel)) (goodIn_sub (fun _ h => List.mem_cons_of_mem _ (List.mem_append_right _ h)) (by decide +kernel))
set_option maxRecDepth 20000 in
theorem gL_refund_X6_refund : GoodIn wsL_refund (wsV RL 83 RX6 yX6_refund wsX6_refund) := goodIn_app (goodIn_of _ (by decide +kernel)) ggL_refund_X6_refund
set_option maxRecDepth 20000 in
theorem ggL_law_X6_init : GoodIn wsL_law wsX6_init := goodIn_r _ [9, 10, 11, 12, 13, 14, 15, 16, 17, 18, 19, 20, 21, 22, 23, 24, 25, 26, 27, 28, 29, 30, 31, 32, 33, 34, 35, 36, 37, 38, 39, 40, 41, 42, 43, 44, 45, 46, 47, 48, 49, 50, 51, 52, 53, 54, 55, 56, 57, 58, 59, 60, 61, 62, 63, 64, 65, 66, 67, 68, 69, 70, 71, 72, 73, 74, 75, 76, 77, 78, 79, 80, 81, 668, 669, 670, 631, 632, 633, 634, 635, 636, 637, 638, 671, 672, 673, 674, 675, 676, 677, 678, 679, 680, 681, 682, 683, 684, 685, 686, 687, 688, 689, 690, 691, 692] (by decide +kernel) (by decide +kernel)
set_option maxRecDepth 20000 in
theorem gL_law_X6_init : GoodIn wsL_law (wsX6_init) := ggL_law_X6_init
set_option maxRecDepth 20000 in
theorem ggL_law_X7_init : GoodIn wsL_law wsX7_init := goodIn_r _ [84, 85, 11, 12, 86, 43, 87, 88, 89, 90, 91, 92, 93, 94, 95, 96, 97, 98, 99, 100, 101, 102, 103, 104, 105, 106, 639, 640, 641, 642, 643, 644, 645, 646, 647, 648, 649, 650, 651, 652, 653, 654, 655, 656, 657, 658, 659, 660, 661, 662, 663, 664, 665, 666, 667] (by decide +kernel) (by decide +kernel)
set_option maxRecDepth 20000 in
theorem gL_law_X7_init : GoodIn wsL_law (wsX7_init) := ggL_law_X7_init
set_option maxRecDepth 20000 in
theorem ggL_law_L_setParts : GoodIn wsL_law wsL_setParts := goodIn_ca (goodIn_r _ [110, 111, 112, 113, 114, 2, 115, 116, 117, 37, 631, 632, 633, 634, 635, 636, 637, 638] (by decide +kernel) (by decide +kernel)) (goodIn_sub (fun _ h => List.mem_append_left _ (List.mem_append_left _ (List.mem_append_right _ h))) (by decide +kernel))
set_option maxRecDepth 20000 in
theorem gL_law_L_setParts : GoodIn wsL_law (va_wsS RL 90 yL_setParts wsL_setParts) := goodIn_app (goodIn_of _ (by decide +kernel)) ggL_law_L_setParts
set_option maxRecDepth 20000 in
theorem ggL_law_X7_setParts : GoodIn wsL_law wsX7_setParts := goodIn_r _ [121, 122, 86, 123, 124, 5, 125, 126, 127, 128, 129, 639, 640, 641, 642, 643, 644, 645, 646, 647, 648, 649, 650, 651, 652, 653, 654, 655, 656, 657, 658, 659, 660, 661, 662, 663, 664, 665, 666, 667] (by decide +kernel) (by decide +kernel)
set_option maxRecDepth 20000 in
theorem gL_law_X7_setParts : GoodIn wsL_law (wsV RL 95 RX7 yX7_setParts wsX7_setParts) := goodIn_app (goodIn_of _ (by decide +kernel)) ggL_law_X7_setParts
set_option maxRecDepth 20000 in
theorem ggL_law_X7_thrown : GoodIn wsL_law wsX7_thrown := goodIn_r _ [133, 122, 639, 640, 641, 642, 643, 644, 645, 646, 647, 648, 649, 650, 651, 652, 653, 654, 655, 656, 657, 658, 659, 660, 661, 662, 663, 664, 665, 666, 667] (by decide +kernel) (by decide +kernel)
set_option maxRecDepth 20000 in
theorem gL_law_X7_thrown : GoodIn wsL_law (wsV RL 96 RX7 yX7_thrown wsX7_thrown) := goodIn_app (goodIn_of _ (by decide +kernel)) ggL_law_X7_thrown
set_option maxRecDepth 20000 in
theorem ggL_law_L_setSize : GoodIn wsL_law wsL_setSize := goodIn_ca (goodIn_ca (goodIn_r _ [136, 137, 111, 138, 139, 140, 2, 141, 16, 142, 143, 144, 145, 146, 147, 148, 149, 150, 116, 117, 631, 632, 633, 634, 635, 636, 637, 638, 668, 669, 670] (by decide +kernel) (by decide +kernel)) (goodIn_sub (fun _ h => List.mem_append_left _ (List.mem_append_right _ h)) (by decide +kernel))) (goodIn_sub (fun _ h => List.mem_append_left _ (List.mem_append_left _ (List.mem_append_right _ h))) (by decide +kernel))
set_option maxRecDepth 20000 in
theorem gL_law_L_setSize : GoodIn wsL_law (va_wsS RL 99 yL_setSize wsL_setSize) := goodIn_app (goodIn_of _ (by decide +kernel)) ggL_law_L_setSize
set_option maxRecDepth 20000 in
theorem ggL_law_X7_setSize : GoodIn wsL_law wsX7_setSize := goodIn_r _ [154, 122, 87, 155, 156, 5, 157, 123, 124, 125, 126, 127, 128, 129, 639, 640, 641, 642, 643, 644, 645, 646, 647, 648, 649, 650, 651, 652, 653, 654, 655, 656, 657, 658, 659, 660, 661, 662, 663, 664, 665, 666, 667] (by decide +kernel) (by decide +kernel)
set_option maxRecDepth 20000 in
theorem gL_law_X7_setSize : GoodIn wsL_law (wsV RL 102 RX7 yX7_setSize wsX7_setSize) := goodIn_app (goodIn_of _ (by decide +kernel)) ggL_law_X7_setSize
set_option maxRecDepth 20000 in
theorem ggL_law_L_learn : GoodIn wsL_law wsL_learn := goodIn_ca (goodIn_ca (goodIn_r _ [160, 137, 161, 162, 163, 164, 2, 165, 166, 167, 16, 168, 143, 144, 145, 146, 147, 169, 170, 171, 172, 173, 174, 175, 176, 177, 178, 179, 180, 181, 182, 183, 184, 631, 632, 633, 634, 635, 636, 637, 638, 668, 669, 670] (by decide +kernel) (by decide +kernel)) (goodIn_sub (fun _ h => List.mem_append_right _ h) (by decide +kernel))) (goodIn_sub (fun _ h => List.mem_append_left _ (List.mem_append_right _ h)) (by decide +kernel))
set_option maxRecDepth 20000 in
theorem gL_law_L_learn : GoodIn wsL_law (va_wsS RL 103 yL_learn wsL_learn) := goodIn_app (goodIn_of _ (by decide +kernel)) ggL_law_L_learn
set_option maxRecDepth 20000 in
theorem ggL_law_X7_learn : GoodIn wsL_law wsX7_learn := goodIn_r _ [188, 122, 88, 155, 156, 5, 157, 123, 124, 125, 189, 190, 191, 126, 127, 128, 129, 192, 193, 194, 195, 196, 197, 198, 199, 639, 640, 641, 642, 643, 644, 645, 646, 647, 648, 649, 650, 651, 652, 653, 654, 655, 656, 657, 658, 659, 660, 661, 662, 663, 664, 665, 666, 667] (by decide +kernel) (by decide +kernel)
set_option maxRecDepth 20000 in
theorem gL_law_X7_learn : GoodIn wsL_law (wsV RL 106 RX7 yX7_learn wsX7_learn) := goodIn_app (goodIn_of _ (by decide +kernel)) ggL_law_X7_learn
set_option maxRecDepth 20000 in
theorem ggL_law_L_put : GoodIn wsL_law wsL_put := goodIn_ca (goodIn_ca (goodIn_r _ [202, 137, 161, 203, 204, 205, 2, 206, 166, 167, 20, 169, 170, 171, 146, 147, 143, 144, 145, 207, 208, 209, 19, 210, 51, 50, 211, 212, 213, 214, 215, 216, 217, 218, 631, 632, 633, 634, 635, 636, 637, 638, 671, 672] (by decide +kernel) (by decide +kernel)) (goodIn_sub (fun _ h => List.mem_append_right _ h) (by decide +kernel))) (goodIn_sub (fun _ h => List.mem_append_left _ (List.mem_append_right _ h)) (by decide +kernel))
set_option maxRecDepth 20000 in
theorem gL_law_L_put : GoodIn wsL_law (va_wsS RL 107 yL_put wsL_put) := goodIn_app (goodIn_of _ (by decide +kernel)) ggL_law_L_put
set_option maxRecDepth 20000 in
theorem ggL_law_X7_put : GoodIn wsL_law wsX7_put := goodIn_r _ [222, 122, 90, 89, 189, 190, 5, 191, 123, 124, 125, 155, 156, 157, 126, 127, 128, 129, 223, 224, 225, 226, 639, 640, 641, 642, 643, 644, 645, 646, 647, 648, 649, 650, 651, 652, 653, 654, 655, 656, 657, 658, 659, 660, 661, 662, 663, 664, 665, 666, 667] (by decide +kernel) (by decide +kernel)
set_option maxRecDepth 20000 in
theorem gL_law_X7_put : GoodIn wsL_law (wsV RL 109 RX7 yX7_put wsX7_put) := goodIn_app (goodIn_of _ (by decide +kernel)) ggL_law_X7_put
set_option maxRecDepth 20000 in
theorem ggL_law_L_take : GoodIn wsL_law wsL_take := goodIn_ca (goodIn_ca (goodIn_r _ [229, 137, 161, 230, 231, 232, 2, 233, 166, 167, 20, 169, 170, 171, 146, 147, 143, 144, 145, 207, 208, 209, 19, 210, 51, 50, 234, 235, 236, 237, 631, 632, 633, 634, 635, 636, 637, 638, 671, 672] (by decide +kernel) (by decide +kernel)) (goodIn_sub (fun _ h => List.mem_append_right _ h) (by decide +kernel))) (goodIn_sub (fun _ h => List.mem_append_left _ (List.mem_append_right _ h)) (by decide +kernel))
set_option maxRecDepth 20000 in
theorem gL_law_L_take : GoodIn wsL_law (va_wsS RL 110 yL_take wsL_take) := goodIn_app (goodIn_of _ (by decide +kernel)) ggL_law_L_take
set_option maxRecDepth 20000 in
theorem ggL_law_X7_take : GoodIn wsL_law wsX7_take := goodIn_r _ [241, 122, 90, 89, 189, 190, 5, 191, 123, 124, 125, 155, 156, 157, 126, 127, 128, 129, 223, 224, 225, 226, 639, 640, 641, 642, 643, 644, 645, 646, 647, 648, 649, 650, 651, 652, 653, 654, 655, 656, 657, 658, 659, 660, 661, 662, 663, 664, 665, 666, 667] (by decide +kernel) (by decide +kernel)
set_option maxRecDepth 20000 in
theorem gL_law_X7_take : GoodIn wsL_law (wsV RL 112 RX7 yX7_take wsX7_take) := goodIn_app (goodIn_of _ (by decide +kernel)) ggL_law_X7_take
set_option maxRecDepth 20000 in
theorem ggL_law_L_costume : GoodIn wsL_law wsL_costume := goodIn_ca (goodIn_ca (goodIn_ca (goodIn_r _ [244, 137, 111, 161, 245, 246, 247, 2, 248, 166, 167, 24, 249, 169, 170, 171, 146, 147, 148, 149, 150, 116, 117, 250, 251, 252, 23, 253, 56, 254, 55, 631, 632, 633, 634, 635, 636, 637, 638, 673, 674, 675, 676] (by decide +kernel) (by decide +kernel)) (goodIn_sub (fun _ h => List.mem_append_right _ h) (by decide +kernel))) (goodIn_sub (fun _ h => List.mem_append_left _ (List.mem_append_right _ h)) (by decide +kernel))) (goodIn_sub (fun _ h => List.mem_append_left _ (List.mem_append_left _ (List.mem_append_right _ h))) (by decide +kernel))
set_option maxRecDepth 20000 in
theorem gL_law_L_costume : GoodIn wsL_law (va_wsS RL 113 yL_costume wsL_costume) := goodIn_app (goodIn_of _ (by decide +kernel)) ggL_law_L_costume
set_option maxRecDepth 20000 in
theorem ggL_law_X7_costume : GoodIn wsL_law wsX7_costume := goodIn_r _ [258, 122, 259, 91, 92, 189, 190, 5, 191, 123, 124, 125, 126, 127, 128, 129, 639, 640, 641, 642, 643, 644, 645, 646, 647, 648, 649, 650, 651, 652, 653, 654, 655, 656, 657, 658, 659, 660, 661, 662, 663, 664, 665, 666, 667] (by decide +kernel) (by decide +kernel)
set_option maxRecDepth 20000 in
theorem gL_law_X7_costume : GoodIn wsL_law (wsV RL 115 RX7 yX7_costume wsX7_costume) := goodIn_app (goodIn_of _ (by decide +kernel)) ggL_law_X7_costume
set_option maxRecDepth 20000 in
theorem ggL_law_L_sizeOf : GoodIn wsL_law wsL_sizeOf := goodIn_ca (goodIn_r _ [262, 137, 263, 264, 265, 2, 266, 24, 249, 267, 268, 269, 270, 146, 147, 631, 632, 633, 634, 635, 636, 637, 638, 673, 674, 675, 676] (by decide +kernel) (by decide +kernel)) (goodIn_sub (fun _ h => List.mem_append_left _ (List.mem_append_right _ h)) (by decide +kernel))
set_option maxRecDepth 20000 in
theorem gL_law_L_sizeOf : GoodIn wsL_law (va_wsS RL 116 yL_sizeOf wsL_sizeOf) := goodIn_app (goodIn_of _ (by decide +kernel)) ggL_law_L_sizeOf
set_option maxRecDepth 20000 in
theorem ggL_law_X7_sizeOf : GoodIn wsL_law wsX7_sizeOf := goodIn_r _ [274, 122, 259, 92, 123, 124, 5, 125, 126, 127, 128, 129, 639, 640, 641, 642, 643, 644, 645, 646, 647, 648, 649, 650, 651, 652, 653, 654, 655, 656, 657, 658, 659, 660, 661, 662, 663, 664, 665, 666, 667] (by decide +kernel) (by decide +kernel)
set_option maxRecDepth 20000 in
theorem gL_law_X7_sizeOf : GoodIn wsL_law (wsV RL 118 RX7 yX7_sizeOf wsX7_sizeOf) := goodIn_app (goodIn_of _ (by decide +kernel)) ggL_law_X7_sizeOf
set_option maxRecDepth 20000 in
theorem ggL_law_L_cold : GoodIn wsL_law wsL_cold := goodIn_ca (goodIn_ca (goodIn_r _ [277, 137, 111, 278, 279, 280, 2, 281, 38, 16, 143, 144, 145, 146, 147, 282, 283, 284, 116, 117, 285, 286, 287, 15, 288, 46, 289, 290, 173, 174, 631, 632, 633, 634, 635, 636, 637, 638, 668, 669, 670] (by decide +kernel) (by decide +kernel)) (goodIn_sub (fun _ h => List.mem_append_left _ (List.mem_append_right _ h)) (by decide +kernel))) (goodIn_sub (fun _ h => List.mem_append_left _ (List.mem_append_left _ (List.mem_append_right _ h))) (by decide +kernel))
set_option maxRecDepth 20000 in
theorem gL_law_L_cold : GoodIn wsL_law (va_wsS RL 119 yL_cold wsL_cold) := goodIn_app (goodIn_of _ (by decide +kernel)) ggL_law_L_cold
set_option maxRecDepth 20000 in
theorem ggL_law_X7_cold : GoodIn wsL_law wsX7_cold := goodIn_r _ [294, 122, 295, 94, 155, 156, 5, 157, 123, 124, 125, 126, 127, 128, 129, 639, 640, 641, 642, 643, 644, 645, 646, 647, 648, 649, 650, 651, 652, 653, 654, 655, 656, 657, 658, 659, 660, 661, 662, 663, 664, 665, 666, 667] (by decide +kernel) (by decide +kernel)
set_option maxRecDepth 20000 in
theorem gL_law_X7_cold : GoodIn wsL_law (wsV RL 122 RX7 yX7_cold wsX7_cold) := goodIn_app (goodIn_of _ (by decide +kernel)) ggL_law_X7_cold
set_option maxRecDepth 20000 in
theorem ggL_law_L_isIll : GoodIn wsL_law wsL_isIll := goodIn_ca (goodIn_ca (goodIn_r _ [298, 137, 111, 299, 300, 301, 2, 302, 16, 303, 143, 144, 145, 146, 147, 282, 283, 284, 116, 117, 304, 289, 290, 631, 632, 633, 634, 635, 636, 637, 638, 668, 669, 670] (by decide +kernel) (by decide +kernel)) (goodIn_sub (fun _ h => List.mem_append_left _ (List.mem_append_right _ h)) (by decide +kernel))) (goodIn_sub (fun _ h => List.mem_append_left _ (List.mem_append_left _ (List.mem_append_right _ h))) (by decide +kernel))
set_option maxRecDepth 20000 in
theorem gL_law_L_isIll : GoodIn wsL_law (va_wsS RL 123 yL_isIll wsL_isIll) := goodIn_app (goodIn_of _ (by decide +kernel)) ggL_law_L_isIll
set_option maxRecDepth 20000 in
theorem ggL_law_X7_isIll : GoodIn wsL_law wsX7_isIll := goodIn_r _ [308, 122, 94, 155, 156, 5, 157, 123, 124, 125, 126, 127, 128, 129, 309, 310, 311, 639, 640, 641, 642, 643, 644, 645, 646, 647, 648, 649, 650, 651, 652, 653, 654, 655, 656, 657, 658, 659, 660, 661, 662, 663, 664, 665, 666, 667] (by decide +kernel) (by decide +kernel)
set_option maxRecDepth 20000 in
theorem gL_law_X7_isIll : GoodIn wsL_law (wsV RL 125 RX7 yX7_isIll wsX7_isIll) := goodIn_app (goodIn_of _ (by decide +kernel)) ggL_law_X7_isIll
set_option maxRecDepth 20000 in
theorem ggL_law_L_canPlay : GoodIn wsL_law wsL_canPlay := goodIn_ca (goodIn_ca (goodIn_r _ [314, 137, 111, 315, 316, 317, 2, 318, 20, 16, 303, 143, 144, 145, 146, 147, 169, 170, 171, 282, 283, 284, 116, 117, 207, 208, 209, 19, 210, 51, 50, 319, 320, 321, 322, 142, 168, 24, 304, 289, 290, 323, 324, 325, 23, 326, 254, 56, 55, 327, 328, 329, 330, 58, 631, 632, 633, 634, 635, 636, 637, 638, 668, 669, 670, 671, 672, 673, 674, 675, 676] (by decide +kernel) (by decide +kernel)) (goodIn_sub (fun _ h => List.mem_append_left _ (List.mem_append_right _ h)) (by decide +kernel))) (goodIn_sub (fun _ h => List.mem_append_left _ (List.mem_append_left _ (List.mem_append_right _ h))) (by decide +kernel))
set_option maxRecDepth 20000 in
theorem gL_law_L_canPlay : GoodIn wsL_law (va_wsS RL 126 yL_canPlay wsL_canPlay) := goodIn_app (goodIn_of _ (by decide +kernel)) ggL_law_L_canPlay
set_option maxRecDepth 20000 in
theorem ggL_law_X7_canPlay : GoodIn wsL_law wsX7_canPlay := goodIn_r _ [334, 122, 155, 156, 5, 157, 123, 124, 125, 189, 190, 191, 126, 127, 128, 129, 309, 310, 311, 335, 336, 337, 338, 94, 223, 224, 225, 226, 90, 89, 192, 193, 194, 195, 88, 339, 340, 341, 342, 259, 91, 92, 87, 343, 344, 345, 346, 93, 639, 640, 641, 642, 643, 644, 645, 646, 647, 648, 649, 650, 651, 652, 653, 654, 655, 656, 657, 658, 659, 660, 661, 662, 663, 664, 665, 666, 667] (by decide +kernel) (by decide +kernel)
set_option maxRecDepth 20000 in
theorem gL_law_X7_canPlay : GoodIn wsL_law (wsV RL 128 RX7 yX7_canPlay wsX7_canPlay) := goodIn_app (goodIn_of _ (by decide +kernel)) ggL_law_X7_canPlay
set_option maxRecDepth 20000 in
theorem ggL_law_L_strain : GoodIn wsL_law wsL_strain := goodIn_ca (goodIn_r _ [349, 111, 350, 351, 352, 2, 353, 16, 303, 282, 283, 284, 116, 117, 354, 355, 356, 357, 28, 37, 358, 359, 360, 361, 20, 24, 142, 362, 363, 364, 27, 365, 63, 366, 367, 368, 369, 19, 370, 51, 50, 319, 320, 321, 322, 168, 304, 289, 290, 323, 324, 325, 23, 326, 254, 56, 55, 327, 328, 329, 330, 58, 371, 372, 373, 374, 64, 375, 376, 377, 378, 379, 380, 381, 382, 383, 384, 385, 65, 386, 179, 180, 181, 182, 183, 184, 387, 388, 389, 390, 173, 174, 391, 392, 393, 631, 632, 633, 634, 635, 636, 637, 638, 668, 669, 670, 677, 678, 679, 680, 671, 672, 673, 674, 675, 676] (by decide +kernel) (by decide +kernel)) (goodIn_sub (fun _ h => List.mem_append_left _ (List.mem_append_left _ (List.mem_append_right _ h))) (by decide +kernel))
set_option maxRecDepth 20000 in
theorem gL_law_L_strain : GoodIn wsL_law (va_wsS RL 129 yL_strain wsL_strain) := goodIn_app (goodIn_of _ (by decide +kernel)) ggL_law_L_strain
set_option maxRecDepth 20000 in
theorem ggL_law_X7_strain : GoodIn wsL_law wsX7_strain := goodIn_r _ [397, 122, 398, 309, 310, 5, 311, 123, 124, 125, 126, 127, 128, 129, 399, 400, 401, 402, 403, 105, 86, 404, 405, 406, 407, 90, 89, 104, 335, 336, 337, 338, 94, 223, 224, 225, 226, 192, 193, 194, 195, 88, 339, 340, 341, 342, 259, 91, 92, 87, 343, 344, 345, 346, 93, 408, 409, 410, 411, 412, 413, 414, 415, 639, 640, 641, 642, 643, 644, 645, 646, 647, 648, 649, 650, 651, 652, 653, 654, 655, 656, 657, 658, 659, 660, 661, 662, 663, 664, 665, 666, 667] (by decide +kernel) (by decide +kernel)
set_option maxRecDepth 20000 in
theorem gL_law_X7_strain : GoodIn wsL_law (wsV RL 131 RX7 yX7_strain wsX7_strain) := goodIn_app (goodIn_of _ (by decide +kernel)) ggL_law_X7_strain
set_option maxRecDepth 20000 in
theorem ggL_law_L_strainByAll : GoodIn wsL_law wsL_strainByAll := goodIn_ca (goodIn_r _ [418, 111, 419, 420, 421, 2, 422, 16, 303, 28, 37, 282, 283, 284, 116, 117, 358, 359, 360, 361, 20, 24, 142, 362, 363, 364, 27, 365, 63, 366, 367, 368, 369, 19, 370, 51, 50, 319, 320, 321, 322, 168, 304, 289, 290, 323, 324, 325, 23, 326, 254, 56, 55, 327, 328, 329, 330, 58, 371, 372, 373, 374, 64, 375, 376, 377, 378, 379, 380, 381, 423, 424, 425, 426, 427, 428, 429, 173, 174, 631, 632, 633, 634, 635, 636, 637, 638, 668, 669, 670, 677, 678, 679, 680, 671, 672, 673, 674, 675, 676] (by decide +kernel) (by decide +kernel)) (goodIn_sub (fun _ h => List.mem_append_left _ (List.mem_append_left _ (List.mem_append_right _ h))) (by decide +kernel))
set_option maxRecDepth 20000 in
theorem gL_law_L_strainByAll : GoodIn wsL_law (va_wsS RL 132 yL_strainByAll wsL_strainByAll) := goodIn_app (goodIn_of _ (by decide +kernel)) ggL_law_L_strainByAll
set_option maxRecDepth 20000 in
theorem ggL_law_X7_strainByAll : GoodIn wsL_law wsX7_strainByAll := goodIn_r _ [433, 122, 398, 309, 310, 5, 311, 123, 124, 125, 126, 127, 128, 129, 399, 400, 401, 402, 403, 105, 86, 404, 405, 406, 407, 90, 89, 104, 335, 336, 337, 338, 94, 223, 224, 225, 226, 192, 193, 194, 195, 88, 339, 340, 341, 342, 259, 91, 92, 87, 343, 344, 345, 346, 93, 408, 409, 410, 411, 412, 413, 414, 415, 639, 640, 641, 642, 643, 644, 645, 646, 647, 648, 649, 650, 651, 652, 653, 654, 655, 656, 657, 658, 659, 660, 661, 662, 663, 664, 665, 666, 667] (by decide +kernel) (by decide +kernel)
set_option maxRecDepth 20000 in
theorem gL_law_X7_strainByAll : GoodIn wsL_law (wsV RL 134 RX7 yX7_strainByAll wsX7_strainByAll) := goodIn_app (goodIn_of _ (by decide +kernel)) ggL_law_X7_strainByAll
set_option maxRecDepth 20000 in
theorem ggL_law_L_work : GoodIn wsL_law wsL_work := goodIn_ca (goodIn_r _ [436, 111, 437, 438, 439, 2, 440, 16, 303, 282, 283, 284, 116, 117, 354, 355, 356, 357, 28, 37, 358, 359, 360, 361, 20, 24, 142, 362, 363, 364, 27, 365, 63, 366, 367, 368, 369, 19, 370, 51, 50, 319, 320, 321, 322, 168, 304, 289, 290, 323, 324, 325, 23, 326, 254, 56, 55, 327, 328, 329, 330, 58, 371, 372, 373, 374, 64, 375, 376, 377, 378, 379, 380, 381, 382, 383, 384, 385, 65, 386, 179, 180, 181, 182, 183, 184, 387, 388, 389, 390, 173, 174, 441, 442, 443, 631, 632, 633, 634, 635, 636, 637, 638, 668, 669, 670, 677, 678, 679, 680, 671, 672, 673, 674, 675, 676] (by decide +kernel) (by decide +kernel)) (goodIn_sub (fun _ h => List.mem_append_left _ (List.mem_append_left _ (List.mem_append_right _ h))) (by decide +kernel))
set_option maxRecDepth 20000 in
theorem gL_law_L_work : GoodIn wsL_law (va_wsS RL 135 yL_work wsL_work) := goodIn_app (goodIn_of _ (by decide +kernel)) ggL_law_L_work
set_option maxRecDepth 20000 in
theorem ggL_law_X7_work : GoodIn wsL_law wsX7_work := goodIn_r _ [447, 122, 403, 309, 310, 5, 311, 123, 124, 125, 126, 127, 128, 129, 399, 400, 401, 402, 398, 105, 86, 404, 405, 406, 407, 90, 89, 104, 335, 336, 337, 338, 94, 223, 224, 225, 226, 192, 193, 194, 195, 88, 339, 340, 341, 342, 259, 91, 92, 87, 343, 344, 345, 346, 93, 408, 409, 410, 411, 412, 413, 414, 415, 639, 640, 641, 642, 643, 644, 645, 646, 647, 648, 649, 650, 651, 652, 653, 654, 655, 656, 657, 658, 659, 660, 661, 662, 663, 664, 665, 666, 667] (by decide +kernel) (by decide +kernel)
set_option maxRecDepth 20000 in
theorem gL_law_X7_work : GoodIn wsL_law (wsV RL 137 RX7 yX7_work wsX7_work) := goodIn_app (goodIn_of _ (by decide +kernel)) ggL_law_X7_work
set_option maxRecDepth 20000 in
theorem ggL_law_L_actorFor : GoodIn wsL_law wsL_actorFor := goodIn_ca (goodIn_ca (goodIn_r _ [450, 137, 111, 451, 452, 453, 2, 454, 16, 303, 37, 169, 170, 171, 146, 147, 282, 283, 284, 116, 117, 354, 355, 356, 357, 28, 358, 359, 360, 361, 20, 24, 142, 362, 363, 364, 27, 365, 63, 366, 367, 368, 369, 19, 370, 51, 50, 319, 320, 321, 322, 168, 304, 289, 290, 323, 324, 325, 23, 326, 254, 56, 55, 327, 328, 329, 330, 58, 371, 372, 373, 374, 64, 375, 376, 377, 378, 379, 380, 381, 382, 383, 384, 385, 65, 386, 179, 180, 181, 182, 183, 184, 387, 388, 389, 390, 173, 174, 455, 456, 457, 458, 459, 460, 461, 631, 632, 633, 634, 635, 636, 637, 638, 668, 669, 670, 677, 678, 679, 680, 671, 672, 673, 674, 675, 676] (by decide +kernel) (by decide +kernel)) (goodIn_sub (fun _ h => List.mem_append_left _ (List.mem_append_right _ h)) (by decide +kernel))) (goodIn_sub (fun _ h => List.mem_append_left _ (List.mem_append_left _ (List.mem_append_right _ h))) (by decide +kernel))
set_option maxRecDepth 20000 in
theorem gL_law_L_actorFor : GoodIn wsL_law (va_wsS RL 138 yL_actorFor wsL_actorFor) := goodIn_app (goodIn_of _ (by decide +kernel)) ggL_law_L_actorFor
set_option maxRecDepth 20000 in
theorem ggL_law_X7_actorFor : GoodIn wsL_law wsX7_actorFor := goodIn_r _ [465, 122, 105, 189, 190, 5, 191, 123, 124, 125, 126, 127, 128, 129, 309, 310, 311, 399, 400, 401, 402, 398, 403, 86, 404, 405, 406, 407, 90, 89, 104, 335, 336, 337, 338, 94, 223, 224, 225, 226, 192, 193, 194, 195, 88, 339, 340, 341, 342, 259, 91, 92, 87, 343, 344, 345, 346, 93, 408, 409, 410, 411, 412, 413, 414, 415, 639, 640, 641, 642, 643, 644, 645, 646, 647, 648, 649, 650, 651, 652, 653, 654, 655, 656, 657, 658, 659, 660, 661, 662, 663, 664, 665, 666, 667] (by decide +kernel) (by decide +kernel)
set_option maxRecDepth 20000 in
theorem gL_law_X7_actorFor : GoodIn wsL_law (wsV RL 140 RX7 yX7_actorFor wsX7_actorFor) := goodIn_app (goodIn_of _ (by decide +kernel)) ggL_law_X7_actorFor
set_option maxRecDepth 20000 in
theorem ggL_law_L_chain : GoodIn wsL_law wsL_chain := goodIn_ca (goodIn_ca (goodIn_r _ [468, 137, 111, 469, 470, 471, 2, 472, 16, 303, 143, 144, 145, 146, 147, 282, 283, 284, 116, 117, 354, 355, 356, 357, 28, 37, 358, 359, 360, 361, 20, 24, 142, 362, 363, 364, 27, 365, 63, 366, 367, 368, 369, 19, 370, 51, 50, 319, 320, 321, 322, 168, 304, 289, 290, 323, 324, 325, 23, 326, 254, 56, 55, 327, 328, 329, 330, 58, 371, 372, 373, 374, 64, 375, 376, 377, 378, 379, 380, 381, 382, 383, 384, 385, 65, 386, 179, 180, 181, 182, 183, 184, 387, 388, 389, 390, 173, 174, 172, 473, 474, 475, 476, 455, 456, 457, 458, 459, 460, 461, 631, 632, 633, 634, 635, 636, 637, 638, 668, 669, 670, 677, 678, 679, 680, 671, 672, 673, 674, 675, 676] (by decide +kernel) (by decide +kernel)) (goodIn_sub (fun _ h => List.mem_append_left _ (List.mem_append_right _ h)) (by decide +kernel))) (goodIn_sub (fun _ h => List.mem_append_left _ (List.mem_append_left _ (List.mem_append_right _ h))) (by decide +kernel))
set_option maxRecDepth 20000 in
theorem gL_law_L_chain : GoodIn wsL_law (va_wsS RL 141 yL_chain wsL_chain) := goodIn_app (goodIn_of _ (by decide +kernel)) ggL_law_L_chain
set_option maxRecDepth 20000 in
theorem ggL_law_X7_chain : GoodIn wsL_law wsX7_chain := goodIn_r _ [480, 122, 106, 105, 86, 155, 156, 5, 157, 123, 124, 125, 126, 127, 128, 129, 309, 310, 311, 399, 400, 401, 402, 398, 403, 404, 405, 406, 407, 90, 89, 104, 335, 336, 337, 338, 94, 223, 224, 225, 226, 192, 193, 194, 195, 88, 339, 340, 341, 342, 259, 91, 92, 87, 343, 344, 345, 346, 93, 408, 409, 410, 411, 412, 413, 414, 415, 639, 640, 641, 642, 643, 644, 645, 646, 647, 648, 649, 650, 651, 652, 653, 654, 655, 656, 657, 658, 659, 660, 661, 662, 663, 664, 665, 666, 667] (by decide +kernel) (by decide +kernel)
set_option maxRecDepth 20000 in
theorem gL_law_X7_chain : GoodIn wsL_law (wsV RL 143 RX7 yX7_chain wsX7_chain) := goodIn_app (goodIn_of _ (by decide +kernel)) ggL_law_X7_chain
set_option maxRecDepth 20000 in
theorem ggL_law_L_show : GoodIn wsL_law wsL_show := goodIn_ca (goodIn_ca (goodIn_r _ [483, 111, 161, 484, 485, 486, 2, 487, 166, 167, 38, 32, 488, 282, 283, 284, 116, 117, 489, 490, 491, 31, 492, 493, 72, 494, 495, 496, 497, 70, 631, 632, 633, 634, 635, 636, 637, 638, 681, 682, 683, 684] (by decide +kernel) (by decide +kernel)) (goodIn_sub (fun _ h => List.mem_append_right _ h) (by decide +kernel))) (goodIn_sub (fun _ h => List.mem_append_left _ (List.mem_append_left _ (List.mem_append_right _ h))) (by decide +kernel))
set_option maxRecDepth 20000 in
theorem gL_law_L_show : GoodIn wsL_law (va_wsS RL 144 yL_show wsL_show) := goodIn_app (goodIn_of _ (by decide +kernel)) ggL_law_L_show
set_option maxRecDepth 20000 in
theorem ggL_law_X7_show : GoodIn wsL_law wsX7_show := goodIn_r _ [501, 122, 295, 502, 95, 97, 123, 124, 5, 125, 126, 127, 128, 129, 503, 504, 505, 506, 639, 640, 641, 642, 643, 644, 645, 646, 647, 648, 649, 650, 651, 652, 653, 654, 655, 656, 657, 658, 659, 660, 661, 662, 663, 664, 665, 666, 667] (by decide +kernel) (by decide +kernel)
set_option maxRecDepth 20000 in
theorem gL_law_X7_show : GoodIn wsL_law (wsV RL 146 RX7 yX7_show wsX7_show) := goodIn_app (goodIn_of _ (by decide +kernel)) ggL_law_X7_show
set_option maxRecDepth 20000 in
theorem ggL_law_L_sell : GoodIn wsL_law wsL_sell := goodIn_ca (goodIn_ca (goodIn_ca (goodIn_r _ [509, 137, 111, 161, 510, 511, 512, 2, 513, 116, 117, 166, 167, 32, 488, 514, 36, 515, 20, 268, 269, 270, 146, 147, 169, 170, 171, 367, 368, 369, 19, 370, 51, 50, 516, 517, 518, 35, 519, 76, 520, 81, 77, 78, 79, 521, 631, 632, 633, 634, 635, 636, 637, 638, 681, 682, 683, 684, 685, 686, 687, 688, 689, 690, 691, 692, 671, 672] (by decide +kernel) (by decide +kernel)) (goodIn_sub (fun _ h => List.mem_append_left _ (List.mem_append_left _ (List.mem_append_right _ h))) (by decide +kernel))) (goodIn_sub (fun _ h => List.mem_append_right _ h) (by decide +kernel))) (goodIn_sub (fun _ h => List.mem_append_left _ (List.mem_append_right _ h)) (by decide +kernel))
set_option maxRecDepth 20000 in
theorem gL_law_L_sell : GoodIn wsL_law (va_wsS RL 147 yL_sell wsL_sell) := goodIn_app (goodIn_of _ (by decide +kernel)) ggL_law_L_sell
set_option maxRecDepth 20000 in
theorem ggL_law_X7_sell : GoodIn wsL_law wsX7_sell := goodIn_r _ [525, 122, 502, 96, 526, 90, 98, 99, 100, 101, 102, 89, 527, 123, 124, 5, 125, 189, 190, 191, 126, 127, 128, 129, 639, 640, 641, 642, 643, 644, 645, 646, 647, 648, 649, 650, 651, 652, 653, 654, 655, 656, 657, 658, 659, 660, 661, 662, 663, 664, 665, 666, 667] (by decide +kernel) (by decide +kernel)
set_option maxRecDepth 20000 in
theorem gL_law_X7_sell : GoodIn wsL_law (wsV RL 150 RX7 yX7_sell wsX7_sell) := goodIn_app (goodIn_of _ (by decide +kernel)) ggL_law_X7_sell
set_option maxRecDepth 20000 in
theorem ggL_law_L_play : GoodIn wsL_law wsL_play := goodIn_ca (goodIn_r _ [530, 161, 531, 532, 533, 2, 534, 166, 167, 38, 32, 489, 490, 491, 31, 492, 493, 72, 535, 536, 537, 538, 16, 303, 514, 37, 539, 354, 355, 356, 357, 28, 358, 359, 360, 361, 20, 24, 142, 362, 363, 364, 27, 365, 63, 366, 367, 368, 369, 19, 370, 51, 50, 319, 320, 321, 322, 168, 304, 289, 290, 323, 324, 325, 23, 326, 254, 56, 55, 327, 328, 329, 330, 58, 371, 372, 373, 374, 64, 375, 376, 377, 378, 379, 380, 381, 382, 383, 384, 385, 65, 386, 179, 180, 181, 182, 183, 184, 387, 388, 389, 390, 173, 174, 455, 456, 457, 458, 459, 460, 461, 540, 541, 542, 543, 544, 545, 546, 547, 548, 549, 550, 551, 36, 515, 552, 553, 554, 555, 556, 557, 558, 559, 391, 392, 393, 560, 561, 562, 35, 563, 81, 80, 521, 631, 632, 633, 634, 635, 636, 637, 638, 681, 682, 683, 684, 668, 669, 670, 677, 678, 679, 680, 671, 672, 673, 674, 675, 676, 685, 686, 687, 688, 689, 690, 691, 692] (by decide +kernel) (by decide +kernel)) (goodIn_sub (fun _ h => List.mem_append_right _ h) (by decide +kernel))
set_option maxRecDepth 20000 in
theorem gL_law_L_play : GoodIn wsL_law (va_wsS RL 151 yL_play wsL_play) := goodIn_app (goodIn_of _ (by decide +kernel)) ggL_law_L_play
set_option maxRecDepth 20000 in
theorem ggL_law_X7_play : GoodIn wsL_law wsX7_play := goodIn_r _ [567, 122, 295, 96, 527, 126, 127, 128, 5, 129, 503, 504, 505, 506, 502, 95, 399, 400, 401, 402, 398, 403, 105, 86, 404, 405, 406, 407, 90, 89, 104, 335, 336, 337, 338, 94, 223, 224, 225, 226, 192, 193, 194, 195, 88, 339, 340, 341, 342, 259, 91, 92, 87, 343, 344, 345, 346, 93, 408, 409, 410, 411, 412, 413, 414, 415, 568, 569, 570, 571, 526, 98, 103, 99, 572, 573, 574, 575, 101, 100, 102, 576, 577, 578, 579, 97, 639, 640, 641, 642, 643, 644, 645, 646, 647, 648, 649, 650, 651, 652, 653, 654, 655, 656, 657, 658, 659, 660, 661, 662, 663, 664, 665, 666, 667] (by decide +kernel) (by decide +kernel)
set_option maxRecDepth 20000 in
theorem gL_law_X7_play : GoodIn wsL_law (wsV RL 154 RX7 yX7_play wsX7_play) := goodIn_app (goodIn_of _ (by decide +kernel)) ggL_law_X7_play
set_option maxRecDepth 20000 in
theorem ggL_law_X6_day : GoodIn wsL_law wsX6_day := goodIn_r _ [583, 38, 631, 632, 633, 634, 635, 636, 637, 638] (by decide +kernel) (by decide +kernel)
set_option maxRecDepth 20000 in
theorem gL_law_X6_day : GoodIn wsL_law (wsV RL 155 RX6 yX6_day wsX6_day) := goodIn_app (goodIn_of _ (by decide +kernel)) ggL_law_X6_day
set_option maxRecDepth 20000 in
theorem ggL_law_X7_day : GoodIn wsL_law wsX7_day := goodIn_r _ [587, 122, 295, 639, 640, 641, 642, 643, 644, 645, 646, 647, 648, 649, 650, 651, 652, 653, 654, 655, 656, 657, 658, 659, 660, 661, 662, 663, 664, 665, 666, 667] (by decide +kernel) (by decide +kernel)
set_option maxRecDepth 20000 in
theorem gL_law_X7_day : GoodIn wsL_law (wsV RL 158 RX7 yX7_day wsX7_day) := goodIn_app (goodIn_of _ (by decide +kernel)) ggL_law_X7_day
set_option maxRecDepth 20000 in
theorem ggL_law_L_stateOf : GoodIn wsL_law wsL_stateOf := goodIn_ca (goodIn_r _ [590, 137, 591, 592, 593, 2, 594, 32, 488, 514, 268, 269, 270, 146, 147, 631, 632, 633, 634, 635, 636, 637, 638, 681, 682, 683, 684] (by decide +kernel) (by decide +kernel)) (goodIn_sub (fun _ h => List.mem_append_left _ (List.mem_append_right _ h)) (by decide +kernel))
set_option maxRecDepth 20000 in
theorem gL_law_L_stateOf : GoodIn wsL_law (va_wsS RL 159 yL_stateOf wsL_stateOf) := goodIn_app (goodIn_of _ (by decide +kernel)) ggL_law_L_stateOf
set_option maxRecDepth 20000 in
theorem ggL_law_X7_stateOf : GoodIn wsL_law wsX7_stateOf := goodIn_r _ [598, 122, 502, 96, 123, 124, 5, 125, 126, 127, 128, 129, 639, 640, 641, 642, 643, 644, 645, 646, 647, 648, 649, 650, 651, 652, 653, 654, 655, 656, 657, 658, 659, 660, 661, 662, 663, 664, 665, 666, 667] (by decide +kernel) (by decide +kernel)
set_option maxRecDepth 20000 in
theorem gL_law_X7_stateOf : GoodIn wsL_law (wsV RL 161 RX7 yX7_stateOf wsX7_stateOf) := goodIn_app (goodIn_of _ (by decide +kernel)) ggL_law_X7_stateOf
set_option maxRecDepth 20000 in
theorem ggL_law_L_played : GoodIn wsL_law wsL_played := goodIn_ca (goodIn_r _ [601, 137, 602, 603, 604, 2, 605, 32, 488, 539, 268, 269, 270, 146, 147, 169, 170, 171, 631, 632, 633, 634, 635, 636, 637, 638, 681, 682, 683, 684] (by decide +kernel) (by decide +kernel)) (goodIn_sub (fun _ h => List.mem_append_left _ (List.mem_append_right _ h)) (by decide +kernel))
set_option maxRecDepth 20000 in
theorem gL_law_L_played : GoodIn wsL_law (va_wsS RL 162 yL_played wsL_played) := goodIn_app (goodIn_of _ (by decide +kernel)) ggL_law_L_played
set_option maxRecDepth 20000 in
theorem ggL_law_X7_played : GoodIn wsL_law wsX7_played := goodIn_r _ [609, 122, 502, 97, 123, 124, 5, 125, 189, 190, 191, 126, 127, 128, 129, 639, 640, 641, 642, 643, 644, 645, 646, 647, 648, 649, 650, 651, 652, 653, 654, 655, 656, 657, 658, 659, 660, 661, 662, 663, 664, 665, 666, 667] (by decide +kernel) (by decide +kernel)
set_option maxRecDepth 20000 in
theorem gL_law_X7_played : GoodIn wsL_law (wsV RL 164 RX7 yX7_played wsX7_played) := goodIn_app (goodIn_of _ (by decide +kernel)) ggL_law_X7_played
set_option maxRecDepth 20000 in
theorem ggL_law_L_refund : GoodIn wsL_law wsL_refund := goodIn_ca (goodIn_r _ [612, 137, 613, 614, 615, 2, 616, 36, 515, 617, 268, 269, 270, 146, 147, 631, 632, 633, 634, 635, 636, 637, 638, 685, 686, 687, 688, 689, 690, 691, 692] (by decide +kernel) (by decide +kernel)) (goodIn_sub (fun _ h => List.mem_append_left _ (List.mem_append_right _ h)) (by decide +kernel))
set_option maxRecDepth 20000 in
theorem gL_law_L_refund : GoodIn wsL_law (va_wsS RL 165 yL_refund wsL_refund) := goodIn_app (goodIn_of _ (by decide +kernel)) ggL_law_L_refund
set_option maxRecDepth 20000 in
theorem ggL_law_X7_refund : GoodIn wsL_law wsX7_refund := goodIn_r _ [621, 122, 526, 103, 123, 124, 5, 125, 126, 127, 128, 129, 639, 640, 641, 642, 643, 644, 645, 646, 647, 648, 649, 650, 651, 652, 653, 654, 655, 656, 657, 658, 659, 660, 661, 662, 663, 664, 665, 666, 667] (by decide +kernel) (by decide +kernel)
set_option maxRecDepth 20000 in
theorem gL_law_X7_refund : GoodIn wsL_law (wsV RL 167 RX7 yX7_refund wsX7_refund) := goodIn_app (goodIn_of _ (by decide +kernel)) ggL_law_X7_refund
set_option maxRecDepth 20000 in
theorem ggL_law_X6_takings : GoodIn wsL_law wsX6_takings := goodIn_r _ [625, 36, 626, 631, 632, 633, 634, 635, 636, 637, 638, 685, 686, 687, 688, 689, 690, 691, 692] (by decide +kernel) (by decide +kernel)
set_option maxRecDepth 20000 in
theorem gL_law_X6_takings : GoodIn wsL_law (wsV RL 168 RX6 yX6_takings wsX6_takings) := goodIn_app (goodIn_of _ (by decide +kernel)) ggL_law_X6_takings
set_option maxRecDepth 20000 in
theorem ggL_law_X7_takings : GoodIn wsL_law wsX7_takings := goodIn_r _ [630, 122, 527, 639, 640, 641, 642, 643, 644, 645, 646, 647, 648, 649, 650, 651, 652, 653, 654, 655, 656, 657, 658, 659, 660, 661, 662, 663, 664, 665, 666, 667] (by decide +kernel) (by decide +kernel)
set_option maxRecDepth 20000 in
theorem gL_law_X7_takings : GoodIn wsL_law (wsV RL 171 RX7 yX7_takings wsX7_takings) := goodIn_app (goodIn_of _ (by decide +kernel)) ggL_law_X7_takings
abbrev vwCl : List vw_C := [(RX0, TX0, 8), (RX1, TX1, 4), (RX2, TX2, 4), (RX3, TX3, 2), (RX4, TX4, 3), (RX5, TX5, 4), (RX6, TX6, 8), (RX7, TX7, 29)]
end
section
theorem dX0_init_0 : decode cX0_init 0 = .ok (.aload_n 0, 1) := by decide +kernel
theorem dX0_init_1 : decode cX0_init 1 = .ok (.invokespecial 3, 3) := by decide +kernel
theorem dX0_init_4 : decode cX0_init 4 = .ok (.aload_n 0, 1) := by decide +kernel
theorem dX0_init_5 : decode cX0_init 5 = .ok (.bipush 100, 2) := by decide +kernel
theorem dX0_init_7 : decode cX0_init 7 = .ok (.newarray .int, 2) := by decide +kernel
theorem dX0_init_9 : decode cX0_init 9 = .ok (.putfield 9, 3) := by decide +kernel
theorem dX0_init_12 : decode cX0_init 12 = .ok (.aload_n 0, 1) := by decide +kernel
theorem dX0_init_13 : decode cX0_init 13 = .ok (.bipush 100, 2) := by decide +kernel
theorem dX0_init_15 : decode cX0_init 15 = .ok (.newarray .int, 2) := by decide +kernel
theorem dX0_init_17 : decode cX0_init 17 = .ok (.putfield 15, 3) := by decide +kernel
theorem dX0_init_20 : decode cX0_init 20 = .ok (.aload_n 0, 1) := by decide +kernel
theorem dX0_init_21 : decode cX0_init 21 = .ok (.bipush 100, 2) := by decide +kernel
theorem dX0_init_23 : decode cX0_init 23 = .ok (.newarray .int, 2) := by decide +kernel
theorem dX0_init_25 : decode cX0_init 25 = .ok (.putfield 18, 3) := by decide +kernel
theorem dX0_init_28 : decode cX0_init 28 = .ok (.aload_n 0, 1) := by decide +kernel
theorem dX0_init_29 : decode cX0_init 29 = .ok (.bipush 100, 2) := by decide +kernel
theorem dX0_init_31 : decode cX0_init 31 = .ok (.newarray .int, 2) := by decide +kernel
theorem dX0_init_33 : decode cX0_init 33 = .ok (.putfield 21, 3) := by decide +kernel
theorem dX0_init_36 : decode cX0_init 36 = .ok (.aload_n 0, 1) := by decide +kernel
theorem dX0_init_37 : decode cX0_init 37 = .ok (.bipush 100, 2) := by decide +kernel
theorem dX0_init_39 : decode cX0_init 39 = .ok (.newarray .int, 2) := by decide +kernel
theorem dX0_init_41 : decode cX0_init 41 = .ok (.putfield 24, 3) := by decide +kernel
theorem dX0_init_44 : decode cX0_init 44 = .ok (.aload_n 0, 1) := by decide +kernel
theorem dX0_init_45 : decode cX0_init 45 = .ok (.bipush 100, 2) := by decide +kernel
theorem dX0_init_47 : decode cX0_init 47 = .ok (.newarray .int, 2) := by decide +kernel
theorem dX0_init_49 : decode cX0_init 49 = .ok (.putfield 27, 3) := by decide +kernel
theorem dX0_init_52 : decode cX0_init 52 = .ok (.return_, 1) := by decide +kernel
theorem dX0_add_0 : decode cX0_add 0 = .ok (.aload_n 0, 1) := by decide +kernel
theorem dX0_add_1 : decode cX0_add 1 = .ok (.getfield 9, 3) := by decide +kernel
theorem dX0_add_4 : decode cX0_add 4 = .ok (.aload_n 0, 1) := by decide +kernel
theorem dX0_add_5 : decode cX0_add 5 = .ok (.getfield 30, 3) := by decide +kernel
theorem dX0_add_8 : decode cX0_add 8 = .ok (.iload_n 1, 1) := by decide +kernel
theorem dX0_add_9 : decode cX0_add 9 = .ok (.iastore, 1) := by decide +kernel
theorem dX0_add_10 : decode cX0_add 10 = .ok (.aload_n 0, 1) := by decide +kernel
theorem dX0_add_11 : decode cX0_add 11 = .ok (.getfield 27, 3) := by decide +kernel
theorem dX0_add_14 : decode cX0_add 14 = .ok (.aload_n 0, 1) := by decide +kernel
theorem dX0_add_15 : decode cX0_add 15 = .ok (.getfield 30, 3) := by decide +kernel
theorem dX0_add_18 : decode cX0_add 18 = .ok (.iload_n 2, 1) := by decide +kernel
theorem dX0_add_19 : decode cX0_add 19 = .ok (.iastore, 1) := by decide +kernel
theorem dX0_add_20 : decode cX0_add 20 = .ok (.aload_n 0, 1) := by decide +kernel
theorem dX0_add_21 : decode cX0_add 21 = .ok (.getfield 15, 3) := by decide +kernel
theorem dX0_add_24 : decode cX0_add 24 = .ok (.aload_n 0, 1) := by decide +kernel
theorem dX0_add_25 : decode cX0_add 25 = .ok (.getfield 30, 3) := by decide +kernel
theorem dX0_add_28 : decode cX0_add 28 = .ok (.iload_n 3, 1) := by decide +kernel
theorem dX0_add_29 : decode cX0_add 29 = .ok (.iastore, 1) := by decide +kernel
theorem dX0_add_30 : decode cX0_add 30 = .ok (.aload_n 0, 1) := by decide +kernel
theorem dX0_add_31 : decode cX0_add 31 = .ok (.getfield 18, 3) := by decide +kernel
theorem dX0_add_34 : decode cX0_add 34 = .ok (.aload_n 0, 1) := by decide +kernel
theorem dX0_add_35 : decode cX0_add 35 = .ok (.getfield 30, 3) := by decide +kernel
theorem dX0_add_38 : decode cX0_add 38 = .ok (.iload 4, 2) := by decide +kernel
theorem dX0_add_40 : decode cX0_add 40 = .ok (.iastore, 1) := by decide +kernel
theorem dX0_add_41 : decode cX0_add 41 = .ok (.aload_n 0, 1) := by decide +kernel
theorem dX0_add_42 : decode cX0_add 42 = .ok (.getfield 21, 3) := by decide +kernel
theorem dX0_add_45 : decode cX0_add 45 = .ok (.aload_n 0, 1) := by decide +kernel
theorem dX0_add_46 : decode cX0_add 46 = .ok (.getfield 30, 3) := by decide +kernel
theorem dX0_add_49 : decode cX0_add 49 = .ok (.iload 5, 2) := by decide +kernel
theorem dX0_add_51 : decode cX0_add 51 = .ok (.iastore, 1) := by decide +kernel
theorem dX0_add_52 : decode cX0_add 52 = .ok (.aload_n 0, 1) := by decide +kernel
theorem dX0_add_53 : decode cX0_add 53 = .ok (.dup, 1) := by decide +kernel
theorem dX0_add_54 : decode cX0_add 54 = .ok (.getfield 34, 3) := by decide +kernel
theorem dX0_add_57 : decode cX0_add 57 = .ok (.iload_n 2, 1) := by decide +kernel
theorem dX0_add_58 : decode cX0_add 58 = .ok (.iadd, 1) := by decide +kernel
theorem dX0_add_59 : decode cX0_add 59 = .ok (.putfield 34, 3) := by decide +kernel
theorem dX0_add_62 : decode cX0_add 62 = .ok (.aload_n 0, 1) := by decide +kernel
theorem dX0_add_63 : decode cX0_add 63 = .ok (.dup, 1) := by decide +kernel
theorem dX0_add_64 : decode cX0_add 64 = .ok (.getfield 30, 3) := by decide +kernel
theorem dX0_add_67 : decode cX0_add 67 = .ok (.iconst 1, 1) := by decide +kernel
theorem dX0_add_68 : decode cX0_add 68 = .ok (.iadd, 1) := by decide +kernel
theorem dX0_add_69 : decode cX0_add 69 = .ok (.putfield 30, 3) := by decide +kernel
theorem dX0_add_72 : decode cX0_add 72 = .ok (.aload_n 0, 1) := by decide +kernel
theorem dX0_add_73 : decode cX0_add 73 = .ok (.getfield 30, 3) := by decide +kernel
theorem dX0_add_76 : decode cX0_add 76 = .ok (.iconst 1, 1) := by decide +kernel
theorem dX0_add_77 : decode cX0_add 77 = .ok (.isub, 1) := by decide +kernel
theorem dX0_add_78 : decode cX0_add 78 = .ok (.ireturn, 1) := by decide +kernel
theorem dX0_giveBack_0 : decode cX0_giveBack 0 = .ok (.iload_n 2, 1) := by decide +kernel
theorem dX0_giveBack_1 : decode cX0_giveBack 1 = .ok (.ifCond .gt 7, 3) := by decide +kernel
theorem dX0_giveBack_4 : decode cX0_giveBack 4 = .ok (.iconst 0, 1) := by decide +kernel
theorem dX0_giveBack_5 : decode cX0_giveBack 5 = .ok (.goto 15, 3) := by decide +kernel
theorem dX0_giveBack_8 : decode cX0_giveBack 8 = .ok (.aload_n 0, 1) := by decide +kernel
theorem dX0_giveBack_9 : decode cX0_giveBack 9 = .ok (.getfield 27, 3) := by decide +kernel
theorem dX0_giveBack_12 : decode cX0_giveBack 12 = .ok (.iload_n 1, 1) := by decide +kernel
theorem dX0_giveBack_13 : decode cX0_giveBack 13 = .ok (.iaload, 1) := by decide +kernel
theorem dX0_giveBack_14 : decode cX0_giveBack 14 = .ok (.iload_n 2, 1) := by decide +kernel
theorem dX0_giveBack_15 : decode cX0_giveBack 15 = .ok (.iadd, 1) := by decide +kernel
theorem dX0_giveBack_16 : decode cX0_giveBack 16 = .ok (.iconst 1, 1) := by decide +kernel
theorem dX0_giveBack_17 : decode cX0_giveBack 17 = .ok (.isub, 1) := by decide +kernel
theorem dX0_giveBack_18 : decode cX0_giveBack 18 = .ok (.iload_n 2, 1) := by decide +kernel
theorem dX0_giveBack_19 : decode cX0_giveBack 19 = .ok (.idiv, 1) := by decide +kernel
theorem dX0_giveBack_20 : decode cX0_giveBack 20 = .ok (.istore_n 3, 1) := by decide +kernel
theorem dX0_giveBack_21 : decode cX0_giveBack 21 = .ok (.aload_n 0, 1) := by decide +kernel
theorem dX0_giveBack_22 : decode cX0_giveBack 22 = .ok (.getfield 24, 3) := by decide +kernel
theorem dX0_giveBack_25 : decode cX0_giveBack 25 = .ok (.iload_n 1, 1) := by decide +kernel
theorem dX0_giveBack_26 : decode cX0_giveBack 26 = .ok (.iload_n 3, 1) := by decide +kernel
theorem dX0_giveBack_27 : decode cX0_giveBack 27 = .ok (.iastore, 1) := by decide +kernel
theorem dX0_giveBack_28 : decode cX0_giveBack 28 = .ok (.aload_n 0, 1) := by decide +kernel
theorem dX0_giveBack_29 : decode cX0_giveBack 29 = .ok (.dup, 1) := by decide +kernel
theorem dX0_giveBack_30 : decode cX0_giveBack 30 = .ok (.getfield 34, 3) := by decide +kernel
theorem dX0_giveBack_33 : decode cX0_giveBack 33 = .ok (.iload_n 3, 1) := by decide +kernel
theorem dX0_giveBack_34 : decode cX0_giveBack 34 = .ok (.isub, 1) := by decide +kernel
theorem dX0_giveBack_35 : decode cX0_giveBack 35 = .ok (.putfield 34, 3) := by decide +kernel
theorem dX0_giveBack_38 : decode cX0_giveBack 38 = .ok (.iload_n 3, 1) := by decide +kernel
theorem dX0_giveBack_39 : decode cX0_giveBack 39 = .ok (.ireturn, 1) := by decide +kernel
theorem dX1_init_0 : decode cX1_init 0 = .ok (.aload_n 0, 1) := by decide +kernel
theorem dX1_init_1 : decode cX1_init 1 = .ok (.invokespecial 5, 3) := by decide +kernel
theorem dX1_init_4 : decode cX1_init 4 = .ok (.aload_n 0, 1) := by decide +kernel
theorem dX1_init_5 : decode cX1_init 5 = .ok (.bipush 32, 2) := by decide +kernel
theorem dX1_init_7 : decode cX1_init 7 = .ok (.newarray .int, 2) := by decide +kernel
theorem dX1_init_9 : decode cX1_init 9 = .ok (.putfield 11, 3) := by decide +kernel
theorem dX1_init_12 : decode cX1_init 12 = .ok (.aload_n 0, 1) := by decide +kernel
theorem dX1_init_13 : decode cX1_init 13 = .ok (.bipush 32, 2) := by decide +kernel
theorem dX1_init_15 : decode cX1_init 15 = .ok (.newarray .int, 2) := by decide +kernel
theorem dX1_init_17 : decode cX1_init 17 = .ok (.putfield 15, 3) := by decide +kernel
theorem dX1_init_20 : decode cX1_init 20 = .ok (.aload_n 0, 1) := by decide +kernel
theorem dX1_init_21 : decode cX1_init 21 = .ok (.sipush 4096, 3) := by decide +kernel
theorem dX1_init_24 : decode cX1_init 24 = .ok (.newarray .int, 2) := by decide +kernel
theorem dX1_init_26 : decode cX1_init 26 = .ok (.putfield 18, 3) := by decide +kernel
theorem dX1_init_29 : decode cX1_init 29 = .ok (.iconst 0, 1) := by decide +kernel
theorem dX1_init_30 : decode cX1_init 30 = .ok (.istore_n 1, 1) := by decide +kernel
theorem dX1_init_31 : decode cX1_init 31 = .ok (.iload_n 1, 1) := by decide +kernel
theorem dX1_init_32 : decode cX1_init 32 = .ok (.aload_n 0, 1) := by decide +kernel
theorem dX1_init_33 : decode cX1_init 33 = .ok (.getfield 18, 3) := by decide +kernel
theorem dX1_init_36 : decode cX1_init 36 = .ok (.arraylength, 1) := by decide +kernel
theorem dX1_init_37 : decode cX1_init 37 = .ok (.if_icmp .ge 16, 3) := by decide +kernel
theorem dX1_init_40 : decode cX1_init 40 = .ok (.aload_n 0, 1) := by decide +kernel
theorem dX1_init_41 : decode cX1_init 41 = .ok (.getfield 18, 3) := by decide +kernel
theorem dX1_init_44 : decode cX1_init 44 = .ok (.iload_n 1, 1) := by decide +kernel
theorem dX1_init_45 : decode cX1_init 45 = .ok (.iconst (-1), 1) := by decide +kernel
theorem dX1_init_46 : decode cX1_init 46 = .ok (.iastore, 1) := by decide +kernel
theorem dX1_init_47 : decode cX1_init 47 = .ok (.iinc 1 1, 3) := by decide +kernel
theorem dX1_init_50 : decode cX1_init 50 = .ok (.goto (-19), 3) := by decide +kernel
theorem dX1_init_53 : decode cX1_init 53 = .ok (.return_, 1) := by decide +kernel
theorem dX1_strainOf_0 : decode cX1_strainOf 0 = .ok (.iload_n 0, 1) := by decide +kernel
theorem dX1_strainOf_1 : decode cX1_strainOf 1 = .ok (.bipush 20, 2) := by decide +kernel
theorem dX1_strainOf_3 : decode cX1_strainOf 3 = .ok (.ishr, 1) := by decide +kernel
theorem dX1_strainOf_4 : decode cX1_strainOf 4 = .ok (.ireturn, 1) := by decide +kernel
theorem dX1_workOf_0 : decode cX1_workOf 0 = .ok (.iload_n 0, 1) := by decide +kernel
theorem dX1_workOf_1 : decode cX1_workOf 1 = .ok (.bipush 16, 2) := by decide +kernel
theorem dX1_workOf_3 : decode cX1_workOf 3 = .ok (.ishr, 1) := by decide +kernel
theorem dX1_workOf_4 : decode cX1_workOf 4 = .ok (.bipush 15, 2) := by decide +kernel
theorem dX1_workOf_6 : decode cX1_workOf 6 = .ok (.iand, 1) := by decide +kernel
theorem dX1_workOf_7 : decode cX1_workOf 7 = .ok (.ireturn, 1) := by decide +kernel
theorem dX1_rankOf_0 : decode cX1_rankOf 0 = .ok (.iload_n 0, 1) := by decide +kernel
theorem dX1_rankOf_1 : decode cX1_rankOf 1 = .ok (.iload_n 1, 1) := by decide +kernel
theorem dX1_rankOf_2 : decode cX1_rankOf 2 = .ok (.invokestatic 21, 3) := by decide +kernel
theorem dX1_rankOf_5 : decode cX1_rankOf 5 = .ok (.ishr, 1) := by decide +kernel
theorem dX1_rankOf_6 : decode cX1_rankOf 6 = .ok (.iconst 3, 1) := by decide +kernel
theorem dX1_rankOf_7 : decode cX1_rankOf 7 = .ok (.iand, 1) := by decide +kernel
theorem dX1_rankOf_8 : decode cX1_rankOf 8 = .ok (.ireturn, 1) := by decide +kernel
theorem dX1_rankShift_0 : decode cX1_rankShift 0 = .ok (.bipush 7, 2) := by decide +kernel
theorem dX1_rankShift_2 : decode cX1_rankShift 2 = .ok (.iload_n 0, 1) := by decide +kernel
theorem dX1_rankShift_3 : decode cX1_rankShift 3 = .ok (.isub, 1) := by decide +kernel
theorem dX1_rankShift_4 : decode cX1_rankShift 4 = .ok (.iconst 2, 1) := by decide +kernel
theorem dX1_rankShift_5 : decode cX1_rankShift 5 = .ok (.imul, 1) := by decide +kernel
theorem dX1_rankShift_6 : decode cX1_rankShift 6 = .ok (.ireturn, 1) := by decide +kernel
theorem dX1_clear_0 : decode cX1_clear 0 = .ok (.iconst 0, 1) := by decide +kernel
theorem dX1_clear_1 : decode cX1_clear 1 = .ok (.istore_n 1, 1) := by decide +kernel
theorem dX1_clear_2 : decode cX1_clear 2 = .ok (.iload_n 1, 1) := by decide +kernel
theorem dX1_clear_3 : decode cX1_clear 3 = .ok (.aload_n 0, 1) := by decide +kernel
theorem dX1_clear_4 : decode cX1_clear 4 = .ok (.getfield 11, 3) := by decide +kernel
theorem dX1_clear_7 : decode cX1_clear 7 = .ok (.arraylength, 1) := by decide +kernel
theorem dX1_clear_8 : decode cX1_clear 8 = .ok (.if_icmp .ge 16, 3) := by decide +kernel
theorem dX1_clear_11 : decode cX1_clear 11 = .ok (.aload_n 0, 1) := by decide +kernel
theorem dX1_clear_12 : decode cX1_clear 12 = .ok (.getfield 11, 3) := by decide +kernel
theorem dX1_clear_15 : decode cX1_clear 15 = .ok (.iload_n 1, 1) := by decide +kernel
theorem dX1_clear_16 : decode cX1_clear 16 = .ok (.iconst (-1), 1) := by decide +kernel
theorem dX1_clear_17 : decode cX1_clear 17 = .ok (.iastore, 1) := by decide +kernel
theorem dX1_clear_18 : decode cX1_clear 18 = .ok (.iinc 1 1, 3) := by decide +kernel
theorem dX1_clear_21 : decode cX1_clear 21 = .ok (.goto (-19), 3) := by decide +kernel
theorem dX1_clear_24 : decode cX1_clear 24 = .ok (.aload_n 0, 1) := by decide +kernel
theorem dX1_clear_25 : decode cX1_clear 25 = .ok (.iconst 1, 1) := by decide +kernel
theorem dX1_clear_26 : decode cX1_clear 26 = .ok (.putfield 25, 3) := by decide +kernel
theorem dX1_clear_29 : decode cX1_clear 29 = .ok (.return_, 1) := by decide +kernel
theorem dX1_offer_0 : decode cX1_offer 0 = .ok (.iload_n 1, 1) := by decide +kernel
theorem dX1_offer_1 : decode cX1_offer 1 = .ok (.iconst 4, 1) := by decide +kernel
theorem dX1_offer_2 : decode cX1_offer 2 = .ok (.imul, 1) := by decide +kernel
theorem dX1_offer_3 : decode cX1_offer 3 = .ok (.iload_n 2, 1) := by decide +kernel
theorem dX1_offer_4 : decode cX1_offer 4 = .ok (.iadd, 1) := by decide +kernel
theorem dX1_offer_5 : decode cX1_offer 5 = .ok (.istore 5, 2) := by decide +kernel
theorem dX1_offer_7 : decode cX1_offer 7 = .ok (.aload_n 0, 1) := by decide +kernel
theorem dX1_offer_8 : decode cX1_offer 8 = .ok (.getfield 11, 3) := by decide +kernel
theorem dX1_offer_11 : decode cX1_offer 11 = .ok (.iload 5, 2) := by decide +kernel
theorem dX1_offer_13 : decode cX1_offer 13 = .ok (.iload_n 3, 1) := by decide +kernel
theorem dX1_offer_14 : decode cX1_offer 14 = .ok (.iastore, 1) := by decide +kernel
theorem dX1_offer_15 : decode cX1_offer 15 = .ok (.aload_n 0, 1) := by decide +kernel
theorem dX1_offer_16 : decode cX1_offer 16 = .ok (.getfield 15, 3) := by decide +kernel
theorem dX1_offer_19 : decode cX1_offer 19 = .ok (.iload 5, 2) := by decide +kernel
theorem dX1_offer_21 : decode cX1_offer 21 = .ok (.iload_n 2, 1) := by decide +kernel
theorem dX1_offer_22 : decode cX1_offer 22 = .ok (.bipush 20, 2) := by decide +kernel
theorem dX1_offer_24 : decode cX1_offer 24 = .ok (.ishl, 1) := by decide +kernel
theorem dX1_offer_25 : decode cX1_offer 25 = .ok (.iload 4, 2) := by decide +kernel
theorem dX1_offer_27 : decode cX1_offer 27 = .ok (.bipush 16, 2) := by decide +kernel
theorem dX1_offer_29 : decode cX1_offer 29 = .ok (.ishl, 1) := by decide +kernel
theorem dX1_offer_30 : decode cX1_offer 30 = .ok (.iadd, 1) := by decide +kernel
theorem dX1_offer_31 : decode cX1_offer 31 = .ok (.iload_n 2, 1) := by decide +kernel
theorem dX1_offer_32 : decode cX1_offer 32 = .ok (.iload_n 1, 1) := by decide +kernel
theorem dX1_offer_33 : decode cX1_offer 33 = .ok (.invokestatic 21, 3) := by decide +kernel
theorem dX1_offer_36 : decode cX1_offer 36 = .ok (.ishl, 1) := by decide +kernel
theorem dX1_offer_37 : decode cX1_offer 37 = .ok (.iadd, 1) := by decide +kernel
theorem dX1_offer_38 : decode cX1_offer 38 = .ok (.iastore, 1) := by decide +kernel
theorem dX1_offer_39 : decode cX1_offer 39 = .ok (.aload_n 0, 1) := by decide +kernel
theorem dX1_offer_40 : decode cX1_offer 40 = .ok (.aload_n 0, 1) := by decide +kernel
theorem dX1_offer_41 : decode cX1_offer 41 = .ok (.getfield 25, 3) := by decide +kernel
theorem dX1_offer_44 : decode cX1_offer 44 = .ok (.iconst 2, 1) := by decide +kernel
theorem dX1_offer_45 : decode cX1_offer 45 = .ok (.iload_n 3, 1) := by decide +kernel
theorem dX1_offer_46 : decode cX1_offer 46 = .ok (.ishl, 1) := by decide +kernel
theorem dX1_offer_47 : decode cX1_offer 47 = .ok (.invokestatic 29, 3) := by decide +kernel
theorem dX1_offer_50 : decode cX1_offer 50 = .ok (.putfield 25, 3) := by decide +kernel
theorem dX1_offer_53 : decode cX1_offer 53 = .ok (.return_, 1) := by decide +kernel
theorem dX1_leastKey_0 : decode cX1_leastKey 0 = .ok (.iconst (-1), 1) := by decide +kernel
theorem dX1_leastKey_1 : decode cX1_leastKey 1 = .ok (.istore_n 2, 1) := by decide +kernel
theorem dX1_leastKey_2 : decode cX1_leastKey 2 = .ok (.aload_n 0, 1) := by decide +kernel
theorem dX1_leastKey_3 : decode cX1_leastKey 3 = .ok (.getfield 18, 3) := by decide +kernel
theorem dX1_leastKey_6 : decode cX1_leastKey 6 = .ok (.iconst 0, 1) := by decide +kernel
theorem dX1_leastKey_7 : decode cX1_leastKey 7 = .ok (.iconst 0, 1) := by decide +kernel
theorem dX1_leastKey_8 : decode cX1_leastKey 8 = .ok (.iastore, 1) := by decide +kernel
theorem dX1_leastKey_9 : decode cX1_leastKey 9 = .ok (.iconst 0, 1) := by decide +kernel
theorem dX1_leastKey_10 : decode cX1_leastKey 10 = .ok (.istore_n 3, 1) := by decide +kernel
theorem dX1_leastKey_11 : decode cX1_leastKey 11 = .ok (.iload_n 3, 1) := by decide +kernel
theorem dX1_leastKey_12 : decode cX1_leastKey 12 = .ok (.aload_n 0, 1) := by decide +kernel
theorem dX1_leastKey_13 : decode cX1_leastKey 13 = .ok (.getfield 25, 3) := by decide +kernel
theorem dX1_leastKey_16 : decode cX1_leastKey 16 = .ok (.if_icmp .ge 71, 3) := by decide +kernel
theorem dX1_leastKey_19 : decode cX1_leastKey 19 = .ok (.aload_n 0, 1) := by decide +kernel
theorem dX1_leastKey_20 : decode cX1_leastKey 20 = .ok (.getfield 18, 3) := by decide +kernel
theorem dX1_leastKey_23 : decode cX1_leastKey 23 = .ok (.iload_n 3, 1) := by decide +kernel
theorem dX1_leastKey_24 : decode cX1_leastKey 24 = .ok (.iaload, 1) := by decide +kernel
theorem dX1_leastKey_25 : decode cX1_leastKey 25 = .ok (.istore 4, 2) := by decide +kernel
theorem dX1_leastKey_27 : decode cX1_leastKey 27 = .ok (.aload_n 0, 1) := by decide +kernel
theorem dX1_leastKey_28 : decode cX1_leastKey 28 = .ok (.getfield 18, 3) := by decide +kernel
theorem dX1_leastKey_31 : decode cX1_leastKey 31 = .ok (.iload_n 3, 1) := by decide +kernel
theorem dX1_leastKey_32 : decode cX1_leastKey 32 = .ok (.iconst (-1), 1) := by decide +kernel
theorem dX1_leastKey_33 : decode cX1_leastKey 33 = .ok (.iastore, 1) := by decide +kernel
theorem dX1_leastKey_34 : decode cX1_leastKey 34 = .ok (.iload 4, 2) := by decide +kernel
theorem dX1_leastKey_36 : decode cX1_leastKey 36 = .ok (.iconst (-1), 1) := by decide +kernel
theorem dX1_leastKey_37 : decode cX1_leastKey 37 = .ok (.if_icmp .ne 6, 3) := by decide +kernel
theorem dX1_leastKey_40 : decode cX1_leastKey 40 = .ok (.goto 41, 3) := by decide +kernel
theorem dX1_leastKey_43 : decode cX1_leastKey 43 = .ok (.iload_n 3, 1) := by decide +kernel
theorem dX1_leastKey_44 : decode cX1_leastKey 44 = .ok (.invokestatic 35, 3) := by decide +kernel
theorem dX1_leastKey_47 : decode cX1_leastKey 47 = .ok (.istore 5, 2) := by decide +kernel
theorem dX1_leastKey_49 : decode cX1_leastKey 49 = .ok (.iload 5, 2) := by decide +kernel
theorem dX1_leastKey_51 : decode cX1_leastKey 51 = .ok (.iload_n 1, 1) := by decide +kernel
theorem dX1_leastKey_52 : decode cX1_leastKey 52 = .ok (.if_icmp .ge 15, 3) := by decide +kernel
theorem dX1_leastKey_55 : decode cX1_leastKey 55 = .ok (.aload_n 0, 1) := by decide +kernel
theorem dX1_leastKey_56 : decode cX1_leastKey 56 = .ok (.iload 5, 2) := by decide +kernel
theorem dX1_leastKey_58 : decode cX1_leastKey 58 = .ok (.iload_n 3, 1) := by decide +kernel
theorem dX1_leastKey_59 : decode cX1_leastKey 59 = .ok (.iload 4, 2) := by decide +kernel
theorem dX1_leastKey_61 : decode cX1_leastKey 61 = .ok (.invokevirtual 40, 3) := by decide +kernel
theorem dX1_leastKey_64 : decode cX1_leastKey 64 = .ok (.goto 17, 3) := by decide +kernel
theorem dX1_leastKey_67 : decode cX1_leastKey 67 = .ok (.iload_n 2, 1) := by decide +kernel
theorem dX1_leastKey_68 : decode cX1_leastKey 68 = .ok (.iconst (-1), 1) := by decide +kernel
theorem dX1_leastKey_69 : decode cX1_leastKey 69 = .ok (.if_icmp .eq 9, 3) := by decide +kernel
theorem dX1_leastKey_72 : decode cX1_leastKey 72 = .ok (.iload 4, 2) := by decide +kernel
theorem dX1_leastKey_74 : decode cX1_leastKey 74 = .ok (.iload_n 2, 1) := by decide +kernel
theorem dX1_leastKey_75 : decode cX1_leastKey 75 = .ok (.if_icmp .ge 6, 3) := by decide +kernel
theorem dX1_leastKey_78 : decode cX1_leastKey 78 = .ok (.iload 4, 2) := by decide +kernel
theorem dX1_leastKey_80 : decode cX1_leastKey 80 = .ok (.istore_n 2, 1) := by decide +kernel
theorem dX1_leastKey_81 : decode cX1_leastKey 81 = .ok (.iinc 3 1, 3) := by decide +kernel
theorem dX1_leastKey_84 : decode cX1_leastKey 84 = .ok (.goto (-73), 3) := by decide +kernel
theorem dX1_leastKey_87 : decode cX1_leastKey 87 = .ok (.iload_n 2, 1) := by decide +kernel
theorem dX1_leastKey_88 : decode cX1_leastKey 88 = .ok (.ireturn, 1) := by decide +kernel
theorem dX1_castPart_0 : decode cX1_castPart 0 = .ok (.iconst 0, 1) := by decide +kernel
theorem dX1_castPart_1 : decode cX1_castPart 1 = .ok (.istore 4, 2) := by decide +kernel
theorem dX1_castPart_3 : decode cX1_castPart 3 = .ok (.iload 4, 2) := by decide +kernel
theorem dX1_castPart_5 : decode cX1_castPart 5 = .ok (.iconst 4, 1) := by decide +kernel
theorem dX1_castPart_6 : decode cX1_castPart 6 = .ok (.if_icmp .ge 92, 3) := by decide +kernel
theorem dX1_castPart_9 : decode cX1_castPart 9 = .ok (.iload_n 1, 1) := by decide +kernel
theorem dX1_castPart_10 : decode cX1_castPart 10 = .ok (.iconst 4, 1) := by decide +kernel
theorem dX1_castPart_11 : decode cX1_castPart 11 = .ok (.imul, 1) := by decide +kernel
theorem dX1_castPart_12 : decode cX1_castPart 12 = .ok (.iload 4, 2) := by decide +kernel
theorem dX1_castPart_14 : decode cX1_castPart 14 = .ok (.iadd, 1) := by decide +kernel
theorem dX1_castPart_15 : decode cX1_castPart 15 = .ok (.istore 5, 2) := by decide +kernel
theorem dX1_castPart_17 : decode cX1_castPart 17 = .ok (.aload_n 0, 1) := by decide +kernel
theorem dX1_castPart_18 : decode cX1_castPart 18 = .ok (.getfield 11, 3) := by decide +kernel
theorem dX1_castPart_21 : decode cX1_castPart 21 = .ok (.iload 5, 2) := by decide +kernel
theorem dX1_castPart_23 : decode cX1_castPart 23 = .ok (.iaload, 1) := by decide +kernel
theorem dX1_castPart_24 : decode cX1_castPart 24 = .ok (.istore 6, 2) := by decide +kernel
theorem dX1_castPart_26 : decode cX1_castPart 26 = .ok (.iload 6, 2) := by decide +kernel
theorem dX1_castPart_28 : decode cX1_castPart 28 = .ok (.iconst (-1), 1) := by decide +kernel
theorem dX1_castPart_29 : decode cX1_castPart 29 = .ok (.if_icmp .eq 63, 3) := by decide +kernel
theorem dX1_castPart_32 : decode cX1_castPart 32 = .ok (.iload_n 2, 1) := by decide +kernel
theorem dX1_castPart_33 : decode cX1_castPart 33 = .ok (.iload 6, 2) := by decide +kernel
theorem dX1_castPart_35 : decode cX1_castPart 35 = .ok (.invokestatic 44, 3) := by decide +kernel
theorem dX1_castPart_38 : decode cX1_castPart 38 = .ok (.ifCond .ne 54, 3) := by decide +kernel
theorem dX1_castPart_41 : decode cX1_castPart 41 = .ok (.iload_n 2, 1) := by decide +kernel
theorem dX1_castPart_42 : decode cX1_castPart 42 = .ok (.iload 6, 2) := by decide +kernel
theorem dX1_castPart_44 : decode cX1_castPart 44 = .ok (.invokestatic 48, 3) := by decide +kernel
theorem dX1_castPart_47 : decode cX1_castPart 47 = .ok (.istore 7, 2) := by decide +kernel
theorem dX1_castPart_49 : decode cX1_castPart 49 = .ok (.iload_n 3, 1) := by decide +kernel
theorem dX1_castPart_50 : decode cX1_castPart 50 = .ok (.aload_n 0, 1) := by decide +kernel
theorem dX1_castPart_51 : decode cX1_castPart 51 = .ok (.getfield 15, 3) := by decide +kernel
theorem dX1_castPart_54 : decode cX1_castPart 54 = .ok (.iload 5, 2) := by decide +kernel
theorem dX1_castPart_56 : decode cX1_castPart 56 = .ok (.iaload, 1) := by decide +kernel
theorem dX1_castPart_57 : decode cX1_castPart 57 = .ok (.iadd, 1) := by decide +kernel
theorem dX1_castPart_58 : decode cX1_castPart 58 = .ok (.istore 8, 2) := by decide +kernel
theorem dX1_castPart_60 : decode cX1_castPart 60 = .ok (.aload_n 0, 1) := by decide +kernel
theorem dX1_castPart_61 : decode cX1_castPart 61 = .ok (.getfield 18, 3) := by decide +kernel
theorem dX1_castPart_64 : decode cX1_castPart 64 = .ok (.iload 7, 2) := by decide +kernel
theorem dX1_castPart_66 : decode cX1_castPart 66 = .ok (.iaload, 1) := by decide +kernel
theorem dX1_castPart_67 : decode cX1_castPart 67 = .ok (.iconst (-1), 1) := by decide +kernel
theorem dX1_castPart_68 : decode cX1_castPart 68 = .ok (.if_icmp .eq 15, 3) := by decide +kernel
theorem dX1_castPart_71 : decode cX1_castPart 71 = .ok (.iload 8, 2) := by decide +kernel
theorem dX1_castPart_73 : decode cX1_castPart 73 = .ok (.aload_n 0, 1) := by decide +kernel
theorem dX1_castPart_74 : decode cX1_castPart 74 = .ok (.getfield 18, 3) := by decide +kernel
theorem dX1_castPart_77 : decode cX1_castPart 77 = .ok (.iload 7, 2) := by decide +kernel
theorem dX1_castPart_79 : decode cX1_castPart 79 = .ok (.iaload, 1) := by decide +kernel
theorem dX1_castPart_80 : decode cX1_castPart 80 = .ok (.if_icmp .ge 12, 3) := by decide +kernel
theorem dX1_castPart_83 : decode cX1_castPart 83 = .ok (.aload_n 0, 1) := by decide +kernel
theorem dX1_castPart_84 : decode cX1_castPart 84 = .ok (.getfield 18, 3) := by decide +kernel
theorem dX1_castPart_87 : decode cX1_castPart 87 = .ok (.iload 7, 2) := by decide +kernel
theorem dX1_castPart_89 : decode cX1_castPart 89 = .ok (.iload 8, 2) := by decide +kernel
theorem dX1_castPart_91 : decode cX1_castPart 91 = .ok (.iastore, 1) := by decide +kernel
theorem dX1_castPart_92 : decode cX1_castPart 92 = .ok (.iinc 4 1, 3) := by decide +kernel
theorem dX1_castPart_95 : decode cX1_castPart 95 = .ok (.goto (-92), 3) := by decide +kernel
theorem dX1_castPart_98 : decode cX1_castPart 98 = .ok (.return_, 1) := by decide +kernel
theorem dX1_leastStrain_0 : decode cX1_leastStrain 0 = .ok (.aload_n 0, 1) := by decide +kernel
theorem dX1_leastStrain_1 : decode cX1_leastStrain 1 = .ok (.getfield 11, 3) := by decide +kernel
theorem dX1_leastStrain_4 : decode cX1_leastStrain 4 = .ok (.iload_n 1, 1) := by decide +kernel
theorem dX1_leastStrain_5 : decode cX1_leastStrain 5 = .ok (.iconst 0, 1) := by decide +kernel
theorem dX1_leastStrain_6 : decode cX1_leastStrain 6 = .ok (.iconst 0, 1) := by decide +kernel
theorem dX1_leastStrain_7 : decode cX1_leastStrain 7 = .ok (.invokestatic 51, 3) := by decide +kernel
theorem dX1_leastStrain_10 : decode cX1_leastStrain 10 = .ok (.ireturn, 1) := by decide +kernel
theorem dX1_leastFrom_0 : decode cX1_leastFrom 0 = .ok (.iload_n 2, 1) := by decide +kernel
theorem dX1_leastFrom_1 : decode cX1_leastFrom 1 = .ok (.iload_n 1, 1) := by decide +kernel
theorem dX1_leastFrom_2 : decode cX1_leastFrom 2 = .ok (.if_icmp .ge 9, 3) := by decide +kernel
theorem dX1_leastFrom_5 : decode cX1_leastFrom 5 = .ok (.iload_n 2, 1) := by decide +kernel
theorem dX1_leastFrom_6 : decode cX1_leastFrom 6 = .ok (.bipush 8, 2) := by decide +kernel
theorem dX1_leastFrom_8 : decode cX1_leastFrom 8 = .ok (.if_icmp .lt 5, 3) := by decide +kernel
theorem dX1_leastFrom_11 : decode cX1_leastFrom 11 = .ok (.iconst 0, 1) := by decide +kernel
theorem dX1_leastFrom_12 : decode cX1_leastFrom 12 = .ok (.ireturn, 1) := by decide +kernel
theorem dX1_leastFrom_13 : decode cX1_leastFrom 13 = .ok (.iconst (-1), 1) := by decide +kernel
theorem dX1_leastFrom_14 : decode cX1_leastFrom 14 = .ok (.istore 4, 2) := by decide +kernel
theorem dX1_leastFrom_16 : decode cX1_leastFrom 16 = .ok (.iconst 0, 1) := by decide +kernel
theorem dX1_leastFrom_17 : decode cX1_leastFrom 17 = .ok (.istore 5, 2) := by decide +kernel
theorem dX1_leastFrom_19 : decode cX1_leastFrom 19 = .ok (.iload 5, 2) := by decide +kernel
theorem dX1_leastFrom_21 : decode cX1_leastFrom 21 = .ok (.iconst 4, 1) := by decide +kernel
theorem dX1_leastFrom_22 : decode cX1_leastFrom 22 = .ok (.if_icmp .ge 82, 3) := by decide +kernel
theorem dX1_leastFrom_25 : decode cX1_leastFrom 25 = .ok (.aload_n 0, 1) := by decide +kernel
theorem dX1_leastFrom_26 : decode cX1_leastFrom 26 = .ok (.iload_n 2, 1) := by decide +kernel
theorem dX1_leastFrom_27 : decode cX1_leastFrom 27 = .ok (.iconst 4, 1) := by decide +kernel
theorem dX1_leastFrom_28 : decode cX1_leastFrom 28 = .ok (.imul, 1) := by decide +kernel
theorem dX1_leastFrom_29 : decode cX1_leastFrom 29 = .ok (.iload 5, 2) := by decide +kernel
theorem dX1_leastFrom_31 : decode cX1_leastFrom 31 = .ok (.iadd, 1) := by decide +kernel
theorem dX1_leastFrom_32 : decode cX1_leastFrom 32 = .ok (.iaload, 1) := by decide +kernel
theorem dX1_leastFrom_33 : decode cX1_leastFrom 33 = .ok (.istore 6, 2) := by decide +kernel
theorem dX1_leastFrom_35 : decode cX1_leastFrom 35 = .ok (.iload 6, 2) := by decide +kernel
theorem dX1_leastFrom_37 : decode cX1_leastFrom 37 = .ok (.iconst (-1), 1) := by decide +kernel
theorem dX1_leastFrom_38 : decode cX1_leastFrom 38 = .ok (.if_icmp .eq 60, 3) := by decide +kernel
theorem dX1_leastFrom_41 : decode cX1_leastFrom 41 = .ok (.iload_n 3, 1) := by decide +kernel
theorem dX1_leastFrom_42 : decode cX1_leastFrom 42 = .ok (.iload 6, 2) := by decide +kernel
theorem dX1_leastFrom_44 : decode cX1_leastFrom 44 = .ok (.invokestatic 44, 3) := by decide +kernel
theorem dX1_leastFrom_47 : decode cX1_leastFrom 47 = .ok (.ifCond .eq 6, 3) := by decide +kernel
theorem dX1_leastFrom_50 : decode cX1_leastFrom 50 = .ok (.goto 48, 3) := by decide +kernel
theorem dX1_leastFrom_53 : decode cX1_leastFrom 53 = .ok (.aload_n 0, 1) := by decide +kernel
theorem dX1_leastFrom_54 : decode cX1_leastFrom 54 = .ok (.iload_n 1, 1) := by decide +kernel
theorem dX1_leastFrom_55 : decode cX1_leastFrom 55 = .ok (.iload_n 2, 1) := by decide +kernel
theorem dX1_leastFrom_56 : decode cX1_leastFrom 56 = .ok (.iconst 1, 1) := by decide +kernel
theorem dX1_leastFrom_57 : decode cX1_leastFrom 57 = .ok (.iadd, 1) := by decide +kernel
theorem dX1_leastFrom_58 : decode cX1_leastFrom 58 = .ok (.iload_n 3, 1) := by decide +kernel
theorem dX1_leastFrom_59 : decode cX1_leastFrom 59 = .ok (.iload 6, 2) := by decide +kernel
theorem dX1_leastFrom_61 : decode cX1_leastFrom 61 = .ok (.invokestatic 48, 3) := by decide +kernel
theorem dX1_leastFrom_64 : decode cX1_leastFrom 64 = .ok (.invokestatic 51, 3) := by decide +kernel
theorem dX1_leastFrom_67 : decode cX1_leastFrom 67 = .ok (.istore 7, 2) := by decide +kernel
theorem dX1_leastFrom_69 : decode cX1_leastFrom 69 = .ok (.iload 7, 2) := by decide +kernel
theorem dX1_leastFrom_71 : decode cX1_leastFrom 71 = .ok (.iconst (-1), 1) := by decide +kernel
theorem dX1_leastFrom_72 : decode cX1_leastFrom 72 = .ok (.if_icmp .eq 26, 3) := by decide +kernel
theorem dX1_leastFrom_75 : decode cX1_leastFrom 75 = .ok (.iload 4, 2) := by decide +kernel
theorem dX1_leastFrom_77 : decode cX1_leastFrom 77 = .ok (.iconst (-1), 1) := by decide +kernel
theorem dX1_leastFrom_78 : decode cX1_leastFrom 78 = .ok (.if_icmp .eq 13, 3) := by decide +kernel
theorem dX1_leastFrom_81 : decode cX1_leastFrom 81 = .ok (.iload 5, 2) := by decide +kernel
theorem dX1_leastFrom_83 : decode cX1_leastFrom 83 = .ok (.iload 7, 2) := by decide +kernel
theorem dX1_leastFrom_85 : decode cX1_leastFrom 85 = .ok (.iadd, 1) := by decide +kernel
theorem dX1_leastFrom_86 : decode cX1_leastFrom 86 = .ok (.iload 4, 2) := by decide +kernel
theorem dX1_leastFrom_88 : decode cX1_leastFrom 88 = .ok (.if_icmp .ge 10, 3) := by decide +kernel
theorem dX1_leastFrom_91 : decode cX1_leastFrom 91 = .ok (.iload 5, 2) := by decide +kernel
theorem dX1_leastFrom_93 : decode cX1_leastFrom 93 = .ok (.iload 7, 2) := by decide +kernel
theorem dX1_leastFrom_95 : decode cX1_leastFrom 95 = .ok (.iadd, 1) := by decide +kernel
theorem dX1_leastFrom_96 : decode cX1_leastFrom 96 = .ok (.istore 4, 2) := by decide +kernel
theorem dX1_leastFrom_98 : decode cX1_leastFrom 98 = .ok (.iinc 5 1, 3) := by decide +kernel
theorem dX1_leastFrom_101 : decode cX1_leastFrom 101 = .ok (.goto (-82), 3) := by decide +kernel
theorem dX1_leastFrom_104 : decode cX1_leastFrom 104 = .ok (.iload 4, 2) := by decide +kernel
theorem dX1_leastFrom_106 : decode cX1_leastFrom 106 = .ok (.ireturn, 1) := by decide +kernel
theorem dX2_init_0 : decode cX2_init 0 = .ok (.aload_n 0, 1) := by decide +kernel
theorem dX2_init_1 : decode cX2_init 1 = .ok (.invokespecial 3, 3) := by decide +kernel
theorem dX2_init_4 : decode cX2_init 4 = .ok (.aload_n 0, 1) := by decide +kernel
theorem dX2_init_5 : decode cX2_init 5 = .ok (.bipush 40, 2) := by decide +kernel
theorem dX2_init_7 : decode cX2_init 7 = .ok (.newarray .int, 2) := by decide +kernel
theorem dX2_init_9 : decode cX2_init 9 = .ok (.putfield 9, 3) := by decide +kernel
theorem dX2_init_12 : decode cX2_init 12 = .ok (.aload_n 0, 1) := by decide +kernel
theorem dX2_init_13 : decode cX2_init 13 = .ok (.sipush 320, 3) := by decide +kernel
theorem dX2_init_16 : decode cX2_init 16 = .ok (.newarray .int, 2) := by decide +kernel
theorem dX2_init_18 : decode cX2_init 18 = .ok (.putfield 15, 3) := by decide +kernel
theorem dX2_init_21 : decode cX2_init 21 = .ok (.aload_n 0, 1) := by decide +kernel
theorem dX2_init_22 : decode cX2_init 22 = .ok (.bipush 40, 2) := by decide +kernel
theorem dX2_init_24 : decode cX2_init 24 = .ok (.newarray .int, 2) := by decide +kernel
theorem dX2_init_26 : decode cX2_init 26 = .ok (.putfield 18, 3) := by decide +kernel
theorem dX2_init_29 : decode cX2_init 29 = .ok (.iconst 0, 1) := by decide +kernel
theorem dX2_init_30 : decode cX2_init 30 = .ok (.istore_n 1, 1) := by decide +kernel
theorem dX2_init_31 : decode cX2_init 31 = .ok (.iload_n 1, 1) := by decide +kernel
theorem dX2_init_32 : decode cX2_init 32 = .ok (.aload_n 0, 1) := by decide +kernel
theorem dX2_init_33 : decode cX2_init 33 = .ok (.getfield 15, 3) := by decide +kernel
theorem dX2_init_36 : decode cX2_init 36 = .ok (.arraylength, 1) := by decide +kernel
theorem dX2_init_37 : decode cX2_init 37 = .ok (.if_icmp .ge 16, 3) := by decide +kernel
theorem dX2_init_40 : decode cX2_init 40 = .ok (.aload_n 0, 1) := by decide +kernel
theorem dX2_init_41 : decode cX2_init 41 = .ok (.getfield 15, 3) := by decide +kernel
theorem dX2_init_44 : decode cX2_init 44 = .ok (.iload_n 1, 1) := by decide +kernel
theorem dX2_init_45 : decode cX2_init 45 = .ok (.iconst (-1), 1) := by decide +kernel
theorem dX2_init_46 : decode cX2_init 46 = .ok (.iastore, 1) := by decide +kernel
theorem dX2_init_47 : decode cX2_init 47 = .ok (.iinc 1 1, 3) := by decide +kernel
theorem dX2_init_50 : decode cX2_init 50 = .ok (.goto (-19), 3) := by decide +kernel
theorem dX2_init_53 : decode cX2_init 53 = .ok (.return_, 1) := by decide +kernel
theorem dX2_showOn_0 : decode cX2_showOn 0 = .ok (.iconst 0, 1) := by decide +kernel
theorem dX2_showOn_1 : decode cX2_showOn 1 = .ok (.istore_n 2, 1) := by decide +kernel
theorem dX2_showOn_2 : decode cX2_showOn 2 = .ok (.iload_n 2, 1) := by decide +kernel
theorem dX2_showOn_3 : decode cX2_showOn 3 = .ok (.aload_n 0, 1) := by decide +kernel
theorem dX2_showOn_4 : decode cX2_showOn 4 = .ok (.getfield 21, 3) := by decide +kernel
theorem dX2_showOn_7 : decode cX2_showOn 7 = .ok (.if_icmp .ge 21, 3) := by decide +kernel
theorem dX2_showOn_10 : decode cX2_showOn 10 = .ok (.aload_n 0, 1) := by decide +kernel
theorem dX2_showOn_11 : decode cX2_showOn 11 = .ok (.getfield 18, 3) := by decide +kernel
theorem dX2_showOn_14 : decode cX2_showOn 14 = .ok (.iload_n 2, 1) := by decide +kernel
theorem dX2_showOn_15 : decode cX2_showOn 15 = .ok (.iaload, 1) := by decide +kernel
theorem dX2_showOn_16 : decode cX2_showOn 16 = .ok (.iload_n 1, 1) := by decide +kernel
theorem dX2_showOn_17 : decode cX2_showOn 17 = .ok (.if_icmp .ne 5, 3) := by decide +kernel
theorem dX2_showOn_20 : decode cX2_showOn 20 = .ok (.iload_n 2, 1) := by decide +kernel
theorem dX2_showOn_21 : decode cX2_showOn 21 = .ok (.ireturn, 1) := by decide +kernel
theorem dX2_showOn_22 : decode cX2_showOn 22 = .ok (.iinc 2 1, 3) := by decide +kernel
theorem dX2_showOn_25 : decode cX2_showOn 25 = .ok (.goto (-23), 3) := by decide +kernel
theorem dX2_showOn_28 : decode cX2_showOn 28 = .ok (.iconst (-1), 1) := by decide +kernel
theorem dX2_showOn_29 : decode cX2_showOn 29 = .ok (.ireturn, 1) := by decide +kernel
theorem dX2_add_0 : decode cX2_add 0 = .ok (.aload_n 0, 1) := by decide +kernel
theorem dX2_add_1 : decode cX2_add 1 = .ok (.getfield 18, 3) := by decide +kernel
theorem dX2_add_4 : decode cX2_add 4 = .ok (.aload_n 0, 1) := by decide +kernel
theorem dX2_add_5 : decode cX2_add 5 = .ok (.getfield 21, 3) := by decide +kernel
theorem dX2_add_8 : decode cX2_add 8 = .ok (.iload_n 1, 1) := by decide +kernel
theorem dX2_add_9 : decode cX2_add 9 = .ok (.iastore, 1) := by decide +kernel
theorem dX2_add_10 : decode cX2_add 10 = .ok (.aload_n 0, 1) := by decide +kernel
theorem dX2_add_11 : decode cX2_add 11 = .ok (.getfield 9, 3) := by decide +kernel
theorem dX2_add_14 : decode cX2_add 14 = .ok (.aload_n 0, 1) := by decide +kernel
theorem dX2_add_15 : decode cX2_add 15 = .ok (.getfield 21, 3) := by decide +kernel
theorem dX2_add_18 : decode cX2_add 18 = .ok (.iconst 0, 1) := by decide +kernel
theorem dX2_add_19 : decode cX2_add 19 = .ok (.iastore, 1) := by decide +kernel
theorem dX2_add_20 : decode cX2_add 20 = .ok (.aload_n 0, 1) := by decide +kernel
theorem dX2_add_21 : decode cX2_add 21 = .ok (.dup, 1) := by decide +kernel
theorem dX2_add_22 : decode cX2_add 22 = .ok (.getfield 21, 3) := by decide +kernel
theorem dX2_add_25 : decode cX2_add 25 = .ok (.iconst 1, 1) := by decide +kernel
theorem dX2_add_26 : decode cX2_add 26 = .ok (.iadd, 1) := by decide +kernel
theorem dX2_add_27 : decode cX2_add 27 = .ok (.putfield 21, 3) := by decide +kernel
theorem dX2_add_30 : decode cX2_add 30 = .ok (.aload_n 0, 1) := by decide +kernel
theorem dX2_add_31 : decode cX2_add 31 = .ok (.getfield 21, 3) := by decide +kernel
theorem dX2_add_34 : decode cX2_add 34 = .ok (.iconst 1, 1) := by decide +kernel
theorem dX2_add_35 : decode cX2_add 35 = .ok (.isub, 1) := by decide +kernel
theorem dX2_add_36 : decode cX2_add 36 = .ok (.ireturn, 1) := by decide +kernel
theorem dX3_init_0 : decode cX3_init 0 = .ok (.aload_n 0, 1) := by decide +kernel
theorem dX3_init_1 : decode cX3_init 1 = .ok (.invokespecial 3, 3) := by decide +kernel
theorem dX3_init_4 : decode cX3_init 4 = .ok (.aload_n 0, 1) := by decide +kernel
theorem dX3_init_5 : decode cX3_init 5 = .ok (.bipush 32, 2) := by decide +kernel
theorem dX3_init_7 : decode cX3_init 7 = .ok (.newarray .int, 2) := by decide +kernel
theorem dX3_init_9 : decode cX3_init 9 = .ok (.putfield 9, 3) := by decide +kernel
theorem dX3_init_12 : decode cX3_init 12 = .ok (.aload_n 0, 1) := by decide +kernel
theorem dX3_init_13 : decode cX3_init 13 = .ok (.bipush 8, 2) := by decide +kernel
theorem dX3_init_15 : decode cX3_init 15 = .ok (.newarray .int, 2) := by decide +kernel
theorem dX3_init_17 : decode cX3_init 17 = .ok (.putfield 15, 3) := by decide +kernel
theorem dX3_init_20 : decode cX3_init 20 = .ok (.return_, 1) := by decide +kernel
theorem dX3_actorAt_0 : decode cX3_actorAt 0 = .ok (.iload_n 2, 1) := by decide +kernel
theorem dX3_actorAt_1 : decode cX3_actorAt 1 = .ok (.aload_n 0, 1) := by decide +kernel
theorem dX3_actorAt_2 : decode cX3_actorAt 2 = .ok (.getfield 15, 3) := by decide +kernel
theorem dX3_actorAt_5 : decode cX3_actorAt 5 = .ok (.iload_n 1, 1) := by decide +kernel
theorem dX3_actorAt_6 : decode cX3_actorAt 6 = .ok (.iaload, 1) := by decide +kernel
theorem dX3_actorAt_7 : decode cX3_actorAt 7 = .ok (.if_icmp .ge 16, 3) := by decide +kernel
theorem dX3_actorAt_10 : decode cX3_actorAt 10 = .ok (.aload_n 0, 1) := by decide +kernel
theorem dX3_actorAt_11 : decode cX3_actorAt 11 = .ok (.getfield 9, 3) := by decide +kernel
theorem dX3_actorAt_14 : decode cX3_actorAt 14 = .ok (.iload_n 1, 1) := by decide +kernel
theorem dX3_actorAt_15 : decode cX3_actorAt 15 = .ok (.iconst 4, 1) := by decide +kernel
theorem dX3_actorAt_16 : decode cX3_actorAt 16 = .ok (.imul, 1) := by decide +kernel
theorem dX3_actorAt_17 : decode cX3_actorAt 17 = .ok (.iload_n 2, 1) := by decide +kernel
theorem dX3_actorAt_18 : decode cX3_actorAt 18 = .ok (.iadd, 1) := by decide +kernel
theorem dX3_actorAt_19 : decode cX3_actorAt 19 = .ok (.iaload, 1) := by decide +kernel
theorem dX3_actorAt_20 : decode cX3_actorAt 20 = .ok (.goto 4, 3) := by decide +kernel
theorem dX3_actorAt_23 : decode cX3_actorAt 23 = .ok (.iconst (-1), 1) := by decide +kernel
theorem dX3_actorAt_24 : decode cX3_actorAt 24 = .ok (.ireturn, 1) := by decide +kernel
theorem dX3_rankIn_0 : decode cX3_rankIn 0 = .ok (.iconst 0, 1) := by decide +kernel
theorem dX3_rankIn_1 : decode cX3_rankIn 1 = .ok (.istore_n 3, 1) := by decide +kernel
theorem dX3_rankIn_2 : decode cX3_rankIn 2 = .ok (.iload_n 3, 1) := by decide +kernel
theorem dX3_rankIn_3 : decode cX3_rankIn 3 = .ok (.aload_n 0, 1) := by decide +kernel
theorem dX3_rankIn_4 : decode cX3_rankIn 4 = .ok (.getfield 15, 3) := by decide +kernel
theorem dX3_rankIn_7 : decode cX3_rankIn 7 = .ok (.iload_n 1, 1) := by decide +kernel
theorem dX3_rankIn_8 : decode cX3_rankIn 8 = .ok (.iaload, 1) := by decide +kernel
theorem dX3_rankIn_9 : decode cX3_rankIn 9 = .ok (.if_icmp .ge 25, 3) := by decide +kernel
theorem dX3_rankIn_12 : decode cX3_rankIn 12 = .ok (.aload_n 0, 1) := by decide +kernel
theorem dX3_rankIn_13 : decode cX3_rankIn 13 = .ok (.getfield 9, 3) := by decide +kernel
theorem dX3_rankIn_16 : decode cX3_rankIn 16 = .ok (.iload_n 1, 1) := by decide +kernel
theorem dX3_rankIn_17 : decode cX3_rankIn 17 = .ok (.iconst 4, 1) := by decide +kernel
theorem dX3_rankIn_18 : decode cX3_rankIn 18 = .ok (.imul, 1) := by decide +kernel
theorem dX3_rankIn_19 : decode cX3_rankIn 19 = .ok (.iload_n 3, 1) := by decide +kernel
theorem dX3_rankIn_20 : decode cX3_rankIn 20 = .ok (.iadd, 1) := by decide +kernel
theorem dX3_rankIn_21 : decode cX3_rankIn 21 = .ok (.iaload, 1) := by decide +kernel
theorem dX3_rankIn_22 : decode cX3_rankIn 22 = .ok (.iload_n 2, 1) := by decide +kernel
theorem dX3_rankIn_23 : decode cX3_rankIn 23 = .ok (.if_icmp .ne 5, 3) := by decide +kernel
theorem dX3_rankIn_26 : decode cX3_rankIn 26 = .ok (.iload_n 3, 1) := by decide +kernel
theorem dX3_rankIn_27 : decode cX3_rankIn 27 = .ok (.ireturn, 1) := by decide +kernel
theorem dX3_rankIn_28 : decode cX3_rankIn 28 = .ok (.iinc 3 1, 3) := by decide +kernel
theorem dX3_rankIn_31 : decode cX3_rankIn 31 = .ok (.goto (-29), 3) := by decide +kernel
theorem dX3_rankIn_34 : decode cX3_rankIn 34 = .ok (.iconst (-1), 1) := by decide +kernel
theorem dX3_rankIn_35 : decode cX3_rankIn 35 = .ok (.ireturn, 1) := by decide +kernel
theorem dX3_isFull_0 : decode cX3_isFull 0 = .ok (.aload_n 0, 1) := by decide +kernel
theorem dX3_isFull_1 : decode cX3_isFull 1 = .ok (.getfield 15, 3) := by decide +kernel
theorem dX3_isFull_4 : decode cX3_isFull 4 = .ok (.iload_n 1, 1) := by decide +kernel
theorem dX3_isFull_5 : decode cX3_isFull 5 = .ok (.iaload, 1) := by decide +kernel
theorem dX3_isFull_6 : decode cX3_isFull 6 = .ok (.iconst 4, 1) := by decide +kernel
theorem dX3_isFull_7 : decode cX3_isFull 7 = .ok (.if_icmp .lt 7, 3) := by decide +kernel
theorem dX3_isFull_10 : decode cX3_isFull 10 = .ok (.iconst 1, 1) := by decide +kernel
theorem dX3_isFull_11 : decode cX3_isFull 11 = .ok (.goto 4, 3) := by decide +kernel
theorem dX3_isFull_14 : decode cX3_isFull 14 = .ok (.iconst 0, 1) := by decide +kernel
theorem dX3_isFull_15 : decode cX3_isFull 15 = .ok (.ireturn, 1) := by decide +kernel
theorem dX3_append_0 : decode cX3_append 0 = .ok (.aload_n 0, 1) := by decide +kernel
theorem dX3_append_1 : decode cX3_append 1 = .ok (.getfield 15, 3) := by decide +kernel
theorem dX3_append_4 : decode cX3_append 4 = .ok (.iload_n 1, 1) := by decide +kernel
theorem dX3_append_5 : decode cX3_append 5 = .ok (.iaload, 1) := by decide +kernel
theorem dX3_append_6 : decode cX3_append 6 = .ok (.istore_n 3, 1) := by decide +kernel
theorem dX3_append_7 : decode cX3_append 7 = .ok (.aload_n 0, 1) := by decide +kernel
theorem dX3_append_8 : decode cX3_append 8 = .ok (.getfield 9, 3) := by decide +kernel
theorem dX3_append_11 : decode cX3_append 11 = .ok (.iload_n 1, 1) := by decide +kernel
theorem dX3_append_12 : decode cX3_append 12 = .ok (.iconst 4, 1) := by decide +kernel
theorem dX3_append_13 : decode cX3_append 13 = .ok (.imul, 1) := by decide +kernel
theorem dX3_append_14 : decode cX3_append 14 = .ok (.iload_n 3, 1) := by decide +kernel
theorem dX3_append_15 : decode cX3_append 15 = .ok (.iadd, 1) := by decide +kernel
theorem dX3_append_16 : decode cX3_append 16 = .ok (.iload_n 2, 1) := by decide +kernel
theorem dX3_append_17 : decode cX3_append 17 = .ok (.iastore, 1) := by decide +kernel
theorem dX3_append_18 : decode cX3_append 18 = .ok (.aload_n 0, 1) := by decide +kernel
theorem dX3_append_19 : decode cX3_append 19 = .ok (.getfield 15, 3) := by decide +kernel
theorem dX3_append_22 : decode cX3_append 22 = .ok (.iload_n 1, 1) := by decide +kernel
theorem dX3_append_23 : decode cX3_append 23 = .ok (.iload_n 3, 1) := by decide +kernel
theorem dX3_append_24 : decode cX3_append 24 = .ok (.iconst 1, 1) := by decide +kernel
theorem dX3_append_25 : decode cX3_append 25 = .ok (.iadd, 1) := by decide +kernel
theorem dX3_append_26 : decode cX3_append 26 = .ok (.iastore, 1) := by decide +kernel
theorem dX3_append_27 : decode cX3_append 27 = .ok (.iload_n 3, 1) := by decide +kernel
theorem dX3_append_28 : decode cX3_append 28 = .ok (.ireturn, 1) := by decide +kernel
theorem dX3_remove_0 : decode cX3_remove 0 = .ok (.iload_n 2, 1) := by decide +kernel
theorem dX3_remove_1 : decode cX3_remove 1 = .ok (.iconst 1, 1) := by decide +kernel
theorem dX3_remove_2 : decode cX3_remove 2 = .ok (.iadd, 1) := by decide +kernel
theorem dX3_remove_3 : decode cX3_remove 3 = .ok (.istore_n 3, 1) := by decide +kernel
theorem dX3_remove_4 : decode cX3_remove 4 = .ok (.iload_n 3, 1) := by decide +kernel
theorem dX3_remove_5 : decode cX3_remove 5 = .ok (.aload_n 0, 1) := by decide +kernel
theorem dX3_remove_6 : decode cX3_remove 6 = .ok (.getfield 15, 3) := by decide +kernel
theorem dX3_remove_9 : decode cX3_remove 9 = .ok (.iload_n 1, 1) := by decide +kernel
theorem dX3_remove_10 : decode cX3_remove 10 = .ok (.iaload, 1) := by decide +kernel
theorem dX3_remove_11 : decode cX3_remove 11 = .ok (.if_icmp .ge 31, 3) := by decide +kernel
theorem dX3_remove_14 : decode cX3_remove 14 = .ok (.aload_n 0, 1) := by decide +kernel
theorem dX3_remove_15 : decode cX3_remove 15 = .ok (.getfield 9, 3) := by decide +kernel
theorem dX3_remove_18 : decode cX3_remove 18 = .ok (.iload_n 1, 1) := by decide +kernel
theorem dX3_remove_19 : decode cX3_remove 19 = .ok (.iconst 4, 1) := by decide +kernel
theorem dX3_remove_20 : decode cX3_remove 20 = .ok (.imul, 1) := by decide +kernel
theorem dX3_remove_21 : decode cX3_remove 21 = .ok (.iload_n 3, 1) := by decide +kernel
theorem dX3_remove_22 : decode cX3_remove 22 = .ok (.iadd, 1) := by decide +kernel
theorem dX3_remove_23 : decode cX3_remove 23 = .ok (.iconst 1, 1) := by decide +kernel
theorem dX3_remove_24 : decode cX3_remove 24 = .ok (.isub, 1) := by decide +kernel
theorem dX3_remove_25 : decode cX3_remove 25 = .ok (.aload_n 0, 1) := by decide +kernel
theorem dX3_remove_26 : decode cX3_remove 26 = .ok (.getfield 9, 3) := by decide +kernel
theorem dX3_remove_29 : decode cX3_remove 29 = .ok (.iload_n 1, 1) := by decide +kernel
theorem dX3_remove_30 : decode cX3_remove 30 = .ok (.iconst 4, 1) := by decide +kernel
theorem dX3_remove_31 : decode cX3_remove 31 = .ok (.imul, 1) := by decide +kernel
theorem dX3_remove_32 : decode cX3_remove 32 = .ok (.iload_n 3, 1) := by decide +kernel
theorem dX3_remove_33 : decode cX3_remove 33 = .ok (.iadd, 1) := by decide +kernel
theorem dX3_remove_34 : decode cX3_remove 34 = .ok (.iaload, 1) := by decide +kernel
theorem dX3_remove_35 : decode cX3_remove 35 = .ok (.iastore, 1) := by decide +kernel
theorem dX3_remove_36 : decode cX3_remove 36 = .ok (.iinc 3 1, 3) := by decide +kernel
theorem dX3_remove_39 : decode cX3_remove 39 = .ok (.goto (-35), 3) := by decide +kernel
theorem dX3_remove_42 : decode cX3_remove 42 = .ok (.aload_n 0, 1) := by decide +kernel
theorem dX3_remove_43 : decode cX3_remove 43 = .ok (.getfield 15, 3) := by decide +kernel
theorem dX3_remove_46 : decode cX3_remove 46 = .ok (.iload_n 1, 1) := by decide +kernel
theorem dX3_remove_47 : decode cX3_remove 47 = .ok (.dup2, 1) := by decide +kernel
theorem dX3_remove_48 : decode cX3_remove 48 = .ok (.iaload, 1) := by decide +kernel
theorem dX3_remove_49 : decode cX3_remove 49 = .ok (.iconst 1, 1) := by decide +kernel
theorem dX3_remove_50 : decode cX3_remove 50 = .ok (.isub, 1) := by decide +kernel
theorem dX3_remove_51 : decode cX3_remove 51 = .ok (.iastore, 1) := by decide +kernel
theorem dX3_remove_52 : decode cX3_remove 52 = .ok (.return_, 1) := by decide +kernel
theorem dX4_init_0 : decode cX4_init 0 = .ok (.aload_n 0, 1) := by decide +kernel
theorem dX4_init_1 : decode cX4_init 1 = .ok (.invokespecial 3, 3) := by decide +kernel
theorem dX4_init_4 : decode cX4_init 4 = .ok (.aload_n 0, 1) := by decide +kernel
theorem dX4_init_5 : decode cX4_init 5 = .ok (.bipush 12, 2) := by decide +kernel
theorem dX4_init_7 : decode cX4_init 7 = .ok (.newarray .int, 2) := by decide +kernel
theorem dX4_init_9 : decode cX4_init 9 = .ok (.putfield 9, 3) := by decide +kernel
theorem dX4_init_12 : decode cX4_init 12 = .ok (.aload_n 0, 1) := by decide +kernel
theorem dX4_init_13 : decode cX4_init 13 = .ok (.bipush 12, 2) := by decide +kernel
theorem dX4_init_15 : decode cX4_init 15 = .ok (.newarray .int, 2) := by decide +kernel
theorem dX4_init_17 : decode cX4_init 17 = .ok (.putfield 15, 3) := by decide +kernel
theorem dX4_init_20 : decode cX4_init 20 = .ok (.aload_n 0, 1) := by decide +kernel
theorem dX4_init_21 : decode cX4_init 21 = .ok (.sipush 1001, 3) := by decide +kernel
theorem dX4_init_24 : decode cX4_init 24 = .ok (.newarray .int, 2) := by decide +kernel
theorem dX4_init_26 : decode cX4_init 26 = .ok (.putfield 18, 3) := by decide +kernel
theorem dX4_init_29 : decode cX4_init 29 = .ok (.iconst 0, 1) := by decide +kernel
theorem dX4_init_30 : decode cX4_init 30 = .ok (.istore_n 1, 1) := by decide +kernel
theorem dX4_init_31 : decode cX4_init 31 = .ok (.iload_n 1, 1) := by decide +kernel
theorem dX4_init_32 : decode cX4_init 32 = .ok (.bipush 12, 2) := by decide +kernel
theorem dX4_init_34 : decode cX4_init 34 = .ok (.if_icmp .ge 16, 3) := by decide +kernel
theorem dX4_init_37 : decode cX4_init 37 = .ok (.aload_n 0, 1) := by decide +kernel
theorem dX4_init_38 : decode cX4_init 38 = .ok (.getfield 9, 3) := by decide +kernel
theorem dX4_init_41 : decode cX4_init 41 = .ok (.iload_n 1, 1) := by decide +kernel
theorem dX4_init_42 : decode cX4_init 42 = .ok (.iconst 5, 1) := by decide +kernel
theorem dX4_init_43 : decode cX4_init 43 = .ok (.iastore, 1) := by decide +kernel
theorem dX4_init_44 : decode cX4_init 44 = .ok (.iinc 1 1, 3) := by decide +kernel
theorem dX4_init_47 : decode cX4_init 47 = .ok (.goto (-16), 3) := by decide +kernel
theorem dX4_init_50 : decode cX4_init 50 = .ok (.return_, 1) := by decide +kernel
theorem dX4_fallIll_0 : decode cX4_fallIll 0 = .ok (.iconst 0, 1) := by decide +kernel
theorem dX4_fallIll_1 : decode cX4_fallIll 1 = .ok (.istore 4, 2) := by decide +kernel
theorem dX4_fallIll_3 : decode cX4_fallIll 3 = .ok (.iload_n 2, 1) := by decide +kernel
theorem dX4_fallIll_4 : decode cX4_fallIll 4 = .ok (.istore 5, 2) := by decide +kernel
theorem dX4_fallIll_6 : decode cX4_fallIll 6 = .ok (.iload 5, 2) := by decide +kernel
theorem dX4_fallIll_8 : decode cX4_fallIll 8 = .ok (.iload_n 3, 1) := by decide +kernel
theorem dX4_fallIll_9 : decode cX4_fallIll 9 = .ok (.if_icmp .gt 44, 3) := by decide +kernel
theorem dX4_fallIll_12 : decode cX4_fallIll 12 = .ok (.aload_n 0, 1) := by decide +kernel
theorem dX4_fallIll_13 : decode cX4_fallIll 13 = .ok (.getfield 18, 3) := by decide +kernel
theorem dX4_fallIll_16 : decode cX4_fallIll 16 = .ok (.iload 5, 2) := by decide +kernel
theorem dX4_fallIll_18 : decode cX4_fallIll 18 = .ok (.iaload, 1) := by decide +kernel
theorem dX4_fallIll_19 : decode cX4_fallIll 19 = .ok (.iload_n 1, 1) := by decide +kernel
theorem dX4_fallIll_20 : decode cX4_fallIll 20 = .ok (.invokestatic 21, 3) := by decide +kernel
theorem dX4_fallIll_23 : decode cX4_fallIll 23 = .ok (.ifCond .ne 24, 3) := by decide +kernel
theorem dX4_fallIll_26 : decode cX4_fallIll 26 = .ok (.aload_n 0, 1) := by decide +kernel
theorem dX4_fallIll_27 : decode cX4_fallIll 27 = .ok (.getfield 18, 3) := by decide +kernel
theorem dX4_fallIll_30 : decode cX4_fallIll 30 = .ok (.iload 5, 2) := by decide +kernel
theorem dX4_fallIll_32 : decode cX4_fallIll 32 = .ok (.aload_n 0, 1) := by decide +kernel
theorem dX4_fallIll_33 : decode cX4_fallIll 33 = .ok (.getfield 18, 3) := by decide +kernel
theorem dX4_fallIll_36 : decode cX4_fallIll 36 = .ok (.iload 5, 2) := by decide +kernel
theorem dX4_fallIll_38 : decode cX4_fallIll 38 = .ok (.iaload, 1) := by decide +kernel
theorem dX4_fallIll_39 : decode cX4_fallIll 39 = .ok (.iload_n 1, 1) := by decide +kernel
theorem dX4_fallIll_40 : decode cX4_fallIll 40 = .ok (.invokestatic 25, 3) := by decide +kernel
theorem dX4_fallIll_43 : decode cX4_fallIll 43 = .ok (.iastore, 1) := by decide +kernel
theorem dX4_fallIll_44 : decode cX4_fallIll 44 = .ok (.iinc 4 1, 3) := by decide +kernel
theorem dX4_fallIll_47 : decode cX4_fallIll 47 = .ok (.iinc 5 1, 3) := by decide +kernel
theorem dX4_fallIll_50 : decode cX4_fallIll 50 = .ok (.goto (-44), 3) := by decide +kernel
theorem dX4_fallIll_53 : decode cX4_fallIll 53 = .ok (.iload 4, 2) := by decide +kernel
theorem dX4_fallIll_55 : decode cX4_fallIll 55 = .ok (.ireturn, 1) := by decide +kernel
theorem dX5_init_0 : decode cX5_init 0 = .ok (.aload_n 0, 1) := by decide +kernel
theorem dX5_init_1 : decode cX5_init 1 = .ok (.invokespecial 3, 3) := by decide +kernel
theorem dX5_init_4 : decode cX5_init 4 = .ok (.aload_n 0, 1) := by decide +kernel
theorem dX5_init_5 : decode cX5_init 5 = .ok (.bipush 40, 2) := by decide +kernel
theorem dX5_init_7 : decode cX5_init 7 = .ok (.newarray .int, 2) := by decide +kernel
theorem dX5_init_9 : decode cX5_init 9 = .ok (.putfield 9, 3) := by decide +kernel
theorem dX5_init_12 : decode cX5_init 12 = .ok (.aload_n 0, 1) := by decide +kernel
theorem dX5_init_13 : decode cX5_init 13 = .ok (.bipush 40, 2) := by decide +kernel
theorem dX5_init_15 : decode cX5_init 15 = .ok (.newarray .int, 2) := by decide +kernel
theorem dX5_init_17 : decode cX5_init 17 = .ok (.putfield 15, 3) := by decide +kernel
theorem dX5_init_20 : decode cX5_init 20 = .ok (.aload_n 0, 1) := by decide +kernel
theorem dX5_init_21 : decode cX5_init 21 = .ok (.bipush 40, 2) := by decide +kernel
theorem dX5_init_23 : decode cX5_init 23 = .ok (.newarray .boolean, 2) := by decide +kernel
theorem dX5_init_25 : decode cX5_init 25 = .ok (.putfield 18, 3) := by decide +kernel
theorem dX5_init_28 : decode cX5_init 28 = .ok (.return_, 1) := by decide +kernel
theorem dX5_add_0 : decode cX5_add 0 = .ok (.aload_n 0, 1) := by decide +kernel
theorem dX5_add_1 : decode cX5_add 1 = .ok (.getfield 15, 3) := by decide +kernel
theorem dX5_add_4 : decode cX5_add 4 = .ok (.aload_n 0, 1) := by decide +kernel
theorem dX5_add_5 : decode cX5_add 5 = .ok (.getfield 22, 3) := by decide +kernel
theorem dX5_add_8 : decode cX5_add 8 = .ok (.iload_n 1, 1) := by decide +kernel
theorem dX5_add_9 : decode cX5_add 9 = .ok (.iastore, 1) := by decide +kernel
theorem dX5_add_10 : decode cX5_add 10 = .ok (.aload_n 0, 1) := by decide +kernel
theorem dX5_add_11 : decode cX5_add 11 = .ok (.getfield 9, 3) := by decide +kernel
theorem dX5_add_14 : decode cX5_add 14 = .ok (.aload_n 0, 1) := by decide +kernel
theorem dX5_add_15 : decode cX5_add 15 = .ok (.getfield 22, 3) := by decide +kernel
theorem dX5_add_18 : decode cX5_add 18 = .ok (.iload_n 2, 1) := by decide +kernel
theorem dX5_add_19 : decode cX5_add 19 = .ok (.iastore, 1) := by decide +kernel
theorem dX5_add_20 : decode cX5_add 20 = .ok (.aload_n 0, 1) := by decide +kernel
theorem dX5_add_21 : decode cX5_add 21 = .ok (.dup, 1) := by decide +kernel
theorem dX5_add_22 : decode cX5_add 22 = .ok (.getfield 22, 3) := by decide +kernel
theorem dX5_add_25 : decode cX5_add 25 = .ok (.iconst 1, 1) := by decide +kernel
theorem dX5_add_26 : decode cX5_add 26 = .ok (.iadd, 1) := by decide +kernel
theorem dX5_add_27 : decode cX5_add 27 = .ok (.putfield 22, 3) := by decide +kernel
theorem dX5_add_30 : decode cX5_add 30 = .ok (.aload_n 0, 1) := by decide +kernel
theorem dX5_add_31 : decode cX5_add 31 = .ok (.getfield 22, 3) := by decide +kernel
theorem dX5_add_34 : decode cX5_add 34 = .ok (.iconst 1, 1) := by decide +kernel
theorem dX5_add_35 : decode cX5_add 35 = .ok (.isub, 1) := by decide +kernel
theorem dX5_add_36 : decode cX5_add 36 = .ok (.ireturn, 1) := by decide +kernel
theorem dX5_lowestFitting_0 : decode cX5_lowestFitting 0 = .ok (.iconst 0, 1) := by decide +kernel
theorem dX5_lowestFitting_1 : decode cX5_lowestFitting 1 = .ok (.istore_n 3, 1) := by decide +kernel
theorem dX5_lowestFitting_2 : decode cX5_lowestFitting 2 = .ok (.iload_n 3, 1) := by decide +kernel
theorem dX5_lowestFitting_3 : decode cX5_lowestFitting 3 = .ok (.aload_n 0, 1) := by decide +kernel
theorem dX5_lowestFitting_4 : decode cX5_lowestFitting 4 = .ok (.getfield 22, 3) := by decide +kernel
theorem dX5_lowestFitting_7 : decode cX5_lowestFitting 7 = .ok (.if_icmp .ge 31, 3) := by decide +kernel
theorem dX5_lowestFitting_10 : decode cX5_lowestFitting 10 = .ok (.aload_n 0, 1) := by decide +kernel
theorem dX5_lowestFitting_11 : decode cX5_lowestFitting 11 = .ok (.getfield 15, 3) := by decide +kernel
theorem dX5_lowestFitting_14 : decode cX5_lowestFitting 14 = .ok (.iload_n 3, 1) := by decide +kernel
theorem dX5_lowestFitting_15 : decode cX5_lowestFitting 15 = .ok (.iaload, 1) := by decide +kernel
theorem dX5_lowestFitting_16 : decode cX5_lowestFitting 16 = .ok (.iload_n 1, 1) := by decide +kernel
theorem dX5_lowestFitting_17 : decode cX5_lowestFitting 17 = .ok (.if_icmp .ne 15, 3) := by decide +kernel
theorem dX5_lowestFitting_20 : decode cX5_lowestFitting 20 = .ok (.aload_n 0, 1) := by decide +kernel
theorem dX5_lowestFitting_21 : decode cX5_lowestFitting 21 = .ok (.getfield 9, 3) := by decide +kernel
theorem dX5_lowestFitting_24 : decode cX5_lowestFitting 24 = .ok (.iload_n 3, 1) := by decide +kernel
theorem dX5_lowestFitting_25 : decode cX5_lowestFitting 25 = .ok (.iaload, 1) := by decide +kernel
theorem dX5_lowestFitting_26 : decode cX5_lowestFitting 26 = .ok (.iload_n 2, 1) := by decide +kernel
theorem dX5_lowestFitting_27 : decode cX5_lowestFitting 27 = .ok (.if_icmp .ne 5, 3) := by decide +kernel
theorem dX5_lowestFitting_30 : decode cX5_lowestFitting 30 = .ok (.iload_n 3, 1) := by decide +kernel
theorem dX5_lowestFitting_31 : decode cX5_lowestFitting 31 = .ok (.ireturn, 1) := by decide +kernel
theorem dX5_lowestFitting_32 : decode cX5_lowestFitting 32 = .ok (.iinc 3 1, 3) := by decide +kernel
theorem dX5_lowestFitting_35 : decode cX5_lowestFitting 35 = .ok (.goto (-33), 3) := by decide +kernel
theorem dX5_lowestFitting_38 : decode cX5_lowestFitting 38 = .ok (.iconst (-1), 1) := by decide +kernel
theorem dX5_lowestFitting_39 : decode cX5_lowestFitting 39 = .ok (.ireturn, 1) := by decide +kernel
theorem dX5_lowestToLetOut_0 : decode cX5_lowestToLetOut 0 = .ok (.iconst 0, 1) := by decide +kernel
theorem dX5_lowestToLetOut_1 : decode cX5_lowestToLetOut 1 = .ok (.istore_n 3, 1) := by decide +kernel
theorem dX5_lowestToLetOut_2 : decode cX5_lowestToLetOut 2 = .ok (.iload_n 3, 1) := by decide +kernel
theorem dX5_lowestToLetOut_3 : decode cX5_lowestToLetOut 3 = .ok (.aload_n 0, 1) := by decide +kernel
theorem dX5_lowestToLetOut_4 : decode cX5_lowestToLetOut 4 = .ok (.getfield 22, 3) := by decide +kernel
theorem dX5_lowestToLetOut_7 : decode cX5_lowestToLetOut 7 = .ok (.if_icmp .ge 42, 3) := by decide +kernel
theorem dX5_lowestToLetOut_10 : decode cX5_lowestToLetOut 10 = .ok (.aload_n 0, 1) := by decide +kernel
theorem dX5_lowestToLetOut_11 : decode cX5_lowestToLetOut 11 = .ok (.getfield 15, 3) := by decide +kernel
theorem dX5_lowestToLetOut_14 : decode cX5_lowestToLetOut 14 = .ok (.iload_n 3, 1) := by decide +kernel
theorem dX5_lowestToLetOut_15 : decode cX5_lowestToLetOut 15 = .ok (.iaload, 1) := by decide +kernel
theorem dX5_lowestToLetOut_16 : decode cX5_lowestToLetOut 16 = .ok (.iload_n 1, 1) := by decide +kernel
theorem dX5_lowestToLetOut_17 : decode cX5_lowestToLetOut 17 = .ok (.if_icmp .ne 26, 3) := by decide +kernel
theorem dX5_lowestToLetOut_20 : decode cX5_lowestToLetOut 20 = .ok (.aload_n 0, 1) := by decide +kernel
theorem dX5_lowestToLetOut_21 : decode cX5_lowestToLetOut 21 = .ok (.getfield 9, 3) := by decide +kernel
theorem dX5_lowestToLetOut_24 : decode cX5_lowestToLetOut 24 = .ok (.iload_n 3, 1) := by decide +kernel
theorem dX5_lowestToLetOut_25 : decode cX5_lowestToLetOut 25 = .ok (.iaload, 1) := by decide +kernel
theorem dX5_lowestToLetOut_26 : decode cX5_lowestToLetOut 26 = .ok (.iconst 1, 1) := by decide +kernel
theorem dX5_lowestToLetOut_27 : decode cX5_lowestToLetOut 27 = .ok (.iadd, 1) := by decide +kernel
theorem dX5_lowestToLetOut_28 : decode cX5_lowestToLetOut 28 = .ok (.iload_n 2, 1) := by decide +kernel
theorem dX5_lowestToLetOut_29 : decode cX5_lowestToLetOut 29 = .ok (.if_icmp .ne 14, 3) := by decide +kernel
theorem dX5_lowestToLetOut_32 : decode cX5_lowestToLetOut 32 = .ok (.aload_n 0, 1) := by decide +kernel
theorem dX5_lowestToLetOut_33 : decode cX5_lowestToLetOut 33 = .ok (.getfield 18, 3) := by decide +kernel
theorem dX5_lowestToLetOut_36 : decode cX5_lowestToLetOut 36 = .ok (.iload_n 3, 1) := by decide +kernel
theorem dX5_lowestToLetOut_37 : decode cX5_lowestToLetOut 37 = .ok (.baload, 1) := by decide +kernel
theorem dX5_lowestToLetOut_38 : decode cX5_lowestToLetOut 38 = .ok (.ifCond .ne 5, 3) := by decide +kernel
theorem dX5_lowestToLetOut_41 : decode cX5_lowestToLetOut 41 = .ok (.iload_n 3, 1) := by decide +kernel
theorem dX5_lowestToLetOut_42 : decode cX5_lowestToLetOut 42 = .ok (.ireturn, 1) := by decide +kernel
theorem dX5_lowestToLetOut_43 : decode cX5_lowestToLetOut 43 = .ok (.iinc 3 1, 3) := by decide +kernel
theorem dX5_lowestToLetOut_46 : decode cX5_lowestToLetOut 46 = .ok (.goto (-44), 3) := by decide +kernel
theorem dX5_lowestToLetOut_49 : decode cX5_lowestToLetOut 49 = .ok (.iconst (-1), 1) := by decide +kernel
theorem dX5_lowestToLetOut_50 : decode cX5_lowestToLetOut 50 = .ok (.ireturn, 1) := by decide +kernel
theorem dX5_letOut_0 : decode cX5_letOut 0 = .ok (.iload_n 1, 1) := by decide +kernel
theorem dX5_letOut_1 : decode cX5_letOut 1 = .ok (.iconst (-1), 1) := by decide +kernel
theorem dX5_letOut_2 : decode cX5_letOut 2 = .ok (.if_icmp .eq 20, 3) := by decide +kernel
theorem dX5_letOut_5 : decode cX5_letOut 5 = .ok (.aload_n 0, 1) := by decide +kernel
theorem dX5_letOut_6 : decode cX5_letOut 6 = .ok (.getfield 9, 3) := by decide +kernel
theorem dX5_letOut_9 : decode cX5_letOut 9 = .ok (.iload_n 1, 1) := by decide +kernel
theorem dX5_letOut_10 : decode cX5_letOut 10 = .ok (.dup2, 1) := by decide +kernel
theorem dX5_letOut_11 : decode cX5_letOut 11 = .ok (.iaload, 1) := by decide +kernel
theorem dX5_letOut_12 : decode cX5_letOut 12 = .ok (.iconst 1, 1) := by decide +kernel
theorem dX5_letOut_13 : decode cX5_letOut 13 = .ok (.iadd, 1) := by decide +kernel
theorem dX5_letOut_14 : decode cX5_letOut 14 = .ok (.iastore, 1) := by decide +kernel
theorem dX5_letOut_15 : decode cX5_letOut 15 = .ok (.aload_n 0, 1) := by decide +kernel
theorem dX5_letOut_16 : decode cX5_letOut 16 = .ok (.getfield 18, 3) := by decide +kernel
theorem dX5_letOut_19 : decode cX5_letOut 19 = .ok (.iload_n 1, 1) := by decide +kernel
theorem dX5_letOut_20 : decode cX5_letOut 20 = .ok (.iconst 1, 1) := by decide +kernel
theorem dX5_letOut_21 : decode cX5_letOut 21 = .ok (.bastore, 1) := by decide +kernel
theorem dX5_letOut_22 : decode cX5_letOut 22 = .ok (.return_, 1) := by decide +kernel
theorem dX6_init_0 : decode cX6_init 0 = .ok (.aload_n 0, 1) := by decide +kernel
theorem dX6_init_1 : decode cX6_init 1 = .ok (.invokespecial 1, 3) := by decide +kernel
theorem dX6_init_4 : decode cX6_init 4 = .ok (.aload_n 0, 1) := by decide +kernel
theorem dX6_init_5 : decode cX6_init 5 = .ok (.new 7, 3) := by decide +kernel
theorem dX6_init_8 : decode cX6_init 8 = .ok (.dup, 1) := by decide +kernel
theorem dX6_init_9 : decode cX6_init 9 = .ok (.invokespecial 9, 3) := by decide +kernel
theorem dX6_init_12 : decode cX6_init 12 = .ok (.putfield 10, 3) := by decide +kernel
theorem dX6_init_15 : decode cX6_init 15 = .ok (.aload_n 0, 1) := by decide +kernel
theorem dX6_init_16 : decode cX6_init 16 = .ok (.new 16, 3) := by decide +kernel
theorem dX6_init_19 : decode cX6_init 19 = .ok (.dup, 1) := by decide +kernel
theorem dX6_init_20 : decode cX6_init 20 = .ok (.invokespecial 18, 3) := by decide +kernel
theorem dX6_init_23 : decode cX6_init 23 = .ok (.putfield 19, 3) := by decide +kernel
theorem dX6_init_26 : decode cX6_init 26 = .ok (.aload_n 0, 1) := by decide +kernel
theorem dX6_init_27 : decode cX6_init 27 = .ok (.new 23, 3) := by decide +kernel
theorem dX6_init_30 : decode cX6_init 30 = .ok (.dup, 1) := by decide +kernel
theorem dX6_init_31 : decode cX6_init 31 = .ok (.invokespecial 25, 3) := by decide +kernel
theorem dX6_init_34 : decode cX6_init 34 = .ok (.putfield 26, 3) := by decide +kernel
theorem dX6_init_37 : decode cX6_init 37 = .ok (.aload_n 0, 1) := by decide +kernel
theorem dX6_init_38 : decode cX6_init 38 = .ok (.new 30, 3) := by decide +kernel
theorem dX6_init_41 : decode cX6_init 41 = .ok (.dup, 1) := by decide +kernel
theorem dX6_init_42 : decode cX6_init 42 = .ok (.invokespecial 32, 3) := by decide +kernel
theorem dX6_init_45 : decode cX6_init 45 = .ok (.putfield 33, 3) := by decide +kernel
theorem dX6_init_48 : decode cX6_init 48 = .ok (.aload_n 0, 1) := by decide +kernel
theorem dX6_init_49 : decode cX6_init 49 = .ok (.new 37, 3) := by decide +kernel
theorem dX6_init_52 : decode cX6_init 52 = .ok (.dup, 1) := by decide +kernel
theorem dX6_init_53 : decode cX6_init 53 = .ok (.invokespecial 39, 3) := by decide +kernel
theorem dX6_init_56 : decode cX6_init 56 = .ok (.putfield 40, 3) := by decide +kernel
theorem dX6_init_59 : decode cX6_init 59 = .ok (.aload_n 0, 1) := by decide +kernel
theorem dX6_init_60 : decode cX6_init 60 = .ok (.new 44, 3) := by decide +kernel
theorem dX6_init_63 : decode cX6_init 63 = .ok (.dup, 1) := by decide +kernel
theorem dX6_init_64 : decode cX6_init 64 = .ok (.invokespecial 46, 3) := by decide +kernel
theorem dX6_init_67 : decode cX6_init 67 = .ok (.putfield 47, 3) := by decide +kernel
theorem dX6_init_70 : decode cX6_init 70 = .ok (.aload_n 0, 1) := by decide +kernel
theorem dX6_init_71 : decode cX6_init 71 = .ok (.iconst 1, 1) := by decide +kernel
theorem dX6_init_72 : decode cX6_init 72 = .ok (.putfield 51, 3) := by decide +kernel
theorem dX6_init_75 : decode cX6_init 75 = .ok (.aload_n 0, 1) := by decide +kernel
theorem dX6_init_76 : decode cX6_init 76 = .ok (.iconst 0, 1) := by decide +kernel
theorem dX6_init_77 : decode cX6_init 77 = .ok (.putfield 55, 3) := by decide +kernel
theorem dX6_init_80 : decode cX6_init 80 = .ok (.return_, 1) := by decide +kernel
theorem dX6_setParts_0 : decode cX6_setParts 0 = .ok (.iload_n 1, 1) := by decide +kernel
theorem dX6_setParts_1 : decode cX6_setParts 1 = .ok (.iconst 1, 1) := by decide +kernel
theorem dX6_setParts_2 : decode cX6_setParts 2 = .ok (.if_icmp .lt 9, 3) := by decide +kernel
theorem dX6_setParts_5 : decode cX6_setParts 5 = .ok (.iload_n 1, 1) := by decide +kernel
theorem dX6_setParts_6 : decode cX6_setParts 6 = .ok (.bipush 8, 2) := by decide +kernel
theorem dX6_setParts_8 : decode cX6_setParts 8 = .ok (.if_icmp .le 13, 3) := by decide +kernel
theorem dX6_setParts_11 : decode cX6_setParts 11 = .ok (.new 58, 3) := by decide +kernel
theorem dX6_setParts_14 : decode cX6_setParts 14 = .ok (.dup, 1) := by decide +kernel
theorem dX6_setParts_15 : decode cX6_setParts 15 = .ok (.ldc 60, 2) := by decide +kernel
theorem dX6_setParts_17 : decode cX6_setParts 17 = .ok (.invokespecial 62, 3) := by decide +kernel
theorem dX6_setParts_20 : decode cX6_setParts 20 = .ok (.athrow, 1) := by decide +kernel
theorem dX6_setParts_21 : decode cX6_setParts 21 = .ok (.aload_n 0, 1) := by decide +kernel
theorem dX6_setParts_22 : decode cX6_setParts 22 = .ok (.getfield 51, 3) := by decide +kernel
theorem dX6_setParts_25 : decode cX6_setParts 25 = .ok (.istore_n 2, 1) := by decide +kernel
theorem dX6_setParts_26 : decode cX6_setParts 26 = .ok (.aload_n 0, 1) := by decide +kernel
theorem dX6_setParts_27 : decode cX6_setParts 27 = .ok (.iload_n 1, 1) := by decide +kernel
theorem dX6_setParts_28 : decode cX6_setParts 28 = .ok (.putfield 51, 3) := by decide +kernel
theorem dX6_setParts_31 : decode cX6_setParts 31 = .ok (.iload_n 2, 1) := by decide +kernel
theorem dX6_setParts_32 : decode cX6_setParts 32 = .ok (.ireturn, 1) := by decide +kernel
theorem dX6_setSize_0 : decode cX6_setSize 0 = .ok (.iload_n 1, 1) := by decide +kernel
theorem dX6_setSize_1 : decode cX6_setSize 1 = .ok (.invokestatic 65, 3) := by decide +kernel
theorem dX6_setSize_4 : decode cX6_setSize 4 = .ok (.iload_n 2, 1) := by decide +kernel
theorem dX6_setSize_5 : decode cX6_setSize 5 = .ok (.invokestatic 69, 3) := by decide +kernel
theorem dX6_setSize_8 : decode cX6_setSize 8 = .ok (.aload_n 0, 1) := by decide +kernel
theorem dX6_setSize_9 : decode cX6_setSize 9 = .ok (.getfield 10, 3) := by decide +kernel
theorem dX6_setSize_12 : decode cX6_setSize 12 = .ok (.getfield 72, 3) := by decide +kernel
theorem dX6_setSize_15 : decode cX6_setSize 15 = .ok (.iload_n 1, 1) := by decide +kernel
theorem dX6_setSize_16 : decode cX6_setSize 16 = .ok (.iaload, 1) := by decide +kernel
theorem dX6_setSize_17 : decode cX6_setSize 17 = .ok (.istore_n 3, 1) := by decide +kernel
theorem dX6_setSize_18 : decode cX6_setSize 18 = .ok (.aload_n 0, 1) := by decide +kernel
theorem dX6_setSize_19 : decode cX6_setSize 19 = .ok (.getfield 10, 3) := by decide +kernel
theorem dX6_setSize_22 : decode cX6_setSize 22 = .ok (.getfield 72, 3) := by decide +kernel
theorem dX6_setSize_25 : decode cX6_setSize 25 = .ok (.iload_n 1, 1) := by decide +kernel
theorem dX6_setSize_26 : decode cX6_setSize 26 = .ok (.iload_n 2, 1) := by decide +kernel
theorem dX6_setSize_27 : decode cX6_setSize 27 = .ok (.iastore, 1) := by decide +kernel
theorem dX6_setSize_28 : decode cX6_setSize 28 = .ok (.iload_n 3, 1) := by decide +kernel
theorem dX6_setSize_29 : decode cX6_setSize 29 = .ok (.ireturn, 1) := by decide +kernel
theorem dX6_learn_0 : decode cX6_learn 0 = .ok (.iload_n 1, 1) := by decide +kernel
theorem dX6_learn_1 : decode cX6_learn 1 = .ok (.invokestatic 65, 3) := by decide +kernel
theorem dX6_learn_4 : decode cX6_learn 4 = .ok (.iload_n 2, 1) := by decide +kernel
theorem dX6_learn_5 : decode cX6_learn 5 = .ok (.invokestatic 76, 3) := by decide +kernel
theorem dX6_learn_8 : decode cX6_learn 8 = .ok (.iload_n 3, 1) := by decide +kernel
theorem dX6_learn_9 : decode cX6_learn 9 = .ok (.ifCond .eq 19, 3) := by decide +kernel
theorem dX6_learn_12 : decode cX6_learn 12 = .ok (.aload_n 0, 1) := by decide +kernel
theorem dX6_learn_13 : decode cX6_learn 13 = .ok (.getfield 10, 3) := by decide +kernel
theorem dX6_learn_16 : decode cX6_learn 16 = .ok (.getfield 79, 3) := by decide +kernel
theorem dX6_learn_19 : decode cX6_learn 19 = .ok (.iload_n 1, 1) := by decide +kernel
theorem dX6_learn_20 : decode cX6_learn 20 = .ok (.iaload, 1) := by decide +kernel
theorem dX6_learn_21 : decode cX6_learn 21 = .ok (.iload_n 2, 1) := by decide +kernel
theorem dX6_learn_22 : decode cX6_learn 22 = .ok (.invokestatic 82, 3) := by decide +kernel
theorem dX6_learn_25 : decode cX6_learn 25 = .ok (.goto 16, 3) := by decide +kernel
theorem dX6_learn_28 : decode cX6_learn 28 = .ok (.aload_n 0, 1) := by decide +kernel
theorem dX6_learn_29 : decode cX6_learn 29 = .ok (.getfield 10, 3) := by decide +kernel
theorem dX6_learn_32 : decode cX6_learn 32 = .ok (.getfield 79, 3) := by decide +kernel
theorem dX6_learn_35 : decode cX6_learn 35 = .ok (.iload_n 1, 1) := by decide +kernel
theorem dX6_learn_36 : decode cX6_learn 36 = .ok (.iaload, 1) := by decide +kernel
theorem dX6_learn_37 : decode cX6_learn 37 = .ok (.iload_n 2, 1) := by decide +kernel
theorem dX6_learn_38 : decode cX6_learn 38 = .ok (.invokestatic 86, 3) := by decide +kernel
theorem dX6_learn_41 : decode cX6_learn 41 = .ok (.istore 4, 2) := by decide +kernel
theorem dX6_learn_43 : decode cX6_learn 43 = .ok (.iload 4, 2) := by decide +kernel
theorem dX6_learn_45 : decode cX6_learn 45 = .ok (.invokestatic 89, 3) := by decide +kernel
theorem dX6_learn_48 : decode cX6_learn 48 = .ok (.istore 5, 2) := by decide +kernel
theorem dX6_learn_50 : decode cX6_learn 50 = .ok (.iload 5, 2) := by decide +kernel
theorem dX6_learn_52 : decode cX6_learn 52 = .ok (.iconst 4, 1) := by decide +kernel
theorem dX6_learn_53 : decode cX6_learn 53 = .ok (.if_icmp .le 13, 3) := by decide +kernel
theorem dX6_learn_56 : decode cX6_learn 56 = .ok (.new 95, 3) := by decide +kernel
theorem dX6_learn_59 : decode cX6_learn 59 = .ok (.dup, 1) := by decide +kernel
theorem dX6_learn_60 : decode cX6_learn 60 = .ok (.ldc 97, 2) := by decide +kernel
theorem dX6_learn_62 : decode cX6_learn 62 = .ok (.invokespecial 99, 3) := by decide +kernel
theorem dX6_learn_65 : decode cX6_learn 65 = .ok (.athrow, 1) := by decide +kernel
theorem dX6_learn_66 : decode cX6_learn 66 = .ok (.aload_n 0, 1) := by decide +kernel
theorem dX6_learn_67 : decode cX6_learn 67 = .ok (.getfield 10, 3) := by decide +kernel
theorem dX6_learn_70 : decode cX6_learn 70 = .ok (.getfield 79, 3) := by decide +kernel
theorem dX6_learn_73 : decode cX6_learn 73 = .ok (.iload_n 1, 1) := by decide +kernel
theorem dX6_learn_74 : decode cX6_learn 74 = .ok (.iload 4, 2) := by decide +kernel
theorem dX6_learn_76 : decode cX6_learn 76 = .ok (.iastore, 1) := by decide +kernel
theorem dX6_learn_77 : decode cX6_learn 77 = .ok (.iload 5, 2) := by decide +kernel
theorem dX6_learn_79 : decode cX6_learn 79 = .ok (.ireturn, 1) := by decide +kernel
theorem dX6_put_0 : decode cX6_put 0 = .ok (.iload_n 1, 1) := by decide +kernel
theorem dX6_put_1 : decode cX6_put 1 = .ok (.invokestatic 76, 3) := by decide +kernel
theorem dX6_put_4 : decode cX6_put 4 = .ok (.iload_n 2, 1) := by decide +kernel
theorem dX6_put_5 : decode cX6_put 5 = .ok (.invokestatic 65, 3) := by decide +kernel
theorem dX6_put_8 : decode cX6_put 8 = .ok (.aload_n 0, 1) := by decide +kernel
theorem dX6_put_9 : decode cX6_put 9 = .ok (.getfield 19, 3) := by decide +kernel
theorem dX6_put_12 : decode cX6_put 12 = .ok (.iload_n 1, 1) := by decide +kernel
theorem dX6_put_13 : decode cX6_put 13 = .ok (.iload_n 2, 1) := by decide +kernel
theorem dX6_put_14 : decode cX6_put 14 = .ok (.invokevirtual 100, 3) := by decide +kernel
theorem dX6_put_17 : decode cX6_put 17 = .ok (.iconst (-1), 1) := by decide +kernel
theorem dX6_put_18 : decode cX6_put 18 = .ok (.if_icmp .eq 13, 3) := by decide +kernel
theorem dX6_put_21 : decode cX6_put 21 = .ok (.new 95, 3) := by decide +kernel
theorem dX6_put_24 : decode cX6_put 24 = .ok (.dup, 1) := by decide +kernel
theorem dX6_put_25 : decode cX6_put 25 = .ok (.ldc 103, 2) := by decide +kernel
theorem dX6_put_27 : decode cX6_put 27 = .ok (.invokespecial 99, 3) := by decide +kernel
theorem dX6_put_30 : decode cX6_put 30 = .ok (.athrow, 1) := by decide +kernel
theorem dX6_put_31 : decode cX6_put 31 = .ok (.aload_n 0, 1) := by decide +kernel
theorem dX6_put_32 : decode cX6_put 32 = .ok (.getfield 19, 3) := by decide +kernel
theorem dX6_put_35 : decode cX6_put 35 = .ok (.iload_n 1, 1) := by decide +kernel
theorem dX6_put_36 : decode cX6_put 36 = .ok (.invokevirtual 105, 3) := by decide +kernel
theorem dX6_put_39 : decode cX6_put 39 = .ok (.ifCond .eq 13, 3) := by decide +kernel
theorem dX6_put_42 : decode cX6_put 42 = .ok (.new 95, 3) := by decide +kernel
theorem dX6_put_45 : decode cX6_put 45 = .ok (.dup, 1) := by decide +kernel
theorem dX6_put_46 : decode cX6_put 46 = .ok (.ldc 109, 2) := by decide +kernel
theorem dX6_put_48 : decode cX6_put 48 = .ok (.invokespecial 99, 3) := by decide +kernel
theorem dX6_put_51 : decode cX6_put 51 = .ok (.athrow, 1) := by decide +kernel
theorem dX6_put_52 : decode cX6_put 52 = .ok (.aload_n 0, 1) := by decide +kernel
theorem dX6_put_53 : decode cX6_put 53 = .ok (.getfield 19, 3) := by decide +kernel
theorem dX6_put_56 : decode cX6_put 56 = .ok (.iload_n 1, 1) := by decide +kernel
theorem dX6_put_57 : decode cX6_put 57 = .ok (.iload_n 2, 1) := by decide +kernel
theorem dX6_put_58 : decode cX6_put 58 = .ok (.invokevirtual 111, 3) := by decide +kernel
theorem dX6_put_61 : decode cX6_put 61 = .ok (.ireturn, 1) := by decide +kernel
theorem dX6_take_0 : decode cX6_take 0 = .ok (.iload_n 1, 1) := by decide +kernel
theorem dX6_take_1 : decode cX6_take 1 = .ok (.invokestatic 76, 3) := by decide +kernel
theorem dX6_take_4 : decode cX6_take 4 = .ok (.iload_n 2, 1) := by decide +kernel
theorem dX6_take_5 : decode cX6_take 5 = .ok (.invokestatic 65, 3) := by decide +kernel
theorem dX6_take_8 : decode cX6_take 8 = .ok (.aload_n 0, 1) := by decide +kernel
theorem dX6_take_9 : decode cX6_take 9 = .ok (.getfield 19, 3) := by decide +kernel
theorem dX6_take_12 : decode cX6_take 12 = .ok (.iload_n 1, 1) := by decide +kernel
theorem dX6_take_13 : decode cX6_take 13 = .ok (.iload_n 2, 1) := by decide +kernel
theorem dX6_take_14 : decode cX6_take 14 = .ok (.invokevirtual 100, 3) := by decide +kernel
theorem dX6_take_17 : decode cX6_take 17 = .ok (.istore_n 3, 1) := by decide +kernel
theorem dX6_take_18 : decode cX6_take 18 = .ok (.iload_n 3, 1) := by decide +kernel
theorem dX6_take_19 : decode cX6_take 19 = .ok (.iconst (-1), 1) := by decide +kernel
theorem dX6_take_20 : decode cX6_take 20 = .ok (.if_icmp .ne 13, 3) := by decide +kernel
theorem dX6_take_23 : decode cX6_take 23 = .ok (.new 95, 3) := by decide +kernel
theorem dX6_take_26 : decode cX6_take 26 = .ok (.dup, 1) := by decide +kernel
theorem dX6_take_27 : decode cX6_take 27 = .ok (.ldc 114, 2) := by decide +kernel
theorem dX6_take_29 : decode cX6_take 29 = .ok (.invokespecial 99, 3) := by decide +kernel
theorem dX6_take_32 : decode cX6_take 32 = .ok (.athrow, 1) := by decide +kernel
theorem dX6_take_33 : decode cX6_take 33 = .ok (.aload_n 0, 1) := by decide +kernel
theorem dX6_take_34 : decode cX6_take 34 = .ok (.getfield 19, 3) := by decide +kernel
theorem dX6_take_37 : decode cX6_take 37 = .ok (.iload_n 1, 1) := by decide +kernel
theorem dX6_take_38 : decode cX6_take 38 = .ok (.iload_n 3, 1) := by decide +kernel
theorem dX6_take_39 : decode cX6_take 39 = .ok (.invokevirtual 116, 3) := by decide +kernel
theorem dX6_take_42 : decode cX6_take 42 = .ok (.iload_n 3, 1) := by decide +kernel
theorem dX6_take_43 : decode cX6_take 43 = .ok (.ireturn, 1) := by decide +kernel
theorem dX6_costume_0 : decode cX6_costume 0 = .ok (.iload_n 1, 1) := by decide +kernel
theorem dX6_costume_1 : decode cX6_costume 1 = .ok (.invokestatic 76, 3) := by decide +kernel
theorem dX6_costume_4 : decode cX6_costume 4 = .ok (.iload_n 2, 1) := by decide +kernel
theorem dX6_costume_5 : decode cX6_costume 5 = .ok (.invokestatic 69, 3) := by decide +kernel
theorem dX6_costume_8 : decode cX6_costume 8 = .ok (.aload_n 0, 1) := by decide +kernel
theorem dX6_costume_9 : decode cX6_costume 9 = .ok (.getfield 26, 3) := by decide +kernel
theorem dX6_costume_12 : decode cX6_costume 12 = .ok (.getfield 120, 3) := by decide +kernel
theorem dX6_costume_15 : decode cX6_costume 15 = .ok (.bipush 40, 2) := by decide +kernel
theorem dX6_costume_17 : decode cX6_costume 17 = .ok (.if_icmp .lt 13, 3) := by decide +kernel
theorem dX6_costume_20 : decode cX6_costume 20 = .ok (.new 95, 3) := by decide +kernel
theorem dX6_costume_23 : decode cX6_costume 23 = .ok (.dup, 1) := by decide +kernel
theorem dX6_costume_24 : decode cX6_costume 24 = .ok (.ldc 123, 2) := by decide +kernel
theorem dX6_costume_26 : decode cX6_costume 26 = .ok (.invokespecial 99, 3) := by decide +kernel
theorem dX6_costume_29 : decode cX6_costume 29 = .ok (.athrow, 1) := by decide +kernel
theorem dX6_costume_30 : decode cX6_costume 30 = .ok (.aload_n 0, 1) := by decide +kernel
theorem dX6_costume_31 : decode cX6_costume 31 = .ok (.getfield 26, 3) := by decide +kernel
theorem dX6_costume_34 : decode cX6_costume 34 = .ok (.iload_n 1, 1) := by decide +kernel
theorem dX6_costume_35 : decode cX6_costume 35 = .ok (.iload_n 2, 1) := by decide +kernel
theorem dX6_costume_36 : decode cX6_costume 36 = .ok (.invokevirtual 125, 3) := by decide +kernel
theorem dX6_costume_39 : decode cX6_costume 39 = .ok (.ireturn, 1) := by decide +kernel
theorem dX6_sizeOf_0 : decode cX6_sizeOf 0 = .ok (.iload_n 1, 1) := by decide +kernel
theorem dX6_sizeOf_1 : decode cX6_sizeOf 1 = .ok (.aload_n 0, 1) := by decide +kernel
theorem dX6_sizeOf_2 : decode cX6_sizeOf 2 = .ok (.getfield 26, 3) := by decide +kernel
theorem dX6_sizeOf_5 : decode cX6_sizeOf 5 = .ok (.getfield 120, 3) := by decide +kernel
theorem dX6_sizeOf_8 : decode cX6_sizeOf 8 = .ok (.invokestatic 128, 3) := by decide +kernel
theorem dX6_sizeOf_11 : decode cX6_sizeOf 11 = .ok (.aload_n 0, 1) := by decide +kernel
theorem dX6_sizeOf_12 : decode cX6_sizeOf 12 = .ok (.getfield 26, 3) := by decide +kernel
theorem dX6_sizeOf_15 : decode cX6_sizeOf 15 = .ok (.getfield 131, 3) := by decide +kernel
theorem dX6_sizeOf_18 : decode cX6_sizeOf 18 = .ok (.iload_n 1, 1) := by decide +kernel
theorem dX6_sizeOf_19 : decode cX6_sizeOf 19 = .ok (.iaload, 1) := by decide +kernel
theorem dX6_sizeOf_20 : decode cX6_sizeOf 20 = .ok (.ireturn, 1) := by decide +kernel
theorem dX6_cold_0 : decode cX6_cold 0 = .ok (.iload_n 1, 1) := by decide +kernel
theorem dX6_cold_1 : decode cX6_cold 1 = .ok (.invokestatic 65, 3) := by decide +kernel
theorem dX6_cold_4 : decode cX6_cold 4 = .ok (.iload_n 2, 1) := by decide +kernel
theorem dX6_cold_5 : decode cX6_cold 5 = .ok (.aload_n 0, 1) := by decide +kernel
theorem dX6_cold_6 : decode cX6_cold 6 = .ok (.getfield 55, 3) := by decide +kernel
theorem dX6_cold_9 : decode cX6_cold 9 = .ok (.invokestatic 132, 3) := by decide +kernel
theorem dX6_cold_12 : decode cX6_cold 12 = .ok (.iload_n 3, 1) := by decide +kernel
theorem dX6_cold_13 : decode cX6_cold 13 = .ok (.iload_n 2, 1) := by decide +kernel
theorem dX6_cold_14 : decode cX6_cold 14 = .ok (.invokestatic 132, 3) := by decide +kernel
theorem dX6_cold_17 : decode cX6_cold 17 = .ok (.aload_n 0, 1) := by decide +kernel
theorem dX6_cold_18 : decode cX6_cold 18 = .ok (.getfield 10, 3) := by decide +kernel
theorem dX6_cold_21 : decode cX6_cold 21 = .ok (.iload_n 1, 1) := by decide +kernel
theorem dX6_cold_22 : decode cX6_cold 22 = .ok (.iload_n 2, 1) := by decide +kernel
theorem dX6_cold_23 : decode cX6_cold 23 = .ok (.iload_n 3, 1) := by decide +kernel
theorem dX6_cold_24 : decode cX6_cold 24 = .ok (.invokevirtual 135, 3) := by decide +kernel
theorem dX6_cold_27 : decode cX6_cold 27 = .ok (.ireturn, 1) := by decide +kernel
theorem dX6_isIll_0 : decode cX6_isIll 0 = .ok (.iload_n 1, 1) := by decide +kernel
theorem dX6_isIll_1 : decode cX6_isIll 1 = .ok (.invokestatic 65, 3) := by decide +kernel
theorem dX6_isIll_4 : decode cX6_isIll 4 = .ok (.iload_n 2, 1) := by decide +kernel
theorem dX6_isIll_5 : decode cX6_isIll 5 = .ok (.iconst 0, 1) := by decide +kernel
theorem dX6_isIll_6 : decode cX6_isIll 6 = .ok (.invokestatic 132, 3) := by decide +kernel
theorem dX6_isIll_9 : decode cX6_isIll 9 = .ok (.aload_n 0, 1) := by decide +kernel
theorem dX6_isIll_10 : decode cX6_isIll 10 = .ok (.getfield 10, 3) := by decide +kernel
theorem dX6_isIll_13 : decode cX6_isIll 13 = .ok (.getfield 139, 3) := by decide +kernel
theorem dX6_isIll_16 : decode cX6_isIll 16 = .ok (.iload_n 2, 1) := by decide +kernel
theorem dX6_isIll_17 : decode cX6_isIll 17 = .ok (.iaload, 1) := by decide +kernel
theorem dX6_isIll_18 : decode cX6_isIll 18 = .ok (.iload_n 1, 1) := by decide +kernel
theorem dX6_isIll_19 : decode cX6_isIll 19 = .ok (.invokestatic 142, 3) := by decide +kernel
theorem dX6_isIll_22 : decode cX6_isIll 22 = .ok (.ireturn, 1) := by decide +kernel
theorem dX6_canPlay_0 : decode cX6_canPlay 0 = .ok (.iload_n 1, 1) := by decide +kernel
theorem dX6_canPlay_1 : decode cX6_canPlay 1 = .ok (.invokestatic 65, 3) := by decide +kernel
theorem dX6_canPlay_4 : decode cX6_canPlay 4 = .ok (.iload_n 2, 1) := by decide +kernel
theorem dX6_canPlay_5 : decode cX6_canPlay 5 = .ok (.invokestatic 76, 3) := by decide +kernel
theorem dX6_canPlay_8 : decode cX6_canPlay 8 = .ok (.iload_n 3, 1) := by decide +kernel
theorem dX6_canPlay_9 : decode cX6_canPlay 9 = .ok (.iconst 0, 1) := by decide +kernel
theorem dX6_canPlay_10 : decode cX6_canPlay 10 = .ok (.invokestatic 132, 3) := by decide +kernel
theorem dX6_canPlay_13 : decode cX6_canPlay 13 = .ok (.aload_n 0, 1) := by decide +kernel
theorem dX6_canPlay_14 : decode cX6_canPlay 14 = .ok (.getfield 19, 3) := by decide +kernel
theorem dX6_canPlay_17 : decode cX6_canPlay 17 = .ok (.iload_n 2, 1) := by decide +kernel
theorem dX6_canPlay_18 : decode cX6_canPlay 18 = .ok (.iload_n 1, 1) := by decide +kernel
theorem dX6_canPlay_19 : decode cX6_canPlay 19 = .ok (.invokevirtual 100, 3) := by decide +kernel
theorem dX6_canPlay_22 : decode cX6_canPlay 22 = .ok (.iconst (-1), 1) := by decide +kernel
theorem dX6_canPlay_23 : decode cX6_canPlay 23 = .ok (.if_icmp .eq 25, 3) := by decide +kernel
theorem dX6_canPlay_26 : decode cX6_canPlay 26 = .ok (.aload_n 0, 1) := by decide +kernel
theorem dX6_canPlay_27 : decode cX6_canPlay 27 = .ok (.iload_n 1, 1) := by decide +kernel
theorem dX6_canPlay_28 : decode cX6_canPlay 28 = .ok (.iload_n 2, 1) := by decide +kernel
theorem dX6_canPlay_29 : decode cX6_canPlay 29 = .ok (.aload_n 0, 1) := by decide +kernel
theorem dX6_canPlay_30 : decode cX6_canPlay 30 = .ok (.getfield 10, 3) := by decide +kernel
theorem dX6_canPlay_33 : decode cX6_canPlay 33 = .ok (.getfield 139, 3) := by decide +kernel
theorem dX6_canPlay_36 : decode cX6_canPlay 36 = .ok (.iload_n 3, 1) := by decide +kernel
theorem dX6_canPlay_37 : decode cX6_canPlay 37 = .ok (.iaload, 1) := by decide +kernel
theorem dX6_canPlay_38 : decode cX6_canPlay 38 = .ok (.invokevirtual 146, 3) := by decide +kernel
theorem dX6_canPlay_41 : decode cX6_canPlay 41 = .ok (.ifCond .eq 7, 3) := by decide +kernel
theorem dX6_canPlay_44 : decode cX6_canPlay 44 = .ok (.iconst 1, 1) := by decide +kernel
theorem dX6_canPlay_45 : decode cX6_canPlay 45 = .ok (.goto 4, 3) := by decide +kernel
theorem dX6_canPlay_48 : decode cX6_canPlay 48 = .ok (.iconst 0, 1) := by decide +kernel
theorem dX6_canPlay_49 : decode cX6_canPlay 49 = .ok (.ireturn, 1) := by decide +kernel
theorem dX6_strain_0 : decode cX6_strain 0 = .ok (.iload_n 1, 1) := by decide +kernel
theorem dX6_strain_1 : decode cX6_strain 1 = .ok (.iconst 0, 1) := by decide +kernel
theorem dX6_strain_2 : decode cX6_strain 2 = .ok (.invokestatic 132, 3) := by decide +kernel
theorem dX6_strain_5 : decode cX6_strain 5 = .ok (.aload_n 0, 1) := by decide +kernel
theorem dX6_strain_6 : decode cX6_strain 6 = .ok (.aload_n 0, 1) := by decide +kernel
theorem dX6_strain_7 : decode cX6_strain 7 = .ok (.getfield 10, 3) := by decide +kernel
theorem dX6_strain_10 : decode cX6_strain 10 = .ok (.getfield 139, 3) := by decide +kernel
theorem dX6_strain_13 : decode cX6_strain 13 = .ok (.iload_n 1, 1) := by decide +kernel
theorem dX6_strain_14 : decode cX6_strain 14 = .ok (.iaload, 1) := by decide +kernel
theorem dX6_strain_15 : decode cX6_strain 15 = .ok (.invokevirtual 150, 3) := by decide +kernel
theorem dX6_strain_18 : decode cX6_strain 18 = .ok (.istore_n 2, 1) := by decide +kernel
theorem dX6_strain_19 : decode cX6_strain 19 = .ok (.iload_n 2, 1) := by decide +kernel
theorem dX6_strain_20 : decode cX6_strain 20 = .ok (.iconst (-1), 1) := by decide +kernel
theorem dX6_strain_21 : decode cX6_strain 21 = .ok (.if_icmp .ne 7, 3) := by decide +kernel
theorem dX6_strain_24 : decode cX6_strain 24 = .ok (.iconst (-1), 1) := by decide +kernel
theorem dX6_strain_25 : decode cX6_strain 25 = .ok (.goto 7, 3) := by decide +kernel
theorem dX6_strain_28 : decode cX6_strain 28 = .ok (.iload_n 2, 1) := by decide +kernel
theorem dX6_strain_29 : decode cX6_strain 29 = .ok (.invokestatic 153, 3) := by decide +kernel
theorem dX6_strain_32 : decode cX6_strain 32 = .ok (.ireturn, 1) := by decide +kernel
theorem dX6_strainByAll_0 : decode cX6_strainByAll 0 = .ok (.iload_n 1, 1) := by decide +kernel
theorem dX6_strainByAll_1 : decode cX6_strainByAll 1 = .ok (.iconst 0, 1) := by decide +kernel
theorem dX6_strainByAll_2 : decode cX6_strainByAll 2 = .ok (.invokestatic 132, 3) := by decide +kernel
theorem dX6_strainByAll_5 : decode cX6_strainByAll 5 = .ok (.aload_n 0, 1) := by decide +kernel
theorem dX6_strainByAll_6 : decode cX6_strainByAll 6 = .ok (.aload_n 0, 1) := by decide +kernel
theorem dX6_strainByAll_7 : decode cX6_strainByAll 7 = .ok (.getfield 10, 3) := by decide +kernel
theorem dX6_strainByAll_10 : decode cX6_strainByAll 10 = .ok (.getfield 139, 3) := by decide +kernel
theorem dX6_strainByAll_13 : decode cX6_strainByAll 13 = .ok (.iload_n 1, 1) := by decide +kernel
theorem dX6_strainByAll_14 : decode cX6_strainByAll 14 = .ok (.iaload, 1) := by decide +kernel
theorem dX6_strainByAll_15 : decode cX6_strainByAll 15 = .ok (.invokevirtual 156, 3) := by decide +kernel
theorem dX6_strainByAll_18 : decode cX6_strainByAll 18 = .ok (.aload_n 0, 1) := by decide +kernel
theorem dX6_strainByAll_19 : decode cX6_strainByAll 19 = .ok (.getfield 33, 3) := by decide +kernel
theorem dX6_strainByAll_22 : decode cX6_strainByAll 22 = .ok (.aload_n 0, 1) := by decide +kernel
theorem dX6_strainByAll_23 : decode cX6_strainByAll 23 = .ok (.getfield 51, 3) := by decide +kernel
theorem dX6_strainByAll_26 : decode cX6_strainByAll 26 = .ok (.invokevirtual 159, 3) := by decide +kernel
theorem dX6_strainByAll_29 : decode cX6_strainByAll 29 = .ok (.ireturn, 1) := by decide +kernel
theorem dX6_work_0 : decode cX6_work 0 = .ok (.iload_n 1, 1) := by decide +kernel
theorem dX6_work_1 : decode cX6_work 1 = .ok (.iconst 0, 1) := by decide +kernel
theorem dX6_work_2 : decode cX6_work 2 = .ok (.invokestatic 132, 3) := by decide +kernel
theorem dX6_work_5 : decode cX6_work 5 = .ok (.aload_n 0, 1) := by decide +kernel
theorem dX6_work_6 : decode cX6_work 6 = .ok (.aload_n 0, 1) := by decide +kernel
theorem dX6_work_7 : decode cX6_work 7 = .ok (.getfield 10, 3) := by decide +kernel
theorem dX6_work_10 : decode cX6_work 10 = .ok (.getfield 139, 3) := by decide +kernel
theorem dX6_work_13 : decode cX6_work 13 = .ok (.iload_n 1, 1) := by decide +kernel
theorem dX6_work_14 : decode cX6_work 14 = .ok (.iaload, 1) := by decide +kernel
theorem dX6_work_15 : decode cX6_work 15 = .ok (.invokevirtual 150, 3) := by decide +kernel
theorem dX6_work_18 : decode cX6_work 18 = .ok (.istore_n 2, 1) := by decide +kernel
theorem dX6_work_19 : decode cX6_work 19 = .ok (.iload_n 2, 1) := by decide +kernel
theorem dX6_work_20 : decode cX6_work 20 = .ok (.iconst (-1), 1) := by decide +kernel
theorem dX6_work_21 : decode cX6_work 21 = .ok (.if_icmp .ne 7, 3) := by decide +kernel
theorem dX6_work_24 : decode cX6_work 24 = .ok (.iconst (-1), 1) := by decide +kernel
theorem dX6_work_25 : decode cX6_work 25 = .ok (.goto 7, 3) := by decide +kernel
theorem dX6_work_28 : decode cX6_work 28 = .ok (.iload_n 2, 1) := by decide +kernel
theorem dX6_work_29 : decode cX6_work 29 = .ok (.invokestatic 162, 3) := by decide +kernel
theorem dX6_work_32 : decode cX6_work 32 = .ok (.ireturn, 1) := by decide +kernel
theorem dX6_actorFor_0 : decode cX6_actorFor 0 = .ok (.iload_n 2, 1) := by decide +kernel
theorem dX6_actorFor_1 : decode cX6_actorFor 1 = .ok (.invokestatic 76, 3) := by decide +kernel
theorem dX6_actorFor_4 : decode cX6_actorFor 4 = .ok (.iload_n 1, 1) := by decide +kernel
theorem dX6_actorFor_5 : decode cX6_actorFor 5 = .ok (.iconst 0, 1) := by decide +kernel
theorem dX6_actorFor_6 : decode cX6_actorFor 6 = .ok (.invokestatic 132, 3) := by decide +kernel
theorem dX6_actorFor_9 : decode cX6_actorFor 9 = .ok (.aload_n 0, 1) := by decide +kernel
theorem dX6_actorFor_10 : decode cX6_actorFor 10 = .ok (.aload_n 0, 1) := by decide +kernel
theorem dX6_actorFor_11 : decode cX6_actorFor 11 = .ok (.getfield 10, 3) := by decide +kernel
theorem dX6_actorFor_14 : decode cX6_actorFor 14 = .ok (.getfield 139, 3) := by decide +kernel
theorem dX6_actorFor_17 : decode cX6_actorFor 17 = .ok (.iload_n 1, 1) := by decide +kernel
theorem dX6_actorFor_18 : decode cX6_actorFor 18 = .ok (.iaload, 1) := by decide +kernel
theorem dX6_actorFor_19 : decode cX6_actorFor 19 = .ok (.invokevirtual 150, 3) := by decide +kernel
theorem dX6_actorFor_22 : decode cX6_actorFor 22 = .ok (.istore_n 3, 1) := by decide +kernel
theorem dX6_actorFor_23 : decode cX6_actorFor 23 = .ok (.iload_n 3, 1) := by decide +kernel
theorem dX6_actorFor_24 : decode cX6_actorFor 24 = .ok (.iconst (-1), 1) := by decide +kernel
theorem dX6_actorFor_25 : decode cX6_actorFor 25 = .ok (.if_icmp .eq 11, 3) := by decide +kernel
theorem dX6_actorFor_28 : decode cX6_actorFor 28 = .ok (.iload_n 2, 1) := by decide +kernel
theorem dX6_actorFor_29 : decode cX6_actorFor 29 = .ok (.aload_n 0, 1) := by decide +kernel
theorem dX6_actorFor_30 : decode cX6_actorFor 30 = .ok (.getfield 51, 3) := by decide +kernel
theorem dX6_actorFor_33 : decode cX6_actorFor 33 = .ok (.if_icmp .lt 7, 3) := by decide +kernel
theorem dX6_actorFor_36 : decode cX6_actorFor 36 = .ok (.iconst (-1), 1) := by decide +kernel
theorem dX6_actorFor_37 : decode cX6_actorFor 37 = .ok (.goto 9, 3) := by decide +kernel
theorem dX6_actorFor_40 : decode cX6_actorFor 40 = .ok (.aload_n 0, 1) := by decide +kernel
theorem dX6_actorFor_41 : decode cX6_actorFor 41 = .ok (.iload_n 3, 1) := by decide +kernel
theorem dX6_actorFor_42 : decode cX6_actorFor 42 = .ok (.iload_n 2, 1) := by decide +kernel
theorem dX6_actorFor_43 : decode cX6_actorFor 43 = .ok (.invokevirtual 165, 3) := by decide +kernel
theorem dX6_actorFor_46 : decode cX6_actorFor 46 = .ok (.ireturn, 1) := by decide +kernel
theorem dX6_chain_0 : decode cX6_chain 0 = .ok (.iload_n 1, 1) := by decide +kernel
theorem dX6_chain_1 : decode cX6_chain 1 = .ok (.invokestatic 65, 3) := by decide +kernel
theorem dX6_chain_4 : decode cX6_chain 4 = .ok (.iload_n 2, 1) := by decide +kernel
theorem dX6_chain_5 : decode cX6_chain 5 = .ok (.iconst 0, 1) := by decide +kernel
theorem dX6_chain_6 : decode cX6_chain 6 = .ok (.invokestatic 132, 3) := by decide +kernel
theorem dX6_chain_9 : decode cX6_chain 9 = .ok (.aload_n 0, 1) := by decide +kernel
theorem dX6_chain_10 : decode cX6_chain 10 = .ok (.aload_n 0, 1) := by decide +kernel
theorem dX6_chain_11 : decode cX6_chain 11 = .ok (.getfield 10, 3) := by decide +kernel
theorem dX6_chain_14 : decode cX6_chain 14 = .ok (.getfield 139, 3) := by decide +kernel
theorem dX6_chain_17 : decode cX6_chain 17 = .ok (.iload_n 2, 1) := by decide +kernel
theorem dX6_chain_18 : decode cX6_chain 18 = .ok (.iaload, 1) := by decide +kernel
theorem dX6_chain_19 : decode cX6_chain 19 = .ok (.invokevirtual 150, 3) := by decide +kernel
theorem dX6_chain_22 : decode cX6_chain 22 = .ok (.istore_n 3, 1) := by decide +kernel
theorem dX6_chain_23 : decode cX6_chain 23 = .ok (.aload_n 0, 1) := by decide +kernel
theorem dX6_chain_24 : decode cX6_chain 24 = .ok (.aload_n 0, 1) := by decide +kernel
theorem dX6_chain_25 : decode cX6_chain 25 = .ok (.getfield 10, 3) := by decide +kernel
theorem dX6_chain_28 : decode cX6_chain 28 = .ok (.getfield 139, 3) := by decide +kernel
theorem dX6_chain_31 : decode cX6_chain 31 = .ok (.iload_n 2, 1) := by decide +kernel
theorem dX6_chain_32 : decode cX6_chain 32 = .ok (.iaload, 1) := by decide +kernel
theorem dX6_chain_33 : decode cX6_chain 33 = .ok (.iload_n 1, 1) := by decide +kernel
theorem dX6_chain_34 : decode cX6_chain 34 = .ok (.invokestatic 82, 3) := by decide +kernel
theorem dX6_chain_37 : decode cX6_chain 37 = .ok (.invokevirtual 150, 3) := by decide +kernel
theorem dX6_chain_40 : decode cX6_chain 40 = .ok (.istore 4, 2) := by decide +kernel
theorem dX6_chain_42 : decode cX6_chain 42 = .ok (.iload_n 3, 1) := by decide +kernel
theorem dX6_chain_43 : decode cX6_chain 43 = .ok (.iconst (-1), 1) := by decide +kernel
theorem dX6_chain_44 : decode cX6_chain 44 = .ok (.if_icmp .eq 9, 3) := by decide +kernel
theorem dX6_chain_47 : decode cX6_chain 47 = .ok (.iload 4, 2) := by decide +kernel
theorem dX6_chain_49 : decode cX6_chain 49 = .ok (.iconst (-1), 1) := by decide +kernel
theorem dX6_chain_50 : decode cX6_chain 50 = .ok (.if_icmp .ne 7, 3) := by decide +kernel
theorem dX6_chain_53 : decode cX6_chain 53 = .ok (.iconst (-1), 1) := by decide +kernel
theorem dX6_chain_54 : decode cX6_chain 54 = .ok (.goto 10, 3) := by decide +kernel
theorem dX6_chain_57 : decode cX6_chain 57 = .ok (.aload_n 0, 1) := by decide +kernel
theorem dX6_chain_58 : decode cX6_chain 58 = .ok (.iload_n 3, 1) := by decide +kernel
theorem dX6_chain_59 : decode cX6_chain 59 = .ok (.iload 4, 2) := by decide +kernel
theorem dX6_chain_61 : decode cX6_chain 61 = .ok (.invokevirtual 168, 3) := by decide +kernel
theorem dX6_chain_64 : decode cX6_chain 64 = .ok (.ireturn, 1) := by decide +kernel
theorem dX6_show_0 : decode cX6_show 0 = .ok (.iload_n 1, 1) := by decide +kernel
theorem dX6_show_1 : decode cX6_show 1 = .ok (.aload_n 0, 1) := by decide +kernel
theorem dX6_show_2 : decode cX6_show 2 = .ok (.getfield 55, 3) := by decide +kernel
theorem dX6_show_5 : decode cX6_show 5 = .ok (.invokestatic 132, 3) := by decide +kernel
theorem dX6_show_8 : decode cX6_show 8 = .ok (.aload_n 0, 1) := by decide +kernel
theorem dX6_show_9 : decode cX6_show 9 = .ok (.getfield 40, 3) := by decide +kernel
theorem dX6_show_12 : decode cX6_show 12 = .ok (.iload_n 1, 1) := by decide +kernel
theorem dX6_show_13 : decode cX6_show 13 = .ok (.invokevirtual 171, 3) := by decide +kernel
theorem dX6_show_16 : decode cX6_show 16 = .ok (.iconst (-1), 1) := by decide +kernel
theorem dX6_show_17 : decode cX6_show 17 = .ok (.if_icmp .eq 13, 3) := by decide +kernel
theorem dX6_show_20 : decode cX6_show 20 = .ok (.new 95, 3) := by decide +kernel
theorem dX6_show_23 : decode cX6_show 23 = .ok (.dup, 1) := by decide +kernel
theorem dX6_show_24 : decode cX6_show 24 = .ok (.ldc 174, 2) := by decide +kernel
theorem dX6_show_26 : decode cX6_show 26 = .ok (.invokespecial 99, 3) := by decide +kernel
theorem dX6_show_29 : decode cX6_show 29 = .ok (.athrow, 1) := by decide +kernel
theorem dX6_show_30 : decode cX6_show 30 = .ok (.aload_n 0, 1) := by decide +kernel
theorem dX6_show_31 : decode cX6_show 31 = .ok (.getfield 40, 3) := by decide +kernel
theorem dX6_show_34 : decode cX6_show 34 = .ok (.getfield 176, 3) := by decide +kernel
theorem dX6_show_37 : decode cX6_show 37 = .ok (.bipush 40, 2) := by decide +kernel
theorem dX6_show_39 : decode cX6_show 39 = .ok (.if_icmp .lt 13, 3) := by decide +kernel
theorem dX6_show_42 : decode cX6_show 42 = .ok (.new 95, 3) := by decide +kernel
theorem dX6_show_45 : decode cX6_show 45 = .ok (.dup, 1) := by decide +kernel
theorem dX6_show_46 : decode cX6_show 46 = .ok (.ldc 177, 2) := by decide +kernel
theorem dX6_show_48 : decode cX6_show 48 = .ok (.invokespecial 99, 3) := by decide +kernel
theorem dX6_show_51 : decode cX6_show 51 = .ok (.athrow, 1) := by decide +kernel
theorem dX6_show_52 : decode cX6_show 52 = .ok (.aload_n 0, 1) := by decide +kernel
theorem dX6_show_53 : decode cX6_show 53 = .ok (.getfield 40, 3) := by decide +kernel
theorem dX6_show_56 : decode cX6_show 56 = .ok (.iload_n 1, 1) := by decide +kernel
theorem dX6_show_57 : decode cX6_show 57 = .ok (.invokevirtual 179, 3) := by decide +kernel
theorem dX6_show_60 : decode cX6_show 60 = .ok (.ireturn, 1) := by decide +kernel
theorem dX6_sell_0 : decode cX6_sell 0 = .ok (.iload_n 1, 1) := by decide +kernel
theorem dX6_sell_1 : decode cX6_sell 1 = .ok (.aload_n 0, 1) := by decide +kernel
theorem dX6_sell_2 : decode cX6_sell 2 = .ok (.getfield 40, 3) := by decide +kernel
theorem dX6_sell_5 : decode cX6_sell 5 = .ok (.getfield 176, 3) := by decide +kernel
theorem dX6_sell_8 : decode cX6_sell 8 = .ok (.invokestatic 128, 3) := by decide +kernel
theorem dX6_sell_11 : decode cX6_sell 11 = .ok (.iload 4, 2) := by decide +kernel
theorem dX6_sell_13 : decode cX6_sell 13 = .ok (.invokestatic 76, 3) := by decide +kernel
theorem dX6_sell_16 : decode cX6_sell 16 = .ok (.iload_n 2, 1) := by decide +kernel
theorem dX6_sell_17 : decode cX6_sell 17 = .ok (.iconst 1, 1) := by decide +kernel
theorem dX6_sell_18 : decode cX6_sell 18 = .ok (.if_icmp .lt 10, 3) := by decide +kernel
theorem dX6_sell_21 : decode cX6_sell 21 = .ok (.iload_n 2, 1) := by decide +kernel
theorem dX6_sell_22 : decode cX6_sell 22 = .ok (.sipush 1000, 3) := by decide +kernel
theorem dX6_sell_25 : decode cX6_sell 25 = .ok (.if_icmp .le 13, 3) := by decide +kernel
theorem dX6_sell_28 : decode cX6_sell 28 = .ok (.new 58, 3) := by decide +kernel
theorem dX6_sell_31 : decode cX6_sell 31 = .ok (.dup, 1) := by decide +kernel
theorem dX6_sell_32 : decode cX6_sell 32 = .ok (.ldc 181, 2) := by decide +kernel
theorem dX6_sell_34 : decode cX6_sell 34 = .ok (.invokespecial 62, 3) := by decide +kernel
theorem dX6_sell_37 : decode cX6_sell 37 = .ok (.athrow, 1) := by decide +kernel
theorem dX6_sell_38 : decode cX6_sell 38 = .ok (.iload_n 3, 1) := by decide +kernel
theorem dX6_sell_39 : decode cX6_sell 39 = .ok (.ifCond .lt 8, 3) := by decide +kernel
theorem dX6_sell_42 : decode cX6_sell 42 = .ok (.iload_n 3, 1) := by decide +kernel
theorem dX6_sell_43 : decode cX6_sell 43 = .ok (.iconst 3, 1) := by decide +kernel
theorem dX6_sell_44 : decode cX6_sell 44 = .ok (.if_icmp .le 13, 3) := by decide +kernel
theorem dX6_sell_47 : decode cX6_sell 47 = .ok (.new 58, 3) := by decide +kernel
theorem dX6_sell_50 : decode cX6_sell 50 = .ok (.dup, 1) := by decide +kernel
theorem dX6_sell_51 : decode cX6_sell 51 = .ok (.ldc 183, 2) := by decide +kernel
theorem dX6_sell_53 : decode cX6_sell 53 = .ok (.invokespecial 62, 3) := by decide +kernel
theorem dX6_sell_56 : decode cX6_sell 56 = .ok (.athrow, 1) := by decide +kernel
theorem dX6_sell_57 : decode cX6_sell 57 = .ok (.aload_n 0, 1) := by decide +kernel
theorem dX6_sell_58 : decode cX6_sell 58 = .ok (.getfield 40, 3) := by decide +kernel
theorem dX6_sell_61 : decode cX6_sell 61 = .ok (.getfield 185, 3) := by decide +kernel
theorem dX6_sell_64 : decode cX6_sell 64 = .ok (.iload_n 1, 1) := by decide +kernel
theorem dX6_sell_65 : decode cX6_sell 65 = .ok (.iaload, 1) := by decide +kernel
theorem dX6_sell_66 : decode cX6_sell 66 = .ok (.ifCond .eq 13, 3) := by decide +kernel
theorem dX6_sell_69 : decode cX6_sell 69 = .ok (.new 95, 3) := by decide +kernel
theorem dX6_sell_72 : decode cX6_sell 72 = .ok (.dup, 1) := by decide +kernel
theorem dX6_sell_73 : decode cX6_sell 73 = .ok (.ldc 188, 2) := by decide +kernel
theorem dX6_sell_75 : decode cX6_sell 75 = .ok (.invokespecial 99, 3) := by decide +kernel
theorem dX6_sell_78 : decode cX6_sell 78 = .ok (.athrow, 1) := by decide +kernel
theorem dX6_sell_79 : decode cX6_sell 79 = .ok (.aload_n 0, 1) := by decide +kernel
theorem dX6_sell_80 : decode cX6_sell 80 = .ok (.getfield 47, 3) := by decide +kernel
theorem dX6_sell_83 : decode cX6_sell 83 = .ok (.getfield 190, 3) := by decide +kernel
theorem dX6_sell_86 : decode cX6_sell 86 = .ok (.bipush 100, 2) := by decide +kernel
theorem dX6_sell_88 : decode cX6_sell 88 = .ok (.if_icmp .lt 13, 3) := by decide +kernel
theorem dX6_sell_91 : decode cX6_sell 91 = .ok (.new 95, 3) := by decide +kernel
theorem dX6_sell_94 : decode cX6_sell 94 = .ok (.dup, 1) := by decide +kernel
theorem dX6_sell_95 : decode cX6_sell 95 = .ok (.ldc 191, 2) := by decide +kernel
theorem dX6_sell_97 : decode cX6_sell 97 = .ok (.invokespecial 99, 3) := by decide +kernel
theorem dX6_sell_100 : decode cX6_sell 100 = .ok (.athrow, 1) := by decide +kernel
theorem dX6_sell_101 : decode cX6_sell 101 = .ok (.aload_n 0, 1) := by decide +kernel
theorem dX6_sell_102 : decode cX6_sell 102 = .ok (.getfield 19, 3) := by decide +kernel
theorem dX6_sell_105 : decode cX6_sell 105 = .ok (.iload 4, 2) := by decide +kernel
theorem dX6_sell_107 : decode cX6_sell 107 = .ok (.iconst 0, 1) := by decide +kernel
theorem dX6_sell_108 : decode cX6_sell 108 = .ok (.invokevirtual 193, 3) := by decide +kernel
theorem dX6_sell_111 : decode cX6_sell 111 = .ok (.istore 5, 2) := by decide +kernel
theorem dX6_sell_113 : decode cX6_sell 113 = .ok (.iload_n 3, 1) := by decide +kernel
theorem dX6_sell_114 : decode cX6_sell 114 = .ok (.iconst 1, 1) := by decide +kernel
theorem dX6_sell_115 : decode cX6_sell 115 = .ok (.if_icmp .ne 19, 3) := by decide +kernel
theorem dX6_sell_118 : decode cX6_sell 118 = .ok (.iload 5, 2) := by decide +kernel
theorem dX6_sell_120 : decode cX6_sell 120 = .ok (.iconst (-1), 1) := by decide +kernel
theorem dX6_sell_121 : decode cX6_sell 121 = .ok (.if_icmp .ne 13, 3) := by decide +kernel
theorem dX6_sell_124 : decode cX6_sell 124 = .ok (.new 95, 3) := by decide +kernel
theorem dX6_sell_127 : decode cX6_sell 127 = .ok (.dup, 1) := by decide +kernel
theorem dX6_sell_128 : decode cX6_sell 128 = .ok (.ldc 196, 2) := by decide +kernel
theorem dX6_sell_130 : decode cX6_sell 130 = .ok (.invokespecial 99, 3) := by decide +kernel
theorem dX6_sell_133 : decode cX6_sell 133 = .ok (.athrow, 1) := by decide +kernel
theorem dX6_sell_134 : decode cX6_sell 134 = .ok (.aload_n 0, 1) := by decide +kernel
theorem dX6_sell_135 : decode cX6_sell 135 = .ok (.getfield 47, 3) := by decide +kernel
theorem dX6_sell_138 : decode cX6_sell 138 = .ok (.iload_n 1, 1) := by decide +kernel
theorem dX6_sell_139 : decode cX6_sell 139 = .ok (.iload_n 2, 1) := by decide +kernel
theorem dX6_sell_140 : decode cX6_sell 140 = .ok (.iload_n 3, 1) := by decide +kernel
theorem dX6_sell_141 : decode cX6_sell 141 = .ok (.iload 4, 2) := by decide +kernel
theorem dX6_sell_143 : decode cX6_sell 143 = .ok (.iload 5, 2) := by decide +kernel
theorem dX6_sell_145 : decode cX6_sell 145 = .ok (.invokevirtual 198, 3) := by decide +kernel
theorem dX6_sell_148 : decode cX6_sell 148 = .ok (.ireturn, 1) := by decide +kernel
theorem dX6_play_0 : decode cX6_play 0 = .ok (.aload_n 0, 1) := by decide +kernel
theorem dX6_play_1 : decode cX6_play 1 = .ok (.getfield 55, 3) := by decide +kernel
theorem dX6_play_4 : decode cX6_play 4 = .ok (.sipush 1000, 3) := by decide +kernel
theorem dX6_play_7 : decode cX6_play 7 = .ok (.if_icmp .lt 13, 3) := by decide +kernel
theorem dX6_play_10 : decode cX6_play 10 = .ok (.new 95, 3) := by decide +kernel
theorem dX6_play_13 : decode cX6_play 13 = .ok (.dup, 1) := by decide +kernel
theorem dX6_play_14 : decode cX6_play 14 = .ok (.ldc 201, 2) := by decide +kernel
theorem dX6_play_16 : decode cX6_play 16 = .ok (.invokespecial 99, 3) := by decide +kernel
theorem dX6_play_19 : decode cX6_play 19 = .ok (.athrow, 1) := by decide +kernel
theorem dX6_play_20 : decode cX6_play 20 = .ok (.aload_n 0, 1) := by decide +kernel
theorem dX6_play_21 : decode cX6_play 21 = .ok (.getfield 40, 3) := by decide +kernel
theorem dX6_play_24 : decode cX6_play 24 = .ok (.aload_n 0, 1) := by decide +kernel
theorem dX6_play_25 : decode cX6_play 25 = .ok (.getfield 55, 3) := by decide +kernel
theorem dX6_play_28 : decode cX6_play 28 = .ok (.invokevirtual 171, 3) := by decide +kernel
theorem dX6_play_31 : decode cX6_play 31 = .ok (.istore_n 1, 1) := by decide +kernel
theorem dX6_play_32 : decode cX6_play 32 = .ok (.iload_n 1, 1) := by decide +kernel
theorem dX6_play_33 : decode cX6_play 33 = .ok (.iconst (-1), 1) := by decide +kernel
theorem dX6_play_34 : decode cX6_play 34 = .ok (.if_icmp .ne 7, 3) := by decide +kernel
theorem dX6_play_37 : decode cX6_play 37 = .ok (.iconst 0, 1) := by decide +kernel
theorem dX6_play_38 : decode cX6_play 38 = .ok (.goto 8, 3) := by decide +kernel
theorem dX6_play_41 : decode cX6_play 41 = .ok (.aload_n 0, 1) := by decide +kernel
theorem dX6_play_42 : decode cX6_play 42 = .ok (.iload_n 1, 1) := by decide +kernel
theorem dX6_play_43 : decode cX6_play 43 = .ok (.invokevirtual 203, 3) := by decide +kernel
theorem dX6_play_46 : decode cX6_play 46 = .ok (.istore_n 2, 1) := by decide +kernel
theorem dX6_play_47 : decode cX6_play 47 = .ok (.aload_n 0, 1) := by decide +kernel
theorem dX6_play_48 : decode cX6_play 48 = .ok (.dup, 1) := by decide +kernel
theorem dX6_play_49 : decode cX6_play 49 = .ok (.getfield 55, 3) := by decide +kernel
theorem dX6_play_52 : decode cX6_play 52 = .ok (.iconst 1, 1) := by decide +kernel
theorem dX6_play_53 : decode cX6_play 53 = .ok (.iadd, 1) := by decide +kernel
theorem dX6_play_54 : decode cX6_play 54 = .ok (.putfield 55, 3) := by decide +kernel
theorem dX6_play_57 : decode cX6_play 57 = .ok (.iload_n 2, 1) := by decide +kernel
theorem dX6_play_58 : decode cX6_play 58 = .ok (.ireturn, 1) := by decide +kernel
theorem dX6_day_0 : decode cX6_day 0 = .ok (.aload_n 0, 1) := by decide +kernel
theorem dX6_day_1 : decode cX6_day 1 = .ok (.getfield 55, 3) := by decide +kernel
theorem dX6_day_4 : decode cX6_day 4 = .ok (.ireturn, 1) := by decide +kernel
theorem dX6_stateOf_0 : decode cX6_stateOf 0 = .ok (.iload_n 1, 1) := by decide +kernel
theorem dX6_stateOf_1 : decode cX6_stateOf 1 = .ok (.aload_n 0, 1) := by decide +kernel
theorem dX6_stateOf_2 : decode cX6_stateOf 2 = .ok (.getfield 40, 3) := by decide +kernel
theorem dX6_stateOf_5 : decode cX6_stateOf 5 = .ok (.getfield 176, 3) := by decide +kernel
theorem dX6_stateOf_8 : decode cX6_stateOf 8 = .ok (.invokestatic 128, 3) := by decide +kernel
theorem dX6_stateOf_11 : decode cX6_stateOf 11 = .ok (.aload_n 0, 1) := by decide +kernel
theorem dX6_stateOf_12 : decode cX6_stateOf 12 = .ok (.getfield 40, 3) := by decide +kernel
theorem dX6_stateOf_15 : decode cX6_stateOf 15 = .ok (.getfield 185, 3) := by decide +kernel
theorem dX6_stateOf_18 : decode cX6_stateOf 18 = .ok (.iload_n 1, 1) := by decide +kernel
theorem dX6_stateOf_19 : decode cX6_stateOf 19 = .ok (.iaload, 1) := by decide +kernel
theorem dX6_stateOf_20 : decode cX6_stateOf 20 = .ok (.ireturn, 1) := by decide +kernel
theorem dX6_played_0 : decode cX6_played 0 = .ok (.iload_n 1, 1) := by decide +kernel
theorem dX6_played_1 : decode cX6_played 1 = .ok (.aload_n 0, 1) := by decide +kernel
theorem dX6_played_2 : decode cX6_played 2 = .ok (.getfield 40, 3) := by decide +kernel
theorem dX6_played_5 : decode cX6_played 5 = .ok (.getfield 176, 3) := by decide +kernel
theorem dX6_played_8 : decode cX6_played 8 = .ok (.invokestatic 128, 3) := by decide +kernel
theorem dX6_played_11 : decode cX6_played 11 = .ok (.iload_n 2, 1) := by decide +kernel
theorem dX6_played_12 : decode cX6_played 12 = .ok (.invokestatic 76, 3) := by decide +kernel
theorem dX6_played_15 : decode cX6_played 15 = .ok (.aload_n 0, 1) := by decide +kernel
theorem dX6_played_16 : decode cX6_played 16 = .ok (.getfield 40, 3) := by decide +kernel
theorem dX6_played_19 : decode cX6_played 19 = .ok (.getfield 206, 3) := by decide +kernel
theorem dX6_played_22 : decode cX6_played 22 = .ok (.iload_n 1, 1) := by decide +kernel
theorem dX6_played_23 : decode cX6_played 23 = .ok (.bipush 8, 2) := by decide +kernel
theorem dX6_played_25 : decode cX6_played 25 = .ok (.imul, 1) := by decide +kernel
theorem dX6_played_26 : decode cX6_played 26 = .ok (.iload_n 2, 1) := by decide +kernel
theorem dX6_played_27 : decode cX6_played 27 = .ok (.iadd, 1) := by decide +kernel
theorem dX6_played_28 : decode cX6_played 28 = .ok (.iaload, 1) := by decide +kernel
theorem dX6_played_29 : decode cX6_played 29 = .ok (.ireturn, 1) := by decide +kernel
theorem dX6_refund_0 : decode cX6_refund 0 = .ok (.iload_n 1, 1) := by decide +kernel
theorem dX6_refund_1 : decode cX6_refund 1 = .ok (.aload_n 0, 1) := by decide +kernel
theorem dX6_refund_2 : decode cX6_refund 2 = .ok (.getfield 47, 3) := by decide +kernel
theorem dX6_refund_5 : decode cX6_refund 5 = .ok (.getfield 190, 3) := by decide +kernel
theorem dX6_refund_8 : decode cX6_refund 8 = .ok (.invokestatic 128, 3) := by decide +kernel
theorem dX6_refund_11 : decode cX6_refund 11 = .ok (.aload_n 0, 1) := by decide +kernel
theorem dX6_refund_12 : decode cX6_refund 12 = .ok (.getfield 47, 3) := by decide +kernel
theorem dX6_refund_15 : decode cX6_refund 15 = .ok (.getfield 209, 3) := by decide +kernel
theorem dX6_refund_18 : decode cX6_refund 18 = .ok (.iload_n 1, 1) := by decide +kernel
theorem dX6_refund_19 : decode cX6_refund 19 = .ok (.iaload, 1) := by decide +kernel
theorem dX6_refund_20 : decode cX6_refund 20 = .ok (.ireturn, 1) := by decide +kernel
theorem dX6_takings_0 : decode cX6_takings 0 = .ok (.aload_n 0, 1) := by decide +kernel
theorem dX6_takings_1 : decode cX6_takings 1 = .ok (.getfield 47, 3) := by decide +kernel
theorem dX6_takings_4 : decode cX6_takings 4 = .ok (.getfield 212, 3) := by decide +kernel
theorem dX6_takings_7 : decode cX6_takings 7 = .ok (.ireturn, 1) := by decide +kernel
theorem dX6_needActor_0 : decode cX6_needActor 0 = .ok (.iload_n 0, 1) := by decide +kernel
theorem dX6_needActor_1 : decode cX6_needActor 1 = .ok (.ifCond .lt 9, 3) := by decide +kernel
theorem dX6_needActor_4 : decode cX6_needActor 4 = .ok (.iload_n 0, 1) := by decide +kernel
theorem dX6_needActor_5 : decode cX6_needActor 5 = .ok (.bipush 12, 2) := by decide +kernel
theorem dX6_needActor_7 : decode cX6_needActor 7 = .ok (.if_icmp .lt 13, 3) := by decide +kernel
theorem dX6_needActor_10 : decode cX6_needActor 10 = .ok (.new 215, 3) := by decide +kernel
theorem dX6_needActor_13 : decode cX6_needActor 13 = .ok (.dup, 1) := by decide +kernel
theorem dX6_needActor_14 : decode cX6_needActor 14 = .ok (.ldc 217, 2) := by decide +kernel
theorem dX6_needActor_16 : decode cX6_needActor 16 = .ok (.invokespecial 219, 3) := by decide +kernel
theorem dX6_needActor_19 : decode cX6_needActor 19 = .ok (.athrow, 1) := by decide +kernel
theorem dX6_needActor_20 : decode cX6_needActor 20 = .ok (.return_, 1) := by decide +kernel
theorem dX6_needPart_0 : decode cX6_needPart 0 = .ok (.iload_n 0, 1) := by decide +kernel
theorem dX6_needPart_1 : decode cX6_needPart 1 = .ok (.ifCond .lt 9, 3) := by decide +kernel
theorem dX6_needPart_4 : decode cX6_needPart 4 = .ok (.iload_n 0, 1) := by decide +kernel
theorem dX6_needPart_5 : decode cX6_needPart 5 = .ok (.bipush 8, 2) := by decide +kernel
theorem dX6_needPart_7 : decode cX6_needPart 7 = .ok (.if_icmp .lt 13, 3) := by decide +kernel
theorem dX6_needPart_10 : decode cX6_needPart 10 = .ok (.new 215, 3) := by decide +kernel
theorem dX6_needPart_13 : decode cX6_needPart 13 = .ok (.dup, 1) := by decide +kernel
theorem dX6_needPart_14 : decode cX6_needPart 14 = .ok (.ldc 220, 2) := by decide +kernel
theorem dX6_needPart_16 : decode cX6_needPart 16 = .ok (.invokespecial 219, 3) := by decide +kernel
theorem dX6_needPart_19 : decode cX6_needPart 19 = .ok (.athrow, 1) := by decide +kernel
theorem dX6_needPart_20 : decode cX6_needPart 20 = .ok (.return_, 1) := by decide +kernel
theorem dX6_needOneOf_0 : decode cX6_needOneOf 0 = .ok (.iload_n 0, 1) := by decide +kernel
theorem dX6_needOneOf_1 : decode cX6_needOneOf 1 = .ok (.ifCond .lt 8, 3) := by decide +kernel
theorem dX6_needOneOf_4 : decode cX6_needOneOf 4 = .ok (.iload_n 0, 1) := by decide +kernel
theorem dX6_needOneOf_5 : decode cX6_needOneOf 5 = .ok (.iload_n 1, 1) := by decide +kernel
theorem dX6_needOneOf_6 : decode cX6_needOneOf 6 = .ok (.if_icmp .lt 13, 3) := by decide +kernel
theorem dX6_needOneOf_9 : decode cX6_needOneOf 9 = .ok (.new 215, 3) := by decide +kernel
theorem dX6_needOneOf_12 : decode cX6_needOneOf 12 = .ok (.dup, 1) := by decide +kernel
theorem dX6_needOneOf_13 : decode cX6_needOneOf 13 = .ok (.ldc 222, 2) := by decide +kernel
theorem dX6_needOneOf_15 : decode cX6_needOneOf 15 = .ok (.invokespecial 219, 3) := by decide +kernel
theorem dX6_needOneOf_18 : decode cX6_needOneOf 18 = .ok (.athrow, 1) := by decide +kernel
theorem dX6_needOneOf_19 : decode cX6_needOneOf 19 = .ok (.return_, 1) := by decide +kernel
theorem dX6_needSize_0 : decode cX6_needSize 0 = .ok (.iload_n 0, 1) := by decide +kernel
theorem dX6_needSize_1 : decode cX6_needSize 1 = .ok (.ifCond .lt 9, 3) := by decide +kernel
theorem dX6_needSize_4 : decode cX6_needSize 4 = .ok (.iload_n 0, 1) := by decide +kernel
theorem dX6_needSize_5 : decode cX6_needSize 5 = .ok (.bipush 9, 2) := by decide +kernel
theorem dX6_needSize_7 : decode cX6_needSize 7 = .ok (.if_icmp .le 13, 3) := by decide +kernel
theorem dX6_needSize_10 : decode cX6_needSize 10 = .ok (.new 58, 3) := by decide +kernel
theorem dX6_needSize_13 : decode cX6_needSize 13 = .ok (.dup, 1) := by decide +kernel
theorem dX6_needSize_14 : decode cX6_needSize 14 = .ok (.ldc 224, 2) := by decide +kernel
theorem dX6_needSize_16 : decode cX6_needSize 16 = .ok (.invokespecial 62, 3) := by decide +kernel
theorem dX6_needSize_19 : decode cX6_needSize 19 = .ok (.athrow, 1) := by decide +kernel
theorem dX6_needSize_20 : decode cX6_needSize 20 = .ok (.return_, 1) := by decide +kernel
theorem dX6_needDay_0 : decode cX6_needDay 0 = .ok (.iload_n 0, 1) := by decide +kernel
theorem dX6_needDay_1 : decode cX6_needDay 1 = .ok (.iload_n 1, 1) := by decide +kernel
theorem dX6_needDay_2 : decode cX6_needDay 2 = .ok (.if_icmp .lt 10, 3) := by decide +kernel
theorem dX6_needDay_5 : decode cX6_needDay 5 = .ok (.iload_n 0, 1) := by decide +kernel
theorem dX6_needDay_6 : decode cX6_needDay 6 = .ok (.sipush 1000, 3) := by decide +kernel
theorem dX6_needDay_9 : decode cX6_needDay 9 = .ok (.if_icmp .le 13, 3) := by decide +kernel
theorem dX6_needDay_12 : decode cX6_needDay 12 = .ok (.new 58, 3) := by decide +kernel
theorem dX6_needDay_15 : decode cX6_needDay 15 = .ok (.dup, 1) := by decide +kernel
theorem dX6_needDay_16 : decode cX6_needDay 16 = .ok (.ldc 226, 2) := by decide +kernel
theorem dX6_needDay_18 : decode cX6_needDay 18 = .ok (.invokespecial 62, 3) := by decide +kernel
theorem dX6_needDay_21 : decode cX6_needDay 21 = .ok (.athrow, 1) := by decide +kernel
theorem dX6_needDay_22 : decode cX6_needDay 22 = .ok (.return_, 1) := by decide +kernel
theorem dX6_has_0 : decode cX6_has 0 = .ok (.iload_n 0, 1) := by decide +kernel
theorem dX6_has_1 : decode cX6_has 1 = .ok (.iload_n 1, 1) := by decide +kernel
theorem dX6_has_2 : decode cX6_has 2 = .ok (.ishr, 1) := by decide +kernel
theorem dX6_has_3 : decode cX6_has 3 = .ok (.iconst 1, 1) := by decide +kernel
theorem dX6_has_4 : decode cX6_has 4 = .ok (.iand, 1) := by decide +kernel
theorem dX6_has_5 : decode cX6_has 5 = .ok (.ifCond .eq 7, 3) := by decide +kernel
theorem dX6_has_8 : decode cX6_has 8 = .ok (.iconst 1, 1) := by decide +kernel
theorem dX6_has_9 : decode cX6_has 9 = .ok (.goto 4, 3) := by decide +kernel
theorem dX6_has_12 : decode cX6_has 12 = .ok (.iconst 0, 1) := by decide +kernel
theorem dX6_has_13 : decode cX6_has 13 = .ok (.ireturn, 1) := by decide +kernel
theorem dX6_with_0 : decode cX6_with 0 = .ok (.iload_n 0, 1) := by decide +kernel
theorem dX6_with_1 : decode cX6_with 1 = .ok (.iconst 1, 1) := by decide +kernel
theorem dX6_with_2 : decode cX6_with 2 = .ok (.iload_n 1, 1) := by decide +kernel
theorem dX6_with_3 : decode cX6_with 3 = .ok (.ishl, 1) := by decide +kernel
theorem dX6_with_4 : decode cX6_with 4 = .ok (.ior, 1) := by decide +kernel
theorem dX6_with_5 : decode cX6_with 5 = .ok (.ireturn, 1) := by decide +kernel
theorem dX6_without_0 : decode cX6_without 0 = .ok (.iload_n 0, 1) := by decide +kernel
theorem dX6_without_1 : decode cX6_without 1 = .ok (.iconst 1, 1) := by decide +kernel
theorem dX6_without_2 : decode cX6_without 2 = .ok (.iload_n 1, 1) := by decide +kernel
theorem dX6_without_3 : decode cX6_without 3 = .ok (.ishl, 1) := by decide +kernel
theorem dX6_without_4 : decode cX6_without 4 = .ok (.iconst (-1), 1) := by decide +kernel
theorem dX6_without_5 : decode cX6_without 5 = .ok (.ixor, 1) := by decide +kernel
theorem dX6_without_6 : decode cX6_without 6 = .ok (.iand, 1) := by decide +kernel
theorem dX6_without_7 : decode cX6_without 7 = .ok (.ireturn, 1) := by decide +kernel
theorem dX6_isReady_0 : decode cX6_isReady 0 = .ok (.aload_n 0, 1) := by decide +kernel
theorem dX6_isReady_1 : decode cX6_isReady 1 = .ok (.getfield 10, 3) := by decide +kernel
theorem dX6_isReady_4 : decode cX6_isReady 4 = .ok (.getfield 72, 3) := by decide +kernel
theorem dX6_isReady_7 : decode cX6_isReady 7 = .ok (.iload_n 1, 1) := by decide +kernel
theorem dX6_isReady_8 : decode cX6_isReady 8 = .ok (.iaload, 1) := by decide +kernel
theorem dX6_isReady_9 : decode cX6_isReady 9 = .ok (.istore 4, 2) := by decide +kernel
theorem dX6_isReady_11 : decode cX6_isReady 11 = .ok (.aload_n 0, 1) := by decide +kernel
theorem dX6_isReady_12 : decode cX6_isReady 12 = .ok (.getfield 10, 3) := by decide +kernel
theorem dX6_isReady_15 : decode cX6_isReady 15 = .ok (.getfield 79, 3) := by decide +kernel
theorem dX6_isReady_18 : decode cX6_isReady 18 = .ok (.iload_n 1, 1) := by decide +kernel
theorem dX6_isReady_19 : decode cX6_isReady 19 = .ok (.iaload, 1) := by decide +kernel
theorem dX6_isReady_20 : decode cX6_isReady 20 = .ok (.iload_n 2, 1) := by decide +kernel
theorem dX6_isReady_21 : decode cX6_isReady 21 = .ok (.invokestatic 142, 3) := by decide +kernel
theorem dX6_isReady_24 : decode cX6_isReady 24 = .ok (.ifCond .eq 43, 3) := by decide +kernel
theorem dX6_isReady_27 : decode cX6_isReady 27 = .ok (.iload_n 3, 1) := by decide +kernel
theorem dX6_isReady_28 : decode cX6_isReady 28 = .ok (.iload_n 1, 1) := by decide +kernel
theorem dX6_isReady_29 : decode cX6_isReady 29 = .ok (.invokestatic 142, 3) := by decide +kernel
theorem dX6_isReady_32 : decode cX6_isReady 32 = .ok (.ifCond .ne 35, 3) := by decide +kernel
theorem dX6_isReady_35 : decode cX6_isReady 35 = .ok (.aload_n 0, 1) := by decide +kernel
theorem dX6_isReady_36 : decode cX6_isReady 36 = .ok (.getfield 26, 3) := by decide +kernel
theorem dX6_isReady_39 : decode cX6_isReady 39 = .ok (.iload_n 2, 1) := by decide +kernel
theorem dX6_isReady_40 : decode cX6_isReady 40 = .ok (.iload 4, 2) := by decide +kernel
theorem dX6_isReady_42 : decode cX6_isReady 42 = .ok (.invokevirtual 228, 3) := by decide +kernel
theorem dX6_isReady_45 : decode cX6_isReady 45 = .ok (.iconst (-1), 1) := by decide +kernel
theorem dX6_isReady_46 : decode cX6_isReady 46 = .ok (.if_icmp .ne 17, 3) := by decide +kernel
theorem dX6_isReady_49 : decode cX6_isReady 49 = .ok (.aload_n 0, 1) := by decide +kernel
theorem dX6_isReady_50 : decode cX6_isReady 50 = .ok (.getfield 26, 3) := by decide +kernel
theorem dX6_isReady_53 : decode cX6_isReady 53 = .ok (.iload_n 2, 1) := by decide +kernel
theorem dX6_isReady_54 : decode cX6_isReady 54 = .ok (.iload 4, 2) := by decide +kernel
theorem dX6_isReady_56 : decode cX6_isReady 56 = .ok (.invokevirtual 231, 3) := by decide +kernel
theorem dX6_isReady_59 : decode cX6_isReady 59 = .ok (.iconst (-1), 1) := by decide +kernel
theorem dX6_isReady_60 : decode cX6_isReady 60 = .ok (.if_icmp .eq 7, 3) := by decide +kernel
theorem dX6_isReady_63 : decode cX6_isReady 63 = .ok (.iconst 1, 1) := by decide +kernel
theorem dX6_isReady_64 : decode cX6_isReady 64 = .ok (.goto 4, 3) := by decide +kernel
theorem dX6_isReady_67 : decode cX6_isReady 67 = .ok (.iconst 0, 1) := by decide +kernel
theorem dX6_isReady_68 : decode cX6_isReady 68 = .ok (.ireturn, 1) := by decide +kernel
theorem dX6_offerActors_0 : decode cX6_offerActors 0 = .ok (.aload_n 0, 1) := by decide +kernel
theorem dX6_offerActors_1 : decode cX6_offerActors 1 = .ok (.getfield 33, 3) := by decide +kernel
theorem dX6_offerActors_4 : decode cX6_offerActors 4 = .ok (.invokevirtual 234, 3) := by decide +kernel
theorem dX6_offerActors_7 : decode cX6_offerActors 7 = .ok (.iconst 0, 1) := by decide +kernel
theorem dX6_offerActors_8 : decode cX6_offerActors 8 = .ok (.istore_n 2, 1) := by decide +kernel
theorem dX6_offerActors_9 : decode cX6_offerActors 9 = .ok (.iload_n 2, 1) := by decide +kernel
theorem dX6_offerActors_10 : decode cX6_offerActors 10 = .ok (.aload_n 0, 1) := by decide +kernel
theorem dX6_offerActors_11 : decode cX6_offerActors 11 = .ok (.getfield 51, 3) := by decide +kernel
theorem dX6_offerActors_14 : decode cX6_offerActors 14 = .ok (.if_icmp .ge 100, 3) := by decide +kernel
theorem dX6_offerActors_17 : decode cX6_offerActors 17 = .ok (.iconst 0, 1) := by decide +kernel
theorem dX6_offerActors_18 : decode cX6_offerActors 18 = .ok (.istore_n 3, 1) := by decide +kernel
theorem dX6_offerActors_19 : decode cX6_offerActors 19 = .ok (.iload_n 3, 1) := by decide +kernel
theorem dX6_offerActors_20 : decode cX6_offerActors 20 = .ok (.iconst 4, 1) := by decide +kernel
theorem dX6_offerActors_21 : decode cX6_offerActors 21 = .ok (.if_icmp .ge 87, 3) := by decide +kernel
theorem dX6_offerActors_24 : decode cX6_offerActors 24 = .ok (.aload_n 0, 1) := by decide +kernel
theorem dX6_offerActors_25 : decode cX6_offerActors 25 = .ok (.getfield 19, 3) := by decide +kernel
theorem dX6_offerActors_28 : decode cX6_offerActors 28 = .ok (.iload_n 2, 1) := by decide +kernel
theorem dX6_offerActors_29 : decode cX6_offerActors 29 = .ok (.iload_n 3, 1) := by decide +kernel
theorem dX6_offerActors_30 : decode cX6_offerActors 30 = .ok (.invokevirtual 193, 3) := by decide +kernel
theorem dX6_offerActors_33 : decode cX6_offerActors 33 = .ok (.istore 4, 2) := by decide +kernel
theorem dX6_offerActors_35 : decode cX6_offerActors 35 = .ok (.iload 4, 2) := by decide +kernel
theorem dX6_offerActors_37 : decode cX6_offerActors 37 = .ok (.iconst (-1), 1) := by decide +kernel
theorem dX6_offerActors_38 : decode cX6_offerActors 38 = .ok (.if_icmp .eq 64, 3) := by decide +kernel
theorem dX6_offerActors_41 : decode cX6_offerActors 41 = .ok (.aload_n 0, 1) := by decide +kernel
theorem dX6_offerActors_42 : decode cX6_offerActors 42 = .ok (.iload 4, 2) := by decide +kernel
theorem dX6_offerActors_44 : decode cX6_offerActors 44 = .ok (.iload_n 2, 1) := by decide +kernel
theorem dX6_offerActors_45 : decode cX6_offerActors 45 = .ok (.iload_n 1, 1) := by decide +kernel
theorem dX6_offerActors_46 : decode cX6_offerActors 46 = .ok (.invokevirtual 146, 3) := by decide +kernel
theorem dX6_offerActors_49 : decode cX6_offerActors 49 = .ok (.ifCond .eq 53, 3) := by decide +kernel
theorem dX6_offerActors_52 : decode cX6_offerActors 52 = .ok (.aload_n 0, 1) := by decide +kernel
theorem dX6_offerActors_53 : decode cX6_offerActors 53 = .ok (.getfield 26, 3) := by decide +kernel
theorem dX6_offerActors_56 : decode cX6_offerActors 56 = .ok (.iload_n 2, 1) := by decide +kernel
theorem dX6_offerActors_57 : decode cX6_offerActors 57 = .ok (.aload_n 0, 1) := by decide +kernel
theorem dX6_offerActors_58 : decode cX6_offerActors 58 = .ok (.getfield 10, 3) := by decide +kernel
theorem dX6_offerActors_61 : decode cX6_offerActors 61 = .ok (.getfield 72, 3) := by decide +kernel
theorem dX6_offerActors_64 : decode cX6_offerActors 64 = .ok (.iload 4, 2) := by decide +kernel
theorem dX6_offerActors_66 : decode cX6_offerActors 66 = .ok (.iaload, 1) := by decide +kernel
theorem dX6_offerActors_67 : decode cX6_offerActors 67 = .ok (.invokevirtual 228, 3) := by decide +kernel
theorem dX6_offerActors_70 : decode cX6_offerActors 70 = .ok (.iconst (-1), 1) := by decide +kernel
theorem dX6_offerActors_71 : decode cX6_offerActors 71 = .ok (.if_icmp .ne 7, 3) := by decide +kernel
theorem dX6_offerActors_74 : decode cX6_offerActors 74 = .ok (.iconst 1, 1) := by decide +kernel
theorem dX6_offerActors_75 : decode cX6_offerActors 75 = .ok (.goto 4, 3) := by decide +kernel
theorem dX6_offerActors_78 : decode cX6_offerActors 78 = .ok (.iconst 0, 1) := by decide +kernel
theorem dX6_offerActors_79 : decode cX6_offerActors 79 = .ok (.istore 5, 2) := by decide +kernel
theorem dX6_offerActors_81 : decode cX6_offerActors 81 = .ok (.aload_n 0, 1) := by decide +kernel
theorem dX6_offerActors_82 : decode cX6_offerActors 82 = .ok (.getfield 33, 3) := by decide +kernel
theorem dX6_offerActors_85 : decode cX6_offerActors 85 = .ok (.iload_n 2, 1) := by decide +kernel
theorem dX6_offerActors_86 : decode cX6_offerActors 86 = .ok (.iload_n 3, 1) := by decide +kernel
theorem dX6_offerActors_87 : decode cX6_offerActors 87 = .ok (.iload 4, 2) := by decide +kernel
theorem dX6_offerActors_89 : decode cX6_offerActors 89 = .ok (.iload 5, 2) := by decide +kernel
theorem dX6_offerActors_91 : decode cX6_offerActors 91 = .ok (.ifCond .eq 7, 3) := by decide +kernel
theorem dX6_offerActors_94 : decode cX6_offerActors 94 = .ok (.iconst 1, 1) := by decide +kernel
theorem dX6_offerActors_95 : decode cX6_offerActors 95 = .ok (.goto 4, 3) := by decide +kernel
theorem dX6_offerActors_98 : decode cX6_offerActors 98 = .ok (.iconst 0, 1) := by decide +kernel
theorem dX6_offerActors_99 : decode cX6_offerActors 99 = .ok (.invokevirtual 237, 3) := by decide +kernel
theorem dX6_offerActors_102 : decode cX6_offerActors 102 = .ok (.iinc 3 1, 3) := by decide +kernel
theorem dX6_offerActors_105 : decode cX6_offerActors 105 = .ok (.goto (-86), 3) := by decide +kernel
theorem dX6_offerActors_108 : decode cX6_offerActors 108 = .ok (.iinc 2 1, 3) := by decide +kernel
theorem dX6_offerActors_111 : decode cX6_offerActors 111 = .ok (.goto (-102), 3) := by decide +kernel
theorem dX6_offerActors_114 : decode cX6_offerActors 114 = .ok (.return_, 1) := by decide +kernel
theorem dX6_bestCast_0 : decode cX6_bestCast 0 = .ok (.aload_n 0, 1) := by decide +kernel
theorem dX6_bestCast_1 : decode cX6_bestCast 1 = .ok (.iload_n 1, 1) := by decide +kernel
theorem dX6_bestCast_2 : decode cX6_bestCast 2 = .ok (.invokevirtual 156, 3) := by decide +kernel
theorem dX6_bestCast_5 : decode cX6_bestCast 5 = .ok (.aload_n 0, 1) := by decide +kernel
theorem dX6_bestCast_6 : decode cX6_bestCast 6 = .ok (.getfield 33, 3) := by decide +kernel
theorem dX6_bestCast_9 : decode cX6_bestCast 9 = .ok (.aload_n 0, 1) := by decide +kernel
theorem dX6_bestCast_10 : decode cX6_bestCast 10 = .ok (.getfield 51, 3) := by decide +kernel
theorem dX6_bestCast_13 : decode cX6_bestCast 13 = .ok (.invokevirtual 241, 3) := by decide +kernel
theorem dX6_bestCast_16 : decode cX6_bestCast 16 = .ok (.ireturn, 1) := by decide +kernel
theorem dX6_actorIn_0 : decode cX6_actorIn 0 = .ok (.aload_n 0, 1) := by decide +kernel
theorem dX6_actorIn_1 : decode cX6_actorIn 1 = .ok (.getfield 19, 3) := by decide +kernel
theorem dX6_actorIn_4 : decode cX6_actorIn 4 = .ok (.iload_n 2, 1) := by decide +kernel
theorem dX6_actorIn_5 : decode cX6_actorIn 5 = .ok (.iload_n 1, 1) := by decide +kernel
theorem dX6_actorIn_6 : decode cX6_actorIn 6 = .ok (.iload_n 2, 1) := by decide +kernel
theorem dX6_actorIn_7 : decode cX6_actorIn 7 = .ok (.invokestatic 244, 3) := by decide +kernel
theorem dX6_actorIn_10 : decode cX6_actorIn 10 = .ok (.invokevirtual 193, 3) := by decide +kernel
theorem dX6_actorIn_13 : decode cX6_actorIn 13 = .ok (.ireturn, 1) := by decide +kernel
theorem dX6_countOthers_0 : decode cX6_countOthers 0 = .ok (.iconst 0, 1) := by decide +kernel
theorem dX6_countOthers_1 : decode cX6_countOthers 1 = .ok (.istore_n 3, 1) := by decide +kernel
theorem dX6_countOthers_2 : decode cX6_countOthers 2 = .ok (.iconst 0, 1) := by decide +kernel
theorem dX6_countOthers_3 : decode cX6_countOthers 3 = .ok (.istore 4, 2) := by decide +kernel
theorem dX6_countOthers_5 : decode cX6_countOthers 5 = .ok (.iload 4, 2) := by decide +kernel
theorem dX6_countOthers_7 : decode cX6_countOthers 7 = .ok (.aload_n 0, 1) := by decide +kernel
theorem dX6_countOthers_8 : decode cX6_countOthers 8 = .ok (.getfield 51, 3) := by decide +kernel
theorem dX6_countOthers_11 : decode cX6_countOthers 11 = .ok (.if_icmp .ge 29, 3) := by decide +kernel
theorem dX6_countOthers_14 : decode cX6_countOthers 14 = .ok (.aload_n 0, 1) := by decide +kernel
theorem dX6_countOthers_15 : decode cX6_countOthers 15 = .ok (.iload_n 1, 1) := by decide +kernel
theorem dX6_countOthers_16 : decode cX6_countOthers 16 = .ok (.iload 4, 2) := by decide +kernel
theorem dX6_countOthers_18 : decode cX6_countOthers 18 = .ok (.invokevirtual 165, 3) := by decide +kernel
theorem dX6_countOthers_21 : decode cX6_countOthers 21 = .ok (.aload_n 0, 1) := by decide +kernel
theorem dX6_countOthers_22 : decode cX6_countOthers 22 = .ok (.iload_n 2, 1) := by decide +kernel
theorem dX6_countOthers_23 : decode cX6_countOthers 23 = .ok (.iload 4, 2) := by decide +kernel
theorem dX6_countOthers_25 : decode cX6_countOthers 25 = .ok (.invokevirtual 165, 3) := by decide +kernel
theorem dX6_countOthers_28 : decode cX6_countOthers 28 = .ok (.if_icmp .eq 6, 3) := by decide +kernel
theorem dX6_countOthers_31 : decode cX6_countOthers 31 = .ok (.iinc 3 1, 3) := by decide +kernel
theorem dX6_countOthers_34 : decode cX6_countOthers 34 = .ok (.iinc 4 1, 3) := by decide +kernel
theorem dX6_countOthers_37 : decode cX6_countOthers 37 = .ok (.goto (-32), 3) := by decide +kernel
theorem dX6_countOthers_40 : decode cX6_countOthers 40 = .ok (.iload_n 3, 1) := by decide +kernel
theorem dX6_countOthers_41 : decode cX6_countOthers 41 = .ok (.ireturn, 1) := by decide +kernel
theorem dX6_perform_0 : decode cX6_perform 0 = .ok (.aload_n 0, 1) := by decide +kernel
theorem dX6_perform_1 : decode cX6_perform 1 = .ok (.aload_n 0, 1) := by decide +kernel
theorem dX6_perform_2 : decode cX6_perform 2 = .ok (.getfield 10, 3) := by decide +kernel
theorem dX6_perform_5 : decode cX6_perform 5 = .ok (.getfield 139, 3) := by decide +kernel
theorem dX6_perform_8 : decode cX6_perform 8 = .ok (.aload_n 0, 1) := by decide +kernel
theorem dX6_perform_9 : decode cX6_perform 9 = .ok (.getfield 55, 3) := by decide +kernel
theorem dX6_perform_12 : decode cX6_perform 12 = .ok (.iaload, 1) := by decide +kernel
theorem dX6_perform_13 : decode cX6_perform 13 = .ok (.invokevirtual 150, 3) := by decide +kernel
theorem dX6_perform_16 : decode cX6_perform 16 = .ok (.istore_n 2, 1) := by decide +kernel
theorem dX6_perform_17 : decode cX6_perform 17 = .ok (.iload_n 2, 1) := by decide +kernel
theorem dX6_perform_18 : decode cX6_perform 18 = .ok (.iconst (-1), 1) := by decide +kernel
theorem dX6_perform_19 : decode cX6_perform 19 = .ok (.if_icmp .ne 16, 3) := by decide +kernel
theorem dX6_perform_22 : decode cX6_perform 22 = .ok (.aload_n 0, 1) := by decide +kernel
theorem dX6_perform_23 : decode cX6_perform 23 = .ok (.getfield 40, 3) := by decide +kernel
theorem dX6_perform_26 : decode cX6_perform 26 = .ok (.getfield 185, 3) := by decide +kernel
theorem dX6_perform_29 : decode cX6_perform 29 = .ok (.iload_n 1, 1) := by decide +kernel
theorem dX6_perform_30 : decode cX6_perform 30 = .ok (.iconst 2, 1) := by decide +kernel
theorem dX6_perform_31 : decode cX6_perform 31 = .ok (.iastore, 1) := by decide +kernel
theorem dX6_perform_32 : decode cX6_perform 32 = .ok (.goto 60, 3) := by decide +kernel
theorem dX6_perform_35 : decode cX6_perform 35 = .ok (.aload_n 0, 1) := by decide +kernel
theorem dX6_perform_36 : decode cX6_perform 36 = .ok (.getfield 40, 3) := by decide +kernel
theorem dX6_perform_39 : decode cX6_perform 39 = .ok (.getfield 185, 3) := by decide +kernel
theorem dX6_perform_42 : decode cX6_perform 42 = .ok (.iload_n 1, 1) := by decide +kernel
theorem dX6_perform_43 : decode cX6_perform 43 = .ok (.iconst 1, 1) := by decide +kernel
theorem dX6_perform_44 : decode cX6_perform 44 = .ok (.iastore, 1) := by decide +kernel
theorem dX6_perform_45 : decode cX6_perform 45 = .ok (.iconst 0, 1) := by decide +kernel
theorem dX6_perform_46 : decode cX6_perform 46 = .ok (.istore_n 3, 1) := by decide +kernel
theorem dX6_perform_47 : decode cX6_perform 47 = .ok (.iload_n 3, 1) := by decide +kernel
theorem dX6_perform_48 : decode cX6_perform 48 = .ok (.aload_n 0, 1) := by decide +kernel
theorem dX6_perform_49 : decode cX6_perform 49 = .ok (.getfield 51, 3) := by decide +kernel
theorem dX6_perform_52 : decode cX6_perform 52 = .ok (.if_icmp .ge 40, 3) := by decide +kernel
theorem dX6_perform_55 : decode cX6_perform 55 = .ok (.aload_n 0, 1) := by decide +kernel
theorem dX6_perform_56 : decode cX6_perform 56 = .ok (.iload_n 2, 1) := by decide +kernel
theorem dX6_perform_57 : decode cX6_perform 57 = .ok (.iload_n 3, 1) := by decide +kernel
theorem dX6_perform_58 : decode cX6_perform 58 = .ok (.invokevirtual 165, 3) := by decide +kernel
theorem dX6_perform_61 : decode cX6_perform 61 = .ok (.istore 4, 2) := by decide +kernel
theorem dX6_perform_63 : decode cX6_perform 63 = .ok (.aload_n 0, 1) := by decide +kernel
theorem dX6_perform_64 : decode cX6_perform 64 = .ok (.getfield 40, 3) := by decide +kernel
theorem dX6_perform_67 : decode cX6_perform 67 = .ok (.getfield 206, 3) := by decide +kernel
theorem dX6_perform_70 : decode cX6_perform 70 = .ok (.iload_n 1, 1) := by decide +kernel
theorem dX6_perform_71 : decode cX6_perform 71 = .ok (.bipush 8, 2) := by decide +kernel
theorem dX6_perform_73 : decode cX6_perform 73 = .ok (.imul, 1) := by decide +kernel
theorem dX6_perform_74 : decode cX6_perform 74 = .ok (.iload_n 3, 1) := by decide +kernel
theorem dX6_perform_75 : decode cX6_perform 75 = .ok (.iadd, 1) := by decide +kernel
theorem dX6_perform_76 : decode cX6_perform 76 = .ok (.iload 4, 2) := by decide +kernel
theorem dX6_perform_78 : decode cX6_perform 78 = .ok (.iastore, 1) := by decide +kernel
theorem dX6_perform_79 : decode cX6_perform 79 = .ok (.aload_n 0, 1) := by decide +kernel
theorem dX6_perform_80 : decode cX6_perform 80 = .ok (.iload_n 3, 1) := by decide +kernel
theorem dX6_perform_81 : decode cX6_perform 81 = .ok (.iload 4, 2) := by decide +kernel
theorem dX6_perform_83 : decode cX6_perform 83 = .ok (.invokevirtual 247, 3) := by decide +kernel
theorem dX6_perform_86 : decode cX6_perform 86 = .ok (.iinc 3 1, 3) := by decide +kernel
theorem dX6_perform_89 : decode cX6_perform 89 = .ok (.goto (-42), 3) := by decide +kernel
theorem dX6_perform_92 : decode cX6_perform 92 = .ok (.aload_n 0, 1) := by decide +kernel
theorem dX6_perform_93 : decode cX6_perform 93 = .ok (.iload_n 1, 1) := by decide +kernel
theorem dX6_perform_94 : decode cX6_perform 94 = .ok (.iload_n 2, 1) := by decide +kernel
theorem dX6_perform_95 : decode cX6_perform 95 = .ok (.invokevirtual 250, 3) := by decide +kernel
theorem dX6_perform_98 : decode cX6_perform 98 = .ok (.ireturn, 1) := by decide +kernel
theorem dX6_dress_0 : decode cX6_dress 0 = .ok (.iload_n 2, 1) := by decide +kernel
theorem dX6_dress_1 : decode cX6_dress 1 = .ok (.iconst (-1), 1) := by decide +kernel
theorem dX6_dress_2 : decode cX6_dress 2 = .ok (.if_icmp .ne 4, 3) := by decide +kernel
theorem dX6_dress_5 : decode cX6_dress 5 = .ok (.return_, 1) := by decide +kernel
theorem dX6_dress_6 : decode cX6_dress 6 = .ok (.aload_n 0, 1) := by decide +kernel
theorem dX6_dress_7 : decode cX6_dress 7 = .ok (.getfield 10, 3) := by decide +kernel
theorem dX6_dress_10 : decode cX6_dress 10 = .ok (.getfield 72, 3) := by decide +kernel
theorem dX6_dress_13 : decode cX6_dress 13 = .ok (.iload_n 2, 1) := by decide +kernel
theorem dX6_dress_14 : decode cX6_dress 14 = .ok (.iaload, 1) := by decide +kernel
theorem dX6_dress_15 : decode cX6_dress 15 = .ok (.istore_n 3, 1) := by decide +kernel
theorem dX6_dress_16 : decode cX6_dress 16 = .ok (.aload_n 0, 1) := by decide +kernel
theorem dX6_dress_17 : decode cX6_dress 17 = .ok (.getfield 26, 3) := by decide +kernel
theorem dX6_dress_20 : decode cX6_dress 20 = .ok (.iload_n 1, 1) := by decide +kernel
theorem dX6_dress_21 : decode cX6_dress 21 = .ok (.iload_n 3, 1) := by decide +kernel
theorem dX6_dress_22 : decode cX6_dress 22 = .ok (.invokevirtual 228, 3) := by decide +kernel
theorem dX6_dress_25 : decode cX6_dress 25 = .ok (.iconst (-1), 1) := by decide +kernel
theorem dX6_dress_26 : decode cX6_dress 26 = .ok (.if_icmp .ne 19, 3) := by decide +kernel
theorem dX6_dress_29 : decode cX6_dress 29 = .ok (.aload_n 0, 1) := by decide +kernel
theorem dX6_dress_30 : decode cX6_dress 30 = .ok (.getfield 26, 3) := by decide +kernel
theorem dX6_dress_33 : decode cX6_dress 33 = .ok (.aload_n 0, 1) := by decide +kernel
theorem dX6_dress_34 : decode cX6_dress 34 = .ok (.getfield 26, 3) := by decide +kernel
theorem dX6_dress_37 : decode cX6_dress 37 = .ok (.iload_n 1, 1) := by decide +kernel
theorem dX6_dress_38 : decode cX6_dress 38 = .ok (.iload_n 3, 1) := by decide +kernel
theorem dX6_dress_39 : decode cX6_dress 39 = .ok (.invokevirtual 231, 3) := by decide +kernel
theorem dX6_dress_42 : decode cX6_dress 42 = .ok (.invokevirtual 253, 3) := by decide +kernel
theorem dX6_dress_45 : decode cX6_dress 45 = .ok (.return_, 1) := by decide +kernel
theorem dX6_refundSeats_0 : decode cX6_refundSeats 0 = .ok (.iconst 0, 1) := by decide +kernel
theorem dX6_refundSeats_1 : decode cX6_refundSeats 1 = .ok (.istore_n 3, 1) := by decide +kernel
theorem dX6_refundSeats_2 : decode cX6_refundSeats 2 = .ok (.iconst 0, 1) := by decide +kernel
theorem dX6_refundSeats_3 : decode cX6_refundSeats 3 = .ok (.istore 4, 2) := by decide +kernel
theorem dX6_refundSeats_5 : decode cX6_refundSeats 5 = .ok (.iload 4, 2) := by decide +kernel
theorem dX6_refundSeats_7 : decode cX6_refundSeats 7 = .ok (.aload_n 0, 1) := by decide +kernel
theorem dX6_refundSeats_8 : decode cX6_refundSeats 8 = .ok (.getfield 47, 3) := by decide +kernel
theorem dX6_refundSeats_11 : decode cX6_refundSeats 11 = .ok (.getfield 190, 3) := by decide +kernel
theorem dX6_refundSeats_14 : decode cX6_refundSeats 14 = .ok (.if_icmp .ge 55, 3) := by decide +kernel
theorem dX6_refundSeats_17 : decode cX6_refundSeats 17 = .ok (.aload_n 0, 1) := by decide +kernel
theorem dX6_refundSeats_18 : decode cX6_refundSeats 18 = .ok (.getfield 47, 3) := by decide +kernel
theorem dX6_refundSeats_21 : decode cX6_refundSeats 21 = .ok (.getfield 256, 3) := by decide +kernel
theorem dX6_refundSeats_24 : decode cX6_refundSeats 24 = .ok (.iload 4, 2) := by decide +kernel
theorem dX6_refundSeats_26 : decode cX6_refundSeats 26 = .ok (.iaload, 1) := by decide +kernel
theorem dX6_refundSeats_27 : decode cX6_refundSeats 27 = .ok (.iload_n 1, 1) := by decide +kernel
theorem dX6_refundSeats_28 : decode cX6_refundSeats 28 = .ok (.if_icmp .ne 35, 3) := by decide +kernel
theorem dX6_refundSeats_31 : decode cX6_refundSeats 31 = .ok (.iload_n 2, 1) := by decide +kernel
theorem dX6_refundSeats_32 : decode cX6_refundSeats 32 = .ok (.iconst (-1), 1) := by decide +kernel
theorem dX6_refundSeats_33 : decode cX6_refundSeats 33 = .ok (.if_icmp .ne 7, 3) := by decide +kernel
theorem dX6_refundSeats_36 : decode cX6_refundSeats 36 = .ok (.iconst 1, 1) := by decide +kernel
theorem dX6_refundSeats_37 : decode cX6_refundSeats 37 = .ok (.goto 10, 3) := by decide +kernel
theorem dX6_refundSeats_40 : decode cX6_refundSeats 40 = .ok (.aload_n 0, 1) := by decide +kernel
theorem dX6_refundSeats_41 : decode cX6_refundSeats 41 = .ok (.iload 4, 2) := by decide +kernel
theorem dX6_refundSeats_43 : decode cX6_refundSeats 43 = .ok (.iload_n 2, 1) := by decide +kernel
theorem dX6_refundSeats_44 : decode cX6_refundSeats 44 = .ok (.invokevirtual 259, 3) := by decide +kernel
theorem dX6_refundSeats_47 : decode cX6_refundSeats 47 = .ok (.istore 5, 2) := by decide +kernel
theorem dX6_refundSeats_49 : decode cX6_refundSeats 49 = .ok (.iload_n 3, 1) := by decide +kernel
theorem dX6_refundSeats_50 : decode cX6_refundSeats 50 = .ok (.aload_n 0, 1) := by decide +kernel
theorem dX6_refundSeats_51 : decode cX6_refundSeats 51 = .ok (.getfield 47, 3) := by decide +kernel
theorem dX6_refundSeats_54 : decode cX6_refundSeats 54 = .ok (.iload 4, 2) := by decide +kernel
theorem dX6_refundSeats_56 : decode cX6_refundSeats 56 = .ok (.iload 5, 2) := by decide +kernel
theorem dX6_refundSeats_58 : decode cX6_refundSeats 58 = .ok (.invokevirtual 262, 3) := by decide +kernel
theorem dX6_refundSeats_61 : decode cX6_refundSeats 61 = .ok (.iadd, 1) := by decide +kernel
theorem dX6_refundSeats_62 : decode cX6_refundSeats 62 = .ok (.istore_n 3, 1) := by decide +kernel
theorem dX6_refundSeats_63 : decode cX6_refundSeats 63 = .ok (.iinc 4 1, 3) := by decide +kernel
theorem dX6_refundSeats_66 : decode cX6_refundSeats 66 = .ok (.goto (-61), 3) := by decide +kernel
theorem dX6_refundSeats_69 : decode cX6_refundSeats 69 = .ok (.iload_n 3, 1) := by decide +kernel
theorem dX6_refundSeats_70 : decode cX6_refundSeats 70 = .ok (.ireturn, 1) := by decide +kernel
theorem dX6_shareBack_0 : decode cX6_shareBack 0 = .ok (.aload_n 0, 1) := by decide +kernel
theorem dX6_shareBack_1 : decode cX6_shareBack 1 = .ok (.getfield 47, 3) := by decide +kernel
theorem dX6_shareBack_4 : decode cX6_shareBack 4 = .ok (.getfield 265, 3) := by decide +kernel
theorem dX6_shareBack_7 : decode cX6_shareBack 7 = .ok (.iload_n 1, 1) := by decide +kernel
theorem dX6_shareBack_8 : decode cX6_shareBack 8 = .ok (.iaload, 1) := by decide +kernel
theorem dX6_shareBack_9 : decode cX6_shareBack 9 = .ok (.istore_n 3, 1) := by decide +kernel
theorem dX6_shareBack_10 : decode cX6_shareBack 10 = .ok (.iload_n 3, 1) := by decide +kernel
theorem dX6_shareBack_11 : decode cX6_shareBack 11 = .ok (.aload_n 0, 1) := by decide +kernel
theorem dX6_shareBack_12 : decode cX6_shareBack 12 = .ok (.getfield 51, 3) := by decide +kernel
theorem dX6_shareBack_15 : decode cX6_shareBack 15 = .ok (.if_icmp .ge 7, 3) := by decide +kernel
theorem dX6_shareBack_18 : decode cX6_shareBack 18 = .ok (.iconst 1, 1) := by decide +kernel
theorem dX6_shareBack_19 : decode cX6_shareBack 19 = .ok (.goto 4, 3) := by decide +kernel
theorem dX6_shareBack_22 : decode cX6_shareBack 22 = .ok (.iconst 0, 1) := by decide +kernel
theorem dX6_shareBack_23 : decode cX6_shareBack 23 = .ok (.istore 4, 2) := by decide +kernel
theorem dX6_shareBack_25 : decode cX6_shareBack 25 = .ok (.aload_n 0, 1) := by decide +kernel
theorem dX6_shareBack_26 : decode cX6_shareBack 26 = .ok (.getfield 47, 3) := by decide +kernel
theorem dX6_shareBack_29 : decode cX6_shareBack 29 = .ok (.getfield 268, 3) := by decide +kernel
theorem dX6_shareBack_32 : decode cX6_shareBack 32 = .ok (.iload_n 1, 1) := by decide +kernel
theorem dX6_shareBack_33 : decode cX6_shareBack 33 = .ok (.iaload, 1) := by decide +kernel
theorem dX6_shareBack_34 : decode cX6_shareBack 34 = .ok (.tableswitch 89 1 3 #[26, 55, 68], 26) := by decide +kernel
theorem dX6_shareBack_60 : decode cX6_shareBack 60 = .ok (.iload 4, 2) := by decide +kernel
theorem dX6_shareBack_62 : decode cX6_shareBack 62 = .ok (.ifCond .eq 25, 3) := by decide +kernel
theorem dX6_shareBack_65 : decode cX6_shareBack 65 = .ok (.aload_n 0, 1) := by decide +kernel
theorem dX6_shareBack_66 : decode cX6_shareBack 66 = .ok (.iload_n 2, 1) := by decide +kernel
theorem dX6_shareBack_67 : decode cX6_shareBack 67 = .ok (.iload_n 3, 1) := by decide +kernel
theorem dX6_shareBack_68 : decode cX6_shareBack 68 = .ok (.invokevirtual 165, 3) := by decide +kernel
theorem dX6_shareBack_71 : decode cX6_shareBack 71 = .ok (.aload_n 0, 1) := by decide +kernel
theorem dX6_shareBack_72 : decode cX6_shareBack 72 = .ok (.getfield 47, 3) := by decide +kernel
theorem dX6_shareBack_75 : decode cX6_shareBack 75 = .ok (.getfield 271, 3) := by decide +kernel
theorem dX6_shareBack_78 : decode cX6_shareBack 78 = .ok (.iload_n 1, 1) := by decide +kernel
theorem dX6_shareBack_79 : decode cX6_shareBack 79 = .ok (.iaload, 1) := by decide +kernel
theorem dX6_shareBack_80 : decode cX6_shareBack 80 = .ok (.if_icmp .eq 7, 3) := by decide +kernel
theorem dX6_shareBack_83 : decode cX6_shareBack 83 = .ok (.iconst 2, 1) := by decide +kernel
theorem dX6_shareBack_84 : decode cX6_shareBack 84 = .ok (.goto 4, 3) := by decide +kernel
theorem dX6_shareBack_87 : decode cX6_shareBack 87 = .ok (.iconst 0, 1) := by decide +kernel
theorem dX6_shareBack_88 : decode cX6_shareBack 88 = .ok (.ireturn, 1) := by decide +kernel
theorem dX6_shareBack_89 : decode cX6_shareBack 89 = .ok (.iload_n 2, 1) := by decide +kernel
theorem dX6_shareBack_90 : decode cX6_shareBack 90 = .ok (.invokestatic 153, 3) := by decide +kernel
theorem dX6_shareBack_93 : decode cX6_shareBack 93 = .ok (.ifCond .le 7, 3) := by decide +kernel
theorem dX6_shareBack_96 : decode cX6_shareBack 96 = .ok (.iconst 4, 1) := by decide +kernel
theorem dX6_shareBack_97 : decode cX6_shareBack 97 = .ok (.goto 4, 3) := by decide +kernel
theorem dX6_shareBack_100 : decode cX6_shareBack 100 = .ok (.iconst 0, 1) := by decide +kernel
theorem dX6_shareBack_101 : decode cX6_shareBack 101 = .ok (.ireturn, 1) := by decide +kernel
theorem dX6_shareBack_102 : decode cX6_shareBack 102 = .ok (.iload 4, 2) := by decide +kernel
theorem dX6_shareBack_104 : decode cX6_shareBack 104 = .ok (.ifCond .eq 17, 3) := by decide +kernel
theorem dX6_shareBack_107 : decode cX6_shareBack 107 = .ok (.iload_n 2, 1) := by decide +kernel
theorem dX6_shareBack_108 : decode cX6_shareBack 108 = .ok (.iload_n 3, 1) := by decide +kernel
theorem dX6_shareBack_109 : decode cX6_shareBack 109 = .ok (.invokestatic 244, 3) := by decide +kernel
theorem dX6_shareBack_112 : decode cX6_shareBack 112 = .ok (.iconst 1, 1) := by decide +kernel
theorem dX6_shareBack_113 : decode cX6_shareBack 113 = .ok (.if_icmp .le 8, 3) := by decide +kernel
theorem dX6_shareBack_116 : decode cX6_shareBack 116 = .ok (.bipush 10, 2) := by decide +kernel
theorem dX6_shareBack_118 : decode cX6_shareBack 118 = .ok (.goto 4, 3) := by decide +kernel
theorem dX6_shareBack_121 : decode cX6_shareBack 121 = .ok (.iconst 0, 1) := by decide +kernel
theorem dX6_shareBack_122 : decode cX6_shareBack 122 = .ok (.ireturn, 1) := by decide +kernel
theorem dX6_shareBack_123 : decode cX6_shareBack 123 = .ok (.iconst 0, 1) := by decide +kernel
theorem dX6_shareBack_124 : decode cX6_shareBack 124 = .ok (.ireturn, 1) := by decide +kernel
theorem dX7_init_0 : decode cX7_init 0 = .ok (.aload_n 0, 1) := by decide +kernel
theorem dX7_init_1 : decode cX7_init 1 = .ok (.invokespecial 1, 3) := by decide +kernel
theorem dX7_init_4 : decode cX7_init 4 = .ok (.aload_n 0, 1) := by decide +kernel
theorem dX7_init_5 : decode cX7_init 5 = .ok (.iconst 1, 1) := by decide +kernel
theorem dX7_init_6 : decode cX7_init 6 = .ok (.putfield 7, 3) := by decide +kernel
theorem dX7_init_9 : decode cX7_init 9 = .ok (.aload_n 0, 1) := by decide +kernel
theorem dX7_init_10 : decode cX7_init 10 = .ok (.bipush 12, 2) := by decide +kernel
theorem dX7_init_12 : decode cX7_init 12 = .ok (.newarray .int, 2) := by decide +kernel
theorem dX7_init_14 : decode cX7_init 14 = .ok (.putfield 13, 3) := by decide +kernel
theorem dX7_init_17 : decode cX7_init 17 = .ok (.aload_n 0, 1) := by decide +kernel
theorem dX7_init_18 : decode cX7_init 18 = .ok (.bipush 12, 2) := by decide +kernel
theorem dX7_init_20 : decode cX7_init 20 = .ok (.newarray .int, 2) := by decide +kernel
theorem dX7_init_22 : decode cX7_init 22 = .ok (.putfield 17, 3) := by decide +kernel
theorem dX7_init_25 : decode cX7_init 25 = .ok (.aload_n 0, 1) := by decide +kernel
theorem dX7_init_26 : decode cX7_init 26 = .ok (.bipush 32, 2) := by decide +kernel
theorem dX7_init_28 : decode cX7_init 28 = .ok (.newarray .int, 2) := by decide +kernel
theorem dX7_init_30 : decode cX7_init 30 = .ok (.putfield 20, 3) := by decide +kernel
theorem dX7_init_33 : decode cX7_init 33 = .ok (.aload_n 0, 1) := by decide +kernel
theorem dX7_init_34 : decode cX7_init 34 = .ok (.bipush 8, 2) := by decide +kernel
theorem dX7_init_36 : decode cX7_init 36 = .ok (.newarray .int, 2) := by decide +kernel
theorem dX7_init_38 : decode cX7_init 38 = .ok (.putfield 23, 3) := by decide +kernel
theorem dX7_init_41 : decode cX7_init 41 = .ok (.aload_n 0, 1) := by decide +kernel
theorem dX7_init_42 : decode cX7_init 42 = .ok (.bipush 40, 2) := by decide +kernel
theorem dX7_init_44 : decode cX7_init 44 = .ok (.newarray .int, 2) := by decide +kernel
theorem dX7_init_46 : decode cX7_init 46 = .ok (.putfield 26, 3) := by decide +kernel
theorem dX7_init_49 : decode cX7_init 49 = .ok (.aload_n 0, 1) := by decide +kernel
theorem dX7_init_50 : decode cX7_init 50 = .ok (.bipush 40, 2) := by decide +kernel
theorem dX7_init_52 : decode cX7_init 52 = .ok (.newarray .int, 2) := by decide +kernel
theorem dX7_init_54 : decode cX7_init 54 = .ok (.putfield 29, 3) := by decide +kernel
theorem dX7_init_57 : decode cX7_init 57 = .ok (.aload_n 0, 1) := by decide +kernel
theorem dX7_init_58 : decode cX7_init 58 = .ok (.bipush 40, 2) := by decide +kernel
theorem dX7_init_60 : decode cX7_init 60 = .ok (.newarray .int, 2) := by decide +kernel
theorem dX7_init_62 : decode cX7_init 62 = .ok (.putfield 32, 3) := by decide +kernel
theorem dX7_init_65 : decode cX7_init 65 = .ok (.aload_n 0, 1) := by decide +kernel
theorem dX7_init_66 : decode cX7_init 66 = .ok (.sipush 12012, 3) := by decide +kernel
theorem dX7_init_69 : decode cX7_init 69 = .ok (.newarray .int, 2) := by decide +kernel
theorem dX7_init_71 : decode cX7_init 71 = .ok (.putfield 35, 3) := by decide +kernel
theorem dX7_init_74 : decode cX7_init 74 = .ok (.aload_n 0, 1) := by decide +kernel
theorem dX7_init_75 : decode cX7_init 75 = .ok (.bipush 40, 2) := by decide +kernel
theorem dX7_init_77 : decode cX7_init 77 = .ok (.newarray .int, 2) := by decide +kernel
theorem dX7_init_79 : decode cX7_init 79 = .ok (.putfield 38, 3) := by decide +kernel
theorem dX7_init_82 : decode cX7_init 82 = .ok (.aload_n 0, 1) := by decide +kernel
theorem dX7_init_83 : decode cX7_init 83 = .ok (.bipush 40, 2) := by decide +kernel
theorem dX7_init_85 : decode cX7_init 85 = .ok (.newarray .int, 2) := by decide +kernel
theorem dX7_init_87 : decode cX7_init 87 = .ok (.putfield 41, 3) := by decide +kernel
theorem dX7_init_90 : decode cX7_init 90 = .ok (.aload_n 0, 1) := by decide +kernel
theorem dX7_init_91 : decode cX7_init 91 = .ok (.sipush 320, 3) := by decide +kernel
theorem dX7_init_94 : decode cX7_init 94 = .ok (.newarray .int, 2) := by decide +kernel
theorem dX7_init_96 : decode cX7_init 96 = .ok (.putfield 44, 3) := by decide +kernel
theorem dX7_init_99 : decode cX7_init 99 = .ok (.aload_n 0, 1) := by decide +kernel
theorem dX7_init_100 : decode cX7_init 100 = .ok (.bipush 100, 2) := by decide +kernel
theorem dX7_init_102 : decode cX7_init 102 = .ok (.newarray .int, 2) := by decide +kernel
theorem dX7_init_104 : decode cX7_init 104 = .ok (.putfield 47, 3) := by decide +kernel
theorem dX7_init_107 : decode cX7_init 107 = .ok (.aload_n 0, 1) := by decide +kernel
theorem dX7_init_108 : decode cX7_init 108 = .ok (.bipush 100, 2) := by decide +kernel
theorem dX7_init_110 : decode cX7_init 110 = .ok (.newarray .int, 2) := by decide +kernel
theorem dX7_init_112 : decode cX7_init 112 = .ok (.putfield 50, 3) := by decide +kernel
theorem dX7_init_115 : decode cX7_init 115 = .ok (.aload_n 0, 1) := by decide +kernel
theorem dX7_init_116 : decode cX7_init 116 = .ok (.bipush 100, 2) := by decide +kernel
theorem dX7_init_118 : decode cX7_init 118 = .ok (.newarray .int, 2) := by decide +kernel
theorem dX7_init_120 : decode cX7_init 120 = .ok (.putfield 53, 3) := by decide +kernel
theorem dX7_init_123 : decode cX7_init 123 = .ok (.aload_n 0, 1) := by decide +kernel
theorem dX7_init_124 : decode cX7_init 124 = .ok (.bipush 100, 2) := by decide +kernel
theorem dX7_init_126 : decode cX7_init 126 = .ok (.newarray .int, 2) := by decide +kernel
theorem dX7_init_128 : decode cX7_init 128 = .ok (.putfield 56, 3) := by decide +kernel
theorem dX7_init_131 : decode cX7_init 131 = .ok (.aload_n 0, 1) := by decide +kernel
theorem dX7_init_132 : decode cX7_init 132 = .ok (.bipush 100, 2) := by decide +kernel
theorem dX7_init_134 : decode cX7_init 134 = .ok (.newarray .int, 2) := by decide +kernel
theorem dX7_init_136 : decode cX7_init 136 = .ok (.putfield 59, 3) := by decide +kernel
theorem dX7_init_139 : decode cX7_init 139 = .ok (.aload_n 0, 1) := by decide +kernel
theorem dX7_init_140 : decode cX7_init 140 = .ok (.bipush 100, 2) := by decide +kernel
theorem dX7_init_142 : decode cX7_init 142 = .ok (.newarray .int, 2) := by decide +kernel
theorem dX7_init_144 : decode cX7_init 144 = .ok (.putfield 62, 3) := by decide +kernel
theorem dX7_init_147 : decode cX7_init 147 = .ok (.aload_n 0, 1) := by decide +kernel
theorem dX7_init_148 : decode cX7_init 148 = .ok (.bipush 32, 2) := by decide +kernel
theorem dX7_init_150 : decode cX7_init 150 = .ok (.newarray .int, 2) := by decide +kernel
theorem dX7_init_152 : decode cX7_init 152 = .ok (.putfield 65, 3) := by decide +kernel
theorem dX7_init_155 : decode cX7_init 155 = .ok (.aload_n 0, 1) := by decide +kernel
theorem dX7_init_156 : decode cX7_init 156 = .ok (.bipush 8, 2) := by decide +kernel
theorem dX7_init_158 : decode cX7_init 158 = .ok (.newarray .int, 2) := by decide +kernel
theorem dX7_init_160 : decode cX7_init 160 = .ok (.putfield 68, 3) := by decide +kernel
theorem dX7_init_163 : decode cX7_init 163 = .ok (.aload_n 0, 1) := by decide +kernel
theorem dX7_init_164 : decode cX7_init 164 = .ok (.bipush 8, 2) := by decide +kernel
theorem dX7_init_166 : decode cX7_init 166 = .ok (.newarray .int, 2) := by decide +kernel
theorem dX7_init_168 : decode cX7_init 168 = .ok (.putfield 71, 3) := by decide +kernel
theorem dX7_init_171 : decode cX7_init 171 = .ok (.iconst 0, 1) := by decide +kernel
theorem dX7_init_172 : decode cX7_init 172 = .ok (.istore_n 1, 1) := by decide +kernel
theorem dX7_init_173 : decode cX7_init 173 = .ok (.iload_n 1, 1) := by decide +kernel
theorem dX7_init_174 : decode cX7_init 174 = .ok (.bipush 12, 2) := by decide +kernel
theorem dX7_init_176 : decode cX7_init 176 = .ok (.if_icmp .ge 16, 3) := by decide +kernel
theorem dX7_init_179 : decode cX7_init 179 = .ok (.aload_n 0, 1) := by decide +kernel
theorem dX7_init_180 : decode cX7_init 180 = .ok (.getfield 13, 3) := by decide +kernel
theorem dX7_init_183 : decode cX7_init 183 = .ok (.iload_n 1, 1) := by decide +kernel
theorem dX7_init_184 : decode cX7_init 184 = .ok (.iconst 5, 1) := by decide +kernel
theorem dX7_init_185 : decode cX7_init 185 = .ok (.iastore, 1) := by decide +kernel
theorem dX7_init_186 : decode cX7_init 186 = .ok (.iinc 1 1, 3) := by decide +kernel
theorem dX7_init_189 : decode cX7_init 189 = .ok (.goto (-16), 3) := by decide +kernel
theorem dX7_init_192 : decode cX7_init 192 = .ok (.return_, 1) := by decide +kernel
theorem dX7_thrown_0 : decode cX7_thrown 0 = .ok (.aload_n 0, 1) := by decide +kernel
theorem dX7_thrown_1 : decode cX7_thrown 1 = .ok (.getfield 74, 3) := by decide +kernel
theorem dX7_thrown_4 : decode cX7_thrown 4 = .ok (.ireturn, 1) := by decide +kernel
theorem dX7_fails_0 : decode cX7_fails 0 = .ok (.aload_n 0, 1) := by decide +kernel
theorem dX7_fails_1 : decode cX7_fails 1 = .ok (.iload_n 1, 1) := by decide +kernel
theorem dX7_fails_2 : decode cX7_fails 2 = .ok (.putfield 74, 3) := by decide +kernel
theorem dX7_fails_5 : decode cX7_fails 5 = .ok (.iconst 0, 1) := by decide +kernel
theorem dX7_fails_6 : decode cX7_fails 6 = .ok (.ireturn, 1) := by decide +kernel
theorem dX7_in_0 : decode cX7_in 0 = .ok (.iload_n 0, 1) := by decide +kernel
theorem dX7_in_1 : decode cX7_in 1 = .ok (.iload_n 1, 1) := by decide +kernel
theorem dX7_in_2 : decode cX7_in 2 = .ok (.if_icmp .lt 12, 3) := by decide +kernel
theorem dX7_in_5 : decode cX7_in 5 = .ok (.iload_n 0, 1) := by decide +kernel
theorem dX7_in_6 : decode cX7_in 6 = .ok (.iload_n 2, 1) := by decide +kernel
theorem dX7_in_7 : decode cX7_in 7 = .ok (.if_icmp .gt 7, 3) := by decide +kernel
theorem dX7_in_10 : decode cX7_in 10 = .ok (.iconst 1, 1) := by decide +kernel
theorem dX7_in_11 : decode cX7_in 11 = .ok (.goto 4, 3) := by decide +kernel
theorem dX7_in_14 : decode cX7_in 14 = .ok (.iconst 0, 1) := by decide +kernel
theorem dX7_in_15 : decode cX7_in 15 = .ok (.ireturn, 1) := by decide +kernel
theorem dX7_isActor_0 : decode cX7_isActor 0 = .ok (.iload_n 0, 1) := by decide +kernel
theorem dX7_isActor_1 : decode cX7_isActor 1 = .ok (.iconst 0, 1) := by decide +kernel
theorem dX7_isActor_2 : decode cX7_isActor 2 = .ok (.bipush 11, 2) := by decide +kernel
theorem dX7_isActor_4 : decode cX7_isActor 4 = .ok (.invokestatic 77, 3) := by decide +kernel
theorem dX7_isActor_7 : decode cX7_isActor 7 = .ok (.ireturn, 1) := by decide +kernel
theorem dX7_isPart_0 : decode cX7_isPart 0 = .ok (.iload_n 0, 1) := by decide +kernel
theorem dX7_isPart_1 : decode cX7_isPart 1 = .ok (.iconst 0, 1) := by decide +kernel
theorem dX7_isPart_2 : decode cX7_isPart 2 = .ok (.bipush 7, 2) := by decide +kernel
theorem dX7_isPart_4 : decode cX7_isPart 4 = .ok (.invokestatic 77, 3) := by decide +kernel
theorem dX7_isPart_7 : decode cX7_isPart 7 = .ok (.ireturn, 1) := by decide +kernel
theorem dX7_isDay_0 : decode cX7_isDay 0 = .ok (.iload_n 0, 1) := by decide +kernel
theorem dX7_isDay_1 : decode cX7_isDay 1 = .ok (.iconst 0, 1) := by decide +kernel
theorem dX7_isDay_2 : decode cX7_isDay 2 = .ok (.sipush 1000, 3) := by decide +kernel
theorem dX7_isDay_5 : decode cX7_isDay 5 = .ok (.invokestatic 77, 3) := by decide +kernel
theorem dX7_isDay_8 : decode cX7_isDay 8 = .ok (.ireturn, 1) := by decide +kernel
theorem dX7_setParts_0 : decode cX7_setParts 0 = .ok (.aload_n 0, 1) := by decide +kernel
theorem dX7_setParts_1 : decode cX7_setParts 1 = .ok (.iconst 0, 1) := by decide +kernel
theorem dX7_setParts_2 : decode cX7_setParts 2 = .ok (.putfield 74, 3) := by decide +kernel
theorem dX7_setParts_5 : decode cX7_setParts 5 = .ok (.iload_n 1, 1) := by decide +kernel
theorem dX7_setParts_6 : decode cX7_setParts 6 = .ok (.iconst 1, 1) := by decide +kernel
theorem dX7_setParts_7 : decode cX7_setParts 7 = .ok (.bipush 8, 2) := by decide +kernel
theorem dX7_setParts_9 : decode cX7_setParts 9 = .ok (.invokestatic 77, 3) := by decide +kernel
theorem dX7_setParts_12 : decode cX7_setParts 12 = .ok (.ifCond .ne 9, 3) := by decide +kernel
theorem dX7_setParts_15 : decode cX7_setParts 15 = .ok (.aload_n 0, 1) := by decide +kernel
theorem dX7_setParts_16 : decode cX7_setParts 16 = .ok (.iconst 1, 1) := by decide +kernel
theorem dX7_setParts_17 : decode cX7_setParts 17 = .ok (.invokevirtual 81, 3) := by decide +kernel
theorem dX7_setParts_20 : decode cX7_setParts 20 = .ok (.ireturn, 1) := by decide +kernel
theorem dX7_setParts_21 : decode cX7_setParts 21 = .ok (.aload_n 0, 1) := by decide +kernel
theorem dX7_setParts_22 : decode cX7_setParts 22 = .ok (.getfield 7, 3) := by decide +kernel
theorem dX7_setParts_25 : decode cX7_setParts 25 = .ok (.istore_n 2, 1) := by decide +kernel
theorem dX7_setParts_26 : decode cX7_setParts 26 = .ok (.aload_n 0, 1) := by decide +kernel
theorem dX7_setParts_27 : decode cX7_setParts 27 = .ok (.iload_n 1, 1) := by decide +kernel
theorem dX7_setParts_28 : decode cX7_setParts 28 = .ok (.putfield 7, 3) := by decide +kernel
theorem dX7_setParts_31 : decode cX7_setParts 31 = .ok (.iload_n 2, 1) := by decide +kernel
theorem dX7_setParts_32 : decode cX7_setParts 32 = .ok (.ireturn, 1) := by decide +kernel
theorem dX7_setSize_0 : decode cX7_setSize 0 = .ok (.aload_n 0, 1) := by decide +kernel
theorem dX7_setSize_1 : decode cX7_setSize 1 = .ok (.iconst 0, 1) := by decide +kernel
theorem dX7_setSize_2 : decode cX7_setSize 2 = .ok (.putfield 74, 3) := by decide +kernel
theorem dX7_setSize_5 : decode cX7_setSize 5 = .ok (.iload_n 1, 1) := by decide +kernel
theorem dX7_setSize_6 : decode cX7_setSize 6 = .ok (.invokestatic 85, 3) := by decide +kernel
theorem dX7_setSize_9 : decode cX7_setSize 9 = .ok (.ifCond .ne 9, 3) := by decide +kernel
theorem dX7_setSize_12 : decode cX7_setSize 12 = .ok (.aload_n 0, 1) := by decide +kernel
theorem dX7_setSize_13 : decode cX7_setSize 13 = .ok (.iconst 1, 1) := by decide +kernel
theorem dX7_setSize_14 : decode cX7_setSize 14 = .ok (.invokevirtual 81, 3) := by decide +kernel
theorem dX7_setSize_17 : decode cX7_setSize 17 = .ok (.ireturn, 1) := by decide +kernel
theorem dX7_setSize_18 : decode cX7_setSize 18 = .ok (.iload_n 2, 1) := by decide +kernel
theorem dX7_setSize_19 : decode cX7_setSize 19 = .ok (.iconst 0, 1) := by decide +kernel
theorem dX7_setSize_20 : decode cX7_setSize 20 = .ok (.bipush 9, 2) := by decide +kernel
theorem dX7_setSize_22 : decode cX7_setSize 22 = .ok (.invokestatic 77, 3) := by decide +kernel
theorem dX7_setSize_25 : decode cX7_setSize 25 = .ok (.ifCond .ne 9, 3) := by decide +kernel
theorem dX7_setSize_28 : decode cX7_setSize 28 = .ok (.aload_n 0, 1) := by decide +kernel
theorem dX7_setSize_29 : decode cX7_setSize 29 = .ok (.iconst 2, 1) := by decide +kernel
theorem dX7_setSize_30 : decode cX7_setSize 30 = .ok (.invokevirtual 81, 3) := by decide +kernel
theorem dX7_setSize_33 : decode cX7_setSize 33 = .ok (.ireturn, 1) := by decide +kernel
theorem dX7_setSize_34 : decode cX7_setSize 34 = .ok (.aload_n 0, 1) := by decide +kernel
theorem dX7_setSize_35 : decode cX7_setSize 35 = .ok (.getfield 13, 3) := by decide +kernel
theorem dX7_setSize_38 : decode cX7_setSize 38 = .ok (.iload_n 1, 1) := by decide +kernel
theorem dX7_setSize_39 : decode cX7_setSize 39 = .ok (.iaload, 1) := by decide +kernel
theorem dX7_setSize_40 : decode cX7_setSize 40 = .ok (.istore_n 3, 1) := by decide +kernel
theorem dX7_setSize_41 : decode cX7_setSize 41 = .ok (.aload_n 0, 1) := by decide +kernel
theorem dX7_setSize_42 : decode cX7_setSize 42 = .ok (.getfield 13, 3) := by decide +kernel
theorem dX7_setSize_45 : decode cX7_setSize 45 = .ok (.iload_n 1, 1) := by decide +kernel
theorem dX7_setSize_46 : decode cX7_setSize 46 = .ok (.iload_n 2, 1) := by decide +kernel
theorem dX7_setSize_47 : decode cX7_setSize 47 = .ok (.iastore, 1) := by decide +kernel
theorem dX7_setSize_48 : decode cX7_setSize 48 = .ok (.iload_n 3, 1) := by decide +kernel
theorem dX7_setSize_49 : decode cX7_setSize 49 = .ok (.ireturn, 1) := by decide +kernel
theorem dX7_knownBy_0 : decode cX7_knownBy 0 = .ok (.iconst 0, 1) := by decide +kernel
theorem dX7_knownBy_1 : decode cX7_knownBy 1 = .ok (.istore_n 2, 1) := by decide +kernel
theorem dX7_knownBy_2 : decode cX7_knownBy 2 = .ok (.iconst 0, 1) := by decide +kernel
theorem dX7_knownBy_3 : decode cX7_knownBy 3 = .ok (.istore_n 3, 1) := by decide +kernel
theorem dX7_knownBy_4 : decode cX7_knownBy 4 = .ok (.iload_n 3, 1) := by decide +kernel
theorem dX7_knownBy_5 : decode cX7_knownBy 5 = .ok (.bipush 8, 2) := by decide +kernel
theorem dX7_knownBy_7 : decode cX7_knownBy 7 = .ok (.if_icmp .ge 22, 3) := by decide +kernel
theorem dX7_knownBy_10 : decode cX7_knownBy 10 = .ok (.iload_n 2, 1) := by decide +kernel
theorem dX7_knownBy_11 : decode cX7_knownBy 11 = .ok (.aload_n 0, 1) := by decide +kernel
theorem dX7_knownBy_12 : decode cX7_knownBy 12 = .ok (.getfield 17, 3) := by decide +kernel
theorem dX7_knownBy_15 : decode cX7_knownBy 15 = .ok (.iload_n 1, 1) := by decide +kernel
theorem dX7_knownBy_16 : decode cX7_knownBy 16 = .ok (.iaload, 1) := by decide +kernel
theorem dX7_knownBy_17 : decode cX7_knownBy 17 = .ok (.iload_n 3, 1) := by decide +kernel
theorem dX7_knownBy_18 : decode cX7_knownBy 18 = .ok (.ishr, 1) := by decide +kernel
theorem dX7_knownBy_19 : decode cX7_knownBy 19 = .ok (.iconst 1, 1) := by decide +kernel
theorem dX7_knownBy_20 : decode cX7_knownBy 20 = .ok (.iand, 1) := by decide +kernel
theorem dX7_knownBy_21 : decode cX7_knownBy 21 = .ok (.iadd, 1) := by decide +kernel
theorem dX7_knownBy_22 : decode cX7_knownBy 22 = .ok (.istore_n 2, 1) := by decide +kernel
theorem dX7_knownBy_23 : decode cX7_knownBy 23 = .ok (.iinc 3 1, 3) := by decide +kernel
theorem dX7_knownBy_26 : decode cX7_knownBy 26 = .ok (.goto (-22), 3) := by decide +kernel
theorem dX7_knownBy_29 : decode cX7_knownBy 29 = .ok (.iload_n 2, 1) := by decide +kernel
theorem dX7_knownBy_30 : decode cX7_knownBy 30 = .ok (.ireturn, 1) := by decide +kernel
theorem dX7_knows_0 : decode cX7_knows 0 = .ok (.aload_n 0, 1) := by decide +kernel
theorem dX7_knows_1 : decode cX7_knows 1 = .ok (.getfield 17, 3) := by decide +kernel
theorem dX7_knows_4 : decode cX7_knows 4 = .ok (.iload_n 1, 1) := by decide +kernel
theorem dX7_knows_5 : decode cX7_knows 5 = .ok (.iaload, 1) := by decide +kernel
theorem dX7_knows_6 : decode cX7_knows 6 = .ok (.iload_n 2, 1) := by decide +kernel
theorem dX7_knows_7 : decode cX7_knows 7 = .ok (.ishr, 1) := by decide +kernel
theorem dX7_knows_8 : decode cX7_knows 8 = .ok (.iconst 1, 1) := by decide +kernel
theorem dX7_knows_9 : decode cX7_knows 9 = .ok (.iand, 1) := by decide +kernel
theorem dX7_knows_10 : decode cX7_knows 10 = .ok (.iconst 1, 1) := by decide +kernel
theorem dX7_knows_11 : decode cX7_knows 11 = .ok (.if_icmp .ne 7, 3) := by decide +kernel
theorem dX7_knows_14 : decode cX7_knows 14 = .ok (.iconst 1, 1) := by decide +kernel
theorem dX7_knows_15 : decode cX7_knows 15 = .ok (.goto 4, 3) := by decide +kernel
theorem dX7_knows_18 : decode cX7_knows 18 = .ok (.iconst 0, 1) := by decide +kernel
theorem dX7_knows_19 : decode cX7_knows 19 = .ok (.ireturn, 1) := by decide +kernel
theorem dX7_learn_0 : decode cX7_learn 0 = .ok (.aload_n 0, 1) := by decide +kernel
theorem dX7_learn_1 : decode cX7_learn 1 = .ok (.iconst 0, 1) := by decide +kernel
theorem dX7_learn_2 : decode cX7_learn 2 = .ok (.putfield 74, 3) := by decide +kernel
theorem dX7_learn_5 : decode cX7_learn 5 = .ok (.iload_n 1, 1) := by decide +kernel
theorem dX7_learn_6 : decode cX7_learn 6 = .ok (.invokestatic 85, 3) := by decide +kernel
theorem dX7_learn_9 : decode cX7_learn 9 = .ok (.ifCond .eq 10, 3) := by decide +kernel
theorem dX7_learn_12 : decode cX7_learn 12 = .ok (.iload_n 2, 1) := by decide +kernel
theorem dX7_learn_13 : decode cX7_learn 13 = .ok (.invokestatic 89, 3) := by decide +kernel
theorem dX7_learn_16 : decode cX7_learn 16 = .ok (.ifCond .ne 9, 3) := by decide +kernel
theorem dX7_learn_19 : decode cX7_learn 19 = .ok (.aload_n 0, 1) := by decide +kernel
theorem dX7_learn_20 : decode cX7_learn 20 = .ok (.iconst 1, 1) := by decide +kernel
theorem dX7_learn_21 : decode cX7_learn 21 = .ok (.invokevirtual 81, 3) := by decide +kernel
theorem dX7_learn_24 : decode cX7_learn 24 = .ok (.ireturn, 1) := by decide +kernel
theorem dX7_learn_25 : decode cX7_learn 25 = .ok (.iload_n 3, 1) := by decide +kernel
theorem dX7_learn_26 : decode cX7_learn 26 = .ok (.ifCond .eq 27, 3) := by decide +kernel
theorem dX7_learn_29 : decode cX7_learn 29 = .ok (.aload_n 0, 1) := by decide +kernel
theorem dX7_learn_30 : decode cX7_learn 30 = .ok (.iload_n 1, 1) := by decide +kernel
theorem dX7_learn_31 : decode cX7_learn 31 = .ok (.iload_n 2, 1) := by decide +kernel
theorem dX7_learn_32 : decode cX7_learn 32 = .ok (.invokevirtual 92, 3) := by decide +kernel
theorem dX7_learn_35 : decode cX7_learn 35 = .ok (.ifCond .ne 18, 3) := by decide +kernel
theorem dX7_learn_38 : decode cX7_learn 38 = .ok (.aload_n 0, 1) := by decide +kernel
theorem dX7_learn_39 : decode cX7_learn 39 = .ok (.iload_n 1, 1) := by decide +kernel
theorem dX7_learn_40 : decode cX7_learn 40 = .ok (.invokevirtual 96, 3) := by decide +kernel
theorem dX7_learn_43 : decode cX7_learn 43 = .ok (.iconst 4, 1) := by decide +kernel
theorem dX7_learn_44 : decode cX7_learn 44 = .ok (.if_icmp .ne 9, 3) := by decide +kernel
theorem dX7_learn_47 : decode cX7_learn 47 = .ok (.aload_n 0, 1) := by decide +kernel
theorem dX7_learn_48 : decode cX7_learn 48 = .ok (.iconst 2, 1) := by decide +kernel
theorem dX7_learn_49 : decode cX7_learn 49 = .ok (.invokevirtual 81, 3) := by decide +kernel
theorem dX7_learn_52 : decode cX7_learn 52 = .ok (.ireturn, 1) := by decide +kernel
theorem dX7_learn_53 : decode cX7_learn 53 = .ok (.iload_n 3, 1) := by decide +kernel
theorem dX7_learn_54 : decode cX7_learn 54 = .ok (.aload_n 0, 1) := by decide +kernel
theorem dX7_learn_55 : decode cX7_learn 55 = .ok (.iload_n 1, 1) := by decide +kernel
theorem dX7_learn_56 : decode cX7_learn 56 = .ok (.iload_n 2, 1) := by decide +kernel
theorem dX7_learn_57 : decode cX7_learn 57 = .ok (.invokevirtual 92, 3) := by decide +kernel
theorem dX7_learn_60 : decode cX7_learn 60 = .ok (.if_icmp .eq 15, 3) := by decide +kernel
theorem dX7_learn_63 : decode cX7_learn 63 = .ok (.aload_n 0, 1) := by decide +kernel
theorem dX7_learn_64 : decode cX7_learn 64 = .ok (.getfield 17, 3) := by decide +kernel
theorem dX7_learn_67 : decode cX7_learn 67 = .ok (.iload_n 1, 1) := by decide +kernel
theorem dX7_learn_68 : decode cX7_learn 68 = .ok (.dup2, 1) := by decide +kernel
theorem dX7_learn_69 : decode cX7_learn 69 = .ok (.iaload, 1) := by decide +kernel
theorem dX7_learn_70 : decode cX7_learn 70 = .ok (.iconst 1, 1) := by decide +kernel
theorem dX7_learn_71 : decode cX7_learn 71 = .ok (.iload_n 2, 1) := by decide +kernel
theorem dX7_learn_72 : decode cX7_learn 72 = .ok (.ishl, 1) := by decide +kernel
theorem dX7_learn_73 : decode cX7_learn 73 = .ok (.ixor, 1) := by decide +kernel
theorem dX7_learn_74 : decode cX7_learn 74 = .ok (.iastore, 1) := by decide +kernel
theorem dX7_learn_75 : decode cX7_learn 75 = .ok (.aload_n 0, 1) := by decide +kernel
theorem dX7_learn_76 : decode cX7_learn 76 = .ok (.iload_n 1, 1) := by decide +kernel
theorem dX7_learn_77 : decode cX7_learn 77 = .ok (.invokevirtual 96, 3) := by decide +kernel
theorem dX7_learn_80 : decode cX7_learn 80 = .ok (.ireturn, 1) := by decide +kernel
theorem dX7_rankOf_0 : decode cX7_rankOf 0 = .ok (.iconst 0, 1) := by decide +kernel
theorem dX7_rankOf_1 : decode cX7_rankOf 1 = .ok (.istore_n 3, 1) := by decide +kernel
theorem dX7_rankOf_2 : decode cX7_rankOf 2 = .ok (.iload_n 3, 1) := by decide +kernel
theorem dX7_rankOf_3 : decode cX7_rankOf 3 = .ok (.aload_n 0, 1) := by decide +kernel
theorem dX7_rankOf_4 : decode cX7_rankOf 4 = .ok (.getfield 23, 3) := by decide +kernel
theorem dX7_rankOf_7 : decode cX7_rankOf 7 = .ok (.iload_n 1, 1) := by decide +kernel
theorem dX7_rankOf_8 : decode cX7_rankOf 8 = .ok (.iaload, 1) := by decide +kernel
theorem dX7_rankOf_9 : decode cX7_rankOf 9 = .ok (.if_icmp .ge 23, 3) := by decide +kernel
theorem dX7_rankOf_12 : decode cX7_rankOf 12 = .ok (.aload_n 0, 1) := by decide +kernel
theorem dX7_rankOf_13 : decode cX7_rankOf 13 = .ok (.getfield 20, 3) := by decide +kernel
theorem dX7_rankOf_16 : decode cX7_rankOf 16 = .ok (.iconst 4, 1) := by decide +kernel
theorem dX7_rankOf_17 : decode cX7_rankOf 17 = .ok (.iload_n 1, 1) := by decide +kernel
theorem dX7_rankOf_18 : decode cX7_rankOf 18 = .ok (.imul, 1) := by decide +kernel
theorem dX7_rankOf_19 : decode cX7_rankOf 19 = .ok (.iload_n 3, 1) := by decide +kernel
theorem dX7_rankOf_20 : decode cX7_rankOf 20 = .ok (.iadd, 1) := by decide +kernel
theorem dX7_rankOf_21 : decode cX7_rankOf 21 = .ok (.iaload, 1) := by decide +kernel
theorem dX7_rankOf_22 : decode cX7_rankOf 22 = .ok (.iload_n 2, 1) := by decide +kernel
theorem dX7_rankOf_23 : decode cX7_rankOf 23 = .ok (.if_icmp .eq 9, 3) := by decide +kernel
theorem dX7_rankOf_26 : decode cX7_rankOf 26 = .ok (.iinc 3 1, 3) := by decide +kernel
theorem dX7_rankOf_29 : decode cX7_rankOf 29 = .ok (.goto (-27), 3) := by decide +kernel
theorem dX7_rankOf_32 : decode cX7_rankOf 32 = .ok (.iload_n 3, 1) := by decide +kernel
theorem dX7_rankOf_33 : decode cX7_rankOf 33 = .ok (.aload_n 0, 1) := by decide +kernel
theorem dX7_rankOf_34 : decode cX7_rankOf 34 = .ok (.getfield 23, 3) := by decide +kernel
theorem dX7_rankOf_37 : decode cX7_rankOf 37 = .ok (.iload_n 1, 1) := by decide +kernel
theorem dX7_rankOf_38 : decode cX7_rankOf 38 = .ok (.iaload, 1) := by decide +kernel
theorem dX7_rankOf_39 : decode cX7_rankOf 39 = .ok (.if_icmp .ge 7, 3) := by decide +kernel
theorem dX7_rankOf_42 : decode cX7_rankOf 42 = .ok (.iload_n 3, 1) := by decide +kernel
theorem dX7_rankOf_43 : decode cX7_rankOf 43 = .ok (.goto 4, 3) := by decide +kernel
theorem dX7_rankOf_46 : decode cX7_rankOf 46 = .ok (.iconst (-1), 1) := by decide +kernel
theorem dX7_rankOf_47 : decode cX7_rankOf 47 = .ok (.ireturn, 1) := by decide +kernel
theorem dX7_put_0 : decode cX7_put 0 = .ok (.aload_n 0, 1) := by decide +kernel
theorem dX7_put_1 : decode cX7_put 1 = .ok (.iconst 0, 1) := by decide +kernel
theorem dX7_put_2 : decode cX7_put 2 = .ok (.putfield 74, 3) := by decide +kernel
theorem dX7_put_5 : decode cX7_put 5 = .ok (.iload_n 1, 1) := by decide +kernel
theorem dX7_put_6 : decode cX7_put 6 = .ok (.invokestatic 89, 3) := by decide +kernel
theorem dX7_put_9 : decode cX7_put 9 = .ok (.ifCond .eq 10, 3) := by decide +kernel
theorem dX7_put_12 : decode cX7_put 12 = .ok (.iload_n 2, 1) := by decide +kernel
theorem dX7_put_13 : decode cX7_put 13 = .ok (.invokestatic 85, 3) := by decide +kernel
theorem dX7_put_16 : decode cX7_put 16 = .ok (.ifCond .ne 9, 3) := by decide +kernel
theorem dX7_put_19 : decode cX7_put 19 = .ok (.aload_n 0, 1) := by decide +kernel
theorem dX7_put_20 : decode cX7_put 20 = .ok (.iconst 1, 1) := by decide +kernel
theorem dX7_put_21 : decode cX7_put 21 = .ok (.invokevirtual 81, 3) := by decide +kernel
theorem dX7_put_24 : decode cX7_put 24 = .ok (.ireturn, 1) := by decide +kernel
theorem dX7_put_25 : decode cX7_put 25 = .ok (.aload_n 0, 1) := by decide +kernel
theorem dX7_put_26 : decode cX7_put 26 = .ok (.iload_n 1, 1) := by decide +kernel
theorem dX7_put_27 : decode cX7_put 27 = .ok (.iload_n 2, 1) := by decide +kernel
theorem dX7_put_28 : decode cX7_put 28 = .ok (.invokevirtual 99, 3) := by decide +kernel
theorem dX7_put_31 : decode cX7_put 31 = .ok (.iconst (-1), 1) := by decide +kernel
theorem dX7_put_32 : decode cX7_put 32 = .ok (.if_icmp .ne 13, 3) := by decide +kernel
theorem dX7_put_35 : decode cX7_put 35 = .ok (.aload_n 0, 1) := by decide +kernel
theorem dX7_put_36 : decode cX7_put 36 = .ok (.getfield 23, 3) := by decide +kernel
theorem dX7_put_39 : decode cX7_put 39 = .ok (.iload_n 1, 1) := by decide +kernel
theorem dX7_put_40 : decode cX7_put 40 = .ok (.iaload, 1) := by decide +kernel
theorem dX7_put_41 : decode cX7_put 41 = .ok (.iconst 4, 1) := by decide +kernel
theorem dX7_put_42 : decode cX7_put 42 = .ok (.if_icmp .ne 9, 3) := by decide +kernel
theorem dX7_put_45 : decode cX7_put 45 = .ok (.aload_n 0, 1) := by decide +kernel
theorem dX7_put_46 : decode cX7_put 46 = .ok (.iconst 2, 1) := by decide +kernel
theorem dX7_put_47 : decode cX7_put 47 = .ok (.invokevirtual 81, 3) := by decide +kernel
theorem dX7_put_50 : decode cX7_put 50 = .ok (.ireturn, 1) := by decide +kernel
theorem dX7_put_51 : decode cX7_put 51 = .ok (.aload_n 0, 1) := by decide +kernel
theorem dX7_put_52 : decode cX7_put 52 = .ok (.getfield 20, 3) := by decide +kernel
theorem dX7_put_55 : decode cX7_put 55 = .ok (.iconst 4, 1) := by decide +kernel
theorem dX7_put_56 : decode cX7_put 56 = .ok (.iload_n 1, 1) := by decide +kernel
theorem dX7_put_57 : decode cX7_put 57 = .ok (.imul, 1) := by decide +kernel
theorem dX7_put_58 : decode cX7_put 58 = .ok (.aload_n 0, 1) := by decide +kernel
theorem dX7_put_59 : decode cX7_put 59 = .ok (.getfield 23, 3) := by decide +kernel
theorem dX7_put_62 : decode cX7_put 62 = .ok (.iload_n 1, 1) := by decide +kernel
theorem dX7_put_63 : decode cX7_put 63 = .ok (.iaload, 1) := by decide +kernel
theorem dX7_put_64 : decode cX7_put 64 = .ok (.iadd, 1) := by decide +kernel
theorem dX7_put_65 : decode cX7_put 65 = .ok (.iload_n 2, 1) := by decide +kernel
theorem dX7_put_66 : decode cX7_put 66 = .ok (.iastore, 1) := by decide +kernel
theorem dX7_put_67 : decode cX7_put 67 = .ok (.aload_n 0, 1) := by decide +kernel
theorem dX7_put_68 : decode cX7_put 68 = .ok (.getfield 23, 3) := by decide +kernel
theorem dX7_put_71 : decode cX7_put 71 = .ok (.iload_n 1, 1) := by decide +kernel
theorem dX7_put_72 : decode cX7_put 72 = .ok (.dup2, 1) := by decide +kernel
theorem dX7_put_73 : decode cX7_put 73 = .ok (.iaload, 1) := by decide +kernel
theorem dX7_put_74 : decode cX7_put 74 = .ok (.iconst 1, 1) := by decide +kernel
theorem dX7_put_75 : decode cX7_put 75 = .ok (.iadd, 1) := by decide +kernel
theorem dX7_put_76 : decode cX7_put 76 = .ok (.iastore, 1) := by decide +kernel
theorem dX7_put_77 : decode cX7_put 77 = .ok (.aload_n 0, 1) := by decide +kernel
theorem dX7_put_78 : decode cX7_put 78 = .ok (.getfield 23, 3) := by decide +kernel
theorem dX7_put_81 : decode cX7_put 81 = .ok (.iload_n 1, 1) := by decide +kernel
theorem dX7_put_82 : decode cX7_put 82 = .ok (.iaload, 1) := by decide +kernel
theorem dX7_put_83 : decode cX7_put 83 = .ok (.iconst 1, 1) := by decide +kernel
theorem dX7_put_84 : decode cX7_put 84 = .ok (.isub, 1) := by decide +kernel
theorem dX7_put_85 : decode cX7_put 85 = .ok (.ireturn, 1) := by decide +kernel
theorem dX7_take_0 : decode cX7_take 0 = .ok (.aload_n 0, 1) := by decide +kernel
theorem dX7_take_1 : decode cX7_take 1 = .ok (.iconst 0, 1) := by decide +kernel
theorem dX7_take_2 : decode cX7_take 2 = .ok (.putfield 74, 3) := by decide +kernel
theorem dX7_take_5 : decode cX7_take 5 = .ok (.iload_n 1, 1) := by decide +kernel
theorem dX7_take_6 : decode cX7_take 6 = .ok (.invokestatic 89, 3) := by decide +kernel
theorem dX7_take_9 : decode cX7_take 9 = .ok (.ifCond .eq 10, 3) := by decide +kernel
theorem dX7_take_12 : decode cX7_take 12 = .ok (.iload_n 2, 1) := by decide +kernel
theorem dX7_take_13 : decode cX7_take 13 = .ok (.invokestatic 85, 3) := by decide +kernel
theorem dX7_take_16 : decode cX7_take 16 = .ok (.ifCond .ne 9, 3) := by decide +kernel
theorem dX7_take_19 : decode cX7_take 19 = .ok (.aload_n 0, 1) := by decide +kernel
theorem dX7_take_20 : decode cX7_take 20 = .ok (.iconst 1, 1) := by decide +kernel
theorem dX7_take_21 : decode cX7_take 21 = .ok (.invokevirtual 81, 3) := by decide +kernel
theorem dX7_take_24 : decode cX7_take 24 = .ok (.ireturn, 1) := by decide +kernel
theorem dX7_take_25 : decode cX7_take 25 = .ok (.aload_n 0, 1) := by decide +kernel
theorem dX7_take_26 : decode cX7_take 26 = .ok (.iload_n 1, 1) := by decide +kernel
theorem dX7_take_27 : decode cX7_take 27 = .ok (.iload_n 2, 1) := by decide +kernel
theorem dX7_take_28 : decode cX7_take 28 = .ok (.invokevirtual 99, 3) := by decide +kernel
theorem dX7_take_31 : decode cX7_take 31 = .ok (.istore_n 3, 1) := by decide +kernel
theorem dX7_take_32 : decode cX7_take 32 = .ok (.iload_n 3, 1) := by decide +kernel
theorem dX7_take_33 : decode cX7_take 33 = .ok (.iconst (-1), 1) := by decide +kernel
theorem dX7_take_34 : decode cX7_take 34 = .ok (.if_icmp .ne 9, 3) := by decide +kernel
theorem dX7_take_37 : decode cX7_take 37 = .ok (.aload_n 0, 1) := by decide +kernel
theorem dX7_take_38 : decode cX7_take 38 = .ok (.iconst 2, 1) := by decide +kernel
theorem dX7_take_39 : decode cX7_take 39 = .ok (.invokevirtual 81, 3) := by decide +kernel
theorem dX7_take_42 : decode cX7_take 42 = .ok (.ireturn, 1) := by decide +kernel
theorem dX7_take_43 : decode cX7_take 43 = .ok (.aload_n 0, 1) := by decide +kernel
theorem dX7_take_44 : decode cX7_take 44 = .ok (.getfield 23, 3) := by decide +kernel
theorem dX7_take_47 : decode cX7_take 47 = .ok (.iload_n 1, 1) := by decide +kernel
theorem dX7_take_48 : decode cX7_take 48 = .ok (.dup2, 1) := by decide +kernel
theorem dX7_take_49 : decode cX7_take 49 = .ok (.iaload, 1) := by decide +kernel
theorem dX7_take_50 : decode cX7_take 50 = .ok (.iconst 1, 1) := by decide +kernel
theorem dX7_take_51 : decode cX7_take 51 = .ok (.isub, 1) := by decide +kernel
theorem dX7_take_52 : decode cX7_take 52 = .ok (.iastore, 1) := by decide +kernel
theorem dX7_take_53 : decode cX7_take 53 = .ok (.iload_n 3, 1) := by decide +kernel
theorem dX7_take_54 : decode cX7_take 54 = .ok (.istore 4, 2) := by decide +kernel
theorem dX7_take_56 : decode cX7_take 56 = .ok (.iload 4, 2) := by decide +kernel
theorem dX7_take_58 : decode cX7_take 58 = .ok (.aload_n 0, 1) := by decide +kernel
theorem dX7_take_59 : decode cX7_take 59 = .ok (.getfield 23, 3) := by decide +kernel
theorem dX7_take_62 : decode cX7_take 62 = .ok (.iload_n 1, 1) := by decide +kernel
theorem dX7_take_63 : decode cX7_take 63 = .ok (.iaload, 1) := by decide +kernel
theorem dX7_take_64 : decode cX7_take 64 = .ok (.if_icmp .ge 33, 3) := by decide +kernel
theorem dX7_take_67 : decode cX7_take 67 = .ok (.aload_n 0, 1) := by decide +kernel
theorem dX7_take_68 : decode cX7_take 68 = .ok (.getfield 20, 3) := by decide +kernel
theorem dX7_take_71 : decode cX7_take 71 = .ok (.iconst 4, 1) := by decide +kernel
theorem dX7_take_72 : decode cX7_take 72 = .ok (.iload_n 1, 1) := by decide +kernel
theorem dX7_take_73 : decode cX7_take 73 = .ok (.imul, 1) := by decide +kernel
theorem dX7_take_74 : decode cX7_take 74 = .ok (.iload 4, 2) := by decide +kernel
theorem dX7_take_76 : decode cX7_take 76 = .ok (.iadd, 1) := by decide +kernel
theorem dX7_take_77 : decode cX7_take 77 = .ok (.aload_n 0, 1) := by decide +kernel
theorem dX7_take_78 : decode cX7_take 78 = .ok (.getfield 20, 3) := by decide +kernel
theorem dX7_take_81 : decode cX7_take 81 = .ok (.iconst 4, 1) := by decide +kernel
theorem dX7_take_82 : decode cX7_take 82 = .ok (.iload_n 1, 1) := by decide +kernel
theorem dX7_take_83 : decode cX7_take 83 = .ok (.imul, 1) := by decide +kernel
theorem dX7_take_84 : decode cX7_take 84 = .ok (.iload 4, 2) := by decide +kernel
theorem dX7_take_86 : decode cX7_take 86 = .ok (.iadd, 1) := by decide +kernel
theorem dX7_take_87 : decode cX7_take 87 = .ok (.iconst 1, 1) := by decide +kernel
theorem dX7_take_88 : decode cX7_take 88 = .ok (.iadd, 1) := by decide +kernel
theorem dX7_take_89 : decode cX7_take 89 = .ok (.iaload, 1) := by decide +kernel
theorem dX7_take_90 : decode cX7_take 90 = .ok (.iastore, 1) := by decide +kernel
theorem dX7_take_91 : decode cX7_take 91 = .ok (.iinc 4 1, 3) := by decide +kernel
theorem dX7_take_94 : decode cX7_take 94 = .ok (.goto (-38), 3) := by decide +kernel
theorem dX7_take_97 : decode cX7_take 97 = .ok (.iload_n 3, 1) := by decide +kernel
theorem dX7_take_98 : decode cX7_take 98 = .ok (.ireturn, 1) := by decide +kernel
theorem dX7_costume_0 : decode cX7_costume 0 = .ok (.aload_n 0, 1) := by decide +kernel
theorem dX7_costume_1 : decode cX7_costume 1 = .ok (.iconst 0, 1) := by decide +kernel
theorem dX7_costume_2 : decode cX7_costume 2 = .ok (.putfield 74, 3) := by decide +kernel
theorem dX7_costume_5 : decode cX7_costume 5 = .ok (.iload_n 1, 1) := by decide +kernel
theorem dX7_costume_6 : decode cX7_costume 6 = .ok (.invokestatic 89, 3) := by decide +kernel
theorem dX7_costume_9 : decode cX7_costume 9 = .ok (.ifCond .ne 9, 3) := by decide +kernel
theorem dX7_costume_12 : decode cX7_costume 12 = .ok (.aload_n 0, 1) := by decide +kernel
theorem dX7_costume_13 : decode cX7_costume 13 = .ok (.iconst 1, 1) := by decide +kernel
theorem dX7_costume_14 : decode cX7_costume 14 = .ok (.invokevirtual 81, 3) := by decide +kernel
theorem dX7_costume_17 : decode cX7_costume 17 = .ok (.ireturn, 1) := by decide +kernel
theorem dX7_costume_18 : decode cX7_costume 18 = .ok (.iload_n 2, 1) := by decide +kernel
theorem dX7_costume_19 : decode cX7_costume 19 = .ok (.iconst 0, 1) := by decide +kernel
theorem dX7_costume_20 : decode cX7_costume 20 = .ok (.bipush 9, 2) := by decide +kernel
theorem dX7_costume_22 : decode cX7_costume 22 = .ok (.invokestatic 77, 3) := by decide +kernel
theorem dX7_costume_25 : decode cX7_costume 25 = .ok (.ifCond .ne 9, 3) := by decide +kernel
theorem dX7_costume_28 : decode cX7_costume 28 = .ok (.aload_n 0, 1) := by decide +kernel
theorem dX7_costume_29 : decode cX7_costume 29 = .ok (.iconst 2, 1) := by decide +kernel
theorem dX7_costume_30 : decode cX7_costume 30 = .ok (.invokevirtual 81, 3) := by decide +kernel
theorem dX7_costume_33 : decode cX7_costume 33 = .ok (.ireturn, 1) := by decide +kernel
theorem dX7_costume_34 : decode cX7_costume 34 = .ok (.aload_n 0, 1) := by decide +kernel
theorem dX7_costume_35 : decode cX7_costume 35 = .ok (.getfield 103, 3) := by decide +kernel
theorem dX7_costume_38 : decode cX7_costume 38 = .ok (.bipush 40, 2) := by decide +kernel
theorem dX7_costume_40 : decode cX7_costume 40 = .ok (.if_icmp .ne 9, 3) := by decide +kernel
theorem dX7_costume_43 : decode cX7_costume 43 = .ok (.aload_n 0, 1) := by decide +kernel
theorem dX7_costume_44 : decode cX7_costume 44 = .ok (.iconst 3, 1) := by decide +kernel
theorem dX7_costume_45 : decode cX7_costume 45 = .ok (.invokevirtual 81, 3) := by decide +kernel
theorem dX7_costume_48 : decode cX7_costume 48 = .ok (.ireturn, 1) := by decide +kernel
theorem dX7_costume_49 : decode cX7_costume 49 = .ok (.aload_n 0, 1) := by decide +kernel
theorem dX7_costume_50 : decode cX7_costume 50 = .ok (.getfield 26, 3) := by decide +kernel
theorem dX7_costume_53 : decode cX7_costume 53 = .ok (.aload_n 0, 1) := by decide +kernel
theorem dX7_costume_54 : decode cX7_costume 54 = .ok (.getfield 103, 3) := by decide +kernel
theorem dX7_costume_57 : decode cX7_costume 57 = .ok (.iload_n 1, 1) := by decide +kernel
theorem dX7_costume_58 : decode cX7_costume 58 = .ok (.iastore, 1) := by decide +kernel
theorem dX7_costume_59 : decode cX7_costume 59 = .ok (.aload_n 0, 1) := by decide +kernel
theorem dX7_costume_60 : decode cX7_costume 60 = .ok (.getfield 29, 3) := by decide +kernel
theorem dX7_costume_63 : decode cX7_costume 63 = .ok (.aload_n 0, 1) := by decide +kernel
theorem dX7_costume_64 : decode cX7_costume 64 = .ok (.getfield 103, 3) := by decide +kernel
theorem dX7_costume_67 : decode cX7_costume 67 = .ok (.iload_n 2, 1) := by decide +kernel
theorem dX7_costume_68 : decode cX7_costume 68 = .ok (.iastore, 1) := by decide +kernel
theorem dX7_costume_69 : decode cX7_costume 69 = .ok (.aload_n 0, 1) := by decide +kernel
theorem dX7_costume_70 : decode cX7_costume 70 = .ok (.dup, 1) := by decide +kernel
theorem dX7_costume_71 : decode cX7_costume 71 = .ok (.getfield 103, 3) := by decide +kernel
theorem dX7_costume_74 : decode cX7_costume 74 = .ok (.iconst 1, 1) := by decide +kernel
theorem dX7_costume_75 : decode cX7_costume 75 = .ok (.iadd, 1) := by decide +kernel
theorem dX7_costume_76 : decode cX7_costume 76 = .ok (.putfield 103, 3) := by decide +kernel
theorem dX7_costume_79 : decode cX7_costume 79 = .ok (.aload_n 0, 1) := by decide +kernel
theorem dX7_costume_80 : decode cX7_costume 80 = .ok (.getfield 103, 3) := by decide +kernel
theorem dX7_costume_83 : decode cX7_costume 83 = .ok (.iconst 1, 1) := by decide +kernel
theorem dX7_costume_84 : decode cX7_costume 84 = .ok (.isub, 1) := by decide +kernel
theorem dX7_costume_85 : decode cX7_costume 85 = .ok (.ireturn, 1) := by decide +kernel
theorem dX7_sizeOf_0 : decode cX7_sizeOf 0 = .ok (.aload_n 0, 1) := by decide +kernel
theorem dX7_sizeOf_1 : decode cX7_sizeOf 1 = .ok (.iconst 0, 1) := by decide +kernel
theorem dX7_sizeOf_2 : decode cX7_sizeOf 2 = .ok (.putfield 74, 3) := by decide +kernel
theorem dX7_sizeOf_5 : decode cX7_sizeOf 5 = .ok (.iload_n 1, 1) := by decide +kernel
theorem dX7_sizeOf_6 : decode cX7_sizeOf 6 = .ok (.iconst 0, 1) := by decide +kernel
theorem dX7_sizeOf_7 : decode cX7_sizeOf 7 = .ok (.aload_n 0, 1) := by decide +kernel
theorem dX7_sizeOf_8 : decode cX7_sizeOf 8 = .ok (.getfield 103, 3) := by decide +kernel
theorem dX7_sizeOf_11 : decode cX7_sizeOf 11 = .ok (.iconst 1, 1) := by decide +kernel
theorem dX7_sizeOf_12 : decode cX7_sizeOf 12 = .ok (.isub, 1) := by decide +kernel
theorem dX7_sizeOf_13 : decode cX7_sizeOf 13 = .ok (.invokestatic 77, 3) := by decide +kernel
theorem dX7_sizeOf_16 : decode cX7_sizeOf 16 = .ok (.ifCond .eq 12, 3) := by decide +kernel
theorem dX7_sizeOf_19 : decode cX7_sizeOf 19 = .ok (.aload_n 0, 1) := by decide +kernel
theorem dX7_sizeOf_20 : decode cX7_sizeOf 20 = .ok (.getfield 29, 3) := by decide +kernel
theorem dX7_sizeOf_23 : decode cX7_sizeOf 23 = .ok (.iload_n 1, 1) := by decide +kernel
theorem dX7_sizeOf_24 : decode cX7_sizeOf 24 = .ok (.iaload, 1) := by decide +kernel
theorem dX7_sizeOf_25 : decode cX7_sizeOf 25 = .ok (.goto 8, 3) := by decide +kernel
theorem dX7_sizeOf_28 : decode cX7_sizeOf 28 = .ok (.aload_n 0, 1) := by decide +kernel
theorem dX7_sizeOf_29 : decode cX7_sizeOf 29 = .ok (.iconst 1, 1) := by decide +kernel
theorem dX7_sizeOf_30 : decode cX7_sizeOf 30 = .ok (.invokevirtual 81, 3) := by decide +kernel
theorem dX7_sizeOf_33 : decode cX7_sizeOf 33 = .ok (.ireturn, 1) := by decide +kernel
theorem dX7_cold_0 : decode cX7_cold 0 = .ok (.aload_n 0, 1) := by decide +kernel
theorem dX7_cold_1 : decode cX7_cold 1 = .ok (.iconst 0, 1) := by decide +kernel
theorem dX7_cold_2 : decode cX7_cold 2 = .ok (.putfield 74, 3) := by decide +kernel
theorem dX7_cold_5 : decode cX7_cold 5 = .ok (.iload_n 1, 1) := by decide +kernel
theorem dX7_cold_6 : decode cX7_cold 6 = .ok (.invokestatic 85, 3) := by decide +kernel
theorem dX7_cold_9 : decode cX7_cold 9 = .ok (.ifCond .ne 9, 3) := by decide +kernel
theorem dX7_cold_12 : decode cX7_cold 12 = .ok (.aload_n 0, 1) := by decide +kernel
theorem dX7_cold_13 : decode cX7_cold 13 = .ok (.iconst 1, 1) := by decide +kernel
theorem dX7_cold_14 : decode cX7_cold 14 = .ok (.invokevirtual 81, 3) := by decide +kernel
theorem dX7_cold_17 : decode cX7_cold 17 = .ok (.ireturn, 1) := by decide +kernel
theorem dX7_cold_18 : decode cX7_cold 18 = .ok (.iload_n 2, 1) := by decide +kernel
theorem dX7_cold_19 : decode cX7_cold 19 = .ok (.aload_n 0, 1) := by decide +kernel
theorem dX7_cold_20 : decode cX7_cold 20 = .ok (.getfield 106, 3) := by decide +kernel
theorem dX7_cold_23 : decode cX7_cold 23 = .ok (.sipush 1000, 3) := by decide +kernel
theorem dX7_cold_26 : decode cX7_cold 26 = .ok (.invokestatic 77, 3) := by decide +kernel
theorem dX7_cold_29 : decode cX7_cold 29 = .ok (.ifCond .eq 14, 3) := by decide +kernel
theorem dX7_cold_32 : decode cX7_cold 32 = .ok (.iload_n 3, 1) := by decide +kernel
theorem dX7_cold_33 : decode cX7_cold 33 = .ok (.iload_n 2, 1) := by decide +kernel
theorem dX7_cold_34 : decode cX7_cold 34 = .ok (.sipush 1000, 3) := by decide +kernel
theorem dX7_cold_37 : decode cX7_cold 37 = .ok (.invokestatic 77, 3) := by decide +kernel
theorem dX7_cold_40 : decode cX7_cold 40 = .ok (.ifCond .ne 9, 3) := by decide +kernel
theorem dX7_cold_43 : decode cX7_cold 43 = .ok (.aload_n 0, 1) := by decide +kernel
theorem dX7_cold_44 : decode cX7_cold 44 = .ok (.iconst 2, 1) := by decide +kernel
theorem dX7_cold_45 : decode cX7_cold 45 = .ok (.invokevirtual 81, 3) := by decide +kernel
theorem dX7_cold_48 : decode cX7_cold 48 = .ok (.ireturn, 1) := by decide +kernel
theorem dX7_cold_49 : decode cX7_cold 49 = .ok (.iconst 0, 1) := by decide +kernel
theorem dX7_cold_50 : decode cX7_cold 50 = .ok (.istore 4, 2) := by decide +kernel
theorem dX7_cold_52 : decode cX7_cold 52 = .ok (.iload_n 2, 1) := by decide +kernel
theorem dX7_cold_53 : decode cX7_cold 53 = .ok (.istore 5, 2) := by decide +kernel
theorem dX7_cold_55 : decode cX7_cold 55 = .ok (.iload 5, 2) := by decide +kernel
theorem dX7_cold_57 : decode cX7_cold 57 = .ok (.iload_n 3, 1) := by decide +kernel
theorem dX7_cold_58 : decode cX7_cold 58 = .ok (.if_icmp .gt 43, 3) := by decide +kernel
theorem dX7_cold_61 : decode cX7_cold 61 = .ok (.iload 4, 2) := by decide +kernel
theorem dX7_cold_63 : decode cX7_cold 63 = .ok (.iconst 1, 1) := by decide +kernel
theorem dX7_cold_64 : decode cX7_cold 64 = .ok (.aload_n 0, 1) := by decide +kernel
theorem dX7_cold_65 : decode cX7_cold 65 = .ok (.getfield 35, 3) := by decide +kernel
theorem dX7_cold_68 : decode cX7_cold 68 = .ok (.sipush 1001, 3) := by decide +kernel
theorem dX7_cold_71 : decode cX7_cold 71 = .ok (.iload_n 1, 1) := by decide +kernel
theorem dX7_cold_72 : decode cX7_cold 72 = .ok (.imul, 1) := by decide +kernel
theorem dX7_cold_73 : decode cX7_cold 73 = .ok (.iload 5, 2) := by decide +kernel
theorem dX7_cold_75 : decode cX7_cold 75 = .ok (.iadd, 1) := by decide +kernel
theorem dX7_cold_76 : decode cX7_cold 76 = .ok (.iaload, 1) := by decide +kernel
theorem dX7_cold_77 : decode cX7_cold 77 = .ok (.isub, 1) := by decide +kernel
theorem dX7_cold_78 : decode cX7_cold 78 = .ok (.iadd, 1) := by decide +kernel
theorem dX7_cold_79 : decode cX7_cold 79 = .ok (.istore 4, 2) := by decide +kernel
theorem dX7_cold_81 : decode cX7_cold 81 = .ok (.aload_n 0, 1) := by decide +kernel
theorem dX7_cold_82 : decode cX7_cold 82 = .ok (.getfield 35, 3) := by decide +kernel
theorem dX7_cold_85 : decode cX7_cold 85 = .ok (.sipush 1001, 3) := by decide +kernel
theorem dX7_cold_88 : decode cX7_cold 88 = .ok (.iload_n 1, 1) := by decide +kernel
theorem dX7_cold_89 : decode cX7_cold 89 = .ok (.imul, 1) := by decide +kernel
theorem dX7_cold_90 : decode cX7_cold 90 = .ok (.iload 5, 2) := by decide +kernel
theorem dX7_cold_92 : decode cX7_cold 92 = .ok (.iadd, 1) := by decide +kernel
theorem dX7_cold_93 : decode cX7_cold 93 = .ok (.iconst 1, 1) := by decide +kernel
theorem dX7_cold_94 : decode cX7_cold 94 = .ok (.iastore, 1) := by decide +kernel
theorem dX7_cold_95 : decode cX7_cold 95 = .ok (.iinc 5 1, 3) := by decide +kernel
theorem dX7_cold_98 : decode cX7_cold 98 = .ok (.goto (-43), 3) := by decide +kernel
theorem dX7_cold_101 : decode cX7_cold 101 = .ok (.iload 4, 2) := by decide +kernel
theorem dX7_cold_103 : decode cX7_cold 103 = .ok (.ireturn, 1) := by decide +kernel
theorem dX7_isIll_0 : decode cX7_isIll 0 = .ok (.aload_n 0, 1) := by decide +kernel
theorem dX7_isIll_1 : decode cX7_isIll 1 = .ok (.iconst 0, 1) := by decide +kernel
theorem dX7_isIll_2 : decode cX7_isIll 2 = .ok (.putfield 74, 3) := by decide +kernel
theorem dX7_isIll_5 : decode cX7_isIll 5 = .ok (.iload_n 1, 1) := by decide +kernel
theorem dX7_isIll_6 : decode cX7_isIll 6 = .ok (.invokestatic 85, 3) := by decide +kernel
theorem dX7_isIll_9 : decode cX7_isIll 9 = .ok (.ifCond .ne 18, 3) := by decide +kernel
theorem dX7_isIll_12 : decode cX7_isIll 12 = .ok (.aload_n 0, 1) := by decide +kernel
theorem dX7_isIll_13 : decode cX7_isIll 13 = .ok (.iconst 1, 1) := by decide +kernel
theorem dX7_isIll_14 : decode cX7_isIll 14 = .ok (.invokevirtual 81, 3) := by decide +kernel
theorem dX7_isIll_17 : decode cX7_isIll 17 = .ok (.iconst 1, 1) := by decide +kernel
theorem dX7_isIll_18 : decode cX7_isIll 18 = .ok (.if_icmp .ne 7, 3) := by decide +kernel
theorem dX7_isIll_21 : decode cX7_isIll 21 = .ok (.iconst 1, 1) := by decide +kernel
theorem dX7_isIll_22 : decode cX7_isIll 22 = .ok (.goto 4, 3) := by decide +kernel
theorem dX7_isIll_25 : decode cX7_isIll 25 = .ok (.iconst 0, 1) := by decide +kernel
theorem dX7_isIll_26 : decode cX7_isIll 26 = .ok (.ireturn, 1) := by decide +kernel
theorem dX7_isIll_27 : decode cX7_isIll 27 = .ok (.iload_n 2, 1) := by decide +kernel
theorem dX7_isIll_28 : decode cX7_isIll 28 = .ok (.invokestatic 109, 3) := by decide +kernel
theorem dX7_isIll_31 : decode cX7_isIll 31 = .ok (.ifCond .ne 18, 3) := by decide +kernel
theorem dX7_isIll_34 : decode cX7_isIll 34 = .ok (.aload_n 0, 1) := by decide +kernel
theorem dX7_isIll_35 : decode cX7_isIll 35 = .ok (.iconst 2, 1) := by decide +kernel
theorem dX7_isIll_36 : decode cX7_isIll 36 = .ok (.invokevirtual 81, 3) := by decide +kernel
theorem dX7_isIll_39 : decode cX7_isIll 39 = .ok (.iconst 1, 1) := by decide +kernel
theorem dX7_isIll_40 : decode cX7_isIll 40 = .ok (.if_icmp .ne 7, 3) := by decide +kernel
theorem dX7_isIll_43 : decode cX7_isIll 43 = .ok (.iconst 1, 1) := by decide +kernel
theorem dX7_isIll_44 : decode cX7_isIll 44 = .ok (.goto 4, 3) := by decide +kernel
theorem dX7_isIll_47 : decode cX7_isIll 47 = .ok (.iconst 0, 1) := by decide +kernel
theorem dX7_isIll_48 : decode cX7_isIll 48 = .ok (.ireturn, 1) := by decide +kernel
theorem dX7_isIll_49 : decode cX7_isIll 49 = .ok (.aload_n 0, 1) := by decide +kernel
theorem dX7_isIll_50 : decode cX7_isIll 50 = .ok (.getfield 35, 3) := by decide +kernel
theorem dX7_isIll_53 : decode cX7_isIll 53 = .ok (.sipush 1001, 3) := by decide +kernel
theorem dX7_isIll_56 : decode cX7_isIll 56 = .ok (.iload_n 1, 1) := by decide +kernel
theorem dX7_isIll_57 : decode cX7_isIll 57 = .ok (.imul, 1) := by decide +kernel
theorem dX7_isIll_58 : decode cX7_isIll 58 = .ok (.iload_n 2, 1) := by decide +kernel
theorem dX7_isIll_59 : decode cX7_isIll 59 = .ok (.iadd, 1) := by decide +kernel
theorem dX7_isIll_60 : decode cX7_isIll 60 = .ok (.iaload, 1) := by decide +kernel
theorem dX7_isIll_61 : decode cX7_isIll 61 = .ok (.iconst 1, 1) := by decide +kernel
theorem dX7_isIll_62 : decode cX7_isIll 62 = .ok (.if_icmp .ne 7, 3) := by decide +kernel
theorem dX7_isIll_65 : decode cX7_isIll 65 = .ok (.iconst 1, 1) := by decide +kernel
theorem dX7_isIll_66 : decode cX7_isIll 66 = .ok (.goto 4, 3) := by decide +kernel
theorem dX7_isIll_69 : decode cX7_isIll 69 = .ok (.iconst 0, 1) := by decide +kernel
theorem dX7_isIll_70 : decode cX7_isIll 70 = .ok (.ireturn, 1) := by decide +kernel
theorem dX7_fits_0 : decode cX7_fits 0 = .ok (.iconst 0, 1) := by decide +kernel
theorem dX7_fits_1 : decode cX7_fits 1 = .ok (.istore_n 3, 1) := by decide +kernel
theorem dX7_fits_2 : decode cX7_fits 2 = .ok (.iconst 0, 1) := by decide +kernel
theorem dX7_fits_3 : decode cX7_fits 3 = .ok (.istore 4, 2) := by decide +kernel
theorem dX7_fits_5 : decode cX7_fits 5 = .ok (.iload 4, 2) := by decide +kernel
theorem dX7_fits_7 : decode cX7_fits 7 = .ok (.aload_n 0, 1) := by decide +kernel
theorem dX7_fits_8 : decode cX7_fits 8 = .ok (.getfield 103, 3) := by decide +kernel
theorem dX7_fits_11 : decode cX7_fits 11 = .ok (.if_icmp .ge 44, 3) := by decide +kernel
theorem dX7_fits_14 : decode cX7_fits 14 = .ok (.iload_n 3, 1) := by decide +kernel
theorem dX7_fits_15 : decode cX7_fits 15 = .ok (.aload_n 0, 1) := by decide +kernel
theorem dX7_fits_16 : decode cX7_fits 16 = .ok (.getfield 26, 3) := by decide +kernel
theorem dX7_fits_19 : decode cX7_fits 19 = .ok (.iload 4, 2) := by decide +kernel
theorem dX7_fits_21 : decode cX7_fits 21 = .ok (.iaload, 1) := by decide +kernel
theorem dX7_fits_22 : decode cX7_fits 22 = .ok (.iload_n 2, 1) := by decide +kernel
theorem dX7_fits_23 : decode cX7_fits 23 = .ok (.if_icmp .ne 23, 3) := by decide +kernel
theorem dX7_fits_26 : decode cX7_fits 26 = .ok (.aload_n 0, 1) := by decide +kernel
theorem dX7_fits_27 : decode cX7_fits 27 = .ok (.getfield 29, 3) := by decide +kernel
theorem dX7_fits_30 : decode cX7_fits 30 = .ok (.iload 4, 2) := by decide +kernel
theorem dX7_fits_32 : decode cX7_fits 32 = .ok (.iaload, 1) := by decide +kernel
theorem dX7_fits_33 : decode cX7_fits 33 = .ok (.aload_n 0, 1) := by decide +kernel
theorem dX7_fits_34 : decode cX7_fits 34 = .ok (.getfield 13, 3) := by decide +kernel
theorem dX7_fits_37 : decode cX7_fits 37 = .ok (.iload_n 1, 1) := by decide +kernel
theorem dX7_fits_38 : decode cX7_fits 38 = .ok (.iaload, 1) := by decide +kernel
theorem dX7_fits_39 : decode cX7_fits 39 = .ok (.if_icmp .ne 7, 3) := by decide +kernel
theorem dX7_fits_42 : decode cX7_fits 42 = .ok (.iconst 1, 1) := by decide +kernel
theorem dX7_fits_43 : decode cX7_fits 43 = .ok (.goto 4, 3) := by decide +kernel
theorem dX7_fits_46 : decode cX7_fits 46 = .ok (.iconst 0, 1) := by decide +kernel
theorem dX7_fits_47 : decode cX7_fits 47 = .ok (.ior, 1) := by decide +kernel
theorem dX7_fits_48 : decode cX7_fits 48 = .ok (.istore_n 3, 1) := by decide +kernel
theorem dX7_fits_49 : decode cX7_fits 49 = .ok (.iinc 4 1, 3) := by decide +kernel
theorem dX7_fits_52 : decode cX7_fits 52 = .ok (.goto (-47), 3) := by decide +kernel
theorem dX7_fits_55 : decode cX7_fits 55 = .ok (.iload_n 3, 1) := by decide +kernel
theorem dX7_fits_56 : decode cX7_fits 56 = .ok (.ireturn, 1) := by decide +kernel
theorem dX7_toLetOut_0 : decode cX7_toLetOut 0 = .ok (.iconst 0, 1) := by decide +kernel
theorem dX7_toLetOut_1 : decode cX7_toLetOut 1 = .ok (.istore_n 3, 1) := by decide +kernel
theorem dX7_toLetOut_2 : decode cX7_toLetOut 2 = .ok (.iload_n 3, 1) := by decide +kernel
theorem dX7_toLetOut_3 : decode cX7_toLetOut 3 = .ok (.aload_n 0, 1) := by decide +kernel
theorem dX7_toLetOut_4 : decode cX7_toLetOut 4 = .ok (.getfield 103, 3) := by decide +kernel
theorem dX7_toLetOut_7 : decode cX7_toLetOut 7 = .ok (.if_icmp .ge 46, 3) := by decide +kernel
theorem dX7_toLetOut_10 : decode cX7_toLetOut 10 = .ok (.aload_n 0, 1) := by decide +kernel
theorem dX7_toLetOut_11 : decode cX7_toLetOut 11 = .ok (.getfield 26, 3) := by decide +kernel
theorem dX7_toLetOut_14 : decode cX7_toLetOut 14 = .ok (.iload_n 3, 1) := by decide +kernel
theorem dX7_toLetOut_15 : decode cX7_toLetOut 15 = .ok (.iaload, 1) := by decide +kernel
theorem dX7_toLetOut_16 : decode cX7_toLetOut 16 = .ok (.iload_n 2, 1) := by decide +kernel
theorem dX7_toLetOut_17 : decode cX7_toLetOut 17 = .ok (.if_icmp .ne 30, 3) := by decide +kernel
theorem dX7_toLetOut_20 : decode cX7_toLetOut 20 = .ok (.aload_n 0, 1) := by decide +kernel
theorem dX7_toLetOut_21 : decode cX7_toLetOut 21 = .ok (.getfield 32, 3) := by decide +kernel
theorem dX7_toLetOut_24 : decode cX7_toLetOut 24 = .ok (.iload_n 3, 1) := by decide +kernel
theorem dX7_toLetOut_25 : decode cX7_toLetOut 25 = .ok (.iaload, 1) := by decide +kernel
theorem dX7_toLetOut_26 : decode cX7_toLetOut 26 = .ok (.iconst 1, 1) := by decide +kernel
theorem dX7_toLetOut_27 : decode cX7_toLetOut 27 = .ok (.if_icmp .eq 20, 3) := by decide +kernel
theorem dX7_toLetOut_30 : decode cX7_toLetOut 30 = .ok (.aload_n 0, 1) := by decide +kernel
theorem dX7_toLetOut_31 : decode cX7_toLetOut 31 = .ok (.getfield 29, 3) := by decide +kernel
theorem dX7_toLetOut_34 : decode cX7_toLetOut 34 = .ok (.iload_n 3, 1) := by decide +kernel
theorem dX7_toLetOut_35 : decode cX7_toLetOut 35 = .ok (.iaload, 1) := by decide +kernel
theorem dX7_toLetOut_36 : decode cX7_toLetOut 36 = .ok (.iconst 1, 1) := by decide +kernel
theorem dX7_toLetOut_37 : decode cX7_toLetOut 37 = .ok (.iadd, 1) := by decide +kernel
theorem dX7_toLetOut_38 : decode cX7_toLetOut 38 = .ok (.aload_n 0, 1) := by decide +kernel
theorem dX7_toLetOut_39 : decode cX7_toLetOut 39 = .ok (.getfield 13, 3) := by decide +kernel
theorem dX7_toLetOut_42 : decode cX7_toLetOut 42 = .ok (.iload_n 1, 1) := by decide +kernel
theorem dX7_toLetOut_43 : decode cX7_toLetOut 43 = .ok (.iaload, 1) := by decide +kernel
theorem dX7_toLetOut_44 : decode cX7_toLetOut 44 = .ok (.if_icmp .eq 9, 3) := by decide +kernel
theorem dX7_toLetOut_47 : decode cX7_toLetOut 47 = .ok (.iinc 3 1, 3) := by decide +kernel
theorem dX7_toLetOut_50 : decode cX7_toLetOut 50 = .ok (.goto (-48), 3) := by decide +kernel
theorem dX7_toLetOut_53 : decode cX7_toLetOut 53 = .ok (.iload_n 3, 1) := by decide +kernel
theorem dX7_toLetOut_54 : decode cX7_toLetOut 54 = .ok (.aload_n 0, 1) := by decide +kernel
theorem dX7_toLetOut_55 : decode cX7_toLetOut 55 = .ok (.getfield 103, 3) := by decide +kernel
theorem dX7_toLetOut_58 : decode cX7_toLetOut 58 = .ok (.if_icmp .ge 7, 3) := by decide +kernel
theorem dX7_toLetOut_61 : decode cX7_toLetOut 61 = .ok (.iload_n 3, 1) := by decide +kernel
theorem dX7_toLetOut_62 : decode cX7_toLetOut 62 = .ok (.goto 4, 3) := by decide +kernel
theorem dX7_toLetOut_65 : decode cX7_toLetOut 65 = .ok (.iconst (-1), 1) := by decide +kernel
theorem dX7_toLetOut_66 : decode cX7_toLetOut 66 = .ok (.ireturn, 1) := by decide +kernel
theorem dX7_can_0 : decode cX7_can 0 = .ok (.aload_n 0, 1) := by decide +kernel
theorem dX7_can_1 : decode cX7_can 1 = .ok (.iload_n 2, 1) := by decide +kernel
theorem dX7_can_2 : decode cX7_can 2 = .ok (.iload_n 1, 1) := by decide +kernel
theorem dX7_can_3 : decode cX7_can 3 = .ok (.invokevirtual 99, 3) := by decide +kernel
theorem dX7_can_6 : decode cX7_can 6 = .ok (.iconst (-1), 1) := by decide +kernel
theorem dX7_can_7 : decode cX7_can 7 = .ok (.if_icmp .eq 31, 3) := by decide +kernel
theorem dX7_can_10 : decode cX7_can 10 = .ok (.aload_n 0, 1) := by decide +kernel
theorem dX7_can_11 : decode cX7_can 11 = .ok (.iload_n 1, 1) := by decide +kernel
theorem dX7_can_12 : decode cX7_can 12 = .ok (.iload_n 2, 1) := by decide +kernel
theorem dX7_can_13 : decode cX7_can 13 = .ok (.invokevirtual 92, 3) := by decide +kernel
theorem dX7_can_16 : decode cX7_can 16 = .ok (.ifCond .eq 22, 3) := by decide +kernel
theorem dX7_can_19 : decode cX7_can 19 = .ok (.aload_n 0, 1) := by decide +kernel
theorem dX7_can_20 : decode cX7_can 20 = .ok (.getfield 35, 3) := by decide +kernel
theorem dX7_can_23 : decode cX7_can 23 = .ok (.sipush 1001, 3) := by decide +kernel
theorem dX7_can_26 : decode cX7_can 26 = .ok (.iload_n 1, 1) := by decide +kernel
theorem dX7_can_27 : decode cX7_can 27 = .ok (.imul, 1) := by decide +kernel
theorem dX7_can_28 : decode cX7_can 28 = .ok (.iload_n 3, 1) := by decide +kernel
theorem dX7_can_29 : decode cX7_can 29 = .ok (.iadd, 1) := by decide +kernel
theorem dX7_can_30 : decode cX7_can 30 = .ok (.iaload, 1) := by decide +kernel
theorem dX7_can_31 : decode cX7_can 31 = .ok (.ifCond .ne 7, 3) := by decide +kernel
theorem dX7_can_34 : decode cX7_can 34 = .ok (.iconst 1, 1) := by decide +kernel
theorem dX7_can_35 : decode cX7_can 35 = .ok (.goto 4, 3) := by decide +kernel
theorem dX7_can_38 : decode cX7_can 38 = .ok (.iconst 0, 1) := by decide +kernel
theorem dX7_can_39 : decode cX7_can 39 = .ok (.istore 4, 2) := by decide +kernel
theorem dX7_can_41 : decode cX7_can 41 = .ok (.iload 4, 2) := by decide +kernel
theorem dX7_can_43 : decode cX7_can 43 = .ok (.ifCond .eq 26, 3) := by decide +kernel
theorem dX7_can_46 : decode cX7_can 46 = .ok (.aload_n 0, 1) := by decide +kernel
theorem dX7_can_47 : decode cX7_can 47 = .ok (.iload_n 1, 1) := by decide +kernel
theorem dX7_can_48 : decode cX7_can 48 = .ok (.iload_n 2, 1) := by decide +kernel
theorem dX7_can_49 : decode cX7_can 49 = .ok (.invokevirtual 112, 3) := by decide +kernel
theorem dX7_can_52 : decode cX7_can 52 = .ok (.ifCond .ne 13, 3) := by decide +kernel
theorem dX7_can_55 : decode cX7_can 55 = .ok (.aload_n 0, 1) := by decide +kernel
theorem dX7_can_56 : decode cX7_can 56 = .ok (.iload_n 1, 1) := by decide +kernel
theorem dX7_can_57 : decode cX7_can 57 = .ok (.iload_n 2, 1) := by decide +kernel
theorem dX7_can_58 : decode cX7_can 58 = .ok (.invokevirtual 115, 3) := by decide +kernel
theorem dX7_can_61 : decode cX7_can 61 = .ok (.iconst (-1), 1) := by decide +kernel
theorem dX7_can_62 : decode cX7_can 62 = .ok (.if_icmp .eq 7, 3) := by decide +kernel
theorem dX7_can_65 : decode cX7_can 65 = .ok (.iconst 1, 1) := by decide +kernel
theorem dX7_can_66 : decode cX7_can 66 = .ok (.goto 4, 3) := by decide +kernel
theorem dX7_can_69 : decode cX7_can 69 = .ok (.iconst 0, 1) := by decide +kernel
theorem dX7_can_70 : decode cX7_can 70 = .ok (.ireturn, 1) := by decide +kernel
theorem dX7_canPlay_0 : decode cX7_canPlay 0 = .ok (.aload_n 0, 1) := by decide +kernel
theorem dX7_canPlay_1 : decode cX7_canPlay 1 = .ok (.iconst 0, 1) := by decide +kernel
theorem dX7_canPlay_2 : decode cX7_canPlay 2 = .ok (.putfield 74, 3) := by decide +kernel
theorem dX7_canPlay_5 : decode cX7_canPlay 5 = .ok (.iload_n 1, 1) := by decide +kernel
theorem dX7_canPlay_6 : decode cX7_canPlay 6 = .ok (.invokestatic 85, 3) := by decide +kernel
theorem dX7_canPlay_9 : decode cX7_canPlay 9 = .ok (.ifCond .eq 10, 3) := by decide +kernel
theorem dX7_canPlay_12 : decode cX7_canPlay 12 = .ok (.iload_n 2, 1) := by decide +kernel
theorem dX7_canPlay_13 : decode cX7_canPlay 13 = .ok (.invokestatic 89, 3) := by decide +kernel
theorem dX7_canPlay_16 : decode cX7_canPlay 16 = .ok (.ifCond .ne 18, 3) := by decide +kernel
theorem dX7_canPlay_19 : decode cX7_canPlay 19 = .ok (.aload_n 0, 1) := by decide +kernel
theorem dX7_canPlay_20 : decode cX7_canPlay 20 = .ok (.iconst 1, 1) := by decide +kernel
theorem dX7_canPlay_21 : decode cX7_canPlay 21 = .ok (.invokevirtual 81, 3) := by decide +kernel
theorem dX7_canPlay_24 : decode cX7_canPlay 24 = .ok (.iconst 1, 1) := by decide +kernel
theorem dX7_canPlay_25 : decode cX7_canPlay 25 = .ok (.if_icmp .ne 7, 3) := by decide +kernel
theorem dX7_canPlay_28 : decode cX7_canPlay 28 = .ok (.iconst 1, 1) := by decide +kernel
theorem dX7_canPlay_29 : decode cX7_canPlay 29 = .ok (.goto 4, 3) := by decide +kernel
theorem dX7_canPlay_32 : decode cX7_canPlay 32 = .ok (.iconst 0, 1) := by decide +kernel
theorem dX7_canPlay_33 : decode cX7_canPlay 33 = .ok (.ireturn, 1) := by decide +kernel
theorem dX7_canPlay_34 : decode cX7_canPlay 34 = .ok (.iload_n 3, 1) := by decide +kernel
theorem dX7_canPlay_35 : decode cX7_canPlay 35 = .ok (.invokestatic 109, 3) := by decide +kernel
theorem dX7_canPlay_38 : decode cX7_canPlay 38 = .ok (.ifCond .ne 18, 3) := by decide +kernel
theorem dX7_canPlay_41 : decode cX7_canPlay 41 = .ok (.aload_n 0, 1) := by decide +kernel
theorem dX7_canPlay_42 : decode cX7_canPlay 42 = .ok (.iconst 2, 1) := by decide +kernel
theorem dX7_canPlay_43 : decode cX7_canPlay 43 = .ok (.invokevirtual 81, 3) := by decide +kernel
theorem dX7_canPlay_46 : decode cX7_canPlay 46 = .ok (.iconst 1, 1) := by decide +kernel
theorem dX7_canPlay_47 : decode cX7_canPlay 47 = .ok (.if_icmp .ne 7, 3) := by decide +kernel
theorem dX7_canPlay_50 : decode cX7_canPlay 50 = .ok (.iconst 1, 1) := by decide +kernel
theorem dX7_canPlay_51 : decode cX7_canPlay 51 = .ok (.goto 4, 3) := by decide +kernel
theorem dX7_canPlay_54 : decode cX7_canPlay 54 = .ok (.iconst 0, 1) := by decide +kernel
theorem dX7_canPlay_55 : decode cX7_canPlay 55 = .ok (.ireturn, 1) := by decide +kernel
theorem dX7_canPlay_56 : decode cX7_canPlay 56 = .ok (.aload_n 0, 1) := by decide +kernel
theorem dX7_canPlay_57 : decode cX7_canPlay 57 = .ok (.iload_n 1, 1) := by decide +kernel
theorem dX7_canPlay_58 : decode cX7_canPlay 58 = .ok (.iload_n 2, 1) := by decide +kernel
theorem dX7_canPlay_59 : decode cX7_canPlay 59 = .ok (.iload_n 3, 1) := by decide +kernel
theorem dX7_canPlay_60 : decode cX7_canPlay 60 = .ok (.invokevirtual 118, 3) := by decide +kernel
theorem dX7_canPlay_63 : decode cX7_canPlay 63 = .ok (.ireturn, 1) := by decide +kernel
theorem dX7_layAble_0 : decode cX7_layAble 0 = .ok (.iconst 0, 1) := by decide +kernel
theorem dX7_layAble_1 : decode cX7_layAble 1 = .ok (.istore_n 3, 1) := by decide +kernel
theorem dX7_layAble_2 : decode cX7_layAble 2 = .ok (.iload_n 3, 1) := by decide +kernel
theorem dX7_layAble_3 : decode cX7_layAble 3 = .ok (.iconst 4, 1) := by decide +kernel
theorem dX7_layAble_4 : decode cX7_layAble 4 = .ok (.aload_n 0, 1) := by decide +kernel
theorem dX7_layAble_5 : decode cX7_layAble 5 = .ok (.getfield 7, 3) := by decide +kernel
theorem dX7_layAble_8 : decode cX7_layAble 8 = .ok (.imul, 1) := by decide +kernel
theorem dX7_layAble_9 : decode cX7_layAble 9 = .ok (.if_icmp .ge 95, 3) := by decide +kernel
theorem dX7_layAble_12 : decode cX7_layAble 12 = .ok (.iload_n 3, 1) := by decide +kernel
theorem dX7_layAble_13 : decode cX7_layAble 13 = .ok (.iconst 4, 1) := by decide +kernel
theorem dX7_layAble_14 : decode cX7_layAble 14 = .ok (.idiv, 1) := by decide +kernel
theorem dX7_layAble_15 : decode cX7_layAble 15 = .ok (.istore 4, 2) := by decide +kernel
theorem dX7_layAble_17 : decode cX7_layAble 17 = .ok (.iload_n 3, 1) := by decide +kernel
theorem dX7_layAble_18 : decode cX7_layAble 18 = .ok (.iconst 4, 1) := by decide +kernel
theorem dX7_layAble_19 : decode cX7_layAble 19 = .ok (.irem, 1) := by decide +kernel
theorem dX7_layAble_20 : decode cX7_layAble 20 = .ok (.aload_n 0, 1) := by decide +kernel
theorem dX7_layAble_21 : decode cX7_layAble 21 = .ok (.getfield 23, 3) := by decide +kernel
theorem dX7_layAble_24 : decode cX7_layAble 24 = .ok (.iload 4, 2) := by decide +kernel
theorem dX7_layAble_26 : decode cX7_layAble 26 = .ok (.iaload, 1) := by decide +kernel
theorem dX7_layAble_27 : decode cX7_layAble 27 = .ok (.if_icmp .ge 33, 3) := by decide +kernel
theorem dX7_layAble_30 : decode cX7_layAble 30 = .ok (.aload_n 0, 1) := by decide +kernel
theorem dX7_layAble_31 : decode cX7_layAble 31 = .ok (.getfield 20, 3) := by decide +kernel
theorem dX7_layAble_34 : decode cX7_layAble 34 = .ok (.iload_n 3, 1) := by decide +kernel
theorem dX7_layAble_35 : decode cX7_layAble 35 = .ok (.iaload, 1) := by decide +kernel
theorem dX7_layAble_36 : decode cX7_layAble 36 = .ok (.iload_n 2, 1) := by decide +kernel
theorem dX7_layAble_37 : decode cX7_layAble 37 = .ok (.if_icmp .eq 23, 3) := by decide +kernel
theorem dX7_layAble_40 : decode cX7_layAble 40 = .ok (.aload_n 0, 1) := by decide +kernel
theorem dX7_layAble_41 : decode cX7_layAble 41 = .ok (.aload_n 0, 1) := by decide +kernel
theorem dX7_layAble_42 : decode cX7_layAble 42 = .ok (.getfield 20, 3) := by decide +kernel
theorem dX7_layAble_45 : decode cX7_layAble 45 = .ok (.iload_n 3, 1) := by decide +kernel
theorem dX7_layAble_46 : decode cX7_layAble 46 = .ok (.iaload, 1) := by decide +kernel
theorem dX7_layAble_47 : decode cX7_layAble 47 = .ok (.iload 4, 2) := by decide +kernel
theorem dX7_layAble_49 : decode cX7_layAble 49 = .ok (.iload_n 1, 1) := by decide +kernel
theorem dX7_layAble_50 : decode cX7_layAble 50 = .ok (.invokevirtual 118, 3) := by decide +kernel
theorem dX7_layAble_53 : decode cX7_layAble 53 = .ok (.ifCond .eq 7, 3) := by decide +kernel
theorem dX7_layAble_56 : decode cX7_layAble 56 = .ok (.iconst 1, 1) := by decide +kernel
theorem dX7_layAble_57 : decode cX7_layAble 57 = .ok (.goto 4, 3) := by decide +kernel
theorem dX7_layAble_60 : decode cX7_layAble 60 = .ok (.iconst 0, 1) := by decide +kernel
theorem dX7_layAble_61 : decode cX7_layAble 61 = .ok (.istore 5, 2) := by decide +kernel
theorem dX7_layAble_63 : decode cX7_layAble 63 = .ok (.aload_n 0, 1) := by decide +kernel
theorem dX7_layAble_64 : decode cX7_layAble 64 = .ok (.getfield 65, 3) := by decide +kernel
theorem dX7_layAble_67 : decode cX7_layAble 67 = .ok (.iload_n 3, 1) := by decide +kernel
theorem dX7_layAble_68 : decode cX7_layAble 68 = .ok (.iload 5, 2) := by decide +kernel
theorem dX7_layAble_70 : decode cX7_layAble 70 = .ok (.ifCond .ne 7, 3) := by decide +kernel
theorem dX7_layAble_73 : decode cX7_layAble 73 = .ok (.iconst 0, 1) := by decide +kernel
theorem dX7_layAble_74 : decode cX7_layAble 74 = .ok (.goto 23, 3) := by decide +kernel
theorem dX7_layAble_77 : decode cX7_layAble 77 = .ok (.aload_n 0, 1) := by decide +kernel
theorem dX7_layAble_78 : decode cX7_layAble 78 = .ok (.aload_n 0, 1) := by decide +kernel
theorem dX7_layAble_79 : decode cX7_layAble 79 = .ok (.getfield 20, 3) := by decide +kernel
theorem dX7_layAble_82 : decode cX7_layAble 82 = .ok (.iload_n 3, 1) := by decide +kernel
theorem dX7_layAble_83 : decode cX7_layAble 83 = .ok (.iaload, 1) := by decide +kernel
theorem dX7_layAble_84 : decode cX7_layAble 84 = .ok (.iload 4, 2) := by decide +kernel
theorem dX7_layAble_86 : decode cX7_layAble 86 = .ok (.invokevirtual 112, 3) := by decide +kernel
theorem dX7_layAble_89 : decode cX7_layAble 89 = .ok (.ifCond .eq 7, 3) := by decide +kernel
theorem dX7_layAble_92 : decode cX7_layAble 92 = .ok (.iconst 1, 1) := by decide +kernel
theorem dX7_layAble_93 : decode cX7_layAble 93 = .ok (.goto 4, 3) := by decide +kernel
theorem dX7_layAble_96 : decode cX7_layAble 96 = .ok (.iconst 2, 1) := by decide +kernel
theorem dX7_layAble_97 : decode cX7_layAble 97 = .ok (.iastore, 1) := by decide +kernel
theorem dX7_layAble_98 : decode cX7_layAble 98 = .ok (.iinc 3 1, 3) := by decide +kernel
theorem dX7_layAble_101 : decode cX7_layAble 101 = .ok (.goto (-99), 3) := by decide +kernel
theorem dX7_layAble_104 : decode cX7_layAble 104 = .ok (.return_, 1) := by decide +kernel
theorem dX7_firstBad_0 : decode cX7_firstBad 0 = .ok (.iconst 0, 1) := by decide +kernel
theorem dX7_firstBad_1 : decode cX7_firstBad 1 = .ok (.istore_n 2, 1) := by decide +kernel
theorem dX7_firstBad_2 : decode cX7_firstBad 2 = .ok (.iconst 0, 1) := by decide +kernel
theorem dX7_firstBad_3 : decode cX7_firstBad 3 = .ok (.istore_n 3, 1) := by decide +kernel
theorem dX7_firstBad_4 : decode cX7_firstBad 4 = .ok (.iload_n 3, 1) := by decide +kernel
theorem dX7_firstBad_5 : decode cX7_firstBad 5 = .ok (.aload_n 0, 1) := by decide +kernel
theorem dX7_firstBad_6 : decode cX7_firstBad 6 = .ok (.getfield 7, 3) := by decide +kernel
theorem dX7_firstBad_9 : decode cX7_firstBad 9 = .ok (.if_icmp .ge 68, 3) := by decide +kernel
theorem dX7_firstBad_12 : decode cX7_firstBad 12 = .ok (.iconst 4, 1) := by decide +kernel
theorem dX7_firstBad_13 : decode cX7_firstBad 13 = .ok (.iload_n 3, 1) := by decide +kernel
theorem dX7_firstBad_14 : decode cX7_firstBad 14 = .ok (.imul, 1) := by decide +kernel
theorem dX7_firstBad_15 : decode cX7_firstBad 15 = .ok (.iload_n 1, 1) := by decide +kernel
theorem dX7_firstBad_16 : decode cX7_firstBad 16 = .ok (.iconst 2, 1) := by decide +kernel
theorem dX7_firstBad_17 : decode cX7_firstBad 17 = .ok (.aload_n 0, 1) := by decide +kernel
theorem dX7_firstBad_18 : decode cX7_firstBad 18 = .ok (.getfield 7, 3) := by decide +kernel
theorem dX7_firstBad_21 : decode cX7_firstBad 21 = .ok (.iconst 1, 1) := by decide +kernel
theorem dX7_firstBad_22 : decode cX7_firstBad 22 = .ok (.isub, 1) := by decide +kernel
theorem dX7_firstBad_23 : decode cX7_firstBad 23 = .ok (.iload_n 3, 1) := by decide +kernel
theorem dX7_firstBad_24 : decode cX7_firstBad 24 = .ok (.isub, 1) := by decide +kernel
theorem dX7_firstBad_25 : decode cX7_firstBad 25 = .ok (.imul, 1) := by decide +kernel
theorem dX7_firstBad_26 : decode cX7_firstBad 26 = .ok (.ishr, 1) := by decide +kernel
theorem dX7_firstBad_27 : decode cX7_firstBad 27 = .ok (.iconst 3, 1) := by decide +kernel
theorem dX7_firstBad_28 : decode cX7_firstBad 28 = .ok (.iand, 1) := by decide +kernel
theorem dX7_firstBad_29 : decode cX7_firstBad 29 = .ok (.iadd, 1) := by decide +kernel
theorem dX7_firstBad_30 : decode cX7_firstBad 30 = .ok (.istore 4, 2) := by decide +kernel
theorem dX7_firstBad_32 : decode cX7_firstBad 32 = .ok (.aload_n 0, 1) := by decide +kernel
theorem dX7_firstBad_33 : decode cX7_firstBad 33 = .ok (.getfield 65, 3) := by decide +kernel
theorem dX7_firstBad_36 : decode cX7_firstBad 36 = .ok (.iload 4, 2) := by decide +kernel
theorem dX7_firstBad_38 : decode cX7_firstBad 38 = .ok (.iaload, 1) := by decide +kernel
theorem dX7_firstBad_39 : decode cX7_firstBad 39 = .ok (.ifCond .eq 18, 3) := by decide +kernel
theorem dX7_firstBad_42 : decode cX7_firstBad 42 = .ok (.iload_n 2, 1) := by decide +kernel
theorem dX7_firstBad_43 : decode cX7_firstBad 43 = .ok (.aload_n 0, 1) := by decide +kernel
theorem dX7_firstBad_44 : decode cX7_firstBad 44 = .ok (.getfield 20, 3) := by decide +kernel
theorem dX7_firstBad_47 : decode cX7_firstBad 47 = .ok (.iload 4, 2) := by decide +kernel
theorem dX7_firstBad_49 : decode cX7_firstBad 49 = .ok (.iaload, 1) := by decide +kernel
theorem dX7_firstBad_50 : decode cX7_firstBad 50 = .ok (.ishr, 1) := by decide +kernel
theorem dX7_firstBad_51 : decode cX7_firstBad 51 = .ok (.iconst 1, 1) := by decide +kernel
theorem dX7_firstBad_52 : decode cX7_firstBad 52 = .ok (.iand, 1) := by decide +kernel
theorem dX7_firstBad_53 : decode cX7_firstBad 53 = .ok (.iconst 1, 1) := by decide +kernel
theorem dX7_firstBad_54 : decode cX7_firstBad 54 = .ok (.if_icmp .ne 5, 3) := by decide +kernel
theorem dX7_firstBad_57 : decode cX7_firstBad 57 = .ok (.iload_n 3, 1) := by decide +kernel
theorem dX7_firstBad_58 : decode cX7_firstBad 58 = .ok (.ireturn, 1) := by decide +kernel
theorem dX7_firstBad_59 : decode cX7_firstBad 59 = .ok (.iload_n 2, 1) := by decide +kernel
theorem dX7_firstBad_60 : decode cX7_firstBad 60 = .ok (.iconst 1, 1) := by decide +kernel
theorem dX7_firstBad_61 : decode cX7_firstBad 61 = .ok (.aload_n 0, 1) := by decide +kernel
theorem dX7_firstBad_62 : decode cX7_firstBad 62 = .ok (.getfield 20, 3) := by decide +kernel
theorem dX7_firstBad_65 : decode cX7_firstBad 65 = .ok (.iload 4, 2) := by decide +kernel
theorem dX7_firstBad_67 : decode cX7_firstBad 67 = .ok (.iaload, 1) := by decide +kernel
theorem dX7_firstBad_68 : decode cX7_firstBad 68 = .ok (.ishl, 1) := by decide +kernel
theorem dX7_firstBad_69 : decode cX7_firstBad 69 = .ok (.ior, 1) := by decide +kernel
theorem dX7_firstBad_70 : decode cX7_firstBad 70 = .ok (.istore_n 2, 1) := by decide +kernel
theorem dX7_firstBad_71 : decode cX7_firstBad 71 = .ok (.iinc 3 1, 3) := by decide +kernel
theorem dX7_firstBad_74 : decode cX7_firstBad 74 = .ok (.goto (-70), 3) := by decide +kernel
theorem dX7_firstBad_77 : decode cX7_firstBad 77 = .ok (.iconst (-1), 1) := by decide +kernel
theorem dX7_firstBad_78 : decode cX7_firstBad 78 = .ok (.ireturn, 1) := by decide +kernel
theorem dX7_keep_0 : decode cX7_keep 0 = .ok (.iconst 0, 1) := by decide +kernel
theorem dX7_keep_1 : decode cX7_keep 1 = .ok (.istore_n 2, 1) := by decide +kernel
theorem dX7_keep_2 : decode cX7_keep 2 = .ok (.iconst 0, 1) := by decide +kernel
theorem dX7_keep_3 : decode cX7_keep 3 = .ok (.istore_n 3, 1) := by decide +kernel
theorem dX7_keep_4 : decode cX7_keep 4 = .ok (.iconst 0, 1) := by decide +kernel
theorem dX7_keep_5 : decode cX7_keep 5 = .ok (.istore 4, 2) := by decide +kernel
theorem dX7_keep_7 : decode cX7_keep 7 = .ok (.iload 4, 2) := by decide +kernel
theorem dX7_keep_9 : decode cX7_keep 9 = .ok (.aload_n 0, 1) := by decide +kernel
theorem dX7_keep_10 : decode cX7_keep 10 = .ok (.getfield 7, 3) := by decide +kernel
theorem dX7_keep_13 : decode cX7_keep 13 = .ok (.if_icmp .ge 48, 3) := by decide +kernel
theorem dX7_keep_16 : decode cX7_keep 16 = .ok (.iload_n 1, 1) := by decide +kernel
theorem dX7_keep_17 : decode cX7_keep 17 = .ok (.iconst 2, 1) := by decide +kernel
theorem dX7_keep_18 : decode cX7_keep 18 = .ok (.aload_n 0, 1) := by decide +kernel
theorem dX7_keep_19 : decode cX7_keep 19 = .ok (.getfield 7, 3) := by decide +kernel
theorem dX7_keep_22 : decode cX7_keep 22 = .ok (.iconst 1, 1) := by decide +kernel
theorem dX7_keep_23 : decode cX7_keep 23 = .ok (.isub, 1) := by decide +kernel
theorem dX7_keep_24 : decode cX7_keep 24 = .ok (.iload 4, 2) := by decide +kernel
theorem dX7_keep_26 : decode cX7_keep 26 = .ok (.isub, 1) := by decide +kernel
theorem dX7_keep_27 : decode cX7_keep 27 = .ok (.imul, 1) := by decide +kernel
theorem dX7_keep_28 : decode cX7_keep 28 = .ok (.ishr, 1) := by decide +kernel
theorem dX7_keep_29 : decode cX7_keep 29 = .ok (.iconst 3, 1) := by decide +kernel
theorem dX7_keep_30 : decode cX7_keep 30 = .ok (.iand, 1) := by decide +kernel
theorem dX7_keep_31 : decode cX7_keep 31 = .ok (.istore 5, 2) := by decide +kernel
theorem dX7_keep_33 : decode cX7_keep 33 = .ok (.iload_n 2, 1) := by decide +kernel
theorem dX7_keep_34 : decode cX7_keep 34 = .ok (.iload 5, 2) := by decide +kernel
theorem dX7_keep_36 : decode cX7_keep 36 = .ok (.iadd, 1) := by decide +kernel
theorem dX7_keep_37 : decode cX7_keep 37 = .ok (.istore_n 2, 1) := by decide +kernel
theorem dX7_keep_38 : decode cX7_keep 38 = .ok (.iload_n 3, 1) := by decide +kernel
theorem dX7_keep_39 : decode cX7_keep 39 = .ok (.aload_n 0, 1) := by decide +kernel
theorem dX7_keep_40 : decode cX7_keep 40 = .ok (.getfield 65, 3) := by decide +kernel
theorem dX7_keep_43 : decode cX7_keep 43 = .ok (.iconst 4, 1) := by decide +kernel
theorem dX7_keep_44 : decode cX7_keep 44 = .ok (.iload 4, 2) := by decide +kernel
theorem dX7_keep_46 : decode cX7_keep 46 = .ok (.imul, 1) := by decide +kernel
theorem dX7_keep_47 : decode cX7_keep 47 = .ok (.iload 5, 2) := by decide +kernel
theorem dX7_keep_49 : decode cX7_keep 49 = .ok (.iadd, 1) := by decide +kernel
theorem dX7_keep_50 : decode cX7_keep 50 = .ok (.iaload, 1) := by decide +kernel
theorem dX7_keep_51 : decode cX7_keep 51 = .ok (.iconst 1, 1) := by decide +kernel
theorem dX7_keep_52 : decode cX7_keep 52 = .ok (.isub, 1) := by decide +kernel
theorem dX7_keep_53 : decode cX7_keep 53 = .ok (.iadd, 1) := by decide +kernel
theorem dX7_keep_54 : decode cX7_keep 54 = .ok (.istore_n 3, 1) := by decide +kernel
theorem dX7_keep_55 : decode cX7_keep 55 = .ok (.iinc 4 1, 3) := by decide +kernel
theorem dX7_keep_58 : decode cX7_keep 58 = .ok (.goto (-51), 3) := by decide +kernel
theorem dX7_keep_61 : decode cX7_keep 61 = .ok (.aload_n 0, 1) := by decide +kernel
theorem dX7_keep_62 : decode cX7_keep 62 = .ok (.getfield 121, 3) := by decide +kernel
theorem dX7_keep_65 : decode cX7_keep 65 = .ok (.iconst (-1), 1) := by decide +kernel
theorem dX7_keep_66 : decode cX7_keep 66 = .ok (.if_icmp .eq 27, 3) := by decide +kernel
theorem dX7_keep_69 : decode cX7_keep 69 = .ok (.iload_n 2, 1) := by decide +kernel
theorem dX7_keep_70 : decode cX7_keep 70 = .ok (.aload_n 0, 1) := by decide +kernel
theorem dX7_keep_71 : decode cX7_keep 71 = .ok (.getfield 121, 3) := by decide +kernel
theorem dX7_keep_74 : decode cX7_keep 74 = .ok (.if_icmp .lt 19, 3) := by decide +kernel
theorem dX7_keep_77 : decode cX7_keep 77 = .ok (.iload_n 2, 1) := by decide +kernel
theorem dX7_keep_78 : decode cX7_keep 78 = .ok (.aload_n 0, 1) := by decide +kernel
theorem dX7_keep_79 : decode cX7_keep 79 = .ok (.getfield 121, 3) := by decide +kernel
theorem dX7_keep_82 : decode cX7_keep 82 = .ok (.if_icmp .ne 15, 3) := by decide +kernel
theorem dX7_keep_85 : decode cX7_keep 85 = .ok (.iload_n 3, 1) := by decide +kernel
theorem dX7_keep_86 : decode cX7_keep 86 = .ok (.aload_n 0, 1) := by decide +kernel
theorem dX7_keep_87 : decode cX7_keep 87 = .ok (.getfield 124, 3) := by decide +kernel
theorem dX7_keep_90 : decode cX7_keep 90 = .ok (.if_icmp .ge 7, 3) := by decide +kernel
theorem dX7_keep_93 : decode cX7_keep 93 = .ok (.iconst 1, 1) := by decide +kernel
theorem dX7_keep_94 : decode cX7_keep 94 = .ok (.goto 4, 3) := by decide +kernel
theorem dX7_keep_97 : decode cX7_keep 97 = .ok (.iconst 0, 1) := by decide +kernel
theorem dX7_keep_98 : decode cX7_keep 98 = .ok (.istore 4, 2) := by decide +kernel
theorem dX7_keep_100 : decode cX7_keep 100 = .ok (.iload 4, 2) := by decide +kernel
theorem dX7_keep_102 : decode cX7_keep 102 = .ok (.ifCond .eq 63, 3) := by decide +kernel
theorem dX7_keep_105 : decode cX7_keep 105 = .ok (.aload_n 0, 1) := by decide +kernel
theorem dX7_keep_106 : decode cX7_keep 106 = .ok (.iload_n 2, 1) := by decide +kernel
theorem dX7_keep_107 : decode cX7_keep 107 = .ok (.putfield 121, 3) := by decide +kernel
theorem dX7_keep_110 : decode cX7_keep 110 = .ok (.aload_n 0, 1) := by decide +kernel
theorem dX7_keep_111 : decode cX7_keep 111 = .ok (.iload_n 3, 1) := by decide +kernel
theorem dX7_keep_112 : decode cX7_keep 112 = .ok (.putfield 124, 3) := by decide +kernel
theorem dX7_keep_115 : decode cX7_keep 115 = .ok (.iconst 0, 1) := by decide +kernel
theorem dX7_keep_116 : decode cX7_keep 116 = .ok (.istore 5, 2) := by decide +kernel
theorem dX7_keep_118 : decode cX7_keep 118 = .ok (.iload 5, 2) := by decide +kernel
theorem dX7_keep_120 : decode cX7_keep 120 = .ok (.aload_n 0, 1) := by decide +kernel
theorem dX7_keep_121 : decode cX7_keep 121 = .ok (.getfield 7, 3) := by decide +kernel
theorem dX7_keep_124 : decode cX7_keep 124 = .ok (.if_icmp .ge 41, 3) := by decide +kernel
theorem dX7_keep_127 : decode cX7_keep 127 = .ok (.aload_n 0, 1) := by decide +kernel
theorem dX7_keep_128 : decode cX7_keep 128 = .ok (.getfield 68, 3) := by decide +kernel
theorem dX7_keep_131 : decode cX7_keep 131 = .ok (.iload 5, 2) := by decide +kernel
theorem dX7_keep_133 : decode cX7_keep 133 = .ok (.aload_n 0, 1) := by decide +kernel
theorem dX7_keep_134 : decode cX7_keep 134 = .ok (.getfield 20, 3) := by decide +kernel
theorem dX7_keep_137 : decode cX7_keep 137 = .ok (.iconst 4, 1) := by decide +kernel
theorem dX7_keep_138 : decode cX7_keep 138 = .ok (.iload 5, 2) := by decide +kernel
theorem dX7_keep_140 : decode cX7_keep 140 = .ok (.imul, 1) := by decide +kernel
theorem dX7_keep_141 : decode cX7_keep 141 = .ok (.iload_n 1, 1) := by decide +kernel
theorem dX7_keep_142 : decode cX7_keep 142 = .ok (.iconst 2, 1) := by decide +kernel
theorem dX7_keep_143 : decode cX7_keep 143 = .ok (.aload_n 0, 1) := by decide +kernel
theorem dX7_keep_144 : decode cX7_keep 144 = .ok (.getfield 7, 3) := by decide +kernel
theorem dX7_keep_147 : decode cX7_keep 147 = .ok (.iconst 1, 1) := by decide +kernel
theorem dX7_keep_148 : decode cX7_keep 148 = .ok (.isub, 1) := by decide +kernel
theorem dX7_keep_149 : decode cX7_keep 149 = .ok (.iload 5, 2) := by decide +kernel
theorem dX7_keep_151 : decode cX7_keep 151 = .ok (.isub, 1) := by decide +kernel
theorem dX7_keep_152 : decode cX7_keep 152 = .ok (.imul, 1) := by decide +kernel
theorem dX7_keep_153 : decode cX7_keep 153 = .ok (.ishr, 1) := by decide +kernel
theorem dX7_keep_154 : decode cX7_keep 154 = .ok (.iconst 3, 1) := by decide +kernel
theorem dX7_keep_155 : decode cX7_keep 155 = .ok (.iand, 1) := by decide +kernel
theorem dX7_keep_156 : decode cX7_keep 156 = .ok (.iadd, 1) := by decide +kernel
theorem dX7_keep_157 : decode cX7_keep 157 = .ok (.iaload, 1) := by decide +kernel
theorem dX7_keep_158 : decode cX7_keep 158 = .ok (.iastore, 1) := by decide +kernel
theorem dX7_keep_159 : decode cX7_keep 159 = .ok (.iinc 5 1, 3) := by decide +kernel
theorem dX7_keep_162 : decode cX7_keep 162 = .ok (.goto (-44), 3) := by decide +kernel
theorem dX7_keep_165 : decode cX7_keep 165 = .ok (.return_, 1) := by decide +kernel
theorem dX7_lay_0 : decode cX7_lay 0 = .ok (.aload_n 0, 1) := by decide +kernel
theorem dX7_lay_1 : decode cX7_lay 1 = .ok (.iload_n 1, 1) := by decide +kernel
theorem dX7_lay_2 : decode cX7_lay 2 = .ok (.iload_n 2, 1) := by decide +kernel
theorem dX7_lay_3 : decode cX7_lay 3 = .ok (.invokevirtual 127, 3) := by decide +kernel
theorem dX7_lay_6 : decode cX7_lay 6 = .ok (.aload_n 0, 1) := by decide +kernel
theorem dX7_lay_7 : decode cX7_lay 7 = .ok (.iconst (-1), 1) := by decide +kernel
theorem dX7_lay_8 : decode cX7_lay 8 = .ok (.putfield 121, 3) := by decide +kernel
theorem dX7_lay_11 : decode cX7_lay 11 = .ok (.aload_n 0, 1) := by decide +kernel
theorem dX7_lay_12 : decode cX7_lay 12 = .ok (.iconst (-1), 1) := by decide +kernel
theorem dX7_lay_13 : decode cX7_lay 13 = .ok (.putfield 124, 3) := by decide +kernel
theorem dX7_lay_16 : decode cX7_lay 16 = .ok (.iconst 0, 1) := by decide +kernel
theorem dX7_lay_17 : decode cX7_lay 17 = .ok (.istore_n 3, 1) := by decide +kernel
theorem dX7_lay_18 : decode cX7_lay 18 = .ok (.iload_n 3, 1) := by decide +kernel
theorem dX7_lay_19 : decode cX7_lay 19 = .ok (.bipush 8, 2) := by decide +kernel
theorem dX7_lay_21 : decode cX7_lay 21 = .ok (.if_icmp .ge 16, 3) := by decide +kernel
theorem dX7_lay_24 : decode cX7_lay 24 = .ok (.aload_n 0, 1) := by decide +kernel
theorem dX7_lay_25 : decode cX7_lay 25 = .ok (.getfield 68, 3) := by decide +kernel
theorem dX7_lay_28 : decode cX7_lay 28 = .ok (.iload_n 3, 1) := by decide +kernel
theorem dX7_lay_29 : decode cX7_lay 29 = .ok (.iconst (-1), 1) := by decide +kernel
theorem dX7_lay_30 : decode cX7_lay 30 = .ok (.iastore, 1) := by decide +kernel
theorem dX7_lay_31 : decode cX7_lay 31 = .ok (.iinc 3 1, 3) := by decide +kernel
theorem dX7_lay_34 : decode cX7_lay 34 = .ok (.goto (-16), 3) := by decide +kernel
theorem dX7_lay_37 : decode cX7_lay 37 = .ok (.iconst 0, 1) := by decide +kernel
theorem dX7_lay_38 : decode cX7_lay 38 = .ok (.istore_n 3, 1) := by decide +kernel
theorem dX7_lay_39 : decode cX7_lay 39 = .ok (.iload_n 3, 1) := by decide +kernel
theorem dX7_lay_40 : decode cX7_lay 40 = .ok (.iconst 1, 1) := by decide +kernel
theorem dX7_lay_41 : decode cX7_lay 41 = .ok (.iconst 2, 1) := by decide +kernel
theorem dX7_lay_42 : decode cX7_lay 42 = .ok (.aload_n 0, 1) := by decide +kernel
theorem dX7_lay_43 : decode cX7_lay 43 = .ok (.getfield 7, 3) := by decide +kernel
theorem dX7_lay_46 : decode cX7_lay 46 = .ok (.imul, 1) := by decide +kernel
theorem dX7_lay_47 : decode cX7_lay 47 = .ok (.ishl, 1) := by decide +kernel
theorem dX7_lay_48 : decode cX7_lay 48 = .ok (.if_icmp .ge 55, 3) := by decide +kernel
theorem dX7_lay_51 : decode cX7_lay 51 = .ok (.aload_n 0, 1) := by decide +kernel
theorem dX7_lay_52 : decode cX7_lay 52 = .ok (.iload_n 3, 1) := by decide +kernel
theorem dX7_lay_53 : decode cX7_lay 53 = .ok (.invokevirtual 131, 3) := by decide +kernel
theorem dX7_lay_56 : decode cX7_lay 56 = .ok (.istore 4, 2) := by decide +kernel
theorem dX7_lay_58 : decode cX7_lay 58 = .ok (.iload 4, 2) := by decide +kernel
theorem dX7_lay_60 : decode cX7_lay 60 = .ok (.iconst (-1), 1) := by decide +kernel
theorem dX7_lay_61 : decode cX7_lay 61 = .ok (.if_icmp .ne 14, 3) := by decide +kernel
theorem dX7_lay_64 : decode cX7_lay 64 = .ok (.aload_n 0, 1) := by decide +kernel
theorem dX7_lay_65 : decode cX7_lay 65 = .ok (.iload_n 3, 1) := by decide +kernel
theorem dX7_lay_66 : decode cX7_lay 66 = .ok (.invokevirtual 134, 3) := by decide +kernel
theorem dX7_lay_69 : decode cX7_lay 69 = .ok (.iinc 3 1, 3) := by decide +kernel
theorem dX7_lay_72 : decode cX7_lay 72 = .ok (.goto 28, 3) := by decide +kernel
theorem dX7_lay_75 : decode cX7_lay 75 = .ok (.iconst 1, 1) := by decide +kernel
theorem dX7_lay_76 : decode cX7_lay 76 = .ok (.iconst 2, 1) := by decide +kernel
theorem dX7_lay_77 : decode cX7_lay 77 = .ok (.aload_n 0, 1) := by decide +kernel
theorem dX7_lay_78 : decode cX7_lay 78 = .ok (.getfield 7, 3) := by decide +kernel
theorem dX7_lay_81 : decode cX7_lay 81 = .ok (.iconst 1, 1) := by decide +kernel
theorem dX7_lay_82 : decode cX7_lay 82 = .ok (.isub, 1) := by decide +kernel
theorem dX7_lay_83 : decode cX7_lay 83 = .ok (.iload 4, 2) := by decide +kernel
theorem dX7_lay_85 : decode cX7_lay 85 = .ok (.isub, 1) := by decide +kernel
theorem dX7_lay_86 : decode cX7_lay 86 = .ok (.imul, 1) := by decide +kernel
theorem dX7_lay_87 : decode cX7_lay 87 = .ok (.ishl, 1) := by decide +kernel
theorem dX7_lay_88 : decode cX7_lay 88 = .ok (.istore 5, 2) := by decide +kernel
theorem dX7_lay_90 : decode cX7_lay 90 = .ok (.iload_n 3, 1) := by decide +kernel
theorem dX7_lay_91 : decode cX7_lay 91 = .ok (.iload 5, 2) := by decide +kernel
theorem dX7_lay_93 : decode cX7_lay 93 = .ok (.idiv, 1) := by decide +kernel
theorem dX7_lay_94 : decode cX7_lay 94 = .ok (.iconst 1, 1) := by decide +kernel
theorem dX7_lay_95 : decode cX7_lay 95 = .ok (.iadd, 1) := by decide +kernel
theorem dX7_lay_96 : decode cX7_lay 96 = .ok (.iload 5, 2) := by decide +kernel
theorem dX7_lay_98 : decode cX7_lay 98 = .ok (.imul, 1) := by decide +kernel
theorem dX7_lay_99 : decode cX7_lay 99 = .ok (.istore_n 3, 1) := by decide +kernel
theorem dX7_lay_100 : decode cX7_lay 100 = .ok (.goto (-61), 3) := by decide +kernel
theorem dX7_lay_103 : decode cX7_lay 103 = .ok (.aload_n 0, 1) := by decide +kernel
theorem dX7_lay_104 : decode cX7_lay 104 = .ok (.getfield 121, 3) := by decide +kernel
theorem dX7_lay_107 : decode cX7_lay 107 = .ok (.iconst (-1), 1) := by decide +kernel
theorem dX7_lay_108 : decode cX7_lay 108 = .ok (.if_icmp .eq 7, 3) := by decide +kernel
theorem dX7_lay_111 : decode cX7_lay 111 = .ok (.iconst 1, 1) := by decide +kernel
theorem dX7_lay_112 : decode cX7_lay 112 = .ok (.goto 4, 3) := by decide +kernel
theorem dX7_lay_115 : decode cX7_lay 115 = .ok (.iconst 0, 1) := by decide +kernel
theorem dX7_lay_116 : decode cX7_lay 116 = .ok (.ireturn, 1) := by decide +kernel
theorem dX7_strain_0 : decode cX7_strain 0 = .ok (.aload_n 0, 1) := by decide +kernel
theorem dX7_strain_1 : decode cX7_strain 1 = .ok (.iconst 0, 1) := by decide +kernel
theorem dX7_strain_2 : decode cX7_strain 2 = .ok (.putfield 74, 3) := by decide +kernel
theorem dX7_strain_5 : decode cX7_strain 5 = .ok (.iload_n 1, 1) := by decide +kernel
theorem dX7_strain_6 : decode cX7_strain 6 = .ok (.invokestatic 109, 3) := by decide +kernel
theorem dX7_strain_9 : decode cX7_strain 9 = .ok (.ifCond .ne 9, 3) := by decide +kernel
theorem dX7_strain_12 : decode cX7_strain 12 = .ok (.aload_n 0, 1) := by decide +kernel
theorem dX7_strain_13 : decode cX7_strain 13 = .ok (.iconst 1, 1) := by decide +kernel
theorem dX7_strain_14 : decode cX7_strain 14 = .ok (.invokevirtual 81, 3) := by decide +kernel
theorem dX7_strain_17 : decode cX7_strain 17 = .ok (.ireturn, 1) := by decide +kernel
theorem dX7_strain_18 : decode cX7_strain 18 = .ok (.aload_n 0, 1) := by decide +kernel
theorem dX7_strain_19 : decode cX7_strain 19 = .ok (.iload_n 1, 1) := by decide +kernel
theorem dX7_strain_20 : decode cX7_strain 20 = .ok (.iconst (-1), 1) := by decide +kernel
theorem dX7_strain_21 : decode cX7_strain 21 = .ok (.invokevirtual 138, 3) := by decide +kernel
theorem dX7_strain_24 : decode cX7_strain 24 = .ok (.pop, 1) := by decide +kernel
theorem dX7_strain_25 : decode cX7_strain 25 = .ok (.aload_n 0, 1) := by decide +kernel
theorem dX7_strain_26 : decode cX7_strain 26 = .ok (.getfield 121, 3) := by decide +kernel
theorem dX7_strain_29 : decode cX7_strain 29 = .ok (.ireturn, 1) := by decide +kernel
theorem dX7_strainByAll_0 : decode cX7_strainByAll 0 = .ok (.aload_n 0, 1) := by decide +kernel
theorem dX7_strainByAll_1 : decode cX7_strainByAll 1 = .ok (.iconst 0, 1) := by decide +kernel
theorem dX7_strainByAll_2 : decode cX7_strainByAll 2 = .ok (.putfield 74, 3) := by decide +kernel
theorem dX7_strainByAll_5 : decode cX7_strainByAll 5 = .ok (.iload_n 1, 1) := by decide +kernel
theorem dX7_strainByAll_6 : decode cX7_strainByAll 6 = .ok (.invokestatic 109, 3) := by decide +kernel
theorem dX7_strainByAll_9 : decode cX7_strainByAll 9 = .ok (.ifCond .ne 9, 3) := by decide +kernel
theorem dX7_strainByAll_12 : decode cX7_strainByAll 12 = .ok (.aload_n 0, 1) := by decide +kernel
theorem dX7_strainByAll_13 : decode cX7_strainByAll 13 = .ok (.iconst 1, 1) := by decide +kernel
theorem dX7_strainByAll_14 : decode cX7_strainByAll 14 = .ok (.invokevirtual 81, 3) := by decide +kernel
theorem dX7_strainByAll_17 : decode cX7_strainByAll 17 = .ok (.ireturn, 1) := by decide +kernel
theorem dX7_strainByAll_18 : decode cX7_strainByAll 18 = .ok (.aload_n 0, 1) := by decide +kernel
theorem dX7_strainByAll_19 : decode cX7_strainByAll 19 = .ok (.iload_n 1, 1) := by decide +kernel
theorem dX7_strainByAll_20 : decode cX7_strainByAll 20 = .ok (.iconst (-1), 1) := by decide +kernel
theorem dX7_strainByAll_21 : decode cX7_strainByAll 21 = .ok (.invokevirtual 138, 3) := by decide +kernel
theorem dX7_strainByAll_24 : decode cX7_strainByAll 24 = .ok (.pop, 1) := by decide +kernel
theorem dX7_strainByAll_25 : decode cX7_strainByAll 25 = .ok (.aload_n 0, 1) := by decide +kernel
theorem dX7_strainByAll_26 : decode cX7_strainByAll 26 = .ok (.getfield 121, 3) := by decide +kernel
theorem dX7_strainByAll_29 : decode cX7_strainByAll 29 = .ok (.ireturn, 1) := by decide +kernel
theorem dX7_work_0 : decode cX7_work 0 = .ok (.aload_n 0, 1) := by decide +kernel
theorem dX7_work_1 : decode cX7_work 1 = .ok (.iconst 0, 1) := by decide +kernel
theorem dX7_work_2 : decode cX7_work 2 = .ok (.putfield 74, 3) := by decide +kernel
theorem dX7_work_5 : decode cX7_work 5 = .ok (.iload_n 1, 1) := by decide +kernel
theorem dX7_work_6 : decode cX7_work 6 = .ok (.invokestatic 109, 3) := by decide +kernel
theorem dX7_work_9 : decode cX7_work 9 = .ok (.ifCond .ne 9, 3) := by decide +kernel
theorem dX7_work_12 : decode cX7_work 12 = .ok (.aload_n 0, 1) := by decide +kernel
theorem dX7_work_13 : decode cX7_work 13 = .ok (.iconst 1, 1) := by decide +kernel
theorem dX7_work_14 : decode cX7_work 14 = .ok (.invokevirtual 81, 3) := by decide +kernel
theorem dX7_work_17 : decode cX7_work 17 = .ok (.ireturn, 1) := by decide +kernel
theorem dX7_work_18 : decode cX7_work 18 = .ok (.aload_n 0, 1) := by decide +kernel
theorem dX7_work_19 : decode cX7_work 19 = .ok (.iload_n 1, 1) := by decide +kernel
theorem dX7_work_20 : decode cX7_work 20 = .ok (.iconst (-1), 1) := by decide +kernel
theorem dX7_work_21 : decode cX7_work 21 = .ok (.invokevirtual 138, 3) := by decide +kernel
theorem dX7_work_24 : decode cX7_work 24 = .ok (.pop, 1) := by decide +kernel
theorem dX7_work_25 : decode cX7_work 25 = .ok (.aload_n 0, 1) := by decide +kernel
theorem dX7_work_26 : decode cX7_work 26 = .ok (.getfield 124, 3) := by decide +kernel
theorem dX7_work_29 : decode cX7_work 29 = .ok (.ireturn, 1) := by decide +kernel
theorem dX7_actorFor_0 : decode cX7_actorFor 0 = .ok (.aload_n 0, 1) := by decide +kernel
theorem dX7_actorFor_1 : decode cX7_actorFor 1 = .ok (.iconst 0, 1) := by decide +kernel
theorem dX7_actorFor_2 : decode cX7_actorFor 2 = .ok (.putfield 74, 3) := by decide +kernel
theorem dX7_actorFor_5 : decode cX7_actorFor 5 = .ok (.iload_n 2, 1) := by decide +kernel
theorem dX7_actorFor_6 : decode cX7_actorFor 6 = .ok (.invokestatic 89, 3) := by decide +kernel
theorem dX7_actorFor_9 : decode cX7_actorFor 9 = .ok (.ifCond .ne 9, 3) := by decide +kernel
theorem dX7_actorFor_12 : decode cX7_actorFor 12 = .ok (.aload_n 0, 1) := by decide +kernel
theorem dX7_actorFor_13 : decode cX7_actorFor 13 = .ok (.iconst 1, 1) := by decide +kernel
theorem dX7_actorFor_14 : decode cX7_actorFor 14 = .ok (.invokevirtual 81, 3) := by decide +kernel
theorem dX7_actorFor_17 : decode cX7_actorFor 17 = .ok (.ireturn, 1) := by decide +kernel
theorem dX7_actorFor_18 : decode cX7_actorFor 18 = .ok (.iload_n 1, 1) := by decide +kernel
theorem dX7_actorFor_19 : decode cX7_actorFor 19 = .ok (.invokestatic 109, 3) := by decide +kernel
theorem dX7_actorFor_22 : decode cX7_actorFor 22 = .ok (.ifCond .ne 9, 3) := by decide +kernel
theorem dX7_actorFor_25 : decode cX7_actorFor 25 = .ok (.aload_n 0, 1) := by decide +kernel
theorem dX7_actorFor_26 : decode cX7_actorFor 26 = .ok (.iconst 2, 1) := by decide +kernel
theorem dX7_actorFor_27 : decode cX7_actorFor 27 = .ok (.invokevirtual 81, 3) := by decide +kernel
theorem dX7_actorFor_30 : decode cX7_actorFor 30 = .ok (.ireturn, 1) := by decide +kernel
theorem dX7_actorFor_31 : decode cX7_actorFor 31 = .ok (.aload_n 0, 1) := by decide +kernel
theorem dX7_actorFor_32 : decode cX7_actorFor 32 = .ok (.iload_n 1, 1) := by decide +kernel
theorem dX7_actorFor_33 : decode cX7_actorFor 33 = .ok (.iconst (-1), 1) := by decide +kernel
theorem dX7_actorFor_34 : decode cX7_actorFor 34 = .ok (.invokevirtual 138, 3) := by decide +kernel
theorem dX7_actorFor_37 : decode cX7_actorFor 37 = .ok (.pop, 1) := by decide +kernel
theorem dX7_actorFor_38 : decode cX7_actorFor 38 = .ok (.aload_n 0, 1) := by decide +kernel
theorem dX7_actorFor_39 : decode cX7_actorFor 39 = .ok (.getfield 68, 3) := by decide +kernel
theorem dX7_actorFor_42 : decode cX7_actorFor 42 = .ok (.iload_n 2, 1) := by decide +kernel
theorem dX7_actorFor_43 : decode cX7_actorFor 43 = .ok (.iaload, 1) := by decide +kernel
theorem dX7_actorFor_44 : decode cX7_actorFor 44 = .ok (.ireturn, 1) := by decide +kernel
theorem dX7_chain_0 : decode cX7_chain 0 = .ok (.aload_n 0, 1) := by decide +kernel
theorem dX7_chain_1 : decode cX7_chain 1 = .ok (.iconst 0, 1) := by decide +kernel
theorem dX7_chain_2 : decode cX7_chain 2 = .ok (.putfield 74, 3) := by decide +kernel
theorem dX7_chain_5 : decode cX7_chain 5 = .ok (.iload_n 1, 1) := by decide +kernel
theorem dX7_chain_6 : decode cX7_chain 6 = .ok (.invokestatic 85, 3) := by decide +kernel
theorem dX7_chain_9 : decode cX7_chain 9 = .ok (.ifCond .ne 9, 3) := by decide +kernel
theorem dX7_chain_12 : decode cX7_chain 12 = .ok (.aload_n 0, 1) := by decide +kernel
theorem dX7_chain_13 : decode cX7_chain 13 = .ok (.iconst 1, 1) := by decide +kernel
theorem dX7_chain_14 : decode cX7_chain 14 = .ok (.invokevirtual 81, 3) := by decide +kernel
theorem dX7_chain_17 : decode cX7_chain 17 = .ok (.ireturn, 1) := by decide +kernel
theorem dX7_chain_18 : decode cX7_chain 18 = .ok (.iload_n 2, 1) := by decide +kernel
theorem dX7_chain_19 : decode cX7_chain 19 = .ok (.invokestatic 109, 3) := by decide +kernel
theorem dX7_chain_22 : decode cX7_chain 22 = .ok (.ifCond .ne 9, 3) := by decide +kernel
theorem dX7_chain_25 : decode cX7_chain 25 = .ok (.aload_n 0, 1) := by decide +kernel
theorem dX7_chain_26 : decode cX7_chain 26 = .ok (.iconst 2, 1) := by decide +kernel
theorem dX7_chain_27 : decode cX7_chain 27 = .ok (.invokevirtual 81, 3) := by decide +kernel
theorem dX7_chain_30 : decode cX7_chain 30 = .ok (.ireturn, 1) := by decide +kernel
theorem dX7_chain_31 : decode cX7_chain 31 = .ok (.aload_n 0, 1) := by decide +kernel
theorem dX7_chain_32 : decode cX7_chain 32 = .ok (.iload_n 2, 1) := by decide +kernel
theorem dX7_chain_33 : decode cX7_chain 33 = .ok (.iconst (-1), 1) := by decide +kernel
theorem dX7_chain_34 : decode cX7_chain 34 = .ok (.invokevirtual 138, 3) := by decide +kernel
theorem dX7_chain_37 : decode cX7_chain 37 = .ok (.ifCond .ne 5, 3) := by decide +kernel
theorem dX7_chain_40 : decode cX7_chain 40 = .ok (.iconst (-1), 1) := by decide +kernel
theorem dX7_chain_41 : decode cX7_chain 41 = .ok (.ireturn, 1) := by decide +kernel
theorem dX7_chain_42 : decode cX7_chain 42 = .ok (.iconst 0, 1) := by decide +kernel
theorem dX7_chain_43 : decode cX7_chain 43 = .ok (.istore_n 3, 1) := by decide +kernel
theorem dX7_chain_44 : decode cX7_chain 44 = .ok (.iload_n 3, 1) := by decide +kernel
theorem dX7_chain_45 : decode cX7_chain 45 = .ok (.bipush 8, 2) := by decide +kernel
theorem dX7_chain_47 : decode cX7_chain 47 = .ok (.if_icmp .ge 21, 3) := by decide +kernel
theorem dX7_chain_50 : decode cX7_chain 50 = .ok (.aload_n 0, 1) := by decide +kernel
theorem dX7_chain_51 : decode cX7_chain 51 = .ok (.getfield 71, 3) := by decide +kernel
theorem dX7_chain_54 : decode cX7_chain 54 = .ok (.iload_n 3, 1) := by decide +kernel
theorem dX7_chain_55 : decode cX7_chain 55 = .ok (.aload_n 0, 1) := by decide +kernel
theorem dX7_chain_56 : decode cX7_chain 56 = .ok (.getfield 68, 3) := by decide +kernel
theorem dX7_chain_59 : decode cX7_chain 59 = .ok (.iload_n 3, 1) := by decide +kernel
theorem dX7_chain_60 : decode cX7_chain 60 = .ok (.iaload, 1) := by decide +kernel
theorem dX7_chain_61 : decode cX7_chain 61 = .ok (.iastore, 1) := by decide +kernel
theorem dX7_chain_62 : decode cX7_chain 62 = .ok (.iinc 3 1, 3) := by decide +kernel
theorem dX7_chain_65 : decode cX7_chain 65 = .ok (.goto (-21), 3) := by decide +kernel
theorem dX7_chain_68 : decode cX7_chain 68 = .ok (.aload_n 0, 1) := by decide +kernel
theorem dX7_chain_69 : decode cX7_chain 69 = .ok (.iload_n 2, 1) := by decide +kernel
theorem dX7_chain_70 : decode cX7_chain 70 = .ok (.iload_n 1, 1) := by decide +kernel
theorem dX7_chain_71 : decode cX7_chain 71 = .ok (.invokevirtual 138, 3) := by decide +kernel
theorem dX7_chain_74 : decode cX7_chain 74 = .ok (.ifCond .ne 5, 3) := by decide +kernel
theorem dX7_chain_77 : decode cX7_chain 77 = .ok (.iconst (-1), 1) := by decide +kernel
theorem dX7_chain_78 : decode cX7_chain 78 = .ok (.ireturn, 1) := by decide +kernel
theorem dX7_chain_79 : decode cX7_chain 79 = .ok (.iconst 0, 1) := by decide +kernel
theorem dX7_chain_80 : decode cX7_chain 80 = .ok (.istore_n 3, 1) := by decide +kernel
theorem dX7_chain_81 : decode cX7_chain 81 = .ok (.iconst 0, 1) := by decide +kernel
theorem dX7_chain_82 : decode cX7_chain 82 = .ok (.istore 4, 2) := by decide +kernel
theorem dX7_chain_84 : decode cX7_chain 84 = .ok (.iload 4, 2) := by decide +kernel
theorem dX7_chain_86 : decode cX7_chain 86 = .ok (.aload_n 0, 1) := by decide +kernel
theorem dX7_chain_87 : decode cX7_chain 87 = .ok (.getfield 7, 3) := by decide +kernel
theorem dX7_chain_90 : decode cX7_chain 90 = .ok (.if_icmp .ge 34, 3) := by decide +kernel
theorem dX7_chain_93 : decode cX7_chain 93 = .ok (.iload_n 3, 1) := by decide +kernel
theorem dX7_chain_94 : decode cX7_chain 94 = .ok (.aload_n 0, 1) := by decide +kernel
theorem dX7_chain_95 : decode cX7_chain 95 = .ok (.getfield 68, 3) := by decide +kernel
theorem dX7_chain_98 : decode cX7_chain 98 = .ok (.iload 4, 2) := by decide +kernel
theorem dX7_chain_100 : decode cX7_chain 100 = .ok (.iaload, 1) := by decide +kernel
theorem dX7_chain_101 : decode cX7_chain 101 = .ok (.aload_n 0, 1) := by decide +kernel
theorem dX7_chain_102 : decode cX7_chain 102 = .ok (.getfield 71, 3) := by decide +kernel
theorem dX7_chain_105 : decode cX7_chain 105 = .ok (.iload 4, 2) := by decide +kernel
theorem dX7_chain_107 : decode cX7_chain 107 = .ok (.iaload, 1) := by decide +kernel
theorem dX7_chain_108 : decode cX7_chain 108 = .ok (.if_icmp .ne 7, 3) := by decide +kernel
theorem dX7_chain_111 : decode cX7_chain 111 = .ok (.iconst 0, 1) := by decide +kernel
theorem dX7_chain_112 : decode cX7_chain 112 = .ok (.goto 4, 3) := by decide +kernel
theorem dX7_chain_115 : decode cX7_chain 115 = .ok (.iconst 1, 1) := by decide +kernel
theorem dX7_chain_116 : decode cX7_chain 116 = .ok (.iadd, 1) := by decide +kernel
theorem dX7_chain_117 : decode cX7_chain 117 = .ok (.istore_n 3, 1) := by decide +kernel
theorem dX7_chain_118 : decode cX7_chain 118 = .ok (.iinc 4 1, 3) := by decide +kernel
theorem dX7_chain_121 : decode cX7_chain 121 = .ok (.goto (-37), 3) := by decide +kernel
theorem dX7_chain_124 : decode cX7_chain 124 = .ok (.iload_n 3, 1) := by decide +kernel
theorem dX7_chain_125 : decode cX7_chain 125 = .ok (.ireturn, 1) := by decide +kernel
theorem dX7_showOn_0 : decode cX7_showOn 0 = .ok (.iconst (-1), 1) := by decide +kernel
theorem dX7_showOn_1 : decode cX7_showOn 1 = .ok (.istore_n 2, 1) := by decide +kernel
theorem dX7_showOn_2 : decode cX7_showOn 2 = .ok (.iconst 0, 1) := by decide +kernel
theorem dX7_showOn_3 : decode cX7_showOn 3 = .ok (.istore_n 3, 1) := by decide +kernel
theorem dX7_showOn_4 : decode cX7_showOn 4 = .ok (.iload_n 3, 1) := by decide +kernel
theorem dX7_showOn_5 : decode cX7_showOn 5 = .ok (.aload_n 0, 1) := by decide +kernel
theorem dX7_showOn_6 : decode cX7_showOn 6 = .ok (.getfield 141, 3) := by decide +kernel
theorem dX7_showOn_9 : decode cX7_showOn 9 = .ok (.if_icmp .ge 25, 3) := by decide +kernel
theorem dX7_showOn_12 : decode cX7_showOn 12 = .ok (.aload_n 0, 1) := by decide +kernel
theorem dX7_showOn_13 : decode cX7_showOn 13 = .ok (.getfield 38, 3) := by decide +kernel
theorem dX7_showOn_16 : decode cX7_showOn 16 = .ok (.iload_n 3, 1) := by decide +kernel
theorem dX7_showOn_17 : decode cX7_showOn 17 = .ok (.iaload, 1) := by decide +kernel
theorem dX7_showOn_18 : decode cX7_showOn 18 = .ok (.iload_n 1, 1) := by decide +kernel
theorem dX7_showOn_19 : decode cX7_showOn 19 = .ok (.if_icmp .ne 7, 3) := by decide +kernel
theorem dX7_showOn_22 : decode cX7_showOn 22 = .ok (.iload_n 3, 1) := by decide +kernel
theorem dX7_showOn_23 : decode cX7_showOn 23 = .ok (.goto 4, 3) := by decide +kernel
theorem dX7_showOn_26 : decode cX7_showOn 26 = .ok (.iload_n 2, 1) := by decide +kernel
theorem dX7_showOn_27 : decode cX7_showOn 27 = .ok (.istore_n 2, 1) := by decide +kernel
theorem dX7_showOn_28 : decode cX7_showOn 28 = .ok (.iinc 3 1, 3) := by decide +kernel
theorem dX7_showOn_31 : decode cX7_showOn 31 = .ok (.goto (-27), 3) := by decide +kernel
theorem dX7_showOn_34 : decode cX7_showOn 34 = .ok (.iload_n 2, 1) := by decide +kernel
theorem dX7_showOn_35 : decode cX7_showOn 35 = .ok (.ireturn, 1) := by decide +kernel
theorem dX7_show_0 : decode cX7_show 0 = .ok (.aload_n 0, 1) := by decide +kernel
theorem dX7_show_1 : decode cX7_show 1 = .ok (.iconst 0, 1) := by decide +kernel
theorem dX7_show_2 : decode cX7_show 2 = .ok (.putfield 74, 3) := by decide +kernel
theorem dX7_show_5 : decode cX7_show 5 = .ok (.iload_n 1, 1) := by decide +kernel
theorem dX7_show_6 : decode cX7_show 6 = .ok (.aload_n 0, 1) := by decide +kernel
theorem dX7_show_7 : decode cX7_show 7 = .ok (.getfield 106, 3) := by decide +kernel
theorem dX7_show_10 : decode cX7_show 10 = .ok (.sipush 1000, 3) := by decide +kernel
theorem dX7_show_13 : decode cX7_show 13 = .ok (.invokestatic 77, 3) := by decide +kernel
theorem dX7_show_16 : decode cX7_show 16 = .ok (.ifCond .ne 9, 3) := by decide +kernel
theorem dX7_show_19 : decode cX7_show 19 = .ok (.aload_n 0, 1) := by decide +kernel
theorem dX7_show_20 : decode cX7_show 20 = .ok (.iconst 1, 1) := by decide +kernel
theorem dX7_show_21 : decode cX7_show 21 = .ok (.invokevirtual 81, 3) := by decide +kernel
theorem dX7_show_24 : decode cX7_show 24 = .ok (.ireturn, 1) := by decide +kernel
theorem dX7_show_25 : decode cX7_show 25 = .ok (.aload_n 0, 1) := by decide +kernel
theorem dX7_show_26 : decode cX7_show 26 = .ok (.getfield 141, 3) := by decide +kernel
theorem dX7_show_29 : decode cX7_show 29 = .ok (.bipush 40, 2) := by decide +kernel
theorem dX7_show_31 : decode cX7_show 31 = .ok (.if_icmp .eq 12, 3) := by decide +kernel
theorem dX7_show_34 : decode cX7_show 34 = .ok (.aload_n 0, 1) := by decide +kernel
theorem dX7_show_35 : decode cX7_show 35 = .ok (.iload_n 1, 1) := by decide +kernel
theorem dX7_show_36 : decode cX7_show 36 = .ok (.invokevirtual 144, 3) := by decide +kernel
theorem dX7_show_39 : decode cX7_show 39 = .ok (.iconst (-1), 1) := by decide +kernel
theorem dX7_show_40 : decode cX7_show 40 = .ok (.if_icmp .eq 9, 3) := by decide +kernel
theorem dX7_show_43 : decode cX7_show 43 = .ok (.aload_n 0, 1) := by decide +kernel
theorem dX7_show_44 : decode cX7_show 44 = .ok (.iconst 2, 1) := by decide +kernel
theorem dX7_show_45 : decode cX7_show 45 = .ok (.invokevirtual 81, 3) := by decide +kernel
theorem dX7_show_48 : decode cX7_show 48 = .ok (.ireturn, 1) := by decide +kernel
theorem dX7_show_49 : decode cX7_show 49 = .ok (.aload_n 0, 1) := by decide +kernel
theorem dX7_show_50 : decode cX7_show 50 = .ok (.getfield 38, 3) := by decide +kernel
theorem dX7_show_53 : decode cX7_show 53 = .ok (.aload_n 0, 1) := by decide +kernel
theorem dX7_show_54 : decode cX7_show 54 = .ok (.getfield 141, 3) := by decide +kernel
theorem dX7_show_57 : decode cX7_show 57 = .ok (.iload_n 1, 1) := by decide +kernel
theorem dX7_show_58 : decode cX7_show 58 = .ok (.iastore, 1) := by decide +kernel
theorem dX7_show_59 : decode cX7_show 59 = .ok (.iconst 0, 1) := by decide +kernel
theorem dX7_show_60 : decode cX7_show 60 = .ok (.istore_n 2, 1) := by decide +kernel
theorem dX7_show_61 : decode cX7_show 61 = .ok (.iload_n 2, 1) := by decide +kernel
theorem dX7_show_62 : decode cX7_show 62 = .ok (.bipush 8, 2) := by decide +kernel
theorem dX7_show_64 : decode cX7_show 64 = .ok (.if_icmp .ge 24, 3) := by decide +kernel
theorem dX7_show_67 : decode cX7_show 67 = .ok (.aload_n 0, 1) := by decide +kernel
theorem dX7_show_68 : decode cX7_show 68 = .ok (.getfield 44, 3) := by decide +kernel
theorem dX7_show_71 : decode cX7_show 71 = .ok (.bipush 8, 2) := by decide +kernel
theorem dX7_show_73 : decode cX7_show 73 = .ok (.aload_n 0, 1) := by decide +kernel
theorem dX7_show_74 : decode cX7_show 74 = .ok (.getfield 141, 3) := by decide +kernel
theorem dX7_show_77 : decode cX7_show 77 = .ok (.imul, 1) := by decide +kernel
theorem dX7_show_78 : decode cX7_show 78 = .ok (.iload_n 2, 1) := by decide +kernel
theorem dX7_show_79 : decode cX7_show 79 = .ok (.iadd, 1) := by decide +kernel
theorem dX7_show_80 : decode cX7_show 80 = .ok (.iconst (-1), 1) := by decide +kernel
theorem dX7_show_81 : decode cX7_show 81 = .ok (.iastore, 1) := by decide +kernel
theorem dX7_show_82 : decode cX7_show 82 = .ok (.iinc 2 1, 3) := by decide +kernel
theorem dX7_show_85 : decode cX7_show 85 = .ok (.goto (-24), 3) := by decide +kernel
theorem dX7_show_88 : decode cX7_show 88 = .ok (.aload_n 0, 1) := by decide +kernel
theorem dX7_show_89 : decode cX7_show 89 = .ok (.dup, 1) := by decide +kernel
theorem dX7_show_90 : decode cX7_show 90 = .ok (.getfield 141, 3) := by decide +kernel
theorem dX7_show_93 : decode cX7_show 93 = .ok (.iconst 1, 1) := by decide +kernel
theorem dX7_show_94 : decode cX7_show 94 = .ok (.iadd, 1) := by decide +kernel
theorem dX7_show_95 : decode cX7_show 95 = .ok (.putfield 141, 3) := by decide +kernel
theorem dX7_show_98 : decode cX7_show 98 = .ok (.aload_n 0, 1) := by decide +kernel
theorem dX7_show_99 : decode cX7_show 99 = .ok (.getfield 141, 3) := by decide +kernel
theorem dX7_show_102 : decode cX7_show 102 = .ok (.iconst 1, 1) := by decide +kernel
theorem dX7_show_103 : decode cX7_show 103 = .ok (.isub, 1) := by decide +kernel
theorem dX7_show_104 : decode cX7_show 104 = .ok (.ireturn, 1) := by decide +kernel
theorem dX7_sell_0 : decode cX7_sell 0 = .ok (.aload_n 0, 1) := by decide +kernel
theorem dX7_sell_1 : decode cX7_sell 1 = .ok (.iconst 0, 1) := by decide +kernel
theorem dX7_sell_2 : decode cX7_sell 2 = .ok (.putfield 74, 3) := by decide +kernel
theorem dX7_sell_5 : decode cX7_sell 5 = .ok (.iload_n 1, 1) := by decide +kernel
theorem dX7_sell_6 : decode cX7_sell 6 = .ok (.iconst 0, 1) := by decide +kernel
theorem dX7_sell_7 : decode cX7_sell 7 = .ok (.aload_n 0, 1) := by decide +kernel
theorem dX7_sell_8 : decode cX7_sell 8 = .ok (.getfield 141, 3) := by decide +kernel
theorem dX7_sell_11 : decode cX7_sell 11 = .ok (.iconst 1, 1) := by decide +kernel
theorem dX7_sell_12 : decode cX7_sell 12 = .ok (.isub, 1) := by decide +kernel
theorem dX7_sell_13 : decode cX7_sell 13 = .ok (.invokestatic 77, 3) := by decide +kernel
theorem dX7_sell_16 : decode cX7_sell 16 = .ok (.ifCond .eq 11, 3) := by decide +kernel
theorem dX7_sell_19 : decode cX7_sell 19 = .ok (.iload 4, 2) := by decide +kernel
theorem dX7_sell_21 : decode cX7_sell 21 = .ok (.invokestatic 89, 3) := by decide +kernel
theorem dX7_sell_24 : decode cX7_sell 24 = .ok (.ifCond .ne 9, 3) := by decide +kernel
theorem dX7_sell_27 : decode cX7_sell 27 = .ok (.aload_n 0, 1) := by decide +kernel
theorem dX7_sell_28 : decode cX7_sell 28 = .ok (.iconst 1, 1) := by decide +kernel
theorem dX7_sell_29 : decode cX7_sell 29 = .ok (.invokevirtual 81, 3) := by decide +kernel
theorem dX7_sell_32 : decode cX7_sell 32 = .ok (.ireturn, 1) := by decide +kernel
theorem dX7_sell_33 : decode cX7_sell 33 = .ok (.iload_n 2, 1) := by decide +kernel
theorem dX7_sell_34 : decode cX7_sell 34 = .ok (.iconst 1, 1) := by decide +kernel
theorem dX7_sell_35 : decode cX7_sell 35 = .ok (.sipush 1000, 3) := by decide +kernel
theorem dX7_sell_38 : decode cX7_sell 38 = .ok (.invokestatic 77, 3) := by decide +kernel
theorem dX7_sell_41 : decode cX7_sell 41 = .ok (.ifCond .eq 12, 3) := by decide +kernel
theorem dX7_sell_44 : decode cX7_sell 44 = .ok (.iload_n 3, 1) := by decide +kernel
theorem dX7_sell_45 : decode cX7_sell 45 = .ok (.iconst 0, 1) := by decide +kernel
theorem dX7_sell_46 : decode cX7_sell 46 = .ok (.iconst 3, 1) := by decide +kernel
theorem dX7_sell_47 : decode cX7_sell 47 = .ok (.invokestatic 77, 3) := by decide +kernel
theorem dX7_sell_50 : decode cX7_sell 50 = .ok (.ifCond .ne 9, 3) := by decide +kernel
theorem dX7_sell_53 : decode cX7_sell 53 = .ok (.aload_n 0, 1) := by decide +kernel
theorem dX7_sell_54 : decode cX7_sell 54 = .ok (.iconst 2, 1) := by decide +kernel
theorem dX7_sell_55 : decode cX7_sell 55 = .ok (.invokevirtual 81, 3) := by decide +kernel
theorem dX7_sell_58 : decode cX7_sell 58 = .ok (.ireturn, 1) := by decide +kernel
theorem dX7_sell_59 : decode cX7_sell 59 = .ok (.aload_n 0, 1) := by decide +kernel
theorem dX7_sell_60 : decode cX7_sell 60 = .ok (.getfield 41, 3) := by decide +kernel
theorem dX7_sell_63 : decode cX7_sell 63 = .ok (.iload_n 1, 1) := by decide +kernel
theorem dX7_sell_64 : decode cX7_sell 64 = .ok (.iaload, 1) := by decide +kernel
theorem dX7_sell_65 : decode cX7_sell 65 = .ok (.ifCond .ne 27, 3) := by decide +kernel
theorem dX7_sell_68 : decode cX7_sell 68 = .ok (.aload_n 0, 1) := by decide +kernel
theorem dX7_sell_69 : decode cX7_sell 69 = .ok (.getfield 147, 3) := by decide +kernel
theorem dX7_sell_72 : decode cX7_sell 72 = .ok (.bipush 100, 2) := by decide +kernel
theorem dX7_sell_74 : decode cX7_sell 74 = .ok (.if_icmp .eq 18, 3) := by decide +kernel
theorem dX7_sell_77 : decode cX7_sell 77 = .ok (.iload_n 3, 1) := by decide +kernel
theorem dX7_sell_78 : decode cX7_sell 78 = .ok (.iconst 1, 1) := by decide +kernel
theorem dX7_sell_79 : decode cX7_sell 79 = .ok (.if_icmp .ne 19, 3) := by decide +kernel
theorem dX7_sell_82 : decode cX7_sell 82 = .ok (.aload_n 0, 1) := by decide +kernel
theorem dX7_sell_83 : decode cX7_sell 83 = .ok (.getfield 23, 3) := by decide +kernel
theorem dX7_sell_86 : decode cX7_sell 86 = .ok (.iload 4, 2) := by decide +kernel
theorem dX7_sell_88 : decode cX7_sell 88 = .ok (.iaload, 1) := by decide +kernel
theorem dX7_sell_89 : decode cX7_sell 89 = .ok (.ifCond .ne 9, 3) := by decide +kernel
theorem dX7_sell_92 : decode cX7_sell 92 = .ok (.aload_n 0, 1) := by decide +kernel
theorem dX7_sell_93 : decode cX7_sell 93 = .ok (.iconst 3, 1) := by decide +kernel
theorem dX7_sell_94 : decode cX7_sell 94 = .ok (.invokevirtual 81, 3) := by decide +kernel
theorem dX7_sell_97 : decode cX7_sell 97 = .ok (.ireturn, 1) := by decide +kernel
theorem dX7_sell_98 : decode cX7_sell 98 = .ok (.aload_n 0, 1) := by decide +kernel
theorem dX7_sell_99 : decode cX7_sell 99 = .ok (.getfield 47, 3) := by decide +kernel
theorem dX7_sell_102 : decode cX7_sell 102 = .ok (.aload_n 0, 1) := by decide +kernel
theorem dX7_sell_103 : decode cX7_sell 103 = .ok (.getfield 147, 3) := by decide +kernel
theorem dX7_sell_106 : decode cX7_sell 106 = .ok (.iload_n 1, 1) := by decide +kernel
theorem dX7_sell_107 : decode cX7_sell 107 = .ok (.iastore, 1) := by decide +kernel
theorem dX7_sell_108 : decode cX7_sell 108 = .ok (.aload_n 0, 1) := by decide +kernel
theorem dX7_sell_109 : decode cX7_sell 109 = .ok (.getfield 50, 3) := by decide +kernel
theorem dX7_sell_112 : decode cX7_sell 112 = .ok (.aload_n 0, 1) := by decide +kernel
theorem dX7_sell_113 : decode cX7_sell 113 = .ok (.getfield 147, 3) := by decide +kernel
theorem dX7_sell_116 : decode cX7_sell 116 = .ok (.iload_n 2, 1) := by decide +kernel
theorem dX7_sell_117 : decode cX7_sell 117 = .ok (.iastore, 1) := by decide +kernel
theorem dX7_sell_118 : decode cX7_sell 118 = .ok (.aload_n 0, 1) := by decide +kernel
theorem dX7_sell_119 : decode cX7_sell 119 = .ok (.getfield 53, 3) := by decide +kernel
theorem dX7_sell_122 : decode cX7_sell 122 = .ok (.aload_n 0, 1) := by decide +kernel
theorem dX7_sell_123 : decode cX7_sell 123 = .ok (.getfield 147, 3) := by decide +kernel
theorem dX7_sell_126 : decode cX7_sell 126 = .ok (.iload_n 3, 1) := by decide +kernel
theorem dX7_sell_127 : decode cX7_sell 127 = .ok (.iastore, 1) := by decide +kernel
theorem dX7_sell_128 : decode cX7_sell 128 = .ok (.aload_n 0, 1) := by decide +kernel
theorem dX7_sell_129 : decode cX7_sell 129 = .ok (.getfield 56, 3) := by decide +kernel
theorem dX7_sell_132 : decode cX7_sell 132 = .ok (.aload_n 0, 1) := by decide +kernel
theorem dX7_sell_133 : decode cX7_sell 133 = .ok (.getfield 147, 3) := by decide +kernel
theorem dX7_sell_136 : decode cX7_sell 136 = .ok (.iload 4, 2) := by decide +kernel
theorem dX7_sell_138 : decode cX7_sell 138 = .ok (.iastore, 1) := by decide +kernel
theorem dX7_sell_139 : decode cX7_sell 139 = .ok (.aload_n 0, 1) := by decide +kernel
theorem dX7_sell_140 : decode cX7_sell 140 = .ok (.getfield 59, 3) := by decide +kernel
theorem dX7_sell_143 : decode cX7_sell 143 = .ok (.aload_n 0, 1) := by decide +kernel
theorem dX7_sell_144 : decode cX7_sell 144 = .ok (.getfield 147, 3) := by decide +kernel
theorem dX7_sell_147 : decode cX7_sell 147 = .ok (.aload_n 0, 1) := by decide +kernel
theorem dX7_sell_148 : decode cX7_sell 148 = .ok (.getfield 23, 3) := by decide +kernel
theorem dX7_sell_151 : decode cX7_sell 151 = .ok (.iload 4, 2) := by decide +kernel
theorem dX7_sell_153 : decode cX7_sell 153 = .ok (.iaload, 1) := by decide +kernel
theorem dX7_sell_154 : decode cX7_sell 154 = .ok (.ifCond .ne 7, 3) := by decide +kernel
theorem dX7_sell_157 : decode cX7_sell 157 = .ok (.iconst (-1), 1) := by decide +kernel
theorem dX7_sell_158 : decode cX7_sell 158 = .ok (.goto 12, 3) := by decide +kernel
theorem dX7_sell_161 : decode cX7_sell 161 = .ok (.aload_n 0, 1) := by decide +kernel
theorem dX7_sell_162 : decode cX7_sell 162 = .ok (.getfield 20, 3) := by decide +kernel
theorem dX7_sell_165 : decode cX7_sell 165 = .ok (.iconst 4, 1) := by decide +kernel
theorem dX7_sell_166 : decode cX7_sell 166 = .ok (.iload 4, 2) := by decide +kernel
theorem dX7_sell_168 : decode cX7_sell 168 = .ok (.imul, 1) := by decide +kernel
theorem dX7_sell_169 : decode cX7_sell 169 = .ok (.iaload, 1) := by decide +kernel
theorem dX7_sell_170 : decode cX7_sell 170 = .ok (.iastore, 1) := by decide +kernel
theorem dX7_sell_171 : decode cX7_sell 171 = .ok (.aload_n 0, 1) := by decide +kernel
theorem dX7_sell_172 : decode cX7_sell 172 = .ok (.dup, 1) := by decide +kernel
theorem dX7_sell_173 : decode cX7_sell 173 = .ok (.getfield 150, 3) := by decide +kernel
theorem dX7_sell_176 : decode cX7_sell 176 = .ok (.iload_n 2, 1) := by decide +kernel
theorem dX7_sell_177 : decode cX7_sell 177 = .ok (.iadd, 1) := by decide +kernel
theorem dX7_sell_178 : decode cX7_sell 178 = .ok (.putfield 150, 3) := by decide +kernel
theorem dX7_sell_181 : decode cX7_sell 181 = .ok (.aload_n 0, 1) := by decide +kernel
theorem dX7_sell_182 : decode cX7_sell 182 = .ok (.dup, 1) := by decide +kernel
theorem dX7_sell_183 : decode cX7_sell 183 = .ok (.getfield 147, 3) := by decide +kernel
theorem dX7_sell_186 : decode cX7_sell 186 = .ok (.iconst 1, 1) := by decide +kernel
theorem dX7_sell_187 : decode cX7_sell 187 = .ok (.iadd, 1) := by decide +kernel
theorem dX7_sell_188 : decode cX7_sell 188 = .ok (.putfield 147, 3) := by decide +kernel
theorem dX7_sell_191 : decode cX7_sell 191 = .ok (.aload_n 0, 1) := by decide +kernel
theorem dX7_sell_192 : decode cX7_sell 192 = .ok (.getfield 147, 3) := by decide +kernel
theorem dX7_sell_195 : decode cX7_sell 195 = .ok (.iconst 1, 1) := by decide +kernel
theorem dX7_sell_196 : decode cX7_sell 196 = .ok (.isub, 1) := by decide +kernel
theorem dX7_sell_197 : decode cX7_sell 197 = .ok (.ireturn, 1) := by decide +kernel
theorem dX7_refundOf_0 : decode cX7_refundOf 0 = .ok (.aload_n 0, 1) := by decide +kernel
theorem dX7_refundOf_1 : decode cX7_refundOf 1 = .ok (.getfield 56, 3) := by decide +kernel
theorem dX7_refundOf_4 : decode cX7_refundOf 4 = .ok (.iload_n 1, 1) := by decide +kernel
theorem dX7_refundOf_5 : decode cX7_refundOf 5 = .ok (.iaload, 1) := by decide +kernel
theorem dX7_refundOf_6 : decode cX7_refundOf 6 = .ok (.istore_n 2, 1) := by decide +kernel
theorem dX7_refundOf_7 : decode cX7_refundOf 7 = .ok (.aload_n 0, 1) := by decide +kernel
theorem dX7_refundOf_8 : decode cX7_refundOf 8 = .ok (.getfield 50, 3) := by decide +kernel
theorem dX7_refundOf_11 : decode cX7_refundOf 11 = .ok (.iload_n 1, 1) := by decide +kernel
theorem dX7_refundOf_12 : decode cX7_refundOf 12 = .ok (.iaload, 1) := by decide +kernel
theorem dX7_refundOf_13 : decode cX7_refundOf 13 = .ok (.istore_n 3, 1) := by decide +kernel
theorem dX7_refundOf_14 : decode cX7_refundOf 14 = .ok (.aload_n 0, 1) := by decide +kernel
theorem dX7_refundOf_15 : decode cX7_refundOf 15 = .ok (.getfield 53, 3) := by decide +kernel
theorem dX7_refundOf_18 : decode cX7_refundOf 18 = .ok (.iload_n 1, 1) := by decide +kernel
theorem dX7_refundOf_19 : decode cX7_refundOf 19 = .ok (.iaload, 1) := by decide +kernel
theorem dX7_refundOf_20 : decode cX7_refundOf 20 = .ok (.iconst 2, 1) := by decide +kernel
theorem dX7_refundOf_21 : decode cX7_refundOf 21 = .ok (.if_icmp .ne 20, 3) := by decide +kernel
theorem dX7_refundOf_24 : decode cX7_refundOf 24 = .ok (.aload_n 0, 1) := by decide +kernel
theorem dX7_refundOf_25 : decode cX7_refundOf 25 = .ok (.getfield 121, 3) := by decide +kernel
theorem dX7_refundOf_28 : decode cX7_refundOf 28 = .ok (.ifCond .ne 7, 3) := by decide +kernel
theorem dX7_refundOf_31 : decode cX7_refundOf 31 = .ok (.iconst 0, 1) := by decide +kernel
theorem dX7_refundOf_32 : decode cX7_refundOf 32 = .ok (.goto 8, 3) := by decide +kernel
theorem dX7_refundOf_35 : decode cX7_refundOf 35 = .ok (.iload_n 3, 1) := by decide +kernel
theorem dX7_refundOf_36 : decode cX7_refundOf 36 = .ok (.iconst 3, 1) := by decide +kernel
theorem dX7_refundOf_37 : decode cX7_refundOf 37 = .ok (.iadd, 1) := by decide +kernel
theorem dX7_refundOf_38 : decode cX7_refundOf 38 = .ok (.iconst 4, 1) := by decide +kernel
theorem dX7_refundOf_39 : decode cX7_refundOf 39 = .ok (.idiv, 1) := by decide +kernel
theorem dX7_refundOf_40 : decode cX7_refundOf 40 = .ok (.ireturn, 1) := by decide +kernel
theorem dX7_refundOf_41 : decode cX7_refundOf 41 = .ok (.aload_n 0, 1) := by decide +kernel
theorem dX7_refundOf_42 : decode cX7_refundOf 42 = .ok (.getfield 53, 3) := by decide +kernel
theorem dX7_refundOf_45 : decode cX7_refundOf 45 = .ok (.iload_n 1, 1) := by decide +kernel
theorem dX7_refundOf_46 : decode cX7_refundOf 46 = .ok (.iaload, 1) := by decide +kernel
theorem dX7_refundOf_47 : decode cX7_refundOf 47 = .ok (.ifCond .eq 11, 3) := by decide +kernel
theorem dX7_refundOf_50 : decode cX7_refundOf 50 = .ok (.iload_n 2, 1) := by decide +kernel
theorem dX7_refundOf_51 : decode cX7_refundOf 51 = .ok (.aload_n 0, 1) := by decide +kernel
theorem dX7_refundOf_52 : decode cX7_refundOf 52 = .ok (.getfield 7, 3) := by decide +kernel
theorem dX7_refundOf_55 : decode cX7_refundOf 55 = .ok (.if_icmp .lt 5, 3) := by decide +kernel
theorem dX7_refundOf_58 : decode cX7_refundOf 58 = .ok (.iconst 0, 1) := by decide +kernel
theorem dX7_refundOf_59 : decode cX7_refundOf 59 = .ok (.ireturn, 1) := by decide +kernel
theorem dX7_refundOf_60 : decode cX7_refundOf 60 = .ok (.aload_n 0, 1) := by decide +kernel
theorem dX7_refundOf_61 : decode cX7_refundOf 61 = .ok (.getfield 53, 3) := by decide +kernel
theorem dX7_refundOf_64 : decode cX7_refundOf 64 = .ok (.iload_n 1, 1) := by decide +kernel
theorem dX7_refundOf_65 : decode cX7_refundOf 65 = .ok (.iaload, 1) := by decide +kernel
theorem dX7_refundOf_66 : decode cX7_refundOf 66 = .ok (.iconst 1, 1) := by decide +kernel
theorem dX7_refundOf_67 : decode cX7_refundOf 67 = .ok (.if_icmp .ne 28, 3) := by decide +kernel
theorem dX7_refundOf_70 : decode cX7_refundOf 70 = .ok (.aload_n 0, 1) := by decide +kernel
theorem dX7_refundOf_71 : decode cX7_refundOf 71 = .ok (.getfield 68, 3) := by decide +kernel
theorem dX7_refundOf_74 : decode cX7_refundOf 74 = .ok (.iload_n 2, 1) := by decide +kernel
theorem dX7_refundOf_75 : decode cX7_refundOf 75 = .ok (.iaload, 1) := by decide +kernel
theorem dX7_refundOf_76 : decode cX7_refundOf 76 = .ok (.aload_n 0, 1) := by decide +kernel
theorem dX7_refundOf_77 : decode cX7_refundOf 77 = .ok (.getfield 59, 3) := by decide +kernel
theorem dX7_refundOf_80 : decode cX7_refundOf 80 = .ok (.iload_n 1, 1) := by decide +kernel
theorem dX7_refundOf_81 : decode cX7_refundOf 81 = .ok (.iaload, 1) := by decide +kernel
theorem dX7_refundOf_82 : decode cX7_refundOf 82 = .ok (.if_icmp .ne 7, 3) := by decide +kernel
theorem dX7_refundOf_85 : decode cX7_refundOf 85 = .ok (.iconst 0, 1) := by decide +kernel
theorem dX7_refundOf_86 : decode cX7_refundOf 86 = .ok (.goto 8, 3) := by decide +kernel
theorem dX7_refundOf_89 : decode cX7_refundOf 89 = .ok (.iload_n 3, 1) := by decide +kernel
theorem dX7_refundOf_90 : decode cX7_refundOf 90 = .ok (.iconst 1, 1) := by decide +kernel
theorem dX7_refundOf_91 : decode cX7_refundOf 91 = .ok (.iadd, 1) := by decide +kernel
theorem dX7_refundOf_92 : decode cX7_refundOf 92 = .ok (.iconst 2, 1) := by decide +kernel
theorem dX7_refundOf_93 : decode cX7_refundOf 93 = .ok (.idiv, 1) := by decide +kernel
theorem dX7_refundOf_94 : decode cX7_refundOf 94 = .ok (.ireturn, 1) := by decide +kernel
theorem dX7_refundOf_95 : decode cX7_refundOf 95 = .ok (.aload_n 0, 1) := by decide +kernel
theorem dX7_refundOf_96 : decode cX7_refundOf 96 = .ok (.iload_n 2, 1) := by decide +kernel
theorem dX7_refundOf_97 : decode cX7_refundOf 97 = .ok (.aload_n 0, 1) := by decide +kernel
theorem dX7_refundOf_98 : decode cX7_refundOf 98 = .ok (.getfield 68, 3) := by decide +kernel
theorem dX7_refundOf_101 : decode cX7_refundOf 101 = .ok (.iload_n 2, 1) := by decide +kernel
theorem dX7_refundOf_102 : decode cX7_refundOf 102 = .ok (.iaload, 1) := by decide +kernel
theorem dX7_refundOf_103 : decode cX7_refundOf 103 = .ok (.invokevirtual 99, 3) := by decide +kernel
theorem dX7_refundOf_106 : decode cX7_refundOf 106 = .ok (.iconst 1, 1) := by decide +kernel
theorem dX7_refundOf_107 : decode cX7_refundOf 107 = .ok (.if_icmp .gt 7, 3) := by decide +kernel
theorem dX7_refundOf_110 : decode cX7_refundOf 110 = .ok (.iconst 0, 1) := by decide +kernel
theorem dX7_refundOf_111 : decode cX7_refundOf 111 = .ok (.goto 10, 3) := by decide +kernel
theorem dX7_refundOf_114 : decode cX7_refundOf 114 = .ok (.iload_n 3, 1) := by decide +kernel
theorem dX7_refundOf_115 : decode cX7_refundOf 115 = .ok (.bipush 9, 2) := by decide +kernel
theorem dX7_refundOf_117 : decode cX7_refundOf 117 = .ok (.iadd, 1) := by decide +kernel
theorem dX7_refundOf_118 : decode cX7_refundOf 118 = .ok (.bipush 10, 2) := by decide +kernel
theorem dX7_refundOf_120 : decode cX7_refundOf 120 = .ok (.idiv, 1) := by decide +kernel
theorem dX7_refundOf_121 : decode cX7_refundOf 121 = .ok (.ireturn, 1) := by decide +kernel
theorem dX7_refundAll_0 : decode cX7_refundAll 0 = .ok (.iconst 0, 1) := by decide +kernel
theorem dX7_refundAll_1 : decode cX7_refundAll 1 = .ok (.istore_n 3, 1) := by decide +kernel
theorem dX7_refundAll_2 : decode cX7_refundAll 2 = .ok (.iconst 0, 1) := by decide +kernel
theorem dX7_refundAll_3 : decode cX7_refundAll 3 = .ok (.istore 4, 2) := by decide +kernel
theorem dX7_refundAll_5 : decode cX7_refundAll 5 = .ok (.iload 4, 2) := by decide +kernel
theorem dX7_refundAll_7 : decode cX7_refundAll 7 = .ok (.aload_n 0, 1) := by decide +kernel
theorem dX7_refundAll_8 : decode cX7_refundAll 8 = .ok (.getfield 147, 3) := by decide +kernel
theorem dX7_refundAll_11 : decode cX7_refundAll 11 = .ok (.if_icmp .ge 57, 3) := by decide +kernel
theorem dX7_refundAll_14 : decode cX7_refundAll 14 = .ok (.aload_n 0, 1) := by decide +kernel
theorem dX7_refundAll_15 : decode cX7_refundAll 15 = .ok (.getfield 47, 3) := by decide +kernel
theorem dX7_refundAll_18 : decode cX7_refundAll 18 = .ok (.iload 4, 2) := by decide +kernel
theorem dX7_refundAll_20 : decode cX7_refundAll 20 = .ok (.iaload, 1) := by decide +kernel
theorem dX7_refundAll_21 : decode cX7_refundAll 21 = .ok (.iload_n 1, 1) := by decide +kernel
theorem dX7_refundAll_22 : decode cX7_refundAll 22 = .ok (.if_icmp .ne 40, 3) := by decide +kernel
theorem dX7_refundAll_25 : decode cX7_refundAll 25 = .ok (.aload_n 0, 1) := by decide +kernel
theorem dX7_refundAll_26 : decode cX7_refundAll 26 = .ok (.getfield 62, 3) := by decide +kernel
theorem dX7_refundAll_29 : decode cX7_refundAll 29 = .ok (.iload 4, 2) := by decide +kernel
theorem dX7_refundAll_31 : decode cX7_refundAll 31 = .ok (.iload_n 2, 1) := by decide +kernel
theorem dX7_refundAll_32 : decode cX7_refundAll 32 = .ok (.ifCond .eq 12, 3) := by decide +kernel
theorem dX7_refundAll_35 : decode cX7_refundAll 35 = .ok (.aload_n 0, 1) := by decide +kernel
theorem dX7_refundAll_36 : decode cX7_refundAll 36 = .ok (.iload 4, 2) := by decide +kernel
theorem dX7_refundAll_38 : decode cX7_refundAll 38 = .ok (.invokevirtual 153, 3) := by decide +kernel
theorem dX7_refundAll_41 : decode cX7_refundAll 41 = .ok (.goto 10, 3) := by decide +kernel
theorem dX7_refundAll_44 : decode cX7_refundAll 44 = .ok (.aload_n 0, 1) := by decide +kernel
theorem dX7_refundAll_45 : decode cX7_refundAll 45 = .ok (.getfield 50, 3) := by decide +kernel
theorem dX7_refundAll_48 : decode cX7_refundAll 48 = .ok (.iload 4, 2) := by decide +kernel
theorem dX7_refundAll_50 : decode cX7_refundAll 50 = .ok (.iaload, 1) := by decide +kernel
theorem dX7_refundAll_51 : decode cX7_refundAll 51 = .ok (.iastore, 1) := by decide +kernel
theorem dX7_refundAll_52 : decode cX7_refundAll 52 = .ok (.iload_n 3, 1) := by decide +kernel
theorem dX7_refundAll_53 : decode cX7_refundAll 53 = .ok (.aload_n 0, 1) := by decide +kernel
theorem dX7_refundAll_54 : decode cX7_refundAll 54 = .ok (.getfield 62, 3) := by decide +kernel
theorem dX7_refundAll_57 : decode cX7_refundAll 57 = .ok (.iload 4, 2) := by decide +kernel
theorem dX7_refundAll_59 : decode cX7_refundAll 59 = .ok (.iaload, 1) := by decide +kernel
theorem dX7_refundAll_60 : decode cX7_refundAll 60 = .ok (.iadd, 1) := by decide +kernel
theorem dX7_refundAll_61 : decode cX7_refundAll 61 = .ok (.istore_n 3, 1) := by decide +kernel
theorem dX7_refundAll_62 : decode cX7_refundAll 62 = .ok (.iinc 4 1, 3) := by decide +kernel
theorem dX7_refundAll_65 : decode cX7_refundAll 65 = .ok (.goto (-60), 3) := by decide +kernel
theorem dX7_refundAll_68 : decode cX7_refundAll 68 = .ok (.iload_n 3, 1) := by decide +kernel
theorem dX7_refundAll_69 : decode cX7_refundAll 69 = .ok (.ireturn, 1) := by decide +kernel
theorem dX7_perform_0 : decode cX7_perform 0 = .ok (.aload_n 0, 1) := by decide +kernel
theorem dX7_perform_1 : decode cX7_perform 1 = .ok (.getfield 41, 3) := by decide +kernel
theorem dX7_perform_4 : decode cX7_perform 4 = .ok (.iload_n 1, 1) := by decide +kernel
theorem dX7_perform_5 : decode cX7_perform 5 = .ok (.iconst 1, 1) := by decide +kernel
theorem dX7_perform_6 : decode cX7_perform 6 = .ok (.iastore, 1) := by decide +kernel
theorem dX7_perform_7 : decode cX7_perform 7 = .ok (.iconst 0, 1) := by decide +kernel
theorem dX7_perform_8 : decode cX7_perform 8 = .ok (.istore_n 2, 1) := by decide +kernel
theorem dX7_perform_9 : decode cX7_perform 9 = .ok (.iload_n 2, 1) := by decide +kernel
theorem dX7_perform_10 : decode cX7_perform 10 = .ok (.aload_n 0, 1) := by decide +kernel
theorem dX7_perform_11 : decode cX7_perform 11 = .ok (.getfield 7, 3) := by decide +kernel
theorem dX7_perform_14 : decode cX7_perform 14 = .ok (.if_icmp .ge 78, 3) := by decide +kernel
theorem dX7_perform_17 : decode cX7_perform 17 = .ok (.aload_n 0, 1) := by decide +kernel
theorem dX7_perform_18 : decode cX7_perform 18 = .ok (.getfield 44, 3) := by decide +kernel
theorem dX7_perform_21 : decode cX7_perform 21 = .ok (.bipush 8, 2) := by decide +kernel
theorem dX7_perform_23 : decode cX7_perform 23 = .ok (.iload_n 1, 1) := by decide +kernel
theorem dX7_perform_24 : decode cX7_perform 24 = .ok (.imul, 1) := by decide +kernel
theorem dX7_perform_25 : decode cX7_perform 25 = .ok (.iload_n 2, 1) := by decide +kernel
theorem dX7_perform_26 : decode cX7_perform 26 = .ok (.iadd, 1) := by decide +kernel
theorem dX7_perform_27 : decode cX7_perform 27 = .ok (.aload_n 0, 1) := by decide +kernel
theorem dX7_perform_28 : decode cX7_perform 28 = .ok (.getfield 68, 3) := by decide +kernel
theorem dX7_perform_31 : decode cX7_perform 31 = .ok (.iload_n 2, 1) := by decide +kernel
theorem dX7_perform_32 : decode cX7_perform 32 = .ok (.iaload, 1) := by decide +kernel
theorem dX7_perform_33 : decode cX7_perform 33 = .ok (.iastore, 1) := by decide +kernel
theorem dX7_perform_34 : decode cX7_perform 34 = .ok (.aload_n 0, 1) := by decide +kernel
theorem dX7_perform_35 : decode cX7_perform 35 = .ok (.aload_n 0, 1) := by decide +kernel
theorem dX7_perform_36 : decode cX7_perform 36 = .ok (.getfield 68, 3) := by decide +kernel
theorem dX7_perform_39 : decode cX7_perform 39 = .ok (.iload_n 2, 1) := by decide +kernel
theorem dX7_perform_40 : decode cX7_perform 40 = .ok (.iaload, 1) := by decide +kernel
theorem dX7_perform_41 : decode cX7_perform 41 = .ok (.iload_n 2, 1) := by decide +kernel
theorem dX7_perform_42 : decode cX7_perform 42 = .ok (.invokevirtual 112, 3) := by decide +kernel
theorem dX7_perform_45 : decode cX7_perform 45 = .ok (.ifCond .eq 7, 3) := by decide +kernel
theorem dX7_perform_48 : decode cX7_perform 48 = .ok (.iconst (-1), 1) := by decide +kernel
theorem dX7_perform_49 : decode cX7_perform 49 = .ok (.goto 14, 3) := by decide +kernel
theorem dX7_perform_52 : decode cX7_perform 52 = .ok (.aload_n 0, 1) := by decide +kernel
theorem dX7_perform_53 : decode cX7_perform 53 = .ok (.aload_n 0, 1) := by decide +kernel
theorem dX7_perform_54 : decode cX7_perform 54 = .ok (.getfield 68, 3) := by decide +kernel
theorem dX7_perform_57 : decode cX7_perform 57 = .ok (.iload_n 2, 1) := by decide +kernel
theorem dX7_perform_58 : decode cX7_perform 58 = .ok (.iaload, 1) := by decide +kernel
theorem dX7_perform_59 : decode cX7_perform 59 = .ok (.iload_n 2, 1) := by decide +kernel
theorem dX7_perform_60 : decode cX7_perform 60 = .ok (.invokevirtual 115, 3) := by decide +kernel
theorem dX7_perform_63 : decode cX7_perform 63 = .ok (.istore_n 3, 1) := by decide +kernel
theorem dX7_perform_64 : decode cX7_perform 64 = .ok (.iload_n 3, 1) := by decide +kernel
theorem dX7_perform_65 : decode cX7_perform 65 = .ok (.iconst (-1), 1) := by decide +kernel
theorem dX7_perform_66 : decode cX7_perform 66 = .ok (.if_icmp .eq 20, 3) := by decide +kernel
theorem dX7_perform_69 : decode cX7_perform 69 = .ok (.aload_n 0, 1) := by decide +kernel
theorem dX7_perform_70 : decode cX7_perform 70 = .ok (.getfield 29, 3) := by decide +kernel
theorem dX7_perform_73 : decode cX7_perform 73 = .ok (.iload_n 3, 1) := by decide +kernel
theorem dX7_perform_74 : decode cX7_perform 74 = .ok (.dup2, 1) := by decide +kernel
theorem dX7_perform_75 : decode cX7_perform 75 = .ok (.iaload, 1) := by decide +kernel
theorem dX7_perform_76 : decode cX7_perform 76 = .ok (.iconst 1, 1) := by decide +kernel
theorem dX7_perform_77 : decode cX7_perform 77 = .ok (.iadd, 1) := by decide +kernel
theorem dX7_perform_78 : decode cX7_perform 78 = .ok (.iastore, 1) := by decide +kernel
theorem dX7_perform_79 : decode cX7_perform 79 = .ok (.aload_n 0, 1) := by decide +kernel
theorem dX7_perform_80 : decode cX7_perform 80 = .ok (.getfield 32, 3) := by decide +kernel
theorem dX7_perform_83 : decode cX7_perform 83 = .ok (.iload_n 3, 1) := by decide +kernel
theorem dX7_perform_84 : decode cX7_perform 84 = .ok (.iconst 1, 1) := by decide +kernel
theorem dX7_perform_85 : decode cX7_perform 85 = .ok (.iastore, 1) := by decide +kernel
theorem dX7_perform_86 : decode cX7_perform 86 = .ok (.iinc 2 1, 3) := by decide +kernel
theorem dX7_perform_89 : decode cX7_perform 89 = .ok (.goto (-80), 3) := by decide +kernel
theorem dX7_perform_92 : decode cX7_perform 92 = .ok (.return_, 1) := by decide +kernel
theorem dX7_play_0 : decode cX7_play 0 = .ok (.aload_n 0, 1) := by decide +kernel
theorem dX7_play_1 : decode cX7_play 1 = .ok (.iconst 0, 1) := by decide +kernel
theorem dX7_play_2 : decode cX7_play 2 = .ok (.putfield 74, 3) := by decide +kernel
theorem dX7_play_5 : decode cX7_play 5 = .ok (.aload_n 0, 1) := by decide +kernel
theorem dX7_play_6 : decode cX7_play 6 = .ok (.getfield 106, 3) := by decide +kernel
theorem dX7_play_9 : decode cX7_play 9 = .ok (.sipush 1000, 3) := by decide +kernel
theorem dX7_play_12 : decode cX7_play 12 = .ok (.if_icmp .ne 9, 3) := by decide +kernel
theorem dX7_play_15 : decode cX7_play 15 = .ok (.aload_n 0, 1) := by decide +kernel
theorem dX7_play_16 : decode cX7_play 16 = .ok (.iconst 1, 1) := by decide +kernel
theorem dX7_play_17 : decode cX7_play 17 = .ok (.invokevirtual 81, 3) := by decide +kernel
theorem dX7_play_20 : decode cX7_play 20 = .ok (.ireturn, 1) := by decide +kernel
theorem dX7_play_21 : decode cX7_play 21 = .ok (.aload_n 0, 1) := by decide +kernel
theorem dX7_play_22 : decode cX7_play 22 = .ok (.aload_n 0, 1) := by decide +kernel
theorem dX7_play_23 : decode cX7_play 23 = .ok (.getfield 106, 3) := by decide +kernel
theorem dX7_play_26 : decode cX7_play 26 = .ok (.invokevirtual 144, 3) := by decide +kernel
theorem dX7_play_29 : decode cX7_play 29 = .ok (.istore_n 1, 1) := by decide +kernel
theorem dX7_play_30 : decode cX7_play 30 = .ok (.iconst 0, 1) := by decide +kernel
theorem dX7_play_31 : decode cX7_play 31 = .ok (.istore_n 2, 1) := by decide +kernel
theorem dX7_play_32 : decode cX7_play 32 = .ok (.iload_n 1, 1) := by decide +kernel
theorem dX7_play_33 : decode cX7_play 33 = .ok (.iconst (-1), 1) := by decide +kernel
theorem dX7_play_34 : decode cX7_play 34 = .ok (.if_icmp .eq 39, 3) := by decide +kernel
theorem dX7_play_37 : decode cX7_play 37 = .ok (.aload_n 0, 1) := by decide +kernel
theorem dX7_play_38 : decode cX7_play 38 = .ok (.aload_n 0, 1) := by decide +kernel
theorem dX7_play_39 : decode cX7_play 39 = .ok (.getfield 106, 3) := by decide +kernel
theorem dX7_play_42 : decode cX7_play 42 = .ok (.iconst (-1), 1) := by decide +kernel
theorem dX7_play_43 : decode cX7_play 43 = .ok (.invokevirtual 138, 3) := by decide +kernel
theorem dX7_play_46 : decode cX7_play 46 = .ok (.istore_n 3, 1) := by decide +kernel
theorem dX7_play_47 : decode cX7_play 47 = .ok (.aload_n 0, 1) := by decide +kernel
theorem dX7_play_48 : decode cX7_play 48 = .ok (.iload_n 1, 1) := by decide +kernel
theorem dX7_play_49 : decode cX7_play 49 = .ok (.iload_n 3, 1) := by decide +kernel
theorem dX7_play_50 : decode cX7_play 50 = .ok (.invokevirtual 156, 3) := by decide +kernel
theorem dX7_play_53 : decode cX7_play 53 = .ok (.istore_n 2, 1) := by decide +kernel
theorem dX7_play_54 : decode cX7_play 54 = .ok (.iload_n 3, 1) := by decide +kernel
theorem dX7_play_55 : decode cX7_play 55 = .ok (.ifCond .eq 11, 3) := by decide +kernel
theorem dX7_play_58 : decode cX7_play 58 = .ok (.aload_n 0, 1) := by decide +kernel
theorem dX7_play_59 : decode cX7_play 59 = .ok (.iload_n 1, 1) := by decide +kernel
theorem dX7_play_60 : decode cX7_play 60 = .ok (.invokevirtual 160, 3) := by decide +kernel
theorem dX7_play_63 : decode cX7_play 63 = .ok (.goto 10, 3) := by decide +kernel
theorem dX7_play_66 : decode cX7_play 66 = .ok (.aload_n 0, 1) := by decide +kernel
theorem dX7_play_67 : decode cX7_play 67 = .ok (.getfield 41, 3) := by decide +kernel
theorem dX7_play_70 : decode cX7_play 70 = .ok (.iload_n 1, 1) := by decide +kernel
theorem dX7_play_71 : decode cX7_play 71 = .ok (.iconst 2, 1) := by decide +kernel
theorem dX7_play_72 : decode cX7_play 72 = .ok (.iastore, 1) := by decide +kernel
theorem dX7_play_73 : decode cX7_play 73 = .ok (.aload_n 0, 1) := by decide +kernel
theorem dX7_play_74 : decode cX7_play 74 = .ok (.dup, 1) := by decide +kernel
theorem dX7_play_75 : decode cX7_play 75 = .ok (.getfield 150, 3) := by decide +kernel
theorem dX7_play_78 : decode cX7_play 78 = .ok (.iload_n 2, 1) := by decide +kernel
theorem dX7_play_79 : decode cX7_play 79 = .ok (.isub, 1) := by decide +kernel
theorem dX7_play_80 : decode cX7_play 80 = .ok (.putfield 150, 3) := by decide +kernel
theorem dX7_play_83 : decode cX7_play 83 = .ok (.aload_n 0, 1) := by decide +kernel
theorem dX7_play_84 : decode cX7_play 84 = .ok (.dup, 1) := by decide +kernel
theorem dX7_play_85 : decode cX7_play 85 = .ok (.getfield 106, 3) := by decide +kernel
theorem dX7_play_88 : decode cX7_play 88 = .ok (.iconst 1, 1) := by decide +kernel
theorem dX7_play_89 : decode cX7_play 89 = .ok (.iadd, 1) := by decide +kernel
theorem dX7_play_90 : decode cX7_play 90 = .ok (.putfield 106, 3) := by decide +kernel
theorem dX7_play_93 : decode cX7_play 93 = .ok (.iload_n 2, 1) := by decide +kernel
theorem dX7_play_94 : decode cX7_play 94 = .ok (.ireturn, 1) := by decide +kernel
theorem dX7_day_0 : decode cX7_day 0 = .ok (.aload_n 0, 1) := by decide +kernel
theorem dX7_day_1 : decode cX7_day 1 = .ok (.iconst 0, 1) := by decide +kernel
theorem dX7_day_2 : decode cX7_day 2 = .ok (.putfield 74, 3) := by decide +kernel
theorem dX7_day_5 : decode cX7_day 5 = .ok (.aload_n 0, 1) := by decide +kernel
theorem dX7_day_6 : decode cX7_day 6 = .ok (.getfield 106, 3) := by decide +kernel
theorem dX7_day_9 : decode cX7_day 9 = .ok (.ireturn, 1) := by decide +kernel
theorem dX7_stateOf_0 : decode cX7_stateOf 0 = .ok (.aload_n 0, 1) := by decide +kernel
theorem dX7_stateOf_1 : decode cX7_stateOf 1 = .ok (.iconst 0, 1) := by decide +kernel
theorem dX7_stateOf_2 : decode cX7_stateOf 2 = .ok (.putfield 74, 3) := by decide +kernel
theorem dX7_stateOf_5 : decode cX7_stateOf 5 = .ok (.iload_n 1, 1) := by decide +kernel
theorem dX7_stateOf_6 : decode cX7_stateOf 6 = .ok (.iconst 0, 1) := by decide +kernel
theorem dX7_stateOf_7 : decode cX7_stateOf 7 = .ok (.aload_n 0, 1) := by decide +kernel
theorem dX7_stateOf_8 : decode cX7_stateOf 8 = .ok (.getfield 141, 3) := by decide +kernel
theorem dX7_stateOf_11 : decode cX7_stateOf 11 = .ok (.iconst 1, 1) := by decide +kernel
theorem dX7_stateOf_12 : decode cX7_stateOf 12 = .ok (.isub, 1) := by decide +kernel
theorem dX7_stateOf_13 : decode cX7_stateOf 13 = .ok (.invokestatic 77, 3) := by decide +kernel
theorem dX7_stateOf_16 : decode cX7_stateOf 16 = .ok (.ifCond .eq 12, 3) := by decide +kernel
theorem dX7_stateOf_19 : decode cX7_stateOf 19 = .ok (.aload_n 0, 1) := by decide +kernel
theorem dX7_stateOf_20 : decode cX7_stateOf 20 = .ok (.getfield 41, 3) := by decide +kernel
theorem dX7_stateOf_23 : decode cX7_stateOf 23 = .ok (.iload_n 1, 1) := by decide +kernel
theorem dX7_stateOf_24 : decode cX7_stateOf 24 = .ok (.iaload, 1) := by decide +kernel
theorem dX7_stateOf_25 : decode cX7_stateOf 25 = .ok (.goto 8, 3) := by decide +kernel
theorem dX7_stateOf_28 : decode cX7_stateOf 28 = .ok (.aload_n 0, 1) := by decide +kernel
theorem dX7_stateOf_29 : decode cX7_stateOf 29 = .ok (.iconst 1, 1) := by decide +kernel
theorem dX7_stateOf_30 : decode cX7_stateOf 30 = .ok (.invokevirtual 81, 3) := by decide +kernel
theorem dX7_stateOf_33 : decode cX7_stateOf 33 = .ok (.ireturn, 1) := by decide +kernel
theorem dX7_played_0 : decode cX7_played 0 = .ok (.aload_n 0, 1) := by decide +kernel
theorem dX7_played_1 : decode cX7_played 1 = .ok (.iconst 0, 1) := by decide +kernel
theorem dX7_played_2 : decode cX7_played 2 = .ok (.putfield 74, 3) := by decide +kernel
theorem dX7_played_5 : decode cX7_played 5 = .ok (.iload_n 1, 1) := by decide +kernel
theorem dX7_played_6 : decode cX7_played 6 = .ok (.iconst 0, 1) := by decide +kernel
theorem dX7_played_7 : decode cX7_played 7 = .ok (.aload_n 0, 1) := by decide +kernel
theorem dX7_played_8 : decode cX7_played 8 = .ok (.getfield 141, 3) := by decide +kernel
theorem dX7_played_11 : decode cX7_played 11 = .ok (.iconst 1, 1) := by decide +kernel
theorem dX7_played_12 : decode cX7_played 12 = .ok (.isub, 1) := by decide +kernel
theorem dX7_played_13 : decode cX7_played 13 = .ok (.invokestatic 77, 3) := by decide +kernel
theorem dX7_played_16 : decode cX7_played 16 = .ok (.ifCond .eq 24, 3) := by decide +kernel
theorem dX7_played_19 : decode cX7_played 19 = .ok (.iload_n 2, 1) := by decide +kernel
theorem dX7_played_20 : decode cX7_played 20 = .ok (.invokestatic 89, 3) := by decide +kernel
theorem dX7_played_23 : decode cX7_played 23 = .ok (.ifCond .eq 17, 3) := by decide +kernel
theorem dX7_played_26 : decode cX7_played 26 = .ok (.aload_n 0, 1) := by decide +kernel
theorem dX7_played_27 : decode cX7_played 27 = .ok (.getfield 44, 3) := by decide +kernel
theorem dX7_played_30 : decode cX7_played 30 = .ok (.bipush 8, 2) := by decide +kernel
theorem dX7_played_32 : decode cX7_played 32 = .ok (.iload_n 1, 1) := by decide +kernel
theorem dX7_played_33 : decode cX7_played 33 = .ok (.imul, 1) := by decide +kernel
theorem dX7_played_34 : decode cX7_played 34 = .ok (.iload_n 2, 1) := by decide +kernel
theorem dX7_played_35 : decode cX7_played 35 = .ok (.iadd, 1) := by decide +kernel
theorem dX7_played_36 : decode cX7_played 36 = .ok (.iaload, 1) := by decide +kernel
theorem dX7_played_37 : decode cX7_played 37 = .ok (.goto 8, 3) := by decide +kernel
theorem dX7_played_40 : decode cX7_played 40 = .ok (.aload_n 0, 1) := by decide +kernel
theorem dX7_played_41 : decode cX7_played 41 = .ok (.iconst 1, 1) := by decide +kernel
theorem dX7_played_42 : decode cX7_played 42 = .ok (.invokevirtual 81, 3) := by decide +kernel
theorem dX7_played_45 : decode cX7_played 45 = .ok (.ireturn, 1) := by decide +kernel
theorem dX7_refund_0 : decode cX7_refund 0 = .ok (.aload_n 0, 1) := by decide +kernel
theorem dX7_refund_1 : decode cX7_refund 1 = .ok (.iconst 0, 1) := by decide +kernel
theorem dX7_refund_2 : decode cX7_refund 2 = .ok (.putfield 74, 3) := by decide +kernel
theorem dX7_refund_5 : decode cX7_refund 5 = .ok (.iload_n 1, 1) := by decide +kernel
theorem dX7_refund_6 : decode cX7_refund 6 = .ok (.iconst 0, 1) := by decide +kernel
theorem dX7_refund_7 : decode cX7_refund 7 = .ok (.aload_n 0, 1) := by decide +kernel
theorem dX7_refund_8 : decode cX7_refund 8 = .ok (.getfield 147, 3) := by decide +kernel
theorem dX7_refund_11 : decode cX7_refund 11 = .ok (.iconst 1, 1) := by decide +kernel
theorem dX7_refund_12 : decode cX7_refund 12 = .ok (.isub, 1) := by decide +kernel
theorem dX7_refund_13 : decode cX7_refund 13 = .ok (.invokestatic 77, 3) := by decide +kernel
theorem dX7_refund_16 : decode cX7_refund 16 = .ok (.ifCond .eq 12, 3) := by decide +kernel
theorem dX7_refund_19 : decode cX7_refund 19 = .ok (.aload_n 0, 1) := by decide +kernel
theorem dX7_refund_20 : decode cX7_refund 20 = .ok (.getfield 62, 3) := by decide +kernel
theorem dX7_refund_23 : decode cX7_refund 23 = .ok (.iload_n 1, 1) := by decide +kernel
theorem dX7_refund_24 : decode cX7_refund 24 = .ok (.iaload, 1) := by decide +kernel
theorem dX7_refund_25 : decode cX7_refund 25 = .ok (.goto 8, 3) := by decide +kernel
theorem dX7_refund_28 : decode cX7_refund 28 = .ok (.aload_n 0, 1) := by decide +kernel
theorem dX7_refund_29 : decode cX7_refund 29 = .ok (.iconst 1, 1) := by decide +kernel
theorem dX7_refund_30 : decode cX7_refund 30 = .ok (.invokevirtual 81, 3) := by decide +kernel
theorem dX7_refund_33 : decode cX7_refund 33 = .ok (.ireturn, 1) := by decide +kernel
theorem dX7_takings_0 : decode cX7_takings 0 = .ok (.aload_n 0, 1) := by decide +kernel
theorem dX7_takings_1 : decode cX7_takings 1 = .ok (.iconst 0, 1) := by decide +kernel
theorem dX7_takings_2 : decode cX7_takings 2 = .ok (.putfield 74, 3) := by decide +kernel
theorem dX7_takings_5 : decode cX7_takings 5 = .ok (.aload_n 0, 1) := by decide +kernel
theorem dX7_takings_6 : decode cX7_takings 6 = .ok (.getfield 150, 3) := by decide +kernel
theorem dX7_takings_9 : decode cX7_takings 9 = .ok (.ireturn, 1) := by decide +kernel
theorem dJ6_bitCount_0f7a4_0 : decode cJ6_bitCount_0f7a4 0 = .ok (.iload_n 0, 1) := by decide +kernel
theorem dJ6_bitCount_0f7a4_1 : decode cJ6_bitCount_0f7a4 1 = .ok (.iload_n 0, 1) := by decide +kernel
theorem dJ6_bitCount_0f7a4_2 : decode cJ6_bitCount_0f7a4 2 = .ok (.iconst 1, 1) := by decide +kernel
theorem dJ6_bitCount_0f7a4_3 : decode cJ6_bitCount_0f7a4 3 = .ok (.iushr, 1) := by decide +kernel
theorem dJ6_bitCount_0f7a4_4 : decode cJ6_bitCount_0f7a4 4 = .ok (.ldc_w 265, 3) := by decide +kernel
theorem dJ6_bitCount_0f7a4_7 : decode cJ6_bitCount_0f7a4 7 = .ok (.iand, 1) := by decide +kernel
theorem dJ6_bitCount_0f7a4_8 : decode cJ6_bitCount_0f7a4 8 = .ok (.isub, 1) := by decide +kernel
theorem dJ6_bitCount_0f7a4_9 : decode cJ6_bitCount_0f7a4 9 = .ok (.istore_n 0, 1) := by decide +kernel
theorem dJ6_bitCount_0f7a4_10 : decode cJ6_bitCount_0f7a4 10 = .ok (.iload_n 0, 1) := by decide +kernel
theorem dJ6_bitCount_0f7a4_11 : decode cJ6_bitCount_0f7a4 11 = .ok (.ldc_w 266, 3) := by decide +kernel
theorem dJ6_bitCount_0f7a4_14 : decode cJ6_bitCount_0f7a4 14 = .ok (.iand, 1) := by decide +kernel
theorem dJ6_bitCount_0f7a4_15 : decode cJ6_bitCount_0f7a4 15 = .ok (.iload_n 0, 1) := by decide +kernel
theorem dJ6_bitCount_0f7a4_16 : decode cJ6_bitCount_0f7a4 16 = .ok (.iconst 2, 1) := by decide +kernel
theorem dJ6_bitCount_0f7a4_17 : decode cJ6_bitCount_0f7a4 17 = .ok (.iushr, 1) := by decide +kernel
theorem dJ6_bitCount_0f7a4_18 : decode cJ6_bitCount_0f7a4 18 = .ok (.ldc_w 266, 3) := by decide +kernel
theorem dJ6_bitCount_0f7a4_21 : decode cJ6_bitCount_0f7a4 21 = .ok (.iand, 1) := by decide +kernel
theorem dJ6_bitCount_0f7a4_22 : decode cJ6_bitCount_0f7a4 22 = .ok (.iadd, 1) := by decide +kernel
theorem dJ6_bitCount_0f7a4_23 : decode cJ6_bitCount_0f7a4 23 = .ok (.istore_n 0, 1) := by decide +kernel
theorem dJ6_bitCount_0f7a4_24 : decode cJ6_bitCount_0f7a4 24 = .ok (.iload_n 0, 1) := by decide +kernel
theorem dJ6_bitCount_0f7a4_25 : decode cJ6_bitCount_0f7a4 25 = .ok (.iload_n 0, 1) := by decide +kernel
theorem dJ6_bitCount_0f7a4_26 : decode cJ6_bitCount_0f7a4 26 = .ok (.iconst 4, 1) := by decide +kernel
theorem dJ6_bitCount_0f7a4_27 : decode cJ6_bitCount_0f7a4 27 = .ok (.iushr, 1) := by decide +kernel
theorem dJ6_bitCount_0f7a4_28 : decode cJ6_bitCount_0f7a4 28 = .ok (.iadd, 1) := by decide +kernel
theorem dJ6_bitCount_0f7a4_29 : decode cJ6_bitCount_0f7a4 29 = .ok (.ldc_w 267, 3) := by decide +kernel
theorem dJ6_bitCount_0f7a4_32 : decode cJ6_bitCount_0f7a4 32 = .ok (.iand, 1) := by decide +kernel
theorem dJ6_bitCount_0f7a4_33 : decode cJ6_bitCount_0f7a4 33 = .ok (.istore_n 0, 1) := by decide +kernel
theorem dJ6_bitCount_0f7a4_34 : decode cJ6_bitCount_0f7a4 34 = .ok (.iload_n 0, 1) := by decide +kernel
theorem dJ6_bitCount_0f7a4_35 : decode cJ6_bitCount_0f7a4 35 = .ok (.iload_n 0, 1) := by decide +kernel
theorem dJ6_bitCount_0f7a4_36 : decode cJ6_bitCount_0f7a4 36 = .ok (.bipush 8, 2) := by decide +kernel
theorem dJ6_bitCount_0f7a4_38 : decode cJ6_bitCount_0f7a4 38 = .ok (.iushr, 1) := by decide +kernel
theorem dJ6_bitCount_0f7a4_39 : decode cJ6_bitCount_0f7a4 39 = .ok (.iadd, 1) := by decide +kernel
theorem dJ6_bitCount_0f7a4_40 : decode cJ6_bitCount_0f7a4 40 = .ok (.istore_n 0, 1) := by decide +kernel
theorem dJ6_bitCount_0f7a4_41 : decode cJ6_bitCount_0f7a4 41 = .ok (.iload_n 0, 1) := by decide +kernel
theorem dJ6_bitCount_0f7a4_42 : decode cJ6_bitCount_0f7a4 42 = .ok (.iload_n 0, 1) := by decide +kernel
theorem dJ6_bitCount_0f7a4_43 : decode cJ6_bitCount_0f7a4 43 = .ok (.bipush 16, 2) := by decide +kernel
theorem dJ6_bitCount_0f7a4_45 : decode cJ6_bitCount_0f7a4 45 = .ok (.iushr, 1) := by decide +kernel
theorem dJ6_bitCount_0f7a4_46 : decode cJ6_bitCount_0f7a4 46 = .ok (.iadd, 1) := by decide +kernel
theorem dJ6_bitCount_0f7a4_47 : decode cJ6_bitCount_0f7a4 47 = .ok (.istore_n 0, 1) := by decide +kernel
theorem dJ6_bitCount_0f7a4_48 : decode cJ6_bitCount_0f7a4 48 = .ok (.iload_n 0, 1) := by decide +kernel
theorem dJ6_bitCount_0f7a4_49 : decode cJ6_bitCount_0f7a4 49 = .ok (.bipush 63, 2) := by decide +kernel
theorem dJ6_bitCount_0f7a4_51 : decode cJ6_bitCount_0f7a4 51 = .ok (.iand, 1) := by decide +kernel
theorem dJ6_bitCount_0f7a4_52 : decode cJ6_bitCount_0f7a4 52 = .ok (.ireturn, 1) := by decide +kernel
theorem dJ9_max_7cf53_0 : decode cJ9_max_7cf53 0 = .ok (.iload_n 0, 1) := by decide +kernel
theorem dJ9_max_7cf53_1 : decode cJ9_max_7cf53 1 = .ok (.iload_n 1, 1) := by decide +kernel
theorem dJ9_max_7cf53_2 : decode cJ9_max_7cf53 2 = .ok (.if_icmp .lt 7, 3) := by decide +kernel
theorem dJ9_max_7cf53_5 : decode cJ9_max_7cf53 5 = .ok (.iload_n 0, 1) := by decide +kernel
theorem dJ9_max_7cf53_6 : decode cJ9_max_7cf53 6 = .ok (.goto 4, 3) := by decide +kernel
theorem dJ9_max_7cf53_9 : decode cJ9_max_7cf53 9 = .ok (.iload_n 1, 1) := by decide +kernel
theorem dJ9_max_7cf53_10 : decode cJ9_max_7cf53 10 = .ok (.ireturn, 1) := by decide +kernel
theorem dL_setParts_0 : decode cL_setParts 0 = .ok (.aload_n 2, 1) := by decide +kernel
theorem dL_setParts_1 : decode cL_setParts 1 = .ok (.iconst 0, 1) := by decide +kernel
theorem dL_setParts_2 : decode cL_setParts 2 = .ok (.aload_n 0, 1) := by decide +kernel
theorem dL_setParts_3 : decode cL_setParts 3 = .ok (.iload_n 1, 1) := by decide +kernel
theorem dL_setParts_4 : decode cL_setParts 4 = .ok (.invokevirtual 7, 3) := by decide +kernel
theorem dL_setParts_7 : decode cL_setParts 7 = .ok (.i2l, 1) := by decide +kernel
theorem dL_setParts_8 : decode cL_setParts 8 = .ok (.lastore, 1) := by decide +kernel
theorem dL_setParts_9 : decode cL_setParts 9 = .ok (.goto 6, 3) := by decide +kernel
theorem dL_setParts_12 : decode cL_setParts 12 = .ok (.astore_n 3, 1) := by decide +kernel
theorem dL_setParts_13 : decode cL_setParts 13 = .ok (.iconst 1, 1) := by decide +kernel
theorem dL_setParts_14 : decode cL_setParts 14 = .ok (.ireturn, 1) := by decide +kernel
theorem dL_setParts_15 : decode cL_setParts 15 = .ok (.iconst 0, 1) := by decide +kernel
theorem dL_setParts_16 : decode cL_setParts 16 = .ok (.ireturn, 1) := by decide +kernel
theorem dL_setSize_0 : decode cL_setSize 0 = .ok (.aload_n 3, 1) := by decide +kernel
theorem dL_setSize_1 : decode cL_setSize 1 = .ok (.iconst 0, 1) := by decide +kernel
theorem dL_setSize_2 : decode cL_setSize 2 = .ok (.aload_n 0, 1) := by decide +kernel
theorem dL_setSize_3 : decode cL_setSize 3 = .ok (.iload_n 1, 1) := by decide +kernel
theorem dL_setSize_4 : decode cL_setSize 4 = .ok (.iload_n 2, 1) := by decide +kernel
theorem dL_setSize_5 : decode cL_setSize 5 = .ok (.invokevirtual 15, 3) := by decide +kernel
theorem dL_setSize_8 : decode cL_setSize 8 = .ok (.i2l, 1) := by decide +kernel
theorem dL_setSize_9 : decode cL_setSize 9 = .ok (.lastore, 1) := by decide +kernel
theorem dL_setSize_10 : decode cL_setSize 10 = .ok (.goto 11, 3) := by decide +kernel
theorem dL_setSize_13 : decode cL_setSize 13 = .ok (.astore 4, 2) := by decide +kernel
theorem dL_setSize_15 : decode cL_setSize 15 = .ok (.iconst 1, 1) := by decide +kernel
theorem dL_setSize_16 : decode cL_setSize 16 = .ok (.ireturn, 1) := by decide +kernel
theorem dL_setSize_17 : decode cL_setSize 17 = .ok (.astore 4, 2) := by decide +kernel
theorem dL_setSize_19 : decode cL_setSize 19 = .ok (.iconst 2, 1) := by decide +kernel
theorem dL_setSize_20 : decode cL_setSize 20 = .ok (.ireturn, 1) := by decide +kernel
theorem dL_setSize_21 : decode cL_setSize 21 = .ok (.iconst 0, 1) := by decide +kernel
theorem dL_setSize_22 : decode cL_setSize 22 = .ok (.ireturn, 1) := by decide +kernel
theorem dL_learn_0 : decode cL_learn 0 = .ok (.aload 4, 2) := by decide +kernel
theorem dL_learn_2 : decode cL_learn 2 = .ok (.iconst 0, 1) := by decide +kernel
theorem dL_learn_3 : decode cL_learn 3 = .ok (.aload_n 0, 1) := by decide +kernel
theorem dL_learn_4 : decode cL_learn 4 = .ok (.iload_n 1, 1) := by decide +kernel
theorem dL_learn_5 : decode cL_learn 5 = .ok (.iload_n 2, 1) := by decide +kernel
theorem dL_learn_6 : decode cL_learn 6 = .ok (.iload_n 3, 1) := by decide +kernel
theorem dL_learn_7 : decode cL_learn 7 = .ok (.invokevirtual 21, 3) := by decide +kernel
theorem dL_learn_10 : decode cL_learn 10 = .ok (.i2l, 1) := by decide +kernel
theorem dL_learn_11 : decode cL_learn 11 = .ok (.lastore, 1) := by decide +kernel
theorem dL_learn_12 : decode cL_learn 12 = .ok (.goto 11, 3) := by decide +kernel
theorem dL_learn_15 : decode cL_learn 15 = .ok (.astore 5, 2) := by decide +kernel
theorem dL_learn_17 : decode cL_learn 17 = .ok (.iconst 1, 1) := by decide +kernel
theorem dL_learn_18 : decode cL_learn 18 = .ok (.ireturn, 1) := by decide +kernel
theorem dL_learn_19 : decode cL_learn 19 = .ok (.astore 5, 2) := by decide +kernel
theorem dL_learn_21 : decode cL_learn 21 = .ok (.iconst 2, 1) := by decide +kernel
theorem dL_learn_22 : decode cL_learn 22 = .ok (.ireturn, 1) := by decide +kernel
theorem dL_learn_23 : decode cL_learn 23 = .ok (.iconst 0, 1) := by decide +kernel
theorem dL_learn_24 : decode cL_learn 24 = .ok (.ireturn, 1) := by decide +kernel
theorem dL_put_0 : decode cL_put 0 = .ok (.aload_n 3, 1) := by decide +kernel
theorem dL_put_1 : decode cL_put 1 = .ok (.iconst 0, 1) := by decide +kernel
theorem dL_put_2 : decode cL_put 2 = .ok (.aload_n 0, 1) := by decide +kernel
theorem dL_put_3 : decode cL_put 3 = .ok (.iload_n 1, 1) := by decide +kernel
theorem dL_put_4 : decode cL_put 4 = .ok (.iload_n 2, 1) := by decide +kernel
theorem dL_put_5 : decode cL_put 5 = .ok (.invokevirtual 27, 3) := by decide +kernel
theorem dL_put_8 : decode cL_put 8 = .ok (.i2l, 1) := by decide +kernel
theorem dL_put_9 : decode cL_put 9 = .ok (.lastore, 1) := by decide +kernel
theorem dL_put_10 : decode cL_put 10 = .ok (.goto 11, 3) := by decide +kernel
theorem dL_put_13 : decode cL_put 13 = .ok (.astore 4, 2) := by decide +kernel
theorem dL_put_15 : decode cL_put 15 = .ok (.iconst 1, 1) := by decide +kernel
theorem dL_put_16 : decode cL_put 16 = .ok (.ireturn, 1) := by decide +kernel
theorem dL_put_17 : decode cL_put 17 = .ok (.astore 4, 2) := by decide +kernel
theorem dL_put_19 : decode cL_put 19 = .ok (.iconst 2, 1) := by decide +kernel
theorem dL_put_20 : decode cL_put 20 = .ok (.ireturn, 1) := by decide +kernel
theorem dL_put_21 : decode cL_put 21 = .ok (.iconst 0, 1) := by decide +kernel
theorem dL_put_22 : decode cL_put 22 = .ok (.ireturn, 1) := by decide +kernel
theorem dL_take_0 : decode cL_take 0 = .ok (.aload_n 3, 1) := by decide +kernel
theorem dL_take_1 : decode cL_take 1 = .ok (.iconst 0, 1) := by decide +kernel
theorem dL_take_2 : decode cL_take 2 = .ok (.aload_n 0, 1) := by decide +kernel
theorem dL_take_3 : decode cL_take 3 = .ok (.iload_n 1, 1) := by decide +kernel
theorem dL_take_4 : decode cL_take 4 = .ok (.iload_n 2, 1) := by decide +kernel
theorem dL_take_5 : decode cL_take 5 = .ok (.invokevirtual 30, 3) := by decide +kernel
theorem dL_take_8 : decode cL_take 8 = .ok (.i2l, 1) := by decide +kernel
theorem dL_take_9 : decode cL_take 9 = .ok (.lastore, 1) := by decide +kernel
theorem dL_take_10 : decode cL_take 10 = .ok (.goto 11, 3) := by decide +kernel
theorem dL_take_13 : decode cL_take 13 = .ok (.astore 4, 2) := by decide +kernel
theorem dL_take_15 : decode cL_take 15 = .ok (.iconst 1, 1) := by decide +kernel
theorem dL_take_16 : decode cL_take 16 = .ok (.ireturn, 1) := by decide +kernel
theorem dL_take_17 : decode cL_take 17 = .ok (.astore 4, 2) := by decide +kernel
theorem dL_take_19 : decode cL_take 19 = .ok (.iconst 2, 1) := by decide +kernel
theorem dL_take_20 : decode cL_take 20 = .ok (.ireturn, 1) := by decide +kernel
theorem dL_take_21 : decode cL_take 21 = .ok (.iconst 0, 1) := by decide +kernel
theorem dL_take_22 : decode cL_take 22 = .ok (.ireturn, 1) := by decide +kernel
theorem dL_costume_0 : decode cL_costume 0 = .ok (.aload_n 3, 1) := by decide +kernel
theorem dL_costume_1 : decode cL_costume 1 = .ok (.iconst 0, 1) := by decide +kernel
theorem dL_costume_2 : decode cL_costume 2 = .ok (.aload_n 0, 1) := by decide +kernel
theorem dL_costume_3 : decode cL_costume 3 = .ok (.iload_n 1, 1) := by decide +kernel
theorem dL_costume_4 : decode cL_costume 4 = .ok (.iload_n 2, 1) := by decide +kernel
theorem dL_costume_5 : decode cL_costume 5 = .ok (.invokevirtual 33, 3) := by decide +kernel
theorem dL_costume_8 : decode cL_costume 8 = .ok (.i2l, 1) := by decide +kernel
theorem dL_costume_9 : decode cL_costume 9 = .ok (.lastore, 1) := by decide +kernel
theorem dL_costume_10 : decode cL_costume 10 = .ok (.goto 15, 3) := by decide +kernel
theorem dL_costume_13 : decode cL_costume 13 = .ok (.astore 4, 2) := by decide +kernel
theorem dL_costume_15 : decode cL_costume 15 = .ok (.iconst 1, 1) := by decide +kernel
theorem dL_costume_16 : decode cL_costume 16 = .ok (.ireturn, 1) := by decide +kernel
theorem dL_costume_17 : decode cL_costume 17 = .ok (.astore 4, 2) := by decide +kernel
theorem dL_costume_19 : decode cL_costume 19 = .ok (.iconst 2, 1) := by decide +kernel
theorem dL_costume_20 : decode cL_costume 20 = .ok (.ireturn, 1) := by decide +kernel
theorem dL_costume_21 : decode cL_costume 21 = .ok (.astore 4, 2) := by decide +kernel
theorem dL_costume_23 : decode cL_costume 23 = .ok (.iconst 3, 1) := by decide +kernel
theorem dL_costume_24 : decode cL_costume 24 = .ok (.ireturn, 1) := by decide +kernel
theorem dL_costume_25 : decode cL_costume 25 = .ok (.iconst 0, 1) := by decide +kernel
theorem dL_costume_26 : decode cL_costume 26 = .ok (.ireturn, 1) := by decide +kernel
theorem dL_sizeOf_0 : decode cL_sizeOf 0 = .ok (.aload_n 2, 1) := by decide +kernel
theorem dL_sizeOf_1 : decode cL_sizeOf 1 = .ok (.iconst 0, 1) := by decide +kernel
theorem dL_sizeOf_2 : decode cL_sizeOf 2 = .ok (.aload_n 0, 1) := by decide +kernel
theorem dL_sizeOf_3 : decode cL_sizeOf 3 = .ok (.iload_n 1, 1) := by decide +kernel
theorem dL_sizeOf_4 : decode cL_sizeOf 4 = .ok (.invokevirtual 36, 3) := by decide +kernel
theorem dL_sizeOf_7 : decode cL_sizeOf 7 = .ok (.i2l, 1) := by decide +kernel
theorem dL_sizeOf_8 : decode cL_sizeOf 8 = .ok (.lastore, 1) := by decide +kernel
theorem dL_sizeOf_9 : decode cL_sizeOf 9 = .ok (.goto 6, 3) := by decide +kernel
theorem dL_sizeOf_12 : decode cL_sizeOf 12 = .ok (.astore_n 3, 1) := by decide +kernel
theorem dL_sizeOf_13 : decode cL_sizeOf 13 = .ok (.iconst 1, 1) := by decide +kernel
theorem dL_sizeOf_14 : decode cL_sizeOf 14 = .ok (.ireturn, 1) := by decide +kernel
theorem dL_sizeOf_15 : decode cL_sizeOf 15 = .ok (.iconst 0, 1) := by decide +kernel
theorem dL_sizeOf_16 : decode cL_sizeOf 16 = .ok (.ireturn, 1) := by decide +kernel
theorem dL_cold_0 : decode cL_cold 0 = .ok (.aload 4, 2) := by decide +kernel
theorem dL_cold_2 : decode cL_cold 2 = .ok (.iconst 0, 1) := by decide +kernel
theorem dL_cold_3 : decode cL_cold 3 = .ok (.aload_n 0, 1) := by decide +kernel
theorem dL_cold_4 : decode cL_cold 4 = .ok (.iload_n 1, 1) := by decide +kernel
theorem dL_cold_5 : decode cL_cold 5 = .ok (.iload_n 2, 1) := by decide +kernel
theorem dL_cold_6 : decode cL_cold 6 = .ok (.iload_n 3, 1) := by decide +kernel
theorem dL_cold_7 : decode cL_cold 7 = .ok (.invokevirtual 39, 3) := by decide +kernel
theorem dL_cold_10 : decode cL_cold 10 = .ok (.i2l, 1) := by decide +kernel
theorem dL_cold_11 : decode cL_cold 11 = .ok (.lastore, 1) := by decide +kernel
theorem dL_cold_12 : decode cL_cold 12 = .ok (.goto 11, 3) := by decide +kernel
theorem dL_cold_15 : decode cL_cold 15 = .ok (.astore 5, 2) := by decide +kernel
theorem dL_cold_17 : decode cL_cold 17 = .ok (.iconst 1, 1) := by decide +kernel
theorem dL_cold_18 : decode cL_cold 18 = .ok (.ireturn, 1) := by decide +kernel
theorem dL_cold_19 : decode cL_cold 19 = .ok (.astore 5, 2) := by decide +kernel
theorem dL_cold_21 : decode cL_cold 21 = .ok (.iconst 2, 1) := by decide +kernel
theorem dL_cold_22 : decode cL_cold 22 = .ok (.ireturn, 1) := by decide +kernel
theorem dL_cold_23 : decode cL_cold 23 = .ok (.iconst 0, 1) := by decide +kernel
theorem dL_cold_24 : decode cL_cold 24 = .ok (.ireturn, 1) := by decide +kernel
theorem dL_isIll_0 : decode cL_isIll 0 = .ok (.aload_n 3, 1) := by decide +kernel
theorem dL_isIll_1 : decode cL_isIll 1 = .ok (.iconst 0, 1) := by decide +kernel
theorem dL_isIll_2 : decode cL_isIll 2 = .ok (.aload_n 0, 1) := by decide +kernel
theorem dL_isIll_3 : decode cL_isIll 3 = .ok (.iload_n 1, 1) := by decide +kernel
theorem dL_isIll_4 : decode cL_isIll 4 = .ok (.iload_n 2, 1) := by decide +kernel
theorem dL_isIll_5 : decode cL_isIll 5 = .ok (.invokevirtual 43, 3) := by decide +kernel
theorem dL_isIll_8 : decode cL_isIll 8 = .ok (.ifCond .eq 7, 3) := by decide +kernel
theorem dL_isIll_11 : decode cL_isIll 11 = .ok (.lconst 1, 1) := by decide +kernel
theorem dL_isIll_12 : decode cL_isIll 12 = .ok (.goto 4, 3) := by decide +kernel
theorem dL_isIll_15 : decode cL_isIll 15 = .ok (.lconst 0, 1) := by decide +kernel
theorem dL_isIll_16 : decode cL_isIll 16 = .ok (.lastore, 1) := by decide +kernel
theorem dL_isIll_17 : decode cL_isIll 17 = .ok (.goto 11, 3) := by decide +kernel
theorem dL_isIll_20 : decode cL_isIll 20 = .ok (.astore 4, 2) := by decide +kernel
theorem dL_isIll_22 : decode cL_isIll 22 = .ok (.iconst 1, 1) := by decide +kernel
theorem dL_isIll_23 : decode cL_isIll 23 = .ok (.ireturn, 1) := by decide +kernel
theorem dL_isIll_24 : decode cL_isIll 24 = .ok (.astore 4, 2) := by decide +kernel
theorem dL_isIll_26 : decode cL_isIll 26 = .ok (.iconst 2, 1) := by decide +kernel
theorem dL_isIll_27 : decode cL_isIll 27 = .ok (.ireturn, 1) := by decide +kernel
theorem dL_isIll_28 : decode cL_isIll 28 = .ok (.iconst 0, 1) := by decide +kernel
theorem dL_isIll_29 : decode cL_isIll 29 = .ok (.ireturn, 1) := by decide +kernel
theorem dL_canPlay_0 : decode cL_canPlay 0 = .ok (.aload 4, 2) := by decide +kernel
theorem dL_canPlay_2 : decode cL_canPlay 2 = .ok (.iconst 0, 1) := by decide +kernel
theorem dL_canPlay_3 : decode cL_canPlay 3 = .ok (.aload_n 0, 1) := by decide +kernel
theorem dL_canPlay_4 : decode cL_canPlay 4 = .ok (.iload_n 1, 1) := by decide +kernel
theorem dL_canPlay_5 : decode cL_canPlay 5 = .ok (.iload_n 2, 1) := by decide +kernel
theorem dL_canPlay_6 : decode cL_canPlay 6 = .ok (.iload_n 3, 1) := by decide +kernel
theorem dL_canPlay_7 : decode cL_canPlay 7 = .ok (.invokevirtual 47, 3) := by decide +kernel
theorem dL_canPlay_10 : decode cL_canPlay 10 = .ok (.ifCond .eq 7, 3) := by decide +kernel
theorem dL_canPlay_13 : decode cL_canPlay 13 = .ok (.lconst 1, 1) := by decide +kernel
theorem dL_canPlay_14 : decode cL_canPlay 14 = .ok (.goto 4, 3) := by decide +kernel
theorem dL_canPlay_17 : decode cL_canPlay 17 = .ok (.lconst 0, 1) := by decide +kernel
theorem dL_canPlay_18 : decode cL_canPlay 18 = .ok (.lastore, 1) := by decide +kernel
theorem dL_canPlay_19 : decode cL_canPlay 19 = .ok (.goto 11, 3) := by decide +kernel
theorem dL_canPlay_22 : decode cL_canPlay 22 = .ok (.astore 5, 2) := by decide +kernel
theorem dL_canPlay_24 : decode cL_canPlay 24 = .ok (.iconst 1, 1) := by decide +kernel
theorem dL_canPlay_25 : decode cL_canPlay 25 = .ok (.ireturn, 1) := by decide +kernel
theorem dL_canPlay_26 : decode cL_canPlay 26 = .ok (.astore 5, 2) := by decide +kernel
theorem dL_canPlay_28 : decode cL_canPlay 28 = .ok (.iconst 2, 1) := by decide +kernel
theorem dL_canPlay_29 : decode cL_canPlay 29 = .ok (.ireturn, 1) := by decide +kernel
theorem dL_canPlay_30 : decode cL_canPlay 30 = .ok (.iconst 0, 1) := by decide +kernel
theorem dL_canPlay_31 : decode cL_canPlay 31 = .ok (.ireturn, 1) := by decide +kernel
theorem dL_strain_0 : decode cL_strain 0 = .ok (.aload_n 2, 1) := by decide +kernel
theorem dL_strain_1 : decode cL_strain 1 = .ok (.iconst 0, 1) := by decide +kernel
theorem dL_strain_2 : decode cL_strain 2 = .ok (.aload_n 0, 1) := by decide +kernel
theorem dL_strain_3 : decode cL_strain 3 = .ok (.iload_n 1, 1) := by decide +kernel
theorem dL_strain_4 : decode cL_strain 4 = .ok (.invokevirtual 51, 3) := by decide +kernel
theorem dL_strain_7 : decode cL_strain 7 = .ok (.i2l, 1) := by decide +kernel
theorem dL_strain_8 : decode cL_strain 8 = .ok (.lastore, 1) := by decide +kernel
theorem dL_strain_9 : decode cL_strain 9 = .ok (.goto 6, 3) := by decide +kernel
theorem dL_strain_12 : decode cL_strain 12 = .ok (.astore_n 3, 1) := by decide +kernel
theorem dL_strain_13 : decode cL_strain 13 = .ok (.iconst 1, 1) := by decide +kernel
theorem dL_strain_14 : decode cL_strain 14 = .ok (.ireturn, 1) := by decide +kernel
theorem dL_strain_15 : decode cL_strain 15 = .ok (.iconst 0, 1) := by decide +kernel
theorem dL_strain_16 : decode cL_strain 16 = .ok (.ireturn, 1) := by decide +kernel
theorem dL_strainByAll_0 : decode cL_strainByAll 0 = .ok (.aload_n 2, 1) := by decide +kernel
theorem dL_strainByAll_1 : decode cL_strainByAll 1 = .ok (.iconst 0, 1) := by decide +kernel
theorem dL_strainByAll_2 : decode cL_strainByAll 2 = .ok (.aload_n 0, 1) := by decide +kernel
theorem dL_strainByAll_3 : decode cL_strainByAll 3 = .ok (.iload_n 1, 1) := by decide +kernel
theorem dL_strainByAll_4 : decode cL_strainByAll 4 = .ok (.invokevirtual 54, 3) := by decide +kernel
theorem dL_strainByAll_7 : decode cL_strainByAll 7 = .ok (.i2l, 1) := by decide +kernel
theorem dL_strainByAll_8 : decode cL_strainByAll 8 = .ok (.lastore, 1) := by decide +kernel
theorem dL_strainByAll_9 : decode cL_strainByAll 9 = .ok (.goto 6, 3) := by decide +kernel
theorem dL_strainByAll_12 : decode cL_strainByAll 12 = .ok (.astore_n 3, 1) := by decide +kernel
theorem dL_strainByAll_13 : decode cL_strainByAll 13 = .ok (.iconst 1, 1) := by decide +kernel
theorem dL_strainByAll_14 : decode cL_strainByAll 14 = .ok (.ireturn, 1) := by decide +kernel
theorem dL_strainByAll_15 : decode cL_strainByAll 15 = .ok (.iconst 0, 1) := by decide +kernel
theorem dL_strainByAll_16 : decode cL_strainByAll 16 = .ok (.ireturn, 1) := by decide +kernel
theorem dL_work_0 : decode cL_work 0 = .ok (.aload_n 2, 1) := by decide +kernel
theorem dL_work_1 : decode cL_work 1 = .ok (.iconst 0, 1) := by decide +kernel
theorem dL_work_2 : decode cL_work 2 = .ok (.aload_n 0, 1) := by decide +kernel
theorem dL_work_3 : decode cL_work 3 = .ok (.iload_n 1, 1) := by decide +kernel
theorem dL_work_4 : decode cL_work 4 = .ok (.invokevirtual 57, 3) := by decide +kernel
theorem dL_work_7 : decode cL_work 7 = .ok (.i2l, 1) := by decide +kernel
theorem dL_work_8 : decode cL_work 8 = .ok (.lastore, 1) := by decide +kernel
theorem dL_work_9 : decode cL_work 9 = .ok (.goto 6, 3) := by decide +kernel
theorem dL_work_12 : decode cL_work 12 = .ok (.astore_n 3, 1) := by decide +kernel
theorem dL_work_13 : decode cL_work 13 = .ok (.iconst 1, 1) := by decide +kernel
theorem dL_work_14 : decode cL_work 14 = .ok (.ireturn, 1) := by decide +kernel
theorem dL_work_15 : decode cL_work 15 = .ok (.iconst 0, 1) := by decide +kernel
theorem dL_work_16 : decode cL_work 16 = .ok (.ireturn, 1) := by decide +kernel
theorem dL_actorFor_0 : decode cL_actorFor 0 = .ok (.aload_n 3, 1) := by decide +kernel
theorem dL_actorFor_1 : decode cL_actorFor 1 = .ok (.iconst 0, 1) := by decide +kernel
theorem dL_actorFor_2 : decode cL_actorFor 2 = .ok (.aload_n 0, 1) := by decide +kernel
theorem dL_actorFor_3 : decode cL_actorFor 3 = .ok (.iload_n 1, 1) := by decide +kernel
theorem dL_actorFor_4 : decode cL_actorFor 4 = .ok (.iload_n 2, 1) := by decide +kernel
theorem dL_actorFor_5 : decode cL_actorFor 5 = .ok (.invokevirtual 60, 3) := by decide +kernel
theorem dL_actorFor_8 : decode cL_actorFor 8 = .ok (.i2l, 1) := by decide +kernel
theorem dL_actorFor_9 : decode cL_actorFor 9 = .ok (.lastore, 1) := by decide +kernel
theorem dL_actorFor_10 : decode cL_actorFor 10 = .ok (.goto 11, 3) := by decide +kernel
theorem dL_actorFor_13 : decode cL_actorFor 13 = .ok (.astore 4, 2) := by decide +kernel
theorem dL_actorFor_15 : decode cL_actorFor 15 = .ok (.iconst 1, 1) := by decide +kernel
theorem dL_actorFor_16 : decode cL_actorFor 16 = .ok (.ireturn, 1) := by decide +kernel
theorem dL_actorFor_17 : decode cL_actorFor 17 = .ok (.astore 4, 2) := by decide +kernel
theorem dL_actorFor_19 : decode cL_actorFor 19 = .ok (.iconst 2, 1) := by decide +kernel
theorem dL_actorFor_20 : decode cL_actorFor 20 = .ok (.ireturn, 1) := by decide +kernel
theorem dL_actorFor_21 : decode cL_actorFor 21 = .ok (.iconst 0, 1) := by decide +kernel
theorem dL_actorFor_22 : decode cL_actorFor 22 = .ok (.ireturn, 1) := by decide +kernel
theorem dL_chain_0 : decode cL_chain 0 = .ok (.aload_n 3, 1) := by decide +kernel
theorem dL_chain_1 : decode cL_chain 1 = .ok (.iconst 0, 1) := by decide +kernel
theorem dL_chain_2 : decode cL_chain 2 = .ok (.aload_n 0, 1) := by decide +kernel
theorem dL_chain_3 : decode cL_chain 3 = .ok (.iload_n 1, 1) := by decide +kernel
theorem dL_chain_4 : decode cL_chain 4 = .ok (.iload_n 2, 1) := by decide +kernel
theorem dL_chain_5 : decode cL_chain 5 = .ok (.invokevirtual 63, 3) := by decide +kernel
theorem dL_chain_8 : decode cL_chain 8 = .ok (.i2l, 1) := by decide +kernel
theorem dL_chain_9 : decode cL_chain 9 = .ok (.lastore, 1) := by decide +kernel
theorem dL_chain_10 : decode cL_chain 10 = .ok (.goto 11, 3) := by decide +kernel
theorem dL_chain_13 : decode cL_chain 13 = .ok (.astore 4, 2) := by decide +kernel
theorem dL_chain_15 : decode cL_chain 15 = .ok (.iconst 1, 1) := by decide +kernel
theorem dL_chain_16 : decode cL_chain 16 = .ok (.ireturn, 1) := by decide +kernel
theorem dL_chain_17 : decode cL_chain 17 = .ok (.astore 4, 2) := by decide +kernel
theorem dL_chain_19 : decode cL_chain 19 = .ok (.iconst 2, 1) := by decide +kernel
theorem dL_chain_20 : decode cL_chain 20 = .ok (.ireturn, 1) := by decide +kernel
theorem dL_chain_21 : decode cL_chain 21 = .ok (.iconst 0, 1) := by decide +kernel
theorem dL_chain_22 : decode cL_chain 22 = .ok (.ireturn, 1) := by decide +kernel
theorem dL_show_0 : decode cL_show 0 = .ok (.aload_n 2, 1) := by decide +kernel
theorem dL_show_1 : decode cL_show 1 = .ok (.iconst 0, 1) := by decide +kernel
theorem dL_show_2 : decode cL_show 2 = .ok (.aload_n 0, 1) := by decide +kernel
theorem dL_show_3 : decode cL_show 3 = .ok (.iload_n 1, 1) := by decide +kernel
theorem dL_show_4 : decode cL_show 4 = .ok (.invokevirtual 66, 3) := by decide +kernel
theorem dL_show_7 : decode cL_show 7 = .ok (.i2l, 1) := by decide +kernel
theorem dL_show_8 : decode cL_show 8 = .ok (.lastore, 1) := by decide +kernel
theorem dL_show_9 : decode cL_show 9 = .ok (.goto 9, 3) := by decide +kernel
theorem dL_show_12 : decode cL_show 12 = .ok (.astore_n 3, 1) := by decide +kernel
theorem dL_show_13 : decode cL_show 13 = .ok (.iconst 1, 1) := by decide +kernel
theorem dL_show_14 : decode cL_show 14 = .ok (.ireturn, 1) := by decide +kernel
theorem dL_show_15 : decode cL_show 15 = .ok (.astore_n 3, 1) := by decide +kernel
theorem dL_show_16 : decode cL_show 16 = .ok (.iconst 2, 1) := by decide +kernel
theorem dL_show_17 : decode cL_show 17 = .ok (.ireturn, 1) := by decide +kernel
theorem dL_show_18 : decode cL_show 18 = .ok (.iconst 0, 1) := by decide +kernel
theorem dL_show_19 : decode cL_show 19 = .ok (.ireturn, 1) := by decide +kernel
theorem dL_sell_0 : decode cL_sell 0 = .ok (.aload 5, 2) := by decide +kernel
theorem dL_sell_2 : decode cL_sell 2 = .ok (.iconst 0, 1) := by decide +kernel
theorem dL_sell_3 : decode cL_sell 3 = .ok (.aload_n 0, 1) := by decide +kernel
theorem dL_sell_4 : decode cL_sell 4 = .ok (.iload_n 1, 1) := by decide +kernel
theorem dL_sell_5 : decode cL_sell 5 = .ok (.iload_n 2, 1) := by decide +kernel
theorem dL_sell_6 : decode cL_sell 6 = .ok (.iload_n 3, 1) := by decide +kernel
theorem dL_sell_7 : decode cL_sell 7 = .ok (.iload 4, 2) := by decide +kernel
theorem dL_sell_9 : decode cL_sell 9 = .ok (.invokevirtual 69, 3) := by decide +kernel
theorem dL_sell_12 : decode cL_sell 12 = .ok (.i2l, 1) := by decide +kernel
theorem dL_sell_13 : decode cL_sell 13 = .ok (.lastore, 1) := by decide +kernel
theorem dL_sell_14 : decode cL_sell 14 = .ok (.goto 15, 3) := by decide +kernel
theorem dL_sell_17 : decode cL_sell 17 = .ok (.astore 6, 2) := by decide +kernel
theorem dL_sell_19 : decode cL_sell 19 = .ok (.iconst 1, 1) := by decide +kernel
theorem dL_sell_20 : decode cL_sell 20 = .ok (.ireturn, 1) := by decide +kernel
theorem dL_sell_21 : decode cL_sell 21 = .ok (.astore 6, 2) := by decide +kernel
theorem dL_sell_23 : decode cL_sell 23 = .ok (.iconst 2, 1) := by decide +kernel
theorem dL_sell_24 : decode cL_sell 24 = .ok (.ireturn, 1) := by decide +kernel
theorem dL_sell_25 : decode cL_sell 25 = .ok (.astore 6, 2) := by decide +kernel
theorem dL_sell_27 : decode cL_sell 27 = .ok (.iconst 3, 1) := by decide +kernel
theorem dL_sell_28 : decode cL_sell 28 = .ok (.ireturn, 1) := by decide +kernel
theorem dL_sell_29 : decode cL_sell 29 = .ok (.iconst 0, 1) := by decide +kernel
theorem dL_sell_30 : decode cL_sell 30 = .ok (.ireturn, 1) := by decide +kernel
theorem dL_play_0 : decode cL_play 0 = .ok (.aload_n 1, 1) := by decide +kernel
theorem dL_play_1 : decode cL_play 1 = .ok (.iconst 0, 1) := by decide +kernel
theorem dL_play_2 : decode cL_play 2 = .ok (.aload_n 0, 1) := by decide +kernel
theorem dL_play_3 : decode cL_play 3 = .ok (.invokevirtual 73, 3) := by decide +kernel
theorem dL_play_6 : decode cL_play 6 = .ok (.i2l, 1) := by decide +kernel
theorem dL_play_7 : decode cL_play 7 = .ok (.lastore, 1) := by decide +kernel
theorem dL_play_8 : decode cL_play 8 = .ok (.goto 6, 3) := by decide +kernel
theorem dL_play_11 : decode cL_play 11 = .ok (.astore_n 2, 1) := by decide +kernel
theorem dL_play_12 : decode cL_play 12 = .ok (.iconst 1, 1) := by decide +kernel
theorem dL_play_13 : decode cL_play 13 = .ok (.ireturn, 1) := by decide +kernel
theorem dL_play_14 : decode cL_play 14 = .ok (.iconst 0, 1) := by decide +kernel
theorem dL_play_15 : decode cL_play 15 = .ok (.ireturn, 1) := by decide +kernel
theorem dL_stateOf_0 : decode cL_stateOf 0 = .ok (.aload_n 2, 1) := by decide +kernel
theorem dL_stateOf_1 : decode cL_stateOf 1 = .ok (.iconst 0, 1) := by decide +kernel
theorem dL_stateOf_2 : decode cL_stateOf 2 = .ok (.aload_n 0, 1) := by decide +kernel
theorem dL_stateOf_3 : decode cL_stateOf 3 = .ok (.iload_n 1, 1) := by decide +kernel
theorem dL_stateOf_4 : decode cL_stateOf 4 = .ok (.invokevirtual 77, 3) := by decide +kernel
theorem dL_stateOf_7 : decode cL_stateOf 7 = .ok (.i2l, 1) := by decide +kernel
theorem dL_stateOf_8 : decode cL_stateOf 8 = .ok (.lastore, 1) := by decide +kernel
theorem dL_stateOf_9 : decode cL_stateOf 9 = .ok (.goto 6, 3) := by decide +kernel
theorem dL_stateOf_12 : decode cL_stateOf 12 = .ok (.astore_n 3, 1) := by decide +kernel
theorem dL_stateOf_13 : decode cL_stateOf 13 = .ok (.iconst 1, 1) := by decide +kernel
theorem dL_stateOf_14 : decode cL_stateOf 14 = .ok (.ireturn, 1) := by decide +kernel
theorem dL_stateOf_15 : decode cL_stateOf 15 = .ok (.iconst 0, 1) := by decide +kernel
theorem dL_stateOf_16 : decode cL_stateOf 16 = .ok (.ireturn, 1) := by decide +kernel
theorem dL_played_0 : decode cL_played 0 = .ok (.aload_n 3, 1) := by decide +kernel
theorem dL_played_1 : decode cL_played 1 = .ok (.iconst 0, 1) := by decide +kernel
theorem dL_played_2 : decode cL_played 2 = .ok (.aload_n 0, 1) := by decide +kernel
theorem dL_played_3 : decode cL_played 3 = .ok (.iload_n 1, 1) := by decide +kernel
theorem dL_played_4 : decode cL_played 4 = .ok (.iload_n 2, 1) := by decide +kernel
theorem dL_played_5 : decode cL_played 5 = .ok (.invokevirtual 80, 3) := by decide +kernel
theorem dL_played_8 : decode cL_played 8 = .ok (.i2l, 1) := by decide +kernel
theorem dL_played_9 : decode cL_played 9 = .ok (.lastore, 1) := by decide +kernel
theorem dL_played_10 : decode cL_played 10 = .ok (.goto 7, 3) := by decide +kernel
theorem dL_played_13 : decode cL_played 13 = .ok (.astore 4, 2) := by decide +kernel
theorem dL_played_15 : decode cL_played 15 = .ok (.iconst 1, 1) := by decide +kernel
theorem dL_played_16 : decode cL_played 16 = .ok (.ireturn, 1) := by decide +kernel
theorem dL_played_17 : decode cL_played 17 = .ok (.iconst 0, 1) := by decide +kernel
theorem dL_played_18 : decode cL_played 18 = .ok (.ireturn, 1) := by decide +kernel
theorem dL_refund_0 : decode cL_refund 0 = .ok (.aload_n 2, 1) := by decide +kernel
theorem dL_refund_1 : decode cL_refund 1 = .ok (.iconst 0, 1) := by decide +kernel
theorem dL_refund_2 : decode cL_refund 2 = .ok (.aload_n 0, 1) := by decide +kernel
theorem dL_refund_3 : decode cL_refund 3 = .ok (.iload_n 1, 1) := by decide +kernel
theorem dL_refund_4 : decode cL_refund 4 = .ok (.invokevirtual 83, 3) := by decide +kernel
theorem dL_refund_7 : decode cL_refund 7 = .ok (.i2l, 1) := by decide +kernel
theorem dL_refund_8 : decode cL_refund 8 = .ok (.lastore, 1) := by decide +kernel
theorem dL_refund_9 : decode cL_refund 9 = .ok (.goto 6, 3) := by decide +kernel
theorem dL_refund_12 : decode cL_refund 12 = .ok (.astore_n 3, 1) := by decide +kernel
theorem dL_refund_13 : decode cL_refund 13 = .ok (.iconst 1, 1) := by decide +kernel
theorem dL_refund_14 : decode cL_refund 14 = .ok (.ireturn, 1) := by decide +kernel
theorem dL_refund_15 : decode cL_refund 15 = .ok (.iconst 0, 1) := by decide +kernel
theorem dL_refund_16 : decode cL_refund 16 = .ok (.ireturn, 1) := by decide +kernel
theorem dL_law_0 : decode cL_law 0 = .ok (.new 8, 3) := by decide +kernel
theorem dL_law_3 : decode cL_law 3 = .ok (.dup, 1) := by decide +kernel
theorem dL_law_4 : decode cL_law 4 = .ok (.invokespecial 86, 3) := by decide +kernel
theorem dL_law_7 : decode cL_law 7 = .ok (.astore_n 1, 1) := by decide +kernel
theorem dL_law_8 : decode cL_law 8 = .ok (.new 87, 3) := by decide +kernel
theorem dL_law_11 : decode cL_law 11 = .ok (.dup, 1) := by decide +kernel
theorem dL_law_12 : decode cL_law 12 = .ok (.invokespecial 89, 3) := by decide +kernel
theorem dL_law_15 : decode cL_law 15 = .ok (.astore_n 2, 1) := by decide +kernel
theorem dL_law_16 : decode cL_law 16 = .ok (.iconst 1, 1) := by decide +kernel
theorem dL_law_17 : decode cL_law 17 = .ok (.newarray .long, 2) := by decide +kernel
theorem dL_law_19 : decode cL_law 19 = .ok (.astore_n 3, 1) := by decide +kernel
theorem dL_law_20 : decode cL_law 20 = .ok (.iconst 0, 1) := by decide +kernel
theorem dL_law_21 : decode cL_law 21 = .ok (.istore 4, 2) := by decide +kernel
theorem dL_law_23 : decode cL_law 23 = .ok (.iload 4, 2) := by decide +kernel
theorem dL_law_25 : decode cL_law 25 = .ok (.aload_n 0, 1) := by decide +kernel
theorem dL_law_26 : decode cL_law 26 = .ok (.arraylength, 1) := by decide +kernel
theorem dL_law_27 : decode cL_law 27 = .ok (.iconst 5, 1) := by decide +kernel
theorem dL_law_28 : decode cL_law 28 = .ok (.isub, 1) := by decide +kernel
theorem dL_law_29 : decode cL_law 29 = .ok (.if_icmp .gt 1545, 3) := by decide +kernel
theorem dL_law_32 : decode cL_law 32 = .ok (.aload_n 0, 1) := by decide +kernel
theorem dL_law_33 : decode cL_law 33 = .ok (.iload 4, 2) := by decide +kernel
theorem dL_law_35 : decode cL_law 35 = .ok (.iaload, 1) := by decide +kernel
theorem dL_law_36 : decode cL_law 36 = .ok (.bipush 31, 2) := by decide +kernel
theorem dL_law_38 : decode cL_law 38 = .ok (.iand, 1) := by decide +kernel
theorem dL_law_39 : decode cL_law 39 = .ok (.tableswitch 1529 0 22 #[105, 161, 229, 325, 393, 461, 529, 585, 665, 740, 827, 883, 939, 995, 1063, 1131, 1187, 1279, 1323, 1336, 1392, 1460, 1516], 105) := by decide +kernel
theorem dL_law_144 : decode cL_law 144 = .ok (.aload_n 1, 1) := by decide +kernel
theorem dL_law_145 : decode cL_law 145 = .ok (.aload_n 0, 1) := by decide +kernel
theorem dL_law_146 : decode cL_law 146 = .ok (.iload 4, 2) := by decide +kernel
theorem dL_law_148 : decode cL_law 148 = .ok (.iconst 1, 1) := by decide +kernel
theorem dL_law_149 : decode cL_law 149 = .ok (.iadd, 1) := by decide +kernel
theorem dL_law_150 : decode cL_law 150 = .ok (.iaload, 1) := by decide +kernel
theorem dL_law_151 : decode cL_law 151 = .ok (.aload_n 3, 1) := by decide +kernel
theorem dL_law_152 : decode cL_law 152 = .ok (.invokestatic 90, 3) := by decide +kernel
theorem dL_law_155 : decode cL_law 155 = .ok (.istore 5, 2) := by decide +kernel
theorem dL_law_157 : decode cL_law 157 = .ok (.aload_n 2, 1) := by decide +kernel
theorem dL_law_158 : decode cL_law 158 = .ok (.aload_n 0, 1) := by decide +kernel
theorem dL_law_159 : decode cL_law 159 = .ok (.iload 4, 2) := by decide +kernel
theorem dL_law_161 : decode cL_law 161 = .ok (.iconst 1, 1) := by decide +kernel
theorem dL_law_162 : decode cL_law 162 = .ok (.iadd, 1) := by decide +kernel
theorem dL_law_163 : decode cL_law 163 = .ok (.iaload, 1) := by decide +kernel
theorem dL_law_164 : decode cL_law 164 = .ok (.invokevirtual 95, 3) := by decide +kernel
theorem dL_law_167 : decode cL_law 167 = .ok (.istore 6, 2) := by decide +kernel
theorem dL_law_169 : decode cL_law 169 = .ok (.aload_n 2, 1) := by decide +kernel
theorem dL_law_170 : decode cL_law 170 = .ok (.invokevirtual 96, 3) := by decide +kernel
theorem dL_law_173 : decode cL_law 173 = .ok (.iload 5, 2) := by decide +kernel
theorem dL_law_175 : decode cL_law 175 = .ok (.if_icmp .eq 5, 3) := by decide +kernel
theorem dL_law_178 : decode cL_law 178 = .ok (.iconst 0, 1) := by decide +kernel
theorem dL_law_179 : decode cL_law 179 = .ok (.ireturn, 1) := by decide +kernel
theorem dL_law_180 : decode cL_law 180 = .ok (.iload 5, 2) := by decide +kernel
theorem dL_law_182 : decode cL_law 182 = .ok (.ifCond .ne 15, 3) := by decide +kernel
theorem dL_law_185 : decode cL_law 185 = .ok (.aload_n 3, 1) := by decide +kernel
theorem dL_law_186 : decode cL_law 186 = .ok (.iconst 0, 1) := by decide +kernel
theorem dL_law_187 : decode cL_law 187 = .ok (.laload, 1) := by decide +kernel
theorem dL_law_188 : decode cL_law 188 = .ok (.iload 6, 2) := by decide +kernel
theorem dL_law_190 : decode cL_law 190 = .ok (.i2l, 1) := by decide +kernel
theorem dL_law_191 : decode cL_law 191 = .ok (.lcmp, 1) := by decide +kernel
theorem dL_law_192 : decode cL_law 192 = .ok (.ifCond .eq 5, 3) := by decide +kernel
theorem dL_law_195 : decode cL_law 195 = .ok (.iconst 0, 1) := by decide +kernel
theorem dL_law_196 : decode cL_law 196 = .ok (.ireturn, 1) := by decide +kernel
theorem dL_law_197 : decode cL_law 197 = .ok (.goto 1371, 3) := by decide +kernel
theorem dL_law_200 : decode cL_law 200 = .ok (.aload_n 1, 1) := by decide +kernel
theorem dL_law_201 : decode cL_law 201 = .ok (.aload_n 0, 1) := by decide +kernel
theorem dL_law_202 : decode cL_law 202 = .ok (.iload 4, 2) := by decide +kernel
theorem dL_law_204 : decode cL_law 204 = .ok (.iconst 1, 1) := by decide +kernel
theorem dL_law_205 : decode cL_law 205 = .ok (.iadd, 1) := by decide +kernel
theorem dL_law_206 : decode cL_law 206 = .ok (.iaload, 1) := by decide +kernel
theorem dL_law_207 : decode cL_law 207 = .ok (.aload_n 0, 1) := by decide +kernel
theorem dL_law_208 : decode cL_law 208 = .ok (.iload 4, 2) := by decide +kernel
theorem dL_law_210 : decode cL_law 210 = .ok (.iconst 2, 1) := by decide +kernel
theorem dL_law_211 : decode cL_law 211 = .ok (.iadd, 1) := by decide +kernel
theorem dL_law_212 : decode cL_law 212 = .ok (.iaload, 1) := by decide +kernel
theorem dL_law_213 : decode cL_law 213 = .ok (.aload_n 3, 1) := by decide +kernel
theorem dL_law_214 : decode cL_law 214 = .ok (.invokestatic 99, 3) := by decide +kernel
theorem dL_law_217 : decode cL_law 217 = .ok (.istore 5, 2) := by decide +kernel
theorem dL_law_219 : decode cL_law 219 = .ok (.aload_n 2, 1) := by decide +kernel
theorem dL_law_220 : decode cL_law 220 = .ok (.aload_n 0, 1) := by decide +kernel
theorem dL_law_221 : decode cL_law 221 = .ok (.iload 4, 2) := by decide +kernel
theorem dL_law_223 : decode cL_law 223 = .ok (.iconst 1, 1) := by decide +kernel
theorem dL_law_224 : decode cL_law 224 = .ok (.iadd, 1) := by decide +kernel
theorem dL_law_225 : decode cL_law 225 = .ok (.iaload, 1) := by decide +kernel
theorem dL_law_226 : decode cL_law 226 = .ok (.aload_n 0, 1) := by decide +kernel
theorem dL_law_227 : decode cL_law 227 = .ok (.iload 4, 2) := by decide +kernel
theorem dL_law_229 : decode cL_law 229 = .ok (.iconst 2, 1) := by decide +kernel
theorem dL_law_230 : decode cL_law 230 = .ok (.iadd, 1) := by decide +kernel
theorem dL_law_231 : decode cL_law 231 = .ok (.iaload, 1) := by decide +kernel
theorem dL_law_232 : decode cL_law 232 = .ok (.invokevirtual 102, 3) := by decide +kernel
theorem dL_law_235 : decode cL_law 235 = .ok (.istore 6, 2) := by decide +kernel
theorem dL_law_237 : decode cL_law 237 = .ok (.aload_n 2, 1) := by decide +kernel
theorem dL_law_238 : decode cL_law 238 = .ok (.invokevirtual 96, 3) := by decide +kernel
theorem dL_law_241 : decode cL_law 241 = .ok (.iload 5, 2) := by decide +kernel
theorem dL_law_243 : decode cL_law 243 = .ok (.if_icmp .eq 5, 3) := by decide +kernel
theorem dL_law_246 : decode cL_law 246 = .ok (.iconst 0, 1) := by decide +kernel
theorem dL_law_247 : decode cL_law 247 = .ok (.ireturn, 1) := by decide +kernel
theorem dL_law_248 : decode cL_law 248 = .ok (.iload 5, 2) := by decide +kernel
theorem dL_law_250 : decode cL_law 250 = .ok (.ifCond .ne 15, 3) := by decide +kernel
theorem dL_law_253 : decode cL_law 253 = .ok (.aload_n 3, 1) := by decide +kernel
theorem dL_law_254 : decode cL_law 254 = .ok (.iconst 0, 1) := by decide +kernel
theorem dL_law_255 : decode cL_law 255 = .ok (.laload, 1) := by decide +kernel
theorem dL_law_256 : decode cL_law 256 = .ok (.iload 6, 2) := by decide +kernel
theorem dL_law_258 : decode cL_law 258 = .ok (.i2l, 1) := by decide +kernel
theorem dL_law_259 : decode cL_law 259 = .ok (.lcmp, 1) := by decide +kernel
theorem dL_law_260 : decode cL_law 260 = .ok (.ifCond .eq 5, 3) := by decide +kernel
theorem dL_law_263 : decode cL_law 263 = .ok (.iconst 0, 1) := by decide +kernel
theorem dL_law_264 : decode cL_law 264 = .ok (.ireturn, 1) := by decide +kernel
theorem dL_law_265 : decode cL_law 265 = .ok (.goto 1303, 3) := by decide +kernel
theorem dL_law_268 : decode cL_law 268 = .ok (.aload_n 1, 1) := by decide +kernel
theorem dL_law_269 : decode cL_law 269 = .ok (.aload_n 0, 1) := by decide +kernel
theorem dL_law_270 : decode cL_law 270 = .ok (.iload 4, 2) := by decide +kernel
theorem dL_law_272 : decode cL_law 272 = .ok (.iconst 1, 1) := by decide +kernel
theorem dL_law_273 : decode cL_law 273 = .ok (.iadd, 1) := by decide +kernel
theorem dL_law_274 : decode cL_law 274 = .ok (.iaload, 1) := by decide +kernel
theorem dL_law_275 : decode cL_law 275 = .ok (.aload_n 0, 1) := by decide +kernel
theorem dL_law_276 : decode cL_law 276 = .ok (.iload 4, 2) := by decide +kernel
theorem dL_law_278 : decode cL_law 278 = .ok (.iconst 2, 1) := by decide +kernel
theorem dL_law_279 : decode cL_law 279 = .ok (.iadd, 1) := by decide +kernel
theorem dL_law_280 : decode cL_law 280 = .ok (.iaload, 1) := by decide +kernel
theorem dL_law_281 : decode cL_law 281 = .ok (.aload_n 0, 1) := by decide +kernel
theorem dL_law_282 : decode cL_law 282 = .ok (.iload 4, 2) := by decide +kernel
theorem dL_law_284 : decode cL_law 284 = .ok (.iconst 3, 1) := by decide +kernel
theorem dL_law_285 : decode cL_law 285 = .ok (.iadd, 1) := by decide +kernel
theorem dL_law_286 : decode cL_law 286 = .ok (.iaload, 1) := by decide +kernel
theorem dL_law_287 : decode cL_law 287 = .ok (.ifCond .eq 7, 3) := by decide +kernel
theorem dL_law_290 : decode cL_law 290 = .ok (.iconst 1, 1) := by decide +kernel
theorem dL_law_291 : decode cL_law 291 = .ok (.goto 4, 3) := by decide +kernel
theorem dL_law_294 : decode cL_law 294 = .ok (.iconst 0, 1) := by decide +kernel
theorem dL_law_295 : decode cL_law 295 = .ok (.aload_n 3, 1) := by decide +kernel
theorem dL_law_296 : decode cL_law 296 = .ok (.invokestatic 103, 3) := by decide +kernel
theorem dL_law_299 : decode cL_law 299 = .ok (.istore 5, 2) := by decide +kernel
theorem dL_law_301 : decode cL_law 301 = .ok (.aload_n 2, 1) := by decide +kernel
theorem dL_law_302 : decode cL_law 302 = .ok (.aload_n 0, 1) := by decide +kernel
theorem dL_law_303 : decode cL_law 303 = .ok (.iload 4, 2) := by decide +kernel
theorem dL_law_305 : decode cL_law 305 = .ok (.iconst 1, 1) := by decide +kernel
theorem dL_law_306 : decode cL_law 306 = .ok (.iadd, 1) := by decide +kernel
theorem dL_law_307 : decode cL_law 307 = .ok (.iaload, 1) := by decide +kernel
theorem dL_law_308 : decode cL_law 308 = .ok (.aload_n 0, 1) := by decide +kernel
theorem dL_law_309 : decode cL_law 309 = .ok (.iload 4, 2) := by decide +kernel
theorem dL_law_311 : decode cL_law 311 = .ok (.iconst 2, 1) := by decide +kernel
theorem dL_law_312 : decode cL_law 312 = .ok (.iadd, 1) := by decide +kernel
theorem dL_law_313 : decode cL_law 313 = .ok (.iaload, 1) := by decide +kernel
theorem dL_law_314 : decode cL_law 314 = .ok (.aload_n 0, 1) := by decide +kernel
theorem dL_law_315 : decode cL_law 315 = .ok (.iload 4, 2) := by decide +kernel
theorem dL_law_317 : decode cL_law 317 = .ok (.iconst 3, 1) := by decide +kernel
theorem dL_law_318 : decode cL_law 318 = .ok (.iadd, 1) := by decide +kernel
theorem dL_law_319 : decode cL_law 319 = .ok (.iaload, 1) := by decide +kernel
theorem dL_law_320 : decode cL_law 320 = .ok (.ifCond .eq 7, 3) := by decide +kernel
theorem dL_law_323 : decode cL_law 323 = .ok (.iconst 1, 1) := by decide +kernel
theorem dL_law_324 : decode cL_law 324 = .ok (.goto 4, 3) := by decide +kernel
theorem dL_law_327 : decode cL_law 327 = .ok (.iconst 0, 1) := by decide +kernel
theorem dL_law_328 : decode cL_law 328 = .ok (.invokevirtual 106, 3) := by decide +kernel
theorem dL_law_331 : decode cL_law 331 = .ok (.istore 6, 2) := by decide +kernel
theorem dL_law_333 : decode cL_law 333 = .ok (.aload_n 2, 1) := by decide +kernel
theorem dL_law_334 : decode cL_law 334 = .ok (.invokevirtual 96, 3) := by decide +kernel
theorem dL_law_337 : decode cL_law 337 = .ok (.iload 5, 2) := by decide +kernel
theorem dL_law_339 : decode cL_law 339 = .ok (.if_icmp .eq 5, 3) := by decide +kernel
theorem dL_law_342 : decode cL_law 342 = .ok (.iconst 0, 1) := by decide +kernel
theorem dL_law_343 : decode cL_law 343 = .ok (.ireturn, 1) := by decide +kernel
theorem dL_law_344 : decode cL_law 344 = .ok (.iload 5, 2) := by decide +kernel
theorem dL_law_346 : decode cL_law 346 = .ok (.ifCond .ne 15, 3) := by decide +kernel
theorem dL_law_349 : decode cL_law 349 = .ok (.aload_n 3, 1) := by decide +kernel
theorem dL_law_350 : decode cL_law 350 = .ok (.iconst 0, 1) := by decide +kernel
theorem dL_law_351 : decode cL_law 351 = .ok (.laload, 1) := by decide +kernel
theorem dL_law_352 : decode cL_law 352 = .ok (.iload 6, 2) := by decide +kernel
theorem dL_law_354 : decode cL_law 354 = .ok (.i2l, 1) := by decide +kernel
theorem dL_law_355 : decode cL_law 355 = .ok (.lcmp, 1) := by decide +kernel
theorem dL_law_356 : decode cL_law 356 = .ok (.ifCond .eq 5, 3) := by decide +kernel
theorem dL_law_359 : decode cL_law 359 = .ok (.iconst 0, 1) := by decide +kernel
theorem dL_law_360 : decode cL_law 360 = .ok (.ireturn, 1) := by decide +kernel
theorem dL_law_361 : decode cL_law 361 = .ok (.goto 1207, 3) := by decide +kernel
theorem dL_law_364 : decode cL_law 364 = .ok (.aload_n 1, 1) := by decide +kernel
theorem dL_law_365 : decode cL_law 365 = .ok (.aload_n 0, 1) := by decide +kernel
theorem dL_law_366 : decode cL_law 366 = .ok (.iload 4, 2) := by decide +kernel
theorem dL_law_368 : decode cL_law 368 = .ok (.iconst 1, 1) := by decide +kernel
theorem dL_law_369 : decode cL_law 369 = .ok (.iadd, 1) := by decide +kernel
theorem dL_law_370 : decode cL_law 370 = .ok (.iaload, 1) := by decide +kernel
theorem dL_law_371 : decode cL_law 371 = .ok (.aload_n 0, 1) := by decide +kernel
theorem dL_law_372 : decode cL_law 372 = .ok (.iload 4, 2) := by decide +kernel
theorem dL_law_374 : decode cL_law 374 = .ok (.iconst 2, 1) := by decide +kernel
theorem dL_law_375 : decode cL_law 375 = .ok (.iadd, 1) := by decide +kernel
theorem dL_law_376 : decode cL_law 376 = .ok (.iaload, 1) := by decide +kernel
theorem dL_law_377 : decode cL_law 377 = .ok (.aload_n 3, 1) := by decide +kernel
theorem dL_law_378 : decode cL_law 378 = .ok (.invokestatic 107, 3) := by decide +kernel
theorem dL_law_381 : decode cL_law 381 = .ok (.istore 5, 2) := by decide +kernel
theorem dL_law_383 : decode cL_law 383 = .ok (.aload_n 2, 1) := by decide +kernel
theorem dL_law_384 : decode cL_law 384 = .ok (.aload_n 0, 1) := by decide +kernel
theorem dL_law_385 : decode cL_law 385 = .ok (.iload 4, 2) := by decide +kernel
theorem dL_law_387 : decode cL_law 387 = .ok (.iconst 1, 1) := by decide +kernel
theorem dL_law_388 : decode cL_law 388 = .ok (.iadd, 1) := by decide +kernel
theorem dL_law_389 : decode cL_law 389 = .ok (.iaload, 1) := by decide +kernel
theorem dL_law_390 : decode cL_law 390 = .ok (.aload_n 0, 1) := by decide +kernel
theorem dL_law_391 : decode cL_law 391 = .ok (.iload 4, 2) := by decide +kernel
theorem dL_law_393 : decode cL_law 393 = .ok (.iconst 2, 1) := by decide +kernel
theorem dL_law_394 : decode cL_law 394 = .ok (.iadd, 1) := by decide +kernel
theorem dL_law_395 : decode cL_law 395 = .ok (.iaload, 1) := by decide +kernel
theorem dL_law_396 : decode cL_law 396 = .ok (.invokevirtual 109, 3) := by decide +kernel
theorem dL_law_399 : decode cL_law 399 = .ok (.istore 6, 2) := by decide +kernel
theorem dL_law_401 : decode cL_law 401 = .ok (.aload_n 2, 1) := by decide +kernel
theorem dL_law_402 : decode cL_law 402 = .ok (.invokevirtual 96, 3) := by decide +kernel
theorem dL_law_405 : decode cL_law 405 = .ok (.iload 5, 2) := by decide +kernel
theorem dL_law_407 : decode cL_law 407 = .ok (.if_icmp .eq 5, 3) := by decide +kernel
theorem dL_law_410 : decode cL_law 410 = .ok (.iconst 0, 1) := by decide +kernel
theorem dL_law_411 : decode cL_law 411 = .ok (.ireturn, 1) := by decide +kernel
theorem dL_law_412 : decode cL_law 412 = .ok (.iload 5, 2) := by decide +kernel
theorem dL_law_414 : decode cL_law 414 = .ok (.ifCond .ne 15, 3) := by decide +kernel
theorem dL_law_417 : decode cL_law 417 = .ok (.aload_n 3, 1) := by decide +kernel
theorem dL_law_418 : decode cL_law 418 = .ok (.iconst 0, 1) := by decide +kernel
theorem dL_law_419 : decode cL_law 419 = .ok (.laload, 1) := by decide +kernel
theorem dL_law_420 : decode cL_law 420 = .ok (.iload 6, 2) := by decide +kernel
theorem dL_law_422 : decode cL_law 422 = .ok (.i2l, 1) := by decide +kernel
theorem dL_law_423 : decode cL_law 423 = .ok (.lcmp, 1) := by decide +kernel
theorem dL_law_424 : decode cL_law 424 = .ok (.ifCond .eq 5, 3) := by decide +kernel
theorem dL_law_427 : decode cL_law 427 = .ok (.iconst 0, 1) := by decide +kernel
theorem dL_law_428 : decode cL_law 428 = .ok (.ireturn, 1) := by decide +kernel
theorem dL_law_429 : decode cL_law 429 = .ok (.goto 1139, 3) := by decide +kernel
theorem dL_law_432 : decode cL_law 432 = .ok (.aload_n 1, 1) := by decide +kernel
theorem dL_law_433 : decode cL_law 433 = .ok (.aload_n 0, 1) := by decide +kernel
theorem dL_law_434 : decode cL_law 434 = .ok (.iload 4, 2) := by decide +kernel
theorem dL_law_436 : decode cL_law 436 = .ok (.iconst 1, 1) := by decide +kernel
theorem dL_law_437 : decode cL_law 437 = .ok (.iadd, 1) := by decide +kernel
theorem dL_law_438 : decode cL_law 438 = .ok (.iaload, 1) := by decide +kernel
theorem dL_law_439 : decode cL_law 439 = .ok (.aload_n 0, 1) := by decide +kernel
theorem dL_law_440 : decode cL_law 440 = .ok (.iload 4, 2) := by decide +kernel
theorem dL_law_442 : decode cL_law 442 = .ok (.iconst 2, 1) := by decide +kernel
theorem dL_law_443 : decode cL_law 443 = .ok (.iadd, 1) := by decide +kernel
theorem dL_law_444 : decode cL_law 444 = .ok (.iaload, 1) := by decide +kernel
theorem dL_law_445 : decode cL_law 445 = .ok (.aload_n 3, 1) := by decide +kernel
theorem dL_law_446 : decode cL_law 446 = .ok (.invokestatic 110, 3) := by decide +kernel
theorem dL_law_449 : decode cL_law 449 = .ok (.istore 5, 2) := by decide +kernel
theorem dL_law_451 : decode cL_law 451 = .ok (.aload_n 2, 1) := by decide +kernel
theorem dL_law_452 : decode cL_law 452 = .ok (.aload_n 0, 1) := by decide +kernel
theorem dL_law_453 : decode cL_law 453 = .ok (.iload 4, 2) := by decide +kernel
theorem dL_law_455 : decode cL_law 455 = .ok (.iconst 1, 1) := by decide +kernel
theorem dL_law_456 : decode cL_law 456 = .ok (.iadd, 1) := by decide +kernel
theorem dL_law_457 : decode cL_law 457 = .ok (.iaload, 1) := by decide +kernel
theorem dL_law_458 : decode cL_law 458 = .ok (.aload_n 0, 1) := by decide +kernel
theorem dL_law_459 : decode cL_law 459 = .ok (.iload 4, 2) := by decide +kernel
theorem dL_law_461 : decode cL_law 461 = .ok (.iconst 2, 1) := by decide +kernel
theorem dL_law_462 : decode cL_law 462 = .ok (.iadd, 1) := by decide +kernel
theorem dL_law_463 : decode cL_law 463 = .ok (.iaload, 1) := by decide +kernel
theorem dL_law_464 : decode cL_law 464 = .ok (.invokevirtual 112, 3) := by decide +kernel
theorem dL_law_467 : decode cL_law 467 = .ok (.istore 6, 2) := by decide +kernel
theorem dL_law_469 : decode cL_law 469 = .ok (.aload_n 2, 1) := by decide +kernel
theorem dL_law_470 : decode cL_law 470 = .ok (.invokevirtual 96, 3) := by decide +kernel
theorem dL_law_473 : decode cL_law 473 = .ok (.iload 5, 2) := by decide +kernel
theorem dL_law_475 : decode cL_law 475 = .ok (.if_icmp .eq 5, 3) := by decide +kernel
theorem dL_law_478 : decode cL_law 478 = .ok (.iconst 0, 1) := by decide +kernel
theorem dL_law_479 : decode cL_law 479 = .ok (.ireturn, 1) := by decide +kernel
theorem dL_law_480 : decode cL_law 480 = .ok (.iload 5, 2) := by decide +kernel
theorem dL_law_482 : decode cL_law 482 = .ok (.ifCond .ne 15, 3) := by decide +kernel
theorem dL_law_485 : decode cL_law 485 = .ok (.aload_n 3, 1) := by decide +kernel
theorem dL_law_486 : decode cL_law 486 = .ok (.iconst 0, 1) := by decide +kernel
theorem dL_law_487 : decode cL_law 487 = .ok (.laload, 1) := by decide +kernel
theorem dL_law_488 : decode cL_law 488 = .ok (.iload 6, 2) := by decide +kernel
theorem dL_law_490 : decode cL_law 490 = .ok (.i2l, 1) := by decide +kernel
theorem dL_law_491 : decode cL_law 491 = .ok (.lcmp, 1) := by decide +kernel
theorem dL_law_492 : decode cL_law 492 = .ok (.ifCond .eq 5, 3) := by decide +kernel
theorem dL_law_495 : decode cL_law 495 = .ok (.iconst 0, 1) := by decide +kernel
theorem dL_law_496 : decode cL_law 496 = .ok (.ireturn, 1) := by decide +kernel
theorem dL_law_497 : decode cL_law 497 = .ok (.goto 1071, 3) := by decide +kernel
theorem dL_law_500 : decode cL_law 500 = .ok (.aload_n 1, 1) := by decide +kernel
theorem dL_law_501 : decode cL_law 501 = .ok (.aload_n 0, 1) := by decide +kernel
theorem dL_law_502 : decode cL_law 502 = .ok (.iload 4, 2) := by decide +kernel
theorem dL_law_504 : decode cL_law 504 = .ok (.iconst 1, 1) := by decide +kernel
theorem dL_law_505 : decode cL_law 505 = .ok (.iadd, 1) := by decide +kernel
theorem dL_law_506 : decode cL_law 506 = .ok (.iaload, 1) := by decide +kernel
theorem dL_law_507 : decode cL_law 507 = .ok (.aload_n 0, 1) := by decide +kernel
theorem dL_law_508 : decode cL_law 508 = .ok (.iload 4, 2) := by decide +kernel
theorem dL_law_510 : decode cL_law 510 = .ok (.iconst 2, 1) := by decide +kernel
theorem dL_law_511 : decode cL_law 511 = .ok (.iadd, 1) := by decide +kernel
theorem dL_law_512 : decode cL_law 512 = .ok (.iaload, 1) := by decide +kernel
theorem dL_law_513 : decode cL_law 513 = .ok (.aload_n 3, 1) := by decide +kernel
theorem dL_law_514 : decode cL_law 514 = .ok (.invokestatic 113, 3) := by decide +kernel
theorem dL_law_517 : decode cL_law 517 = .ok (.istore 5, 2) := by decide +kernel
theorem dL_law_519 : decode cL_law 519 = .ok (.aload_n 2, 1) := by decide +kernel
theorem dL_law_520 : decode cL_law 520 = .ok (.aload_n 0, 1) := by decide +kernel
theorem dL_law_521 : decode cL_law 521 = .ok (.iload 4, 2) := by decide +kernel
theorem dL_law_523 : decode cL_law 523 = .ok (.iconst 1, 1) := by decide +kernel
theorem dL_law_524 : decode cL_law 524 = .ok (.iadd, 1) := by decide +kernel
theorem dL_law_525 : decode cL_law 525 = .ok (.iaload, 1) := by decide +kernel
theorem dL_law_526 : decode cL_law 526 = .ok (.aload_n 0, 1) := by decide +kernel
theorem dL_law_527 : decode cL_law 527 = .ok (.iload 4, 2) := by decide +kernel
theorem dL_law_529 : decode cL_law 529 = .ok (.iconst 2, 1) := by decide +kernel
theorem dL_law_530 : decode cL_law 530 = .ok (.iadd, 1) := by decide +kernel
theorem dL_law_531 : decode cL_law 531 = .ok (.iaload, 1) := by decide +kernel
theorem dL_law_532 : decode cL_law 532 = .ok (.invokevirtual 115, 3) := by decide +kernel
theorem dL_law_535 : decode cL_law 535 = .ok (.istore 6, 2) := by decide +kernel
theorem dL_law_537 : decode cL_law 537 = .ok (.aload_n 2, 1) := by decide +kernel
theorem dL_law_538 : decode cL_law 538 = .ok (.invokevirtual 96, 3) := by decide +kernel
theorem dL_law_541 : decode cL_law 541 = .ok (.iload 5, 2) := by decide +kernel
theorem dL_law_543 : decode cL_law 543 = .ok (.if_icmp .eq 5, 3) := by decide +kernel
theorem dL_law_546 : decode cL_law 546 = .ok (.iconst 0, 1) := by decide +kernel
theorem dL_law_547 : decode cL_law 547 = .ok (.ireturn, 1) := by decide +kernel
theorem dL_law_548 : decode cL_law 548 = .ok (.iload 5, 2) := by decide +kernel
theorem dL_law_550 : decode cL_law 550 = .ok (.ifCond .ne 15, 3) := by decide +kernel
theorem dL_law_553 : decode cL_law 553 = .ok (.aload_n 3, 1) := by decide +kernel
theorem dL_law_554 : decode cL_law 554 = .ok (.iconst 0, 1) := by decide +kernel
theorem dL_law_555 : decode cL_law 555 = .ok (.laload, 1) := by decide +kernel
theorem dL_law_556 : decode cL_law 556 = .ok (.iload 6, 2) := by decide +kernel
theorem dL_law_558 : decode cL_law 558 = .ok (.i2l, 1) := by decide +kernel
theorem dL_law_559 : decode cL_law 559 = .ok (.lcmp, 1) := by decide +kernel
theorem dL_law_560 : decode cL_law 560 = .ok (.ifCond .eq 5, 3) := by decide +kernel
theorem dL_law_563 : decode cL_law 563 = .ok (.iconst 0, 1) := by decide +kernel
theorem dL_law_564 : decode cL_law 564 = .ok (.ireturn, 1) := by decide +kernel
theorem dL_law_565 : decode cL_law 565 = .ok (.goto 1003, 3) := by decide +kernel
theorem dL_law_568 : decode cL_law 568 = .ok (.aload_n 1, 1) := by decide +kernel
theorem dL_law_569 : decode cL_law 569 = .ok (.aload_n 0, 1) := by decide +kernel
theorem dL_law_570 : decode cL_law 570 = .ok (.iload 4, 2) := by decide +kernel
theorem dL_law_572 : decode cL_law 572 = .ok (.iconst 1, 1) := by decide +kernel
theorem dL_law_573 : decode cL_law 573 = .ok (.iadd, 1) := by decide +kernel
theorem dL_law_574 : decode cL_law 574 = .ok (.iaload, 1) := by decide +kernel
theorem dL_law_575 : decode cL_law 575 = .ok (.aload_n 3, 1) := by decide +kernel
theorem dL_law_576 : decode cL_law 576 = .ok (.invokestatic 116, 3) := by decide +kernel
theorem dL_law_579 : decode cL_law 579 = .ok (.istore 5, 2) := by decide +kernel
theorem dL_law_581 : decode cL_law 581 = .ok (.aload_n 2, 1) := by decide +kernel
theorem dL_law_582 : decode cL_law 582 = .ok (.aload_n 0, 1) := by decide +kernel
theorem dL_law_583 : decode cL_law 583 = .ok (.iload 4, 2) := by decide +kernel
theorem dL_law_585 : decode cL_law 585 = .ok (.iconst 1, 1) := by decide +kernel
theorem dL_law_586 : decode cL_law 586 = .ok (.iadd, 1) := by decide +kernel
theorem dL_law_587 : decode cL_law 587 = .ok (.iaload, 1) := by decide +kernel
theorem dL_law_588 : decode cL_law 588 = .ok (.invokevirtual 118, 3) := by decide +kernel
theorem dL_law_591 : decode cL_law 591 = .ok (.istore 6, 2) := by decide +kernel
theorem dL_law_593 : decode cL_law 593 = .ok (.aload_n 2, 1) := by decide +kernel
theorem dL_law_594 : decode cL_law 594 = .ok (.invokevirtual 96, 3) := by decide +kernel
theorem dL_law_597 : decode cL_law 597 = .ok (.iload 5, 2) := by decide +kernel
theorem dL_law_599 : decode cL_law 599 = .ok (.if_icmp .eq 5, 3) := by decide +kernel
theorem dL_law_602 : decode cL_law 602 = .ok (.iconst 0, 1) := by decide +kernel
theorem dL_law_603 : decode cL_law 603 = .ok (.ireturn, 1) := by decide +kernel
theorem dL_law_604 : decode cL_law 604 = .ok (.iload 5, 2) := by decide +kernel
theorem dL_law_606 : decode cL_law 606 = .ok (.ifCond .ne 15, 3) := by decide +kernel
theorem dL_law_609 : decode cL_law 609 = .ok (.aload_n 3, 1) := by decide +kernel
theorem dL_law_610 : decode cL_law 610 = .ok (.iconst 0, 1) := by decide +kernel
theorem dL_law_611 : decode cL_law 611 = .ok (.laload, 1) := by decide +kernel
theorem dL_law_612 : decode cL_law 612 = .ok (.iload 6, 2) := by decide +kernel
theorem dL_law_614 : decode cL_law 614 = .ok (.i2l, 1) := by decide +kernel
theorem dL_law_615 : decode cL_law 615 = .ok (.lcmp, 1) := by decide +kernel
theorem dL_law_616 : decode cL_law 616 = .ok (.ifCond .eq 5, 3) := by decide +kernel
theorem dL_law_619 : decode cL_law 619 = .ok (.iconst 0, 1) := by decide +kernel
theorem dL_law_620 : decode cL_law 620 = .ok (.ireturn, 1) := by decide +kernel
theorem dL_law_621 : decode cL_law 621 = .ok (.goto 947, 3) := by decide +kernel
theorem dL_law_624 : decode cL_law 624 = .ok (.aload_n 1, 1) := by decide +kernel
theorem dL_law_625 : decode cL_law 625 = .ok (.aload_n 0, 1) := by decide +kernel
theorem dL_law_626 : decode cL_law 626 = .ok (.iload 4, 2) := by decide +kernel
theorem dL_law_628 : decode cL_law 628 = .ok (.iconst 1, 1) := by decide +kernel
theorem dL_law_629 : decode cL_law 629 = .ok (.iadd, 1) := by decide +kernel
theorem dL_law_630 : decode cL_law 630 = .ok (.iaload, 1) := by decide +kernel
theorem dL_law_631 : decode cL_law 631 = .ok (.aload_n 0, 1) := by decide +kernel
theorem dL_law_632 : decode cL_law 632 = .ok (.iload 4, 2) := by decide +kernel
theorem dL_law_634 : decode cL_law 634 = .ok (.iconst 2, 1) := by decide +kernel
theorem dL_law_635 : decode cL_law 635 = .ok (.iadd, 1) := by decide +kernel
theorem dL_law_636 : decode cL_law 636 = .ok (.iaload, 1) := by decide +kernel
theorem dL_law_637 : decode cL_law 637 = .ok (.aload_n 0, 1) := by decide +kernel
theorem dL_law_638 : decode cL_law 638 = .ok (.iload 4, 2) := by decide +kernel
theorem dL_law_640 : decode cL_law 640 = .ok (.iconst 3, 1) := by decide +kernel
theorem dL_law_641 : decode cL_law 641 = .ok (.iadd, 1) := by decide +kernel
theorem dL_law_642 : decode cL_law 642 = .ok (.iaload, 1) := by decide +kernel
theorem dL_law_643 : decode cL_law 643 = .ok (.aload_n 3, 1) := by decide +kernel
theorem dL_law_644 : decode cL_law 644 = .ok (.invokestatic 119, 3) := by decide +kernel
theorem dL_law_647 : decode cL_law 647 = .ok (.istore 5, 2) := by decide +kernel
theorem dL_law_649 : decode cL_law 649 = .ok (.aload_n 2, 1) := by decide +kernel
theorem dL_law_650 : decode cL_law 650 = .ok (.aload_n 0, 1) := by decide +kernel
theorem dL_law_651 : decode cL_law 651 = .ok (.iload 4, 2) := by decide +kernel
theorem dL_law_653 : decode cL_law 653 = .ok (.iconst 1, 1) := by decide +kernel
theorem dL_law_654 : decode cL_law 654 = .ok (.iadd, 1) := by decide +kernel
theorem dL_law_655 : decode cL_law 655 = .ok (.iaload, 1) := by decide +kernel
theorem dL_law_656 : decode cL_law 656 = .ok (.aload_n 0, 1) := by decide +kernel
theorem dL_law_657 : decode cL_law 657 = .ok (.iload 4, 2) := by decide +kernel
theorem dL_law_659 : decode cL_law 659 = .ok (.iconst 2, 1) := by decide +kernel
theorem dL_law_660 : decode cL_law 660 = .ok (.iadd, 1) := by decide +kernel
theorem dL_law_661 : decode cL_law 661 = .ok (.iaload, 1) := by decide +kernel
theorem dL_law_662 : decode cL_law 662 = .ok (.aload_n 0, 1) := by decide +kernel
theorem dL_law_663 : decode cL_law 663 = .ok (.iload 4, 2) := by decide +kernel
theorem dL_law_665 : decode cL_law 665 = .ok (.iconst 3, 1) := by decide +kernel
theorem dL_law_666 : decode cL_law 666 = .ok (.iadd, 1) := by decide +kernel
theorem dL_law_667 : decode cL_law 667 = .ok (.iaload, 1) := by decide +kernel
theorem dL_law_668 : decode cL_law 668 = .ok (.invokevirtual 122, 3) := by decide +kernel
theorem dL_law_671 : decode cL_law 671 = .ok (.istore 6, 2) := by decide +kernel
theorem dL_law_673 : decode cL_law 673 = .ok (.aload_n 2, 1) := by decide +kernel
theorem dL_law_674 : decode cL_law 674 = .ok (.invokevirtual 96, 3) := by decide +kernel
theorem dL_law_677 : decode cL_law 677 = .ok (.iload 5, 2) := by decide +kernel
theorem dL_law_679 : decode cL_law 679 = .ok (.if_icmp .eq 5, 3) := by decide +kernel
theorem dL_law_682 : decode cL_law 682 = .ok (.iconst 0, 1) := by decide +kernel
theorem dL_law_683 : decode cL_law 683 = .ok (.ireturn, 1) := by decide +kernel
theorem dL_law_684 : decode cL_law 684 = .ok (.iload 5, 2) := by decide +kernel
theorem dL_law_686 : decode cL_law 686 = .ok (.ifCond .ne 15, 3) := by decide +kernel
theorem dL_law_689 : decode cL_law 689 = .ok (.aload_n 3, 1) := by decide +kernel
theorem dL_law_690 : decode cL_law 690 = .ok (.iconst 0, 1) := by decide +kernel
theorem dL_law_691 : decode cL_law 691 = .ok (.laload, 1) := by decide +kernel
theorem dL_law_692 : decode cL_law 692 = .ok (.iload 6, 2) := by decide +kernel
theorem dL_law_694 : decode cL_law 694 = .ok (.i2l, 1) := by decide +kernel
theorem dL_law_695 : decode cL_law 695 = .ok (.lcmp, 1) := by decide +kernel
theorem dL_law_696 : decode cL_law 696 = .ok (.ifCond .eq 5, 3) := by decide +kernel
theorem dL_law_699 : decode cL_law 699 = .ok (.iconst 0, 1) := by decide +kernel
theorem dL_law_700 : decode cL_law 700 = .ok (.ireturn, 1) := by decide +kernel
theorem dL_law_701 : decode cL_law 701 = .ok (.goto 867, 3) := by decide +kernel
theorem dL_law_704 : decode cL_law 704 = .ok (.aload_n 1, 1) := by decide +kernel
theorem dL_law_705 : decode cL_law 705 = .ok (.aload_n 0, 1) := by decide +kernel
theorem dL_law_706 : decode cL_law 706 = .ok (.iload 4, 2) := by decide +kernel
theorem dL_law_708 : decode cL_law 708 = .ok (.iconst 1, 1) := by decide +kernel
theorem dL_law_709 : decode cL_law 709 = .ok (.iadd, 1) := by decide +kernel
theorem dL_law_710 : decode cL_law 710 = .ok (.iaload, 1) := by decide +kernel
theorem dL_law_711 : decode cL_law 711 = .ok (.aload_n 0, 1) := by decide +kernel
theorem dL_law_712 : decode cL_law 712 = .ok (.iload 4, 2) := by decide +kernel
theorem dL_law_714 : decode cL_law 714 = .ok (.iconst 2, 1) := by decide +kernel
theorem dL_law_715 : decode cL_law 715 = .ok (.iadd, 1) := by decide +kernel
theorem dL_law_716 : decode cL_law 716 = .ok (.iaload, 1) := by decide +kernel
theorem dL_law_717 : decode cL_law 717 = .ok (.aload_n 3, 1) := by decide +kernel
theorem dL_law_718 : decode cL_law 718 = .ok (.invokestatic 123, 3) := by decide +kernel
theorem dL_law_721 : decode cL_law 721 = .ok (.istore 5, 2) := by decide +kernel
theorem dL_law_723 : decode cL_law 723 = .ok (.aload_n 2, 1) := by decide +kernel
theorem dL_law_724 : decode cL_law 724 = .ok (.aload_n 0, 1) := by decide +kernel
theorem dL_law_725 : decode cL_law 725 = .ok (.iload 4, 2) := by decide +kernel
theorem dL_law_727 : decode cL_law 727 = .ok (.iconst 1, 1) := by decide +kernel
theorem dL_law_728 : decode cL_law 728 = .ok (.iadd, 1) := by decide +kernel
theorem dL_law_729 : decode cL_law 729 = .ok (.iaload, 1) := by decide +kernel
theorem dL_law_730 : decode cL_law 730 = .ok (.aload_n 0, 1) := by decide +kernel
theorem dL_law_731 : decode cL_law 731 = .ok (.iload 4, 2) := by decide +kernel
theorem dL_law_733 : decode cL_law 733 = .ok (.iconst 2, 1) := by decide +kernel
theorem dL_law_734 : decode cL_law 734 = .ok (.iadd, 1) := by decide +kernel
theorem dL_law_735 : decode cL_law 735 = .ok (.iaload, 1) := by decide +kernel
theorem dL_law_736 : decode cL_law 736 = .ok (.invokevirtual 125, 3) := by decide +kernel
theorem dL_law_739 : decode cL_law 739 = .ok (.istore 6, 2) := by decide +kernel
theorem dL_law_741 : decode cL_law 741 = .ok (.aload_n 2, 1) := by decide +kernel
theorem dL_law_742 : decode cL_law 742 = .ok (.invokevirtual 96, 3) := by decide +kernel
theorem dL_law_745 : decode cL_law 745 = .ok (.iload 5, 2) := by decide +kernel
theorem dL_law_747 : decode cL_law 747 = .ok (.if_icmp .eq 5, 3) := by decide +kernel
theorem dL_law_750 : decode cL_law 750 = .ok (.iconst 0, 1) := by decide +kernel
theorem dL_law_751 : decode cL_law 751 = .ok (.ireturn, 1) := by decide +kernel
theorem dL_law_752 : decode cL_law 752 = .ok (.iload 5, 2) := by decide +kernel
theorem dL_law_754 : decode cL_law 754 = .ok (.ifCond .ne 22, 3) := by decide +kernel
theorem dL_law_757 : decode cL_law 757 = .ok (.aload_n 3, 1) := by decide +kernel
theorem dL_law_758 : decode cL_law 758 = .ok (.iconst 0, 1) := by decide +kernel
theorem dL_law_759 : decode cL_law 759 = .ok (.laload, 1) := by decide +kernel
theorem dL_law_760 : decode cL_law 760 = .ok (.iload 6, 2) := by decide +kernel
theorem dL_law_762 : decode cL_law 762 = .ok (.ifCond .eq 7, 3) := by decide +kernel
theorem dL_law_765 : decode cL_law 765 = .ok (.lconst 1, 1) := by decide +kernel
theorem dL_law_766 : decode cL_law 766 = .ok (.goto 4, 3) := by decide +kernel
theorem dL_law_769 : decode cL_law 769 = .ok (.lconst 0, 1) := by decide +kernel
theorem dL_law_770 : decode cL_law 770 = .ok (.lcmp, 1) := by decide +kernel
theorem dL_law_771 : decode cL_law 771 = .ok (.ifCond .eq 5, 3) := by decide +kernel
theorem dL_law_774 : decode cL_law 774 = .ok (.iconst 0, 1) := by decide +kernel
theorem dL_law_775 : decode cL_law 775 = .ok (.ireturn, 1) := by decide +kernel
theorem dL_law_776 : decode cL_law 776 = .ok (.goto 792, 3) := by decide +kernel
theorem dL_law_779 : decode cL_law 779 = .ok (.aload_n 1, 1) := by decide +kernel
theorem dL_law_780 : decode cL_law 780 = .ok (.aload_n 0, 1) := by decide +kernel
theorem dL_law_781 : decode cL_law 781 = .ok (.iload 4, 2) := by decide +kernel
theorem dL_law_783 : decode cL_law 783 = .ok (.iconst 1, 1) := by decide +kernel
theorem dL_law_784 : decode cL_law 784 = .ok (.iadd, 1) := by decide +kernel
theorem dL_law_785 : decode cL_law 785 = .ok (.iaload, 1) := by decide +kernel
theorem dL_law_786 : decode cL_law 786 = .ok (.aload_n 0, 1) := by decide +kernel
theorem dL_law_787 : decode cL_law 787 = .ok (.iload 4, 2) := by decide +kernel
theorem dL_law_789 : decode cL_law 789 = .ok (.iconst 2, 1) := by decide +kernel
theorem dL_law_790 : decode cL_law 790 = .ok (.iadd, 1) := by decide +kernel
theorem dL_law_791 : decode cL_law 791 = .ok (.iaload, 1) := by decide +kernel
theorem dL_law_792 : decode cL_law 792 = .ok (.aload_n 0, 1) := by decide +kernel
theorem dL_law_793 : decode cL_law 793 = .ok (.iload 4, 2) := by decide +kernel
theorem dL_law_795 : decode cL_law 795 = .ok (.iconst 3, 1) := by decide +kernel
theorem dL_law_796 : decode cL_law 796 = .ok (.iadd, 1) := by decide +kernel
theorem dL_law_797 : decode cL_law 797 = .ok (.iaload, 1) := by decide +kernel
theorem dL_law_798 : decode cL_law 798 = .ok (.aload_n 3, 1) := by decide +kernel
theorem dL_law_799 : decode cL_law 799 = .ok (.invokestatic 126, 3) := by decide +kernel
theorem dL_law_802 : decode cL_law 802 = .ok (.istore 5, 2) := by decide +kernel
theorem dL_law_804 : decode cL_law 804 = .ok (.aload_n 2, 1) := by decide +kernel
theorem dL_law_805 : decode cL_law 805 = .ok (.aload_n 0, 1) := by decide +kernel
theorem dL_law_806 : decode cL_law 806 = .ok (.iload 4, 2) := by decide +kernel
theorem dL_law_808 : decode cL_law 808 = .ok (.iconst 1, 1) := by decide +kernel
theorem dL_law_809 : decode cL_law 809 = .ok (.iadd, 1) := by decide +kernel
theorem dL_law_810 : decode cL_law 810 = .ok (.iaload, 1) := by decide +kernel
theorem dL_law_811 : decode cL_law 811 = .ok (.aload_n 0, 1) := by decide +kernel
theorem dL_law_812 : decode cL_law 812 = .ok (.iload 4, 2) := by decide +kernel
theorem dL_law_814 : decode cL_law 814 = .ok (.iconst 2, 1) := by decide +kernel
theorem dL_law_815 : decode cL_law 815 = .ok (.iadd, 1) := by decide +kernel
theorem dL_law_816 : decode cL_law 816 = .ok (.iaload, 1) := by decide +kernel
theorem dL_law_817 : decode cL_law 817 = .ok (.aload_n 0, 1) := by decide +kernel
theorem dL_law_818 : decode cL_law 818 = .ok (.iload 4, 2) := by decide +kernel
theorem dL_law_820 : decode cL_law 820 = .ok (.iconst 3, 1) := by decide +kernel
theorem dL_law_821 : decode cL_law 821 = .ok (.iadd, 1) := by decide +kernel
theorem dL_law_822 : decode cL_law 822 = .ok (.iaload, 1) := by decide +kernel
theorem dL_law_823 : decode cL_law 823 = .ok (.invokevirtual 128, 3) := by decide +kernel
theorem dL_law_826 : decode cL_law 826 = .ok (.istore 6, 2) := by decide +kernel
theorem dL_law_828 : decode cL_law 828 = .ok (.aload_n 2, 1) := by decide +kernel
theorem dL_law_829 : decode cL_law 829 = .ok (.invokevirtual 96, 3) := by decide +kernel
theorem dL_law_832 : decode cL_law 832 = .ok (.iload 5, 2) := by decide +kernel
theorem dL_law_834 : decode cL_law 834 = .ok (.if_icmp .eq 5, 3) := by decide +kernel
theorem dL_law_837 : decode cL_law 837 = .ok (.iconst 0, 1) := by decide +kernel
theorem dL_law_838 : decode cL_law 838 = .ok (.ireturn, 1) := by decide +kernel
theorem dL_law_839 : decode cL_law 839 = .ok (.iload 5, 2) := by decide +kernel
theorem dL_law_841 : decode cL_law 841 = .ok (.ifCond .ne 22, 3) := by decide +kernel
theorem dL_law_844 : decode cL_law 844 = .ok (.aload_n 3, 1) := by decide +kernel
theorem dL_law_845 : decode cL_law 845 = .ok (.iconst 0, 1) := by decide +kernel
theorem dL_law_846 : decode cL_law 846 = .ok (.laload, 1) := by decide +kernel
theorem dL_law_847 : decode cL_law 847 = .ok (.iload 6, 2) := by decide +kernel
theorem dL_law_849 : decode cL_law 849 = .ok (.ifCond .eq 7, 3) := by decide +kernel
theorem dL_law_852 : decode cL_law 852 = .ok (.lconst 1, 1) := by decide +kernel
theorem dL_law_853 : decode cL_law 853 = .ok (.goto 4, 3) := by decide +kernel
theorem dL_law_856 : decode cL_law 856 = .ok (.lconst 0, 1) := by decide +kernel
theorem dL_law_857 : decode cL_law 857 = .ok (.lcmp, 1) := by decide +kernel
theorem dL_law_858 : decode cL_law 858 = .ok (.ifCond .eq 5, 3) := by decide +kernel
theorem dL_law_861 : decode cL_law 861 = .ok (.iconst 0, 1) := by decide +kernel
theorem dL_law_862 : decode cL_law 862 = .ok (.ireturn, 1) := by decide +kernel
theorem dL_law_863 : decode cL_law 863 = .ok (.goto 705, 3) := by decide +kernel
theorem dL_law_866 : decode cL_law 866 = .ok (.aload_n 1, 1) := by decide +kernel
theorem dL_law_867 : decode cL_law 867 = .ok (.aload_n 0, 1) := by decide +kernel
theorem dL_law_868 : decode cL_law 868 = .ok (.iload 4, 2) := by decide +kernel
theorem dL_law_870 : decode cL_law 870 = .ok (.iconst 1, 1) := by decide +kernel
theorem dL_law_871 : decode cL_law 871 = .ok (.iadd, 1) := by decide +kernel
theorem dL_law_872 : decode cL_law 872 = .ok (.iaload, 1) := by decide +kernel
theorem dL_law_873 : decode cL_law 873 = .ok (.aload_n 3, 1) := by decide +kernel
theorem dL_law_874 : decode cL_law 874 = .ok (.invokestatic 129, 3) := by decide +kernel
theorem dL_law_877 : decode cL_law 877 = .ok (.istore 5, 2) := by decide +kernel
theorem dL_law_879 : decode cL_law 879 = .ok (.aload_n 2, 1) := by decide +kernel
theorem dL_law_880 : decode cL_law 880 = .ok (.aload_n 0, 1) := by decide +kernel
theorem dL_law_881 : decode cL_law 881 = .ok (.iload 4, 2) := by decide +kernel
theorem dL_law_883 : decode cL_law 883 = .ok (.iconst 1, 1) := by decide +kernel
theorem dL_law_884 : decode cL_law 884 = .ok (.iadd, 1) := by decide +kernel
theorem dL_law_885 : decode cL_law 885 = .ok (.iaload, 1) := by decide +kernel
theorem dL_law_886 : decode cL_law 886 = .ok (.invokevirtual 131, 3) := by decide +kernel
theorem dL_law_889 : decode cL_law 889 = .ok (.istore 6, 2) := by decide +kernel
theorem dL_law_891 : decode cL_law 891 = .ok (.aload_n 2, 1) := by decide +kernel
theorem dL_law_892 : decode cL_law 892 = .ok (.invokevirtual 96, 3) := by decide +kernel
theorem dL_law_895 : decode cL_law 895 = .ok (.iload 5, 2) := by decide +kernel
theorem dL_law_897 : decode cL_law 897 = .ok (.if_icmp .eq 5, 3) := by decide +kernel
theorem dL_law_900 : decode cL_law 900 = .ok (.iconst 0, 1) := by decide +kernel
theorem dL_law_901 : decode cL_law 901 = .ok (.ireturn, 1) := by decide +kernel
theorem dL_law_902 : decode cL_law 902 = .ok (.iload 5, 2) := by decide +kernel
theorem dL_law_904 : decode cL_law 904 = .ok (.ifCond .ne 15, 3) := by decide +kernel
theorem dL_law_907 : decode cL_law 907 = .ok (.aload_n 3, 1) := by decide +kernel
theorem dL_law_908 : decode cL_law 908 = .ok (.iconst 0, 1) := by decide +kernel
theorem dL_law_909 : decode cL_law 909 = .ok (.laload, 1) := by decide +kernel
theorem dL_law_910 : decode cL_law 910 = .ok (.iload 6, 2) := by decide +kernel
theorem dL_law_912 : decode cL_law 912 = .ok (.i2l, 1) := by decide +kernel
theorem dL_law_913 : decode cL_law 913 = .ok (.lcmp, 1) := by decide +kernel
theorem dL_law_914 : decode cL_law 914 = .ok (.ifCond .eq 5, 3) := by decide +kernel
theorem dL_law_917 : decode cL_law 917 = .ok (.iconst 0, 1) := by decide +kernel
theorem dL_law_918 : decode cL_law 918 = .ok (.ireturn, 1) := by decide +kernel
theorem dL_law_919 : decode cL_law 919 = .ok (.goto 649, 3) := by decide +kernel
theorem dL_law_922 : decode cL_law 922 = .ok (.aload_n 1, 1) := by decide +kernel
theorem dL_law_923 : decode cL_law 923 = .ok (.aload_n 0, 1) := by decide +kernel
theorem dL_law_924 : decode cL_law 924 = .ok (.iload 4, 2) := by decide +kernel
theorem dL_law_926 : decode cL_law 926 = .ok (.iconst 1, 1) := by decide +kernel
theorem dL_law_927 : decode cL_law 927 = .ok (.iadd, 1) := by decide +kernel
theorem dL_law_928 : decode cL_law 928 = .ok (.iaload, 1) := by decide +kernel
theorem dL_law_929 : decode cL_law 929 = .ok (.aload_n 3, 1) := by decide +kernel
theorem dL_law_930 : decode cL_law 930 = .ok (.invokestatic 132, 3) := by decide +kernel
theorem dL_law_933 : decode cL_law 933 = .ok (.istore 5, 2) := by decide +kernel
theorem dL_law_935 : decode cL_law 935 = .ok (.aload_n 2, 1) := by decide +kernel
theorem dL_law_936 : decode cL_law 936 = .ok (.aload_n 0, 1) := by decide +kernel
theorem dL_law_937 : decode cL_law 937 = .ok (.iload 4, 2) := by decide +kernel
theorem dL_law_939 : decode cL_law 939 = .ok (.iconst 1, 1) := by decide +kernel
theorem dL_law_940 : decode cL_law 940 = .ok (.iadd, 1) := by decide +kernel
theorem dL_law_941 : decode cL_law 941 = .ok (.iaload, 1) := by decide +kernel
theorem dL_law_942 : decode cL_law 942 = .ok (.invokevirtual 134, 3) := by decide +kernel
theorem dL_law_945 : decode cL_law 945 = .ok (.istore 6, 2) := by decide +kernel
theorem dL_law_947 : decode cL_law 947 = .ok (.aload_n 2, 1) := by decide +kernel
theorem dL_law_948 : decode cL_law 948 = .ok (.invokevirtual 96, 3) := by decide +kernel
theorem dL_law_951 : decode cL_law 951 = .ok (.iload 5, 2) := by decide +kernel
theorem dL_law_953 : decode cL_law 953 = .ok (.if_icmp .eq 5, 3) := by decide +kernel
theorem dL_law_956 : decode cL_law 956 = .ok (.iconst 0, 1) := by decide +kernel
theorem dL_law_957 : decode cL_law 957 = .ok (.ireturn, 1) := by decide +kernel
theorem dL_law_958 : decode cL_law 958 = .ok (.iload 5, 2) := by decide +kernel
theorem dL_law_960 : decode cL_law 960 = .ok (.ifCond .ne 15, 3) := by decide +kernel
theorem dL_law_963 : decode cL_law 963 = .ok (.aload_n 3, 1) := by decide +kernel
theorem dL_law_964 : decode cL_law 964 = .ok (.iconst 0, 1) := by decide +kernel
theorem dL_law_965 : decode cL_law 965 = .ok (.laload, 1) := by decide +kernel
theorem dL_law_966 : decode cL_law 966 = .ok (.iload 6, 2) := by decide +kernel
theorem dL_law_968 : decode cL_law 968 = .ok (.i2l, 1) := by decide +kernel
theorem dL_law_969 : decode cL_law 969 = .ok (.lcmp, 1) := by decide +kernel
theorem dL_law_970 : decode cL_law 970 = .ok (.ifCond .eq 5, 3) := by decide +kernel
theorem dL_law_973 : decode cL_law 973 = .ok (.iconst 0, 1) := by decide +kernel
theorem dL_law_974 : decode cL_law 974 = .ok (.ireturn, 1) := by decide +kernel
theorem dL_law_975 : decode cL_law 975 = .ok (.goto 593, 3) := by decide +kernel
theorem dL_law_978 : decode cL_law 978 = .ok (.aload_n 1, 1) := by decide +kernel
theorem dL_law_979 : decode cL_law 979 = .ok (.aload_n 0, 1) := by decide +kernel
theorem dL_law_980 : decode cL_law 980 = .ok (.iload 4, 2) := by decide +kernel
theorem dL_law_982 : decode cL_law 982 = .ok (.iconst 1, 1) := by decide +kernel
theorem dL_law_983 : decode cL_law 983 = .ok (.iadd, 1) := by decide +kernel
theorem dL_law_984 : decode cL_law 984 = .ok (.iaload, 1) := by decide +kernel
theorem dL_law_985 : decode cL_law 985 = .ok (.aload_n 3, 1) := by decide +kernel
theorem dL_law_986 : decode cL_law 986 = .ok (.invokestatic 135, 3) := by decide +kernel
theorem dL_law_989 : decode cL_law 989 = .ok (.istore 5, 2) := by decide +kernel
theorem dL_law_991 : decode cL_law 991 = .ok (.aload_n 2, 1) := by decide +kernel
theorem dL_law_992 : decode cL_law 992 = .ok (.aload_n 0, 1) := by decide +kernel
theorem dL_law_993 : decode cL_law 993 = .ok (.iload 4, 2) := by decide +kernel
theorem dL_law_995 : decode cL_law 995 = .ok (.iconst 1, 1) := by decide +kernel
theorem dL_law_996 : decode cL_law 996 = .ok (.iadd, 1) := by decide +kernel
theorem dL_law_997 : decode cL_law 997 = .ok (.iaload, 1) := by decide +kernel
theorem dL_law_998 : decode cL_law 998 = .ok (.invokevirtual 137, 3) := by decide +kernel
theorem dL_law_1001 : decode cL_law 1001 = .ok (.istore 6, 2) := by decide +kernel
theorem dL_law_1003 : decode cL_law 1003 = .ok (.aload_n 2, 1) := by decide +kernel
theorem dL_law_1004 : decode cL_law 1004 = .ok (.invokevirtual 96, 3) := by decide +kernel
theorem dL_law_1007 : decode cL_law 1007 = .ok (.iload 5, 2) := by decide +kernel
theorem dL_law_1009 : decode cL_law 1009 = .ok (.if_icmp .eq 5, 3) := by decide +kernel
theorem dL_law_1012 : decode cL_law 1012 = .ok (.iconst 0, 1) := by decide +kernel
theorem dL_law_1013 : decode cL_law 1013 = .ok (.ireturn, 1) := by decide +kernel
theorem dL_law_1014 : decode cL_law 1014 = .ok (.iload 5, 2) := by decide +kernel
theorem dL_law_1016 : decode cL_law 1016 = .ok (.ifCond .ne 15, 3) := by decide +kernel
theorem dL_law_1019 : decode cL_law 1019 = .ok (.aload_n 3, 1) := by decide +kernel
theorem dL_law_1020 : decode cL_law 1020 = .ok (.iconst 0, 1) := by decide +kernel
theorem dL_law_1021 : decode cL_law 1021 = .ok (.laload, 1) := by decide +kernel
theorem dL_law_1022 : decode cL_law 1022 = .ok (.iload 6, 2) := by decide +kernel
theorem dL_law_1024 : decode cL_law 1024 = .ok (.i2l, 1) := by decide +kernel
theorem dL_law_1025 : decode cL_law 1025 = .ok (.lcmp, 1) := by decide +kernel
theorem dL_law_1026 : decode cL_law 1026 = .ok (.ifCond .eq 5, 3) := by decide +kernel
theorem dL_law_1029 : decode cL_law 1029 = .ok (.iconst 0, 1) := by decide +kernel
theorem dL_law_1030 : decode cL_law 1030 = .ok (.ireturn, 1) := by decide +kernel
theorem dL_law_1031 : decode cL_law 1031 = .ok (.goto 537, 3) := by decide +kernel
theorem dL_law_1034 : decode cL_law 1034 = .ok (.aload_n 1, 1) := by decide +kernel
theorem dL_law_1035 : decode cL_law 1035 = .ok (.aload_n 0, 1) := by decide +kernel
theorem dL_law_1036 : decode cL_law 1036 = .ok (.iload 4, 2) := by decide +kernel
theorem dL_law_1038 : decode cL_law 1038 = .ok (.iconst 1, 1) := by decide +kernel
theorem dL_law_1039 : decode cL_law 1039 = .ok (.iadd, 1) := by decide +kernel
theorem dL_law_1040 : decode cL_law 1040 = .ok (.iaload, 1) := by decide +kernel
theorem dL_law_1041 : decode cL_law 1041 = .ok (.aload_n 0, 1) := by decide +kernel
theorem dL_law_1042 : decode cL_law 1042 = .ok (.iload 4, 2) := by decide +kernel
theorem dL_law_1044 : decode cL_law 1044 = .ok (.iconst 2, 1) := by decide +kernel
theorem dL_law_1045 : decode cL_law 1045 = .ok (.iadd, 1) := by decide +kernel
theorem dL_law_1046 : decode cL_law 1046 = .ok (.iaload, 1) := by decide +kernel
theorem dL_law_1047 : decode cL_law 1047 = .ok (.aload_n 3, 1) := by decide +kernel
theorem dL_law_1048 : decode cL_law 1048 = .ok (.invokestatic 138, 3) := by decide +kernel
theorem dL_law_1051 : decode cL_law 1051 = .ok (.istore 5, 2) := by decide +kernel
theorem dL_law_1053 : decode cL_law 1053 = .ok (.aload_n 2, 1) := by decide +kernel
theorem dL_law_1054 : decode cL_law 1054 = .ok (.aload_n 0, 1) := by decide +kernel
theorem dL_law_1055 : decode cL_law 1055 = .ok (.iload 4, 2) := by decide +kernel
theorem dL_law_1057 : decode cL_law 1057 = .ok (.iconst 1, 1) := by decide +kernel
theorem dL_law_1058 : decode cL_law 1058 = .ok (.iadd, 1) := by decide +kernel
theorem dL_law_1059 : decode cL_law 1059 = .ok (.iaload, 1) := by decide +kernel
theorem dL_law_1060 : decode cL_law 1060 = .ok (.aload_n 0, 1) := by decide +kernel
theorem dL_law_1061 : decode cL_law 1061 = .ok (.iload 4, 2) := by decide +kernel
theorem dL_law_1063 : decode cL_law 1063 = .ok (.iconst 2, 1) := by decide +kernel
theorem dL_law_1064 : decode cL_law 1064 = .ok (.iadd, 1) := by decide +kernel
theorem dL_law_1065 : decode cL_law 1065 = .ok (.iaload, 1) := by decide +kernel
theorem dL_law_1066 : decode cL_law 1066 = .ok (.invokevirtual 140, 3) := by decide +kernel
theorem dL_law_1069 : decode cL_law 1069 = .ok (.istore 6, 2) := by decide +kernel
theorem dL_law_1071 : decode cL_law 1071 = .ok (.aload_n 2, 1) := by decide +kernel
theorem dL_law_1072 : decode cL_law 1072 = .ok (.invokevirtual 96, 3) := by decide +kernel
theorem dL_law_1075 : decode cL_law 1075 = .ok (.iload 5, 2) := by decide +kernel
theorem dL_law_1077 : decode cL_law 1077 = .ok (.if_icmp .eq 5, 3) := by decide +kernel
theorem dL_law_1080 : decode cL_law 1080 = .ok (.iconst 0, 1) := by decide +kernel
theorem dL_law_1081 : decode cL_law 1081 = .ok (.ireturn, 1) := by decide +kernel
theorem dL_law_1082 : decode cL_law 1082 = .ok (.iload 5, 2) := by decide +kernel
theorem dL_law_1084 : decode cL_law 1084 = .ok (.ifCond .ne 15, 3) := by decide +kernel
theorem dL_law_1087 : decode cL_law 1087 = .ok (.aload_n 3, 1) := by decide +kernel
theorem dL_law_1088 : decode cL_law 1088 = .ok (.iconst 0, 1) := by decide +kernel
theorem dL_law_1089 : decode cL_law 1089 = .ok (.laload, 1) := by decide +kernel
theorem dL_law_1090 : decode cL_law 1090 = .ok (.iload 6, 2) := by decide +kernel
theorem dL_law_1092 : decode cL_law 1092 = .ok (.i2l, 1) := by decide +kernel
theorem dL_law_1093 : decode cL_law 1093 = .ok (.lcmp, 1) := by decide +kernel
theorem dL_law_1094 : decode cL_law 1094 = .ok (.ifCond .eq 5, 3) := by decide +kernel
theorem dL_law_1097 : decode cL_law 1097 = .ok (.iconst 0, 1) := by decide +kernel
theorem dL_law_1098 : decode cL_law 1098 = .ok (.ireturn, 1) := by decide +kernel
theorem dL_law_1099 : decode cL_law 1099 = .ok (.goto 469, 3) := by decide +kernel
theorem dL_law_1102 : decode cL_law 1102 = .ok (.aload_n 1, 1) := by decide +kernel
theorem dL_law_1103 : decode cL_law 1103 = .ok (.aload_n 0, 1) := by decide +kernel
theorem dL_law_1104 : decode cL_law 1104 = .ok (.iload 4, 2) := by decide +kernel
theorem dL_law_1106 : decode cL_law 1106 = .ok (.iconst 1, 1) := by decide +kernel
theorem dL_law_1107 : decode cL_law 1107 = .ok (.iadd, 1) := by decide +kernel
theorem dL_law_1108 : decode cL_law 1108 = .ok (.iaload, 1) := by decide +kernel
theorem dL_law_1109 : decode cL_law 1109 = .ok (.aload_n 0, 1) := by decide +kernel
theorem dL_law_1110 : decode cL_law 1110 = .ok (.iload 4, 2) := by decide +kernel
theorem dL_law_1112 : decode cL_law 1112 = .ok (.iconst 2, 1) := by decide +kernel
theorem dL_law_1113 : decode cL_law 1113 = .ok (.iadd, 1) := by decide +kernel
theorem dL_law_1114 : decode cL_law 1114 = .ok (.iaload, 1) := by decide +kernel
theorem dL_law_1115 : decode cL_law 1115 = .ok (.aload_n 3, 1) := by decide +kernel
theorem dL_law_1116 : decode cL_law 1116 = .ok (.invokestatic 141, 3) := by decide +kernel
theorem dL_law_1119 : decode cL_law 1119 = .ok (.istore 5, 2) := by decide +kernel
theorem dL_law_1121 : decode cL_law 1121 = .ok (.aload_n 2, 1) := by decide +kernel
theorem dL_law_1122 : decode cL_law 1122 = .ok (.aload_n 0, 1) := by decide +kernel
theorem dL_law_1123 : decode cL_law 1123 = .ok (.iload 4, 2) := by decide +kernel
theorem dL_law_1125 : decode cL_law 1125 = .ok (.iconst 1, 1) := by decide +kernel
theorem dL_law_1126 : decode cL_law 1126 = .ok (.iadd, 1) := by decide +kernel
theorem dL_law_1127 : decode cL_law 1127 = .ok (.iaload, 1) := by decide +kernel
theorem dL_law_1128 : decode cL_law 1128 = .ok (.aload_n 0, 1) := by decide +kernel
theorem dL_law_1129 : decode cL_law 1129 = .ok (.iload 4, 2) := by decide +kernel
theorem dL_law_1131 : decode cL_law 1131 = .ok (.iconst 2, 1) := by decide +kernel
theorem dL_law_1132 : decode cL_law 1132 = .ok (.iadd, 1) := by decide +kernel
theorem dL_law_1133 : decode cL_law 1133 = .ok (.iaload, 1) := by decide +kernel
theorem dL_law_1134 : decode cL_law 1134 = .ok (.invokevirtual 143, 3) := by decide +kernel
theorem dL_law_1137 : decode cL_law 1137 = .ok (.istore 6, 2) := by decide +kernel
theorem dL_law_1139 : decode cL_law 1139 = .ok (.aload_n 2, 1) := by decide +kernel
theorem dL_law_1140 : decode cL_law 1140 = .ok (.invokevirtual 96, 3) := by decide +kernel
theorem dL_law_1143 : decode cL_law 1143 = .ok (.iload 5, 2) := by decide +kernel
theorem dL_law_1145 : decode cL_law 1145 = .ok (.if_icmp .eq 5, 3) := by decide +kernel
theorem dL_law_1148 : decode cL_law 1148 = .ok (.iconst 0, 1) := by decide +kernel
theorem dL_law_1149 : decode cL_law 1149 = .ok (.ireturn, 1) := by decide +kernel
theorem dL_law_1150 : decode cL_law 1150 = .ok (.iload 5, 2) := by decide +kernel
theorem dL_law_1152 : decode cL_law 1152 = .ok (.ifCond .ne 15, 3) := by decide +kernel
theorem dL_law_1155 : decode cL_law 1155 = .ok (.aload_n 3, 1) := by decide +kernel
theorem dL_law_1156 : decode cL_law 1156 = .ok (.iconst 0, 1) := by decide +kernel
theorem dL_law_1157 : decode cL_law 1157 = .ok (.laload, 1) := by decide +kernel
theorem dL_law_1158 : decode cL_law 1158 = .ok (.iload 6, 2) := by decide +kernel
theorem dL_law_1160 : decode cL_law 1160 = .ok (.i2l, 1) := by decide +kernel
theorem dL_law_1161 : decode cL_law 1161 = .ok (.lcmp, 1) := by decide +kernel
theorem dL_law_1162 : decode cL_law 1162 = .ok (.ifCond .eq 5, 3) := by decide +kernel
theorem dL_law_1165 : decode cL_law 1165 = .ok (.iconst 0, 1) := by decide +kernel
theorem dL_law_1166 : decode cL_law 1166 = .ok (.ireturn, 1) := by decide +kernel
theorem dL_law_1167 : decode cL_law 1167 = .ok (.goto 401, 3) := by decide +kernel
theorem dL_law_1170 : decode cL_law 1170 = .ok (.aload_n 1, 1) := by decide +kernel
theorem dL_law_1171 : decode cL_law 1171 = .ok (.aload_n 0, 1) := by decide +kernel
theorem dL_law_1172 : decode cL_law 1172 = .ok (.iload 4, 2) := by decide +kernel
theorem dL_law_1174 : decode cL_law 1174 = .ok (.iconst 1, 1) := by decide +kernel
theorem dL_law_1175 : decode cL_law 1175 = .ok (.iadd, 1) := by decide +kernel
theorem dL_law_1176 : decode cL_law 1176 = .ok (.iaload, 1) := by decide +kernel
theorem dL_law_1177 : decode cL_law 1177 = .ok (.aload_n 3, 1) := by decide +kernel
theorem dL_law_1178 : decode cL_law 1178 = .ok (.invokestatic 144, 3) := by decide +kernel
theorem dL_law_1181 : decode cL_law 1181 = .ok (.istore 5, 2) := by decide +kernel
theorem dL_law_1183 : decode cL_law 1183 = .ok (.aload_n 2, 1) := by decide +kernel
theorem dL_law_1184 : decode cL_law 1184 = .ok (.aload_n 0, 1) := by decide +kernel
theorem dL_law_1185 : decode cL_law 1185 = .ok (.iload 4, 2) := by decide +kernel
theorem dL_law_1187 : decode cL_law 1187 = .ok (.iconst 1, 1) := by decide +kernel
theorem dL_law_1188 : decode cL_law 1188 = .ok (.iadd, 1) := by decide +kernel
theorem dL_law_1189 : decode cL_law 1189 = .ok (.iaload, 1) := by decide +kernel
theorem dL_law_1190 : decode cL_law 1190 = .ok (.invokevirtual 146, 3) := by decide +kernel
theorem dL_law_1193 : decode cL_law 1193 = .ok (.istore 6, 2) := by decide +kernel
theorem dL_law_1195 : decode cL_law 1195 = .ok (.aload_n 2, 1) := by decide +kernel
theorem dL_law_1196 : decode cL_law 1196 = .ok (.invokevirtual 96, 3) := by decide +kernel
theorem dL_law_1199 : decode cL_law 1199 = .ok (.iload 5, 2) := by decide +kernel
theorem dL_law_1201 : decode cL_law 1201 = .ok (.if_icmp .eq 5, 3) := by decide +kernel
theorem dL_law_1204 : decode cL_law 1204 = .ok (.iconst 0, 1) := by decide +kernel
theorem dL_law_1205 : decode cL_law 1205 = .ok (.ireturn, 1) := by decide +kernel
theorem dL_law_1206 : decode cL_law 1206 = .ok (.iload 5, 2) := by decide +kernel
theorem dL_law_1208 : decode cL_law 1208 = .ok (.ifCond .ne 15, 3) := by decide +kernel
theorem dL_law_1211 : decode cL_law 1211 = .ok (.aload_n 3, 1) := by decide +kernel
theorem dL_law_1212 : decode cL_law 1212 = .ok (.iconst 0, 1) := by decide +kernel
theorem dL_law_1213 : decode cL_law 1213 = .ok (.laload, 1) := by decide +kernel
theorem dL_law_1214 : decode cL_law 1214 = .ok (.iload 6, 2) := by decide +kernel
theorem dL_law_1216 : decode cL_law 1216 = .ok (.i2l, 1) := by decide +kernel
theorem dL_law_1217 : decode cL_law 1217 = .ok (.lcmp, 1) := by decide +kernel
theorem dL_law_1218 : decode cL_law 1218 = .ok (.ifCond .eq 5, 3) := by decide +kernel
theorem dL_law_1221 : decode cL_law 1221 = .ok (.iconst 0, 1) := by decide +kernel
theorem dL_law_1222 : decode cL_law 1222 = .ok (.ireturn, 1) := by decide +kernel
theorem dL_law_1223 : decode cL_law 1223 = .ok (.goto 345, 3) := by decide +kernel
theorem dL_law_1226 : decode cL_law 1226 = .ok (.aload_n 1, 1) := by decide +kernel
theorem dL_law_1227 : decode cL_law 1227 = .ok (.aload_n 0, 1) := by decide +kernel
theorem dL_law_1228 : decode cL_law 1228 = .ok (.iload 4, 2) := by decide +kernel
theorem dL_law_1230 : decode cL_law 1230 = .ok (.iconst 1, 1) := by decide +kernel
theorem dL_law_1231 : decode cL_law 1231 = .ok (.iadd, 1) := by decide +kernel
theorem dL_law_1232 : decode cL_law 1232 = .ok (.iaload, 1) := by decide +kernel
theorem dL_law_1233 : decode cL_law 1233 = .ok (.aload_n 0, 1) := by decide +kernel
theorem dL_law_1234 : decode cL_law 1234 = .ok (.iload 4, 2) := by decide +kernel
theorem dL_law_1236 : decode cL_law 1236 = .ok (.iconst 2, 1) := by decide +kernel
theorem dL_law_1237 : decode cL_law 1237 = .ok (.iadd, 1) := by decide +kernel
theorem dL_law_1238 : decode cL_law 1238 = .ok (.iaload, 1) := by decide +kernel
theorem dL_law_1239 : decode cL_law 1239 = .ok (.aload_n 0, 1) := by decide +kernel
theorem dL_law_1240 : decode cL_law 1240 = .ok (.iload 4, 2) := by decide +kernel
theorem dL_law_1242 : decode cL_law 1242 = .ok (.iconst 3, 1) := by decide +kernel
theorem dL_law_1243 : decode cL_law 1243 = .ok (.iadd, 1) := by decide +kernel
theorem dL_law_1244 : decode cL_law 1244 = .ok (.iaload, 1) := by decide +kernel
theorem dL_law_1245 : decode cL_law 1245 = .ok (.aload_n 0, 1) := by decide +kernel
theorem dL_law_1246 : decode cL_law 1246 = .ok (.iload 4, 2) := by decide +kernel
theorem dL_law_1248 : decode cL_law 1248 = .ok (.iconst 4, 1) := by decide +kernel
theorem dL_law_1249 : decode cL_law 1249 = .ok (.iadd, 1) := by decide +kernel
theorem dL_law_1250 : decode cL_law 1250 = .ok (.iaload, 1) := by decide +kernel
theorem dL_law_1251 : decode cL_law 1251 = .ok (.aload_n 3, 1) := by decide +kernel
theorem dL_law_1252 : decode cL_law 1252 = .ok (.invokestatic 147, 3) := by decide +kernel
theorem dL_law_1255 : decode cL_law 1255 = .ok (.istore 5, 2) := by decide +kernel
theorem dL_law_1257 : decode cL_law 1257 = .ok (.aload_n 2, 1) := by decide +kernel
theorem dL_law_1258 : decode cL_law 1258 = .ok (.aload_n 0, 1) := by decide +kernel
theorem dL_law_1259 : decode cL_law 1259 = .ok (.iload 4, 2) := by decide +kernel
theorem dL_law_1261 : decode cL_law 1261 = .ok (.iconst 1, 1) := by decide +kernel
theorem dL_law_1262 : decode cL_law 1262 = .ok (.iadd, 1) := by decide +kernel
theorem dL_law_1263 : decode cL_law 1263 = .ok (.iaload, 1) := by decide +kernel
theorem dL_law_1264 : decode cL_law 1264 = .ok (.aload_n 0, 1) := by decide +kernel
theorem dL_law_1265 : decode cL_law 1265 = .ok (.iload 4, 2) := by decide +kernel
theorem dL_law_1267 : decode cL_law 1267 = .ok (.iconst 2, 1) := by decide +kernel
theorem dL_law_1268 : decode cL_law 1268 = .ok (.iadd, 1) := by decide +kernel
theorem dL_law_1269 : decode cL_law 1269 = .ok (.iaload, 1) := by decide +kernel
theorem dL_law_1270 : decode cL_law 1270 = .ok (.aload_n 0, 1) := by decide +kernel
theorem dL_law_1271 : decode cL_law 1271 = .ok (.iload 4, 2) := by decide +kernel
theorem dL_law_1273 : decode cL_law 1273 = .ok (.iconst 3, 1) := by decide +kernel
theorem dL_law_1274 : decode cL_law 1274 = .ok (.iadd, 1) := by decide +kernel
theorem dL_law_1275 : decode cL_law 1275 = .ok (.iaload, 1) := by decide +kernel
theorem dL_law_1276 : decode cL_law 1276 = .ok (.aload_n 0, 1) := by decide +kernel
theorem dL_law_1277 : decode cL_law 1277 = .ok (.iload 4, 2) := by decide +kernel
theorem dL_law_1279 : decode cL_law 1279 = .ok (.iconst 4, 1) := by decide +kernel
theorem dL_law_1280 : decode cL_law 1280 = .ok (.iadd, 1) := by decide +kernel
theorem dL_law_1281 : decode cL_law 1281 = .ok (.iaload, 1) := by decide +kernel
theorem dL_law_1282 : decode cL_law 1282 = .ok (.invokevirtual 150, 3) := by decide +kernel
theorem dL_law_1285 : decode cL_law 1285 = .ok (.istore 6, 2) := by decide +kernel
theorem dL_law_1287 : decode cL_law 1287 = .ok (.aload_n 2, 1) := by decide +kernel
theorem dL_law_1288 : decode cL_law 1288 = .ok (.invokevirtual 96, 3) := by decide +kernel
theorem dL_law_1291 : decode cL_law 1291 = .ok (.iload 5, 2) := by decide +kernel
theorem dL_law_1293 : decode cL_law 1293 = .ok (.if_icmp .eq 5, 3) := by decide +kernel
theorem dL_law_1296 : decode cL_law 1296 = .ok (.iconst 0, 1) := by decide +kernel
theorem dL_law_1297 : decode cL_law 1297 = .ok (.ireturn, 1) := by decide +kernel
theorem dL_law_1298 : decode cL_law 1298 = .ok (.iload 5, 2) := by decide +kernel
theorem dL_law_1300 : decode cL_law 1300 = .ok (.ifCond .ne 15, 3) := by decide +kernel
theorem dL_law_1303 : decode cL_law 1303 = .ok (.aload_n 3, 1) := by decide +kernel
theorem dL_law_1304 : decode cL_law 1304 = .ok (.iconst 0, 1) := by decide +kernel
theorem dL_law_1305 : decode cL_law 1305 = .ok (.laload, 1) := by decide +kernel
theorem dL_law_1306 : decode cL_law 1306 = .ok (.iload 6, 2) := by decide +kernel
theorem dL_law_1308 : decode cL_law 1308 = .ok (.i2l, 1) := by decide +kernel
theorem dL_law_1309 : decode cL_law 1309 = .ok (.lcmp, 1) := by decide +kernel
theorem dL_law_1310 : decode cL_law 1310 = .ok (.ifCond .eq 5, 3) := by decide +kernel
theorem dL_law_1313 : decode cL_law 1313 = .ok (.iconst 0, 1) := by decide +kernel
theorem dL_law_1314 : decode cL_law 1314 = .ok (.ireturn, 1) := by decide +kernel
theorem dL_law_1315 : decode cL_law 1315 = .ok (.goto 253, 3) := by decide +kernel
theorem dL_law_1318 : decode cL_law 1318 = .ok (.aload_n 1, 1) := by decide +kernel
theorem dL_law_1319 : decode cL_law 1319 = .ok (.aload_n 3, 1) := by decide +kernel
theorem dL_law_1320 : decode cL_law 1320 = .ok (.invokestatic 151, 3) := by decide +kernel
theorem dL_law_1323 : decode cL_law 1323 = .ok (.istore 5, 2) := by decide +kernel
theorem dL_law_1325 : decode cL_law 1325 = .ok (.aload_n 2, 1) := by decide +kernel
theorem dL_law_1326 : decode cL_law 1326 = .ok (.invokevirtual 154, 3) := by decide +kernel
theorem dL_law_1329 : decode cL_law 1329 = .ok (.istore 6, 2) := by decide +kernel
theorem dL_law_1331 : decode cL_law 1331 = .ok (.aload_n 2, 1) := by decide +kernel
theorem dL_law_1332 : decode cL_law 1332 = .ok (.invokevirtual 96, 3) := by decide +kernel
theorem dL_law_1335 : decode cL_law 1335 = .ok (.iload 5, 2) := by decide +kernel
theorem dL_law_1337 : decode cL_law 1337 = .ok (.if_icmp .eq 5, 3) := by decide +kernel
theorem dL_law_1340 : decode cL_law 1340 = .ok (.iconst 0, 1) := by decide +kernel
theorem dL_law_1341 : decode cL_law 1341 = .ok (.ireturn, 1) := by decide +kernel
theorem dL_law_1342 : decode cL_law 1342 = .ok (.iload 5, 2) := by decide +kernel
theorem dL_law_1344 : decode cL_law 1344 = .ok (.ifCond .ne 15, 3) := by decide +kernel
theorem dL_law_1347 : decode cL_law 1347 = .ok (.aload_n 3, 1) := by decide +kernel
theorem dL_law_1348 : decode cL_law 1348 = .ok (.iconst 0, 1) := by decide +kernel
theorem dL_law_1349 : decode cL_law 1349 = .ok (.laload, 1) := by decide +kernel
theorem dL_law_1350 : decode cL_law 1350 = .ok (.iload 6, 2) := by decide +kernel
theorem dL_law_1352 : decode cL_law 1352 = .ok (.i2l, 1) := by decide +kernel
theorem dL_law_1353 : decode cL_law 1353 = .ok (.lcmp, 1) := by decide +kernel
theorem dL_law_1354 : decode cL_law 1354 = .ok (.ifCond .eq 5, 3) := by decide +kernel
theorem dL_law_1357 : decode cL_law 1357 = .ok (.iconst 0, 1) := by decide +kernel
theorem dL_law_1358 : decode cL_law 1358 = .ok (.ireturn, 1) := by decide +kernel
theorem dL_law_1359 : decode cL_law 1359 = .ok (.goto 209, 3) := by decide +kernel
theorem dL_law_1362 : decode cL_law 1362 = .ok (.aload_n 1, 1) := by decide +kernel
theorem dL_law_1363 : decode cL_law 1363 = .ok (.invokevirtual 155, 3) := by decide +kernel
theorem dL_law_1366 : decode cL_law 1366 = .ok (.aload_n 2, 1) := by decide +kernel
theorem dL_law_1367 : decode cL_law 1367 = .ok (.invokevirtual 158, 3) := by decide +kernel
theorem dL_law_1370 : decode cL_law 1370 = .ok (.if_icmp .eq 198, 3) := by decide +kernel
theorem dL_law_1373 : decode cL_law 1373 = .ok (.iconst 0, 1) := by decide +kernel
theorem dL_law_1374 : decode cL_law 1374 = .ok (.ireturn, 1) := by decide +kernel
theorem dL_law_1375 : decode cL_law 1375 = .ok (.aload_n 1, 1) := by decide +kernel
theorem dL_law_1376 : decode cL_law 1376 = .ok (.aload_n 0, 1) := by decide +kernel
theorem dL_law_1377 : decode cL_law 1377 = .ok (.iload 4, 2) := by decide +kernel
theorem dL_law_1379 : decode cL_law 1379 = .ok (.iconst 1, 1) := by decide +kernel
theorem dL_law_1380 : decode cL_law 1380 = .ok (.iadd, 1) := by decide +kernel
theorem dL_law_1381 : decode cL_law 1381 = .ok (.iaload, 1) := by decide +kernel
theorem dL_law_1382 : decode cL_law 1382 = .ok (.aload_n 3, 1) := by decide +kernel
theorem dL_law_1383 : decode cL_law 1383 = .ok (.invokestatic 159, 3) := by decide +kernel
theorem dL_law_1386 : decode cL_law 1386 = .ok (.istore 5, 2) := by decide +kernel
theorem dL_law_1388 : decode cL_law 1388 = .ok (.aload_n 2, 1) := by decide +kernel
theorem dL_law_1389 : decode cL_law 1389 = .ok (.aload_n 0, 1) := by decide +kernel
theorem dL_law_1390 : decode cL_law 1390 = .ok (.iload 4, 2) := by decide +kernel
theorem dL_law_1392 : decode cL_law 1392 = .ok (.iconst 1, 1) := by decide +kernel
theorem dL_law_1393 : decode cL_law 1393 = .ok (.iadd, 1) := by decide +kernel
theorem dL_law_1394 : decode cL_law 1394 = .ok (.iaload, 1) := by decide +kernel
theorem dL_law_1395 : decode cL_law 1395 = .ok (.invokevirtual 161, 3) := by decide +kernel
theorem dL_law_1398 : decode cL_law 1398 = .ok (.istore 6, 2) := by decide +kernel
theorem dL_law_1400 : decode cL_law 1400 = .ok (.aload_n 2, 1) := by decide +kernel
theorem dL_law_1401 : decode cL_law 1401 = .ok (.invokevirtual 96, 3) := by decide +kernel
theorem dL_law_1404 : decode cL_law 1404 = .ok (.iload 5, 2) := by decide +kernel
theorem dL_law_1406 : decode cL_law 1406 = .ok (.if_icmp .eq 5, 3) := by decide +kernel
theorem dL_law_1409 : decode cL_law 1409 = .ok (.iconst 0, 1) := by decide +kernel
theorem dL_law_1410 : decode cL_law 1410 = .ok (.ireturn, 1) := by decide +kernel
theorem dL_law_1411 : decode cL_law 1411 = .ok (.iload 5, 2) := by decide +kernel
theorem dL_law_1413 : decode cL_law 1413 = .ok (.ifCond .ne 15, 3) := by decide +kernel
theorem dL_law_1416 : decode cL_law 1416 = .ok (.aload_n 3, 1) := by decide +kernel
theorem dL_law_1417 : decode cL_law 1417 = .ok (.iconst 0, 1) := by decide +kernel
theorem dL_law_1418 : decode cL_law 1418 = .ok (.laload, 1) := by decide +kernel
theorem dL_law_1419 : decode cL_law 1419 = .ok (.iload 6, 2) := by decide +kernel
theorem dL_law_1421 : decode cL_law 1421 = .ok (.i2l, 1) := by decide +kernel
theorem dL_law_1422 : decode cL_law 1422 = .ok (.lcmp, 1) := by decide +kernel
theorem dL_law_1423 : decode cL_law 1423 = .ok (.ifCond .eq 5, 3) := by decide +kernel
theorem dL_law_1426 : decode cL_law 1426 = .ok (.iconst 0, 1) := by decide +kernel
theorem dL_law_1427 : decode cL_law 1427 = .ok (.ireturn, 1) := by decide +kernel
theorem dL_law_1428 : decode cL_law 1428 = .ok (.goto 140, 3) := by decide +kernel
theorem dL_law_1431 : decode cL_law 1431 = .ok (.aload_n 1, 1) := by decide +kernel
theorem dL_law_1432 : decode cL_law 1432 = .ok (.aload_n 0, 1) := by decide +kernel
theorem dL_law_1433 : decode cL_law 1433 = .ok (.iload 4, 2) := by decide +kernel
theorem dL_law_1435 : decode cL_law 1435 = .ok (.iconst 1, 1) := by decide +kernel
theorem dL_law_1436 : decode cL_law 1436 = .ok (.iadd, 1) := by decide +kernel
theorem dL_law_1437 : decode cL_law 1437 = .ok (.iaload, 1) := by decide +kernel
theorem dL_law_1438 : decode cL_law 1438 = .ok (.aload_n 0, 1) := by decide +kernel
theorem dL_law_1439 : decode cL_law 1439 = .ok (.iload 4, 2) := by decide +kernel
theorem dL_law_1441 : decode cL_law 1441 = .ok (.iconst 2, 1) := by decide +kernel
theorem dL_law_1442 : decode cL_law 1442 = .ok (.iadd, 1) := by decide +kernel
theorem dL_law_1443 : decode cL_law 1443 = .ok (.iaload, 1) := by decide +kernel
theorem dL_law_1444 : decode cL_law 1444 = .ok (.aload_n 3, 1) := by decide +kernel
theorem dL_law_1445 : decode cL_law 1445 = .ok (.invokestatic 162, 3) := by decide +kernel
theorem dL_law_1448 : decode cL_law 1448 = .ok (.istore 5, 2) := by decide +kernel
theorem dL_law_1450 : decode cL_law 1450 = .ok (.aload_n 2, 1) := by decide +kernel
theorem dL_law_1451 : decode cL_law 1451 = .ok (.aload_n 0, 1) := by decide +kernel
theorem dL_law_1452 : decode cL_law 1452 = .ok (.iload 4, 2) := by decide +kernel
theorem dL_law_1454 : decode cL_law 1454 = .ok (.iconst 1, 1) := by decide +kernel
theorem dL_law_1455 : decode cL_law 1455 = .ok (.iadd, 1) := by decide +kernel
theorem dL_law_1456 : decode cL_law 1456 = .ok (.iaload, 1) := by decide +kernel
theorem dL_law_1457 : decode cL_law 1457 = .ok (.aload_n 0, 1) := by decide +kernel
theorem dL_law_1458 : decode cL_law 1458 = .ok (.iload 4, 2) := by decide +kernel
theorem dL_law_1460 : decode cL_law 1460 = .ok (.iconst 2, 1) := by decide +kernel
theorem dL_law_1461 : decode cL_law 1461 = .ok (.iadd, 1) := by decide +kernel
theorem dL_law_1462 : decode cL_law 1462 = .ok (.iaload, 1) := by decide +kernel
theorem dL_law_1463 : decode cL_law 1463 = .ok (.invokevirtual 164, 3) := by decide +kernel
theorem dL_law_1466 : decode cL_law 1466 = .ok (.istore 6, 2) := by decide +kernel
theorem dL_law_1468 : decode cL_law 1468 = .ok (.aload_n 2, 1) := by decide +kernel
theorem dL_law_1469 : decode cL_law 1469 = .ok (.invokevirtual 96, 3) := by decide +kernel
theorem dL_law_1472 : decode cL_law 1472 = .ok (.iload 5, 2) := by decide +kernel
theorem dL_law_1474 : decode cL_law 1474 = .ok (.if_icmp .eq 5, 3) := by decide +kernel
theorem dL_law_1477 : decode cL_law 1477 = .ok (.iconst 0, 1) := by decide +kernel
theorem dL_law_1478 : decode cL_law 1478 = .ok (.ireturn, 1) := by decide +kernel
theorem dL_law_1479 : decode cL_law 1479 = .ok (.iload 5, 2) := by decide +kernel
theorem dL_law_1481 : decode cL_law 1481 = .ok (.ifCond .ne 15, 3) := by decide +kernel
theorem dL_law_1484 : decode cL_law 1484 = .ok (.aload_n 3, 1) := by decide +kernel
theorem dL_law_1485 : decode cL_law 1485 = .ok (.iconst 0, 1) := by decide +kernel
theorem dL_law_1486 : decode cL_law 1486 = .ok (.laload, 1) := by decide +kernel
theorem dL_law_1487 : decode cL_law 1487 = .ok (.iload 6, 2) := by decide +kernel
theorem dL_law_1489 : decode cL_law 1489 = .ok (.i2l, 1) := by decide +kernel
theorem dL_law_1490 : decode cL_law 1490 = .ok (.lcmp, 1) := by decide +kernel
theorem dL_law_1491 : decode cL_law 1491 = .ok (.ifCond .eq 5, 3) := by decide +kernel
theorem dL_law_1494 : decode cL_law 1494 = .ok (.iconst 0, 1) := by decide +kernel
theorem dL_law_1495 : decode cL_law 1495 = .ok (.ireturn, 1) := by decide +kernel
theorem dL_law_1496 : decode cL_law 1496 = .ok (.goto 72, 3) := by decide +kernel
theorem dL_law_1499 : decode cL_law 1499 = .ok (.aload_n 1, 1) := by decide +kernel
theorem dL_law_1500 : decode cL_law 1500 = .ok (.aload_n 0, 1) := by decide +kernel
theorem dL_law_1501 : decode cL_law 1501 = .ok (.iload 4, 2) := by decide +kernel
theorem dL_law_1503 : decode cL_law 1503 = .ok (.iconst 1, 1) := by decide +kernel
theorem dL_law_1504 : decode cL_law 1504 = .ok (.iadd, 1) := by decide +kernel
theorem dL_law_1505 : decode cL_law 1505 = .ok (.iaload, 1) := by decide +kernel
theorem dL_law_1506 : decode cL_law 1506 = .ok (.aload_n 3, 1) := by decide +kernel
theorem dL_law_1507 : decode cL_law 1507 = .ok (.invokestatic 165, 3) := by decide +kernel
theorem dL_law_1510 : decode cL_law 1510 = .ok (.istore 5, 2) := by decide +kernel
theorem dL_law_1512 : decode cL_law 1512 = .ok (.aload_n 2, 1) := by decide +kernel
theorem dL_law_1513 : decode cL_law 1513 = .ok (.aload_n 0, 1) := by decide +kernel
theorem dL_law_1514 : decode cL_law 1514 = .ok (.iload 4, 2) := by decide +kernel
theorem dL_law_1516 : decode cL_law 1516 = .ok (.iconst 1, 1) := by decide +kernel
theorem dL_law_1517 : decode cL_law 1517 = .ok (.iadd, 1) := by decide +kernel
theorem dL_law_1518 : decode cL_law 1518 = .ok (.iaload, 1) := by decide +kernel
theorem dL_law_1519 : decode cL_law 1519 = .ok (.invokevirtual 167, 3) := by decide +kernel
theorem dL_law_1522 : decode cL_law 1522 = .ok (.istore 6, 2) := by decide +kernel
theorem dL_law_1524 : decode cL_law 1524 = .ok (.aload_n 2, 1) := by decide +kernel
theorem dL_law_1525 : decode cL_law 1525 = .ok (.invokevirtual 96, 3) := by decide +kernel
theorem dL_law_1528 : decode cL_law 1528 = .ok (.iload 5, 2) := by decide +kernel
theorem dL_law_1530 : decode cL_law 1530 = .ok (.if_icmp .eq 5, 3) := by decide +kernel
theorem dL_law_1533 : decode cL_law 1533 = .ok (.iconst 0, 1) := by decide +kernel
theorem dL_law_1534 : decode cL_law 1534 = .ok (.ireturn, 1) := by decide +kernel
theorem dL_law_1535 : decode cL_law 1535 = .ok (.iload 5, 2) := by decide +kernel
theorem dL_law_1537 : decode cL_law 1537 = .ok (.ifCond .ne 15, 3) := by decide +kernel
theorem dL_law_1540 : decode cL_law 1540 = .ok (.aload_n 3, 1) := by decide +kernel
theorem dL_law_1541 : decode cL_law 1541 = .ok (.iconst 0, 1) := by decide +kernel
theorem dL_law_1542 : decode cL_law 1542 = .ok (.laload, 1) := by decide +kernel
theorem dL_law_1543 : decode cL_law 1543 = .ok (.iload 6, 2) := by decide +kernel
theorem dL_law_1545 : decode cL_law 1545 = .ok (.i2l, 1) := by decide +kernel
theorem dL_law_1546 : decode cL_law 1546 = .ok (.lcmp, 1) := by decide +kernel
theorem dL_law_1547 : decode cL_law 1547 = .ok (.ifCond .eq 5, 3) := by decide +kernel
theorem dL_law_1550 : decode cL_law 1550 = .ok (.iconst 0, 1) := by decide +kernel
theorem dL_law_1551 : decode cL_law 1551 = .ok (.ireturn, 1) := by decide +kernel
theorem dL_law_1552 : decode cL_law 1552 = .ok (.goto 16, 3) := by decide +kernel
theorem dL_law_1555 : decode cL_law 1555 = .ok (.aload_n 1, 1) := by decide +kernel
theorem dL_law_1556 : decode cL_law 1556 = .ok (.invokevirtual 168, 3) := by decide +kernel
theorem dL_law_1559 : decode cL_law 1559 = .ok (.aload_n 2, 1) := by decide +kernel
theorem dL_law_1560 : decode cL_law 1560 = .ok (.invokevirtual 171, 3) := by decide +kernel
theorem dL_law_1563 : decode cL_law 1563 = .ok (.if_icmp .eq 5, 3) := by decide +kernel
theorem dL_law_1566 : decode cL_law 1566 = .ok (.iconst 0, 1) := by decide +kernel
theorem dL_law_1567 : decode cL_law 1567 = .ok (.ireturn, 1) := by decide +kernel
theorem dL_law_1568 : decode cL_law 1568 = .ok (.iinc 4 5, 3) := by decide +kernel
theorem dL_law_1571 : decode cL_law 1571 = .ok (.goto (-1548), 3) := by decide +kernel
theorem dL_law_1574 : decode cL_law 1574 = .ok (.iconst 1, 1) := by decide +kernel
theorem dL_law_1575 : decode cL_law 1575 = .ok (.ireturn, 1) := by decide +kernel
end
section
abbrev qS : Type := Nat → Nat → Int32
abbrev qT : Type := ClassId × ClassId × ClassId
abbrev TY (cy : qT) : List (ClassId × FieldType) := [(cy.1, .int), (cy.2.1, .boolean), (cy.2.2, .long)]
abbrev aI (cy : qT) (n : Nat) (f : Nat → Int32) : va_E := .inl (cy.1, n, .inl f)
abbrev aZ (cy : qT) (n : Nat) (f : Nat → Int32) : va_E := .inl (cy.2.1, n, .inl f)
abbrev aL (cy : qT) (n : Nat) (f : Nat → Int64) : va_E := .inl (cy.2.2, n, .inr (.inl f))
/-- a state of the class: h the places of its cells, S what they hold, J what its search holds -/
abbrev wX0 (cy : qT) (h : Nat → Nat) (S : qS) : va_W := [(h 20, .inr (0, [.ref (h 21), .ref (h 22), .ref (h 23), .ref (h 24), .ref (h 25), .ref (h 26), .int (S 31 0), .int (S 32 0)])), (h 21, aI cy 100 (S 21)), (h 22, aI cy 100 (S 22)), (h 23, aI cy 100 (S 23)), (h 24, aI cy 100 (S 24)), (h 25, aI cy 100 (S 25)), (h 26, aI cy 100 (S 26))]
abbrev wX1 (cy : qT) (h : Nat → Nat) (J : qS) : va_W := [(h 12, .inr (1, [.ref (h 13), .ref (h 14), .ref (h 15), .int (J 12 0)])), (h 13, aI cy 32 (J 13)), (h 14, aI cy 32 (J 14)), (h 15, aI cy 4096 (J 15))]
abbrev wX2 (cy : qT) (h : Nat → Nat) (S : qS) : va_W := [(h 16, .inr (2, [.ref (h 17), .ref (h 18), .ref (h 19), .int (S 30 0)])), (h 17, aI cy 40 (S 17)), (h 18, aI cy 320 (S 18)), (h 19, aI cy 40 (S 19))]
abbrev wX3 (cy : qT) (h : Nat → Nat) (S : qS) : va_W := [(h 5, .inr (3, [.ref (h 6), .ref (h 7)])), (h 6, aI cy 32 (S 6)), (h 7, aI cy 8 (S 7))]
abbrev wX4 (cy : qT) (h : Nat → Nat) (S : qS) : va_W := [(h 1, .inr (4, [.ref (h 2), .ref (h 3), .ref (h 4)])), (h 2, aI cy 12 (S 2)), (h 3, aI cy 12 (S 3)), (h 4, aI cy 1001 (S 4))]
abbrev wX5 (cy : qT) (h : Nat → Nat) (S : qS) : va_W := [(h 8, .inr (5, [.ref (h 9), .ref (h 10), .ref (h 11), .int (S 29 0)])), (h 9, aI cy 40 (S 9)), (h 10, aI cy 40 (S 10)), (h 11, aZ cy 40 (S 11))]
abbrev wXO (h : Nat → Nat) (S : qS) : Nat × va_E := (h 0, .inr (6, [.ref (h 1), .ref (h 5), .ref (h 8), .ref (h 12), .ref (h 16), .ref (h 20), .int (S 27 0), .int (S 28 0)]))
abbrev wC (cy : qT) (h : Nat → Nat) (S J : qS) : va_W := [(h 0, .inr (6, [.ref (h 1), .ref (h 5), .ref (h 8), .ref (h 12), .ref (h 16), .ref (h 20), .int (S 27 0), .int (S 28 0)])),
  (h 1, .inr (4, [.ref (h 2), .ref (h 3), .ref (h 4)])), (h 2, aI cy 12 (S 2)), (h 3, aI cy 12 (S 3)), (h 4, aI cy 1001 (S 4)),
  (h 5, .inr (3, [.ref (h 6), .ref (h 7)])), (h 6, aI cy 32 (S 6)), (h 7, aI cy 8 (S 7)),
  (h 8, .inr (5, [.ref (h 9), .ref (h 10), .ref (h 11), .int (S 29 0)])), (h 9, aI cy 40 (S 9)), (h 10, aI cy 40 (S 10)), (h 11, aZ cy 40 (S 11)),
  (h 12, .inr (1, [.ref (h 13), .ref (h 14), .ref (h 15), .int (J 12 0)])), (h 13, aI cy 32 (J 13)), (h 14, aI cy 32 (J 14)), (h 15, aI cy 4096 (J 15)),
  (h 16, .inr (2, [.ref (h 17), .ref (h 18), .ref (h 19), .int (S 30 0)])), (h 17, aI cy 40 (S 17)), (h 18, aI cy 320 (S 18)), (h 19, aI cy 40 (S 19)),
  (h 20, .inr (0, [.ref (h 21), .ref (h 22), .ref (h 23), .ref (h 24), .ref (h 25), .ref (h 26), .int (S 31 0), .int (S 32 0)])), (h 21, aI cy 100 (S 21)), (h 22, aI cy 100 (S 22)), (h 23, aI cy 100 (S 23)), (h 24, aI cy 100 (S 24)), (h 25, aI cy 100 (S 25)), (h 26, aI cy 100 (S 26))]
/-- who is ill, as the reference has it: a place for each actor and day -/
def illM (f : Nat → Int32) : Nat → Int32 := fun i => if (f (i % 1001)).toNatClampNeg.testBit (i / 1001) then 1 else 0
/-- the casts of shows, as the reference has them: nothing behind the last show -/
def scM (f : Nat → Int32) (n : Int32) : Nat → Int32 := fun i => if i < 8 * n.toNatClampNeg then f i else 0
/-- a state of the reference: g the places of its cells, S what they hold, K what its search holds -/
abbrev wM (cy : qT) (g : Nat → Nat) (S K : qS) : va_W := [(g 0, .inr (7, [.int (S 27 0), .ref (g 1), .ref (g 2), .ref (g 3), .ref (g 4), .ref (g 5), .ref (g 6), .ref (g 7), .int (S 29 0), .ref (g 9), .ref (g 10), .ref (g 11), .ref (g 12), .int (S 30 0), .ref (g 14), .ref (g 15), .ref (g 16), .ref (g 17), .ref (g 18), .ref (g 19), .int (S 31 0), .int (S 28 0), .int (S 32 0), .ref (g 23), .ref (g 24), .ref (g 25), .int (K 26 0), .int (K 27 0), .int (K 28 0)])),
  (g 1, aI cy 12 (S 2)), (g 2, aI cy 12 (S 3)), (g 3, aI cy 32 (S 6)), (g 4, aI cy 8 (S 7)), (g 5, aI cy 40 (S 10)), (g 6, aI cy 40 (S 9)), (g 7, aI cy 40 (S 11)), (g 9, aI cy 12012 (illM (S 4))), (g 10, aI cy 40 (S 19)), (g 11, aI cy 40 (S 17)), (g 12, aI cy 320 (scM (S 18) (S 30 0))),
  (g 14, aI cy 100 (S 21)), (g 15, aI cy 100 (S 26)), (g 16, aI cy 100 (S 22)), (g 17, aI cy 100 (S 23)), (g 18, aI cy 100 (S 24)), (g 19, aI cy 100 (S 25)), (g 23, aI cy 32 (K 23)), (g 24, aI cy 8 (K 24)), (g 25, aI cy 8 (K 25))]
/-- what holds of the machine's tables wherever the law is: classes, nest mates, texts, classes apart -/
def xIO : String := "java/lang/IndexOutOfBoundsException"
def xIA : String := "java/lang/IllegalArgumentException"
def xIS : String := "java/lang/IllegalStateException"
def Gn (U : State) : Prop := va_Nw (.methodLinkNest RX6 18 yX3_init RX6) U ∧ va_Nw (.methodLinkNest RX6 25 yX5_init RX6) U ∧ va_Nw (.methodLinkNest RX6 46 yX0_init RX6) U ∧ va_Nw (.methodLinkNest RX4 21 yX6_has RX6) U ∧ va_Nw (.methodLinkNest RX4 25 yX6_with RX6) U ∧ va_Nw (.methodLinkNest RX1 44 yX6_has RX6) U ∧ va_Nw (.methodLinkNest RX1 48 yX6_with RX6) U
abbrev gT (i : Nat) (tx : String) (U : State) : Prop := ∃ a : Nat, vk_R RX6 i tx a U
def Gt (U : State) : Prop := gT 60 "parts is out of range" U ∧ gT 97 "the actor would know too many parts" U ∧ gT 103 "the actor is in the row" U ∧ gT 109 "the row is full" U ∧ gT 114 "the actor is not in the row" U ∧ gT 123 "there are too many costumes" U ∧ gT 174 "there is a show on the day" U ∧ gT 177 "there are too many shows" U ∧ gT 181 "price is out of range" U ∧ gT 183 "promise is out of range" U ∧ gT 188 "the show is not ahead" U ∧ gT 191 "there are too many seats" U ∧ gT 196 "the part has no first actor" U ∧ gT 201 "the last day is not played" U ∧ gT 217 "there is no such actor" U ∧ gT 220 "there is no such part" U ∧ gT 222 "there is no such costume, show or seat" U ∧ gT 224 "size is out of range" U ∧ gT 226 "a day is out of range" U
def Gc (U : State) : Prop := va_Nc xIA xIO U ∧ va_Nc xIS xIO U ∧ va_Nc xIS xIA U
def Gk (D : va_G) (cy : qT) (U : State) : Prop := va_K D vwCl (TY cy) U ∧ Gn U ∧ Gt U ∧ Gc U
theorem Gk.K {D : va_G} {cy : qT} {U : State} (h : Gk D cy U) : va_K D vwCl (TY cy) U := h.1
theorem Gk.warm {D : va_G} {cy : qT} {s U : State} (h : Gk D cy s) (hW : s.WarmedH U.vm) : Gk D cy U := by
  obtain ⟨h1, ⟨n1, n2, n3, n4, n5, n6, n7⟩, h3, ⟨k1, k2, k3⟩⟩ := h
  refine ⟨va_K.moved hW.alike h1, ⟨va_Nw.warmM hW n1, va_Nw.warmM hW n2, va_Nw.warmM hW n3, va_Nw.warmM hW n4, va_Nw.warmM hW n5, va_Nw.warmM hW n6, va_Nw.warmM hW n7⟩, ?_, ⟨va_Nc.moved hW.alike k1, va_Nc.moved hW.alike k2, va_Nc.moved hW.alike k3⟩⟩
  have w : ∀ (i : Nat) (tx : String), gT i tx s → gT i tx U := fun i tx ⟨a, q⟩ => ⟨a, vk_R.warm hW q⟩
  obtain ⟨t0, t1, t2, t3, t4, t5, t6, t7, t8, t9, t10, t11, t12, t13, t14, t15, t16, t17, t18⟩ := h3
  exact ⟨w _ _ t0, w _ _ t1, w _ _ t2, w _ _ t3, w _ _ t4, w _ _ t5, w _ _ t6, w _ _ t7, w _ _ t8, w _ _ t9, w _ _ t10, w _ _ t11, w _ _ t12, w _ _ t13, w _ _ t14, w _ _ t15, w _ _ t16, w _ _ t17, w _ _ t18⟩
theorem Gk.call {D : va_G} {cy : qT} {U : State} {g : JFrame} {mk : MethodId} {a : Array Value} (h : Gk D cy U) : Gk D cy (U.calling g mk a) := h.warm (U := U.calling g mk a) (State.WarmedH.refl U)
/-- where a method begins that reads alone; that writes; that may throw -/
def roB (D : va_G) (cy : qT) (w : va_W) (U : State) : Prop := va_P D vwCl w U.heap ∧ Gk D cy U
def wrB (D : va_G) (cy : qT) (w : va_W) (sz : Nat) (U : State) : Prop := U.heap.size = sz ∧ va_P D vwCl w U.heap ∧ Gk D cy U ∧ va_D (fun _ => True) w
def Tz (A : Nat → Prop) (U : State) (H : Heap) : Prop := vx_Zq Bundle.tN "UNASSIGNED_STACK" Bundle.steD A U H ∧ vx_Zq Bundle.tN "SUPPRESSED_SENTINEL" Bundle.listD A U H
def thB (D : va_G) (cy : qT) (w : va_W) (sz : Nat) (U : State) : Prop := wrB D cy w sz U ∧ Tz (va_A w sz) U U.heap
theorem roB.bl {D : va_G} {cy : qT} {w : va_W} {av : List Value} : FrameBlind (va_Pc av (roB D cy w)) := fun _ _ _ _ q => ⟨q.1, q.2.1, q.2.2.call⟩
theorem wrB.bl {D : va_G} {cy : qT} {w : va_W} {sz : Nat} {av : List Value} : FrameBlind (va_Pc av (wrB D cy w sz)) := fun _ _ _ _ q => ⟨q.1, q.2.1, q.2.2.1, q.2.2.2.1.call, q.2.2.2.2⟩
theorem Tz.down {A B : Nat → Prop} {s U : State} {H : Heap} {locs : List Loc} (h : Tz A s s.heap) (hS : va_S A s.heap H locs) (hB : ∀ q, B q → A q) (hU : U.heap = H) (hW : s.WarmedH U.vm) : Tz B U U.heap := by
  rw [hU]
  exact ⟨vx_Zq.moved hW.alike (vx_Zq.narrow (vx_Zq.kept h.1 hS.2.1) hB), vx_Zq.moved hW.alike (vx_Zq.narrow (vx_Zq.kept h.2 hS.2.1) hB)⟩
theorem Tz.call {A : Nat → Prop} {U : State} {H : Heap} {g : JFrame} {mk : MethodId} {a : Array Value} (h : Tz A U H) : Tz A (U.calling g mk a) H := ⟨vx_Zq.moved (u := U) (U := U.calling g mk a) (Vm.Alike.refl U.vm) h.1, vx_Zq.moved (u := U) (U := U.calling g mk a) (Vm.Alike.refl U.vm) h.2⟩
theorem thB.bl {D : va_G} {cy : qT} {w : va_W} {sz : Nat} {av : List Value} : FrameBlind (va_Pc av (thB D cy w sz)) := fun _ _ _ _ q => ⟨q.1, ⟨q.2.1.1, q.2.1.2.1, q.2.1.2.2.1.call, q.2.1.2.2.2⟩, q.2.2.call⟩
theorem nuB.bl {av : List Value} : FrameBlind (va_Pc av (fun _ => True)) := fun _ _ _ _ q => ⟨q.1, trivial⟩
/-- a method that throws has changed nothing that was there -/
def nX (px : String → Prop) : String → State → State → Prop := fun E st t => px E ∧ st.heap.size ≤ t.heap.size ∧ ∀ q : Nat, q < st.heap.size → t.heap[q]? = st.heap[q]?
/-- how a writer ends: its world anew, nothing else changed -/
abbrev wrQ (D : va_G) (w : va_W) (sz : Nat) {S : Type} (W1 : S → va_W) : S → State → Prop := fun u t => va_P D vwCl (W1 u) t.heap ∧ va_D (va_A w sz) (W1 u)
theorem vaP_kept {D : va_G} {cl : List vw_C} {ws : va_W} {H H1 : Heap} (h : va_P D cl ws H) (hq : ∀ q : Nat, q < H.size → H1[q]? = H[q]?) : va_P D cl ws H1 := h.kept (fun k q hk => hq q.1 (h k q hk).lt)
theorem vaA_nil {A : Nat → Prop} {n : Nat} (hA : ∀ q, n ≤ q → A q) : ∀ q, va_A [] n q → A q := fun q h => h.elim (fun ⟨k, e, hk⟩ => by simp at hk) (hA q)
section CDN
variable {p : Program} {l : Launch} {e : Env} {R : Room} {s : State} {m : MethodId} {args : Array Value} {below : List Frame} {meth : Method} {c : Code} {H : Heap} {locs : List Loc} {cells slots : Nat} {Q : State → Prop}
variable {cc : ByteArray} {pc : Nat} {ls : Array Slot} {rest st0 : List Value} {D : va_G} {cl : List vw_C} {cy : qT} {A0 : Nat → Prop} {H0 : Heap} {ws : va_W} {a : Nat}
theorem cd_tp {x y : Int32} (h : x = y) (k : W p l e R s m args below meth c H locs cells slots Q (F0 m pc ls (.int y :: rest))) : W p l e R s m args below meth c H locs cells slots Q (F0 m pc ls (.int x :: rest)) := h ▸ k
theorem cd_sm : ∀ b, b < 32 → ((nI b &&& 31).toBitVec.smod 32).toNat = b := by decide +kernel
theorem cd_and (a b : Nat) : nI a &&& nI b = nI (a &&& b) := by
  apply Int32.toBitVec_inj.1
  show BitVec.ofNat 32 a &&& BitVec.ofNat 32 b = BitVec.ofNat 32 (a &&& b)
  apply BitVec.eq_of_getLsbD_eq
  intro i hi
  simp [hi]
theorem cd_or (a b : Nat) : nI a ||| nI b = nI (a ||| b) := by
  apply Int32.toBitVec_inj.1
  show BitVec.ofNat 32 a ||| BitVec.ofNat 32 b = BitVec.ofNat 32 (a ||| b)
  apply BitVec.eq_of_getLsbD_eq
  intro i hi
  simp [hi]
theorem cd_iadd (hexec : p.tables.exec = Jvm.exec) (hb : c.code = cc) {a b : Nat}  (hdg : decode cc pc = .ok (.iadd, 1)) (k : W p l e R s m args below meth c H locs cells slots Q (F0 m (pc + 1) ls (.int (nI (a + b)) :: rest))) : W p l e R s m args below meth c H locs cells slots Q (F0 m pc ls (.int (nI b) :: .int (nI a) :: rest)) := lv_iadd hexec hb hdg (cd_tp (nI_add a b) k)
theorem cd_isub (hexec : p.tables.exec = Jvm.exec) (hb : c.code = cc) {a b : Nat} (h : b ≤ a) (hdg : decode cc pc = .ok (.isub, 1)) (k : W p l e R s m args below meth c H locs cells slots Q (F0 m (pc + 1) ls (.int (nI (a - b)) :: rest))) : W p l e R s m args below meth c H locs cells slots Q (F0 m pc ls (.int (nI b) :: .int (nI a) :: rest)) := lv_isub hexec hb hdg (cd_tp (pk_sub h) k)
theorem cd_imul (hexec : p.tables.exec = Jvm.exec) (hb : c.code = cc) {a b : Nat}  (hdg : decode cc pc = .ok (.imul, 1)) (k : W p l e R s m args below meth c H locs cells slots Q (F0 m (pc + 1) ls (.int (nI (a * b)) :: rest))) : W p l e R s m args below meth c H locs cells slots Q (F0 m pc ls (.int (nI b) :: .int (nI a) :: rest)) := lv_imul hexec hb hdg (cd_tp (pk_mul a b) k)
theorem cd_iand (hexec : p.tables.exec = Jvm.exec) (hb : c.code = cc) {a b : Nat}  (hdg : decode cc pc = .ok (.iand, 1)) (k : W p l e R s m args below meth c H locs cells slots Q (F0 m (pc + 1) ls (.int (nI (a &&& b)) :: rest))) : W p l e R s m args below meth c H locs cells slots Q (F0 m pc ls (.int (nI b) :: .int (nI a) :: rest)) := lv_iand hexec hb hdg (cd_tp (cd_and a b) k)
theorem cd_ior (hexec : p.tables.exec = Jvm.exec) (hb : c.code = cc) {a b : Nat}  (hdg : decode cc pc = .ok (.ior, 1)) (k : W p l e R s m args below meth c H locs cells slots Q (F0 m (pc + 1) ls (.int (nI (a ||| b)) :: rest))) : W p l e R s m args below meth c H locs cells slots Q (F0 m pc ls (.int (nI b) :: .int (nI a) :: rest)) := lv_ior hexec hb hdg (cd_tp (cd_or a b) k)
theorem cd_ishl (hexec : p.tables.exec = Jvm.exec) (hb : c.code = cc) {a b : Nat} (h1 : b < 32) (h2 : a * 2 ^ b < 4294967296) (hdg : decode cc pc = .ok (.ishl, 1)) (k : W p l e R s m args below meth c H locs cells slots Q (F0 m (pc + 1) ls (.int (nI (a * 2 ^ b)) :: rest))) : W p l e R s m args below meth c H locs cells slots Q (F0 m pc ls (.int (nI b) :: .int (nI a) :: rest)) := lv_ishl hexec hb hdg (cd_tp (pk_shlN _ b (cd_sm b h1) h2) k)
theorem cd_ishr (hexec : p.tables.exec = Jvm.exec) (hb : c.code = cc) {a b : Nat} (h1 : b < 32) (h2 : a < 2147483648) (hdg : decode cc pc = .ok (.ishr, 1)) (k : W p l e R s m args below meth c H locs cells slots Q (F0 m (pc + 1) ls (.int (nI (a / 2 ^ b)) :: rest))) : W p l e R s m args below meth c H locs cells slots Q (F0 m pc ls (.int (nI b) :: .int (nI a) :: rest)) := lv_ishr hexec hb hdg (cd_tp (pk_shrN h2 _ b (cd_sm b h1)) k)
theorem cd_idiv (hexec : p.tables.exec = Jvm.exec) (hb : c.code = cc) {a b : Nat} (h1 : a < 2147483648) (h0 : 0 < b) (h2 : b < 2147483648) (hdg : decode cc pc = .ok (.idiv, 1)) (k : W p l e R s m args below meth c H locs cells slots Q (F0 m (pc + 1) ls (.int (nI (a / b)) :: rest))) : W p l e R s m args below meth c H locs cells slots Q (F0 m pc ls (.int (nI b) :: .int (nI a) :: rest)) := lv_idiv hexec hb hdg (nI_ne0 h0 h2) (cd_tp (pk_div h1 h0 h2) k)
theorem cd_irem (hexec : p.tables.exec = Jvm.exec) (hb : c.code = cc) {a b : Nat} (h1 : a < 2147483648) (h0 : 0 < b) (h2 : b < 2147483648) (hdg : decode cc pc = .ok (.irem, 1)) (k : W p l e R s m args below meth c H locs cells slots Q (F0 m (pc + 1) ls (.int (nI (a % b)) :: rest))) : W p l e R s m args below meth c H locs cells slots Q (F0 m pc ls (.int (nI b) :: .int (nI a) :: rest)) := lv_irem hexec hb hdg (nI_ne0 h0 h2) (cd_tp (pk_rem h1 h0 h2) k)
theorem cd_icmp_eq (hexec : p.tables.exec = Jvm.exec) (hb : c.code = cc) {a b : Nat} {off : Int} {tgt : Nat} (hdg : decode cc pc = .ok (.if_icmp .eq off, 3)) (ht : (pc : Int) + off = (tgt : Int)) (ha : a < 2147483648) (hb2 : b < 2147483648) (kt : a = b → W p l e R s m args below meth c H locs cells slots Q (F0 m tgt ls rest)) (kf : a ≠ b → W p l e R s m args below meth c H locs cells slots Q (F0 m (pc + 3) ls rest)) : W p l e R s m args below meth c H locs cells slots Q (F0 m pc ls (.int (nI b) :: .int (nI a) :: rest)) := lv_icmp_eq hexec hb hdg ht (fun h => kt ((nI_eq ha hb2).mp h)) (fun h => kf (fun q => h ((nI_eq ha hb2).mpr q)))
theorem cd_icmp_ne (hexec : p.tables.exec = Jvm.exec) (hb : c.code = cc) {a b : Nat} {off : Int} {tgt : Nat} (hdg : decode cc pc = .ok (.if_icmp .ne off, 3)) (ht : (pc : Int) + off = (tgt : Int)) (ha : a < 2147483648) (hb2 : b < 2147483648) (kt : a ≠ b → W p l e R s m args below meth c H locs cells slots Q (F0 m tgt ls rest)) (kf : a = b → W p l e R s m args below meth c H locs cells slots Q (F0 m (pc + 3) ls rest)) : W p l e R s m args below meth c H locs cells slots Q (F0 m pc ls (.int (nI b) :: .int (nI a) :: rest)) := lv_icmp_ne hexec hb hdg ht (fun h => kt (fun q => h ((nI_eq ha hb2).mpr q))) (fun h => kf ((nI_eq ha hb2).mp (Decidable.of_not_not h)))
theorem cd_icmp_lt (hexec : p.tables.exec = Jvm.exec) (hb : c.code = cc) {a b : Nat} {off : Int} {tgt : Nat} (hdg : decode cc pc = .ok (.if_icmp .lt off, 3)) (ht : (pc : Int) + off = (tgt : Int)) (ha : a < 2147483648) (hb2 : b < 2147483648) (kt : a < b → W p l e R s m args below meth c H locs cells slots Q (F0 m tgt ls rest)) (kf : b ≤ a → W p l e R s m args below meth c H locs cells slots Q (F0 m (pc + 3) ls rest)) : W p l e R s m args below meth c H locs cells slots Q (F0 m pc ls (.int (nI b) :: .int (nI a) :: rest)) := lv_icmp_lt hexec hb hdg ht (fun h => kt ((nI_ltI ha hb2).mp h)) (fun h => kf (Nat.le_of_not_lt (fun q => h ((nI_ltI ha hb2).mpr q))))
theorem cd_icmp_ge (hexec : p.tables.exec = Jvm.exec) (hb : c.code = cc) {a b : Nat} {off : Int} {tgt : Nat} (hdg : decode cc pc = .ok (.if_icmp .ge off, 3)) (ht : (pc : Int) + off = (tgt : Int)) (ha : a < 2147483648) (hb2 : b < 2147483648) (kt : b ≤ a → W p l e R s m args below meth c H locs cells slots Q (F0 m tgt ls rest)) (kf : a < b → W p l e R s m args below meth c H locs cells slots Q (F0 m (pc + 3) ls rest)) : W p l e R s m args below meth c H locs cells slots Q (F0 m pc ls (.int (nI b) :: .int (nI a) :: rest)) := lv_icmp_ge hexec hb hdg ht (fun h => kt ((nI_leI hb2 ha).mp h)) (fun h => kf (Nat.lt_of_not_le (fun q => h ((nI_leI hb2 ha).mpr q))))
theorem cd_icmp_gt (hexec : p.tables.exec = Jvm.exec) (hb : c.code = cc) {a b : Nat} {off : Int} {tgt : Nat} (hdg : decode cc pc = .ok (.if_icmp .gt off, 3)) (ht : (pc : Int) + off = (tgt : Int)) (ha : a < 2147483648) (hb2 : b < 2147483648) (kt : b < a → W p l e R s m args below meth c H locs cells slots Q (F0 m tgt ls rest)) (kf : a ≤ b → W p l e R s m args below meth c H locs cells slots Q (F0 m (pc + 3) ls rest)) : W p l e R s m args below meth c H locs cells slots Q (F0 m pc ls (.int (nI b) :: .int (nI a) :: rest)) := lv_icmp_gt hexec hb hdg ht (fun h => kt ((nI_ltI hb2 ha).mp h)) (fun h => kf (Nat.le_of_not_lt (fun q => h ((nI_ltI hb2 ha).mpr q))))
theorem cd_icmp_le (hexec : p.tables.exec = Jvm.exec) (hb : c.code = cc) {a b : Nat} {off : Int} {tgt : Nat} (hdg : decode cc pc = .ok (.if_icmp .le off, 3)) (ht : (pc : Int) + off = (tgt : Int)) (ha : a < 2147483648) (hb2 : b < 2147483648) (kt : a ≤ b → W p l e R s m args below meth c H locs cells slots Q (F0 m tgt ls rest)) (kf : b < a → W p l e R s m args below meth c H locs cells slots Q (F0 m (pc + 3) ls rest)) : W p l e R s m args below meth c H locs cells slots Q (F0 m pc ls (.int (nI b) :: .int (nI a) :: rest)) := lv_icmp_le hexec hb hdg ht (fun h => kt ((nI_leI ha hb2).mp h)) (fun h => kf (Nat.lt_of_not_le (fun q => h ((nI_leI ha hb2).mpr q))))
theorem cd_z {a : Nat} (ha : a < 2147483648) : nI a = 0 ↔ a = 0 := nI_eq (b := 0) ha (by omega)
theorem cd_zp {a : Nat} (ha : a < 2147483648) : 0 < nI a ↔ 0 < a := nI_ltI (a := 0) (by omega) ha
theorem cd_zl {a : Nat} (ha : a < 2147483648) : nI a ≤ 0 ↔ a ≤ 0 := nI_leI (b := 0) ha (by omega)
theorem cd_if_eq (hexec : p.tables.exec = Jvm.exec) (hb : c.code = cc) {a : Nat} {off : Int} {tgt : Nat} (hdg : decode cc pc = .ok (.ifCond .eq off, 3)) (ht : (pc : Int) + off = (tgt : Int)) (ha : a < 2147483648) (kt : a = 0 → W p l e R s m args below meth c H locs cells slots Q (F0 m tgt ls rest)) (kf : a ≠ 0 → W p l e R s m args below meth c H locs cells slots Q (F0 m (pc + 3) ls rest)) : W p l e R s m args below meth c H locs cells slots Q (F0 m pc ls (.int (nI a) :: rest)) := lv_if_eq hexec hb hdg ht (fun h => kt ((cd_z ha).mp h)) (fun h => kf (fun q => h ((cd_z ha).mpr q)))
theorem cd_if_ne (hexec : p.tables.exec = Jvm.exec) (hb : c.code = cc) {a : Nat} {off : Int} {tgt : Nat} (hdg : decode cc pc = .ok (.ifCond .ne off, 3)) (ht : (pc : Int) + off = (tgt : Int)) (ha : a < 2147483648) (kt : a ≠ 0 → W p l e R s m args below meth c H locs cells slots Q (F0 m tgt ls rest)) (kf : a = 0 → W p l e R s m args below meth c H locs cells slots Q (F0 m (pc + 3) ls rest)) : W p l e R s m args below meth c H locs cells slots Q (F0 m pc ls (.int (nI a) :: rest)) := lv_if_ne hexec hb hdg ht (fun h => kt (fun q => h ((cd_z ha).mpr q))) (fun h => kf ((cd_z ha).mp (Decidable.of_not_not h)))
theorem cd_if_gt (hexec : p.tables.exec = Jvm.exec) (hb : c.code = cc) {a : Nat} {off : Int} {tgt : Nat} (hdg : decode cc pc = .ok (.ifCond .gt off, 3)) (ht : (pc : Int) + off = (tgt : Int)) (ha : a < 2147483648) (kt : 0 < a → W p l e R s m args below meth c H locs cells slots Q (F0 m tgt ls rest)) (kf : a = 0 → W p l e R s m args below meth c H locs cells slots Q (F0 m (pc + 3) ls rest)) : W p l e R s m args below meth c H locs cells slots Q (F0 m pc ls (.int (nI a) :: rest)) := lv_if_gt hexec hb hdg ht (fun h => kt ((cd_zp ha).mp h)) (fun h => kf (Nat.eq_zero_of_not_pos (fun q => h ((cd_zp ha).mpr q))))
theorem cd_if_le (hexec : p.tables.exec = Jvm.exec) (hb : c.code = cc) {a : Nat} {off : Int} {tgt : Nat} (hdg : decode cc pc = .ok (.ifCond .le off, 3)) (ht : (pc : Int) + off = (tgt : Int)) (ha : a < 2147483648) (kt : a = 0 → W p l e R s m args below meth c H locs cells slots Q (F0 m tgt ls rest)) (kf : 0 < a → W p l e R s m args below meth c H locs cells slots Q (F0 m (pc + 3) ls rest)) : W p l e R s m args below meth c H locs cells slots Q (F0 m pc ls (.int (nI a) :: rest)) := lv_if_le hexec hb hdg ht (fun h => kt (Nat.le_zero.mp ((cd_zl ha).mp h))) (fun h => kf (Nat.lt_of_not_le (fun q => h ((cd_zl ha).mpr q))))
theorem cd_i1 (e : Nat) : nI e + Int32.ofInt 1 = nI (e + 1) := nI_1 e
theorem cd_i5 (e : Nat) : nI e + Int32.ofInt 5 = nI (e + 5) := nI_add e 5
theorem cd_iald (hexec : p.tables.exec = Jvm.exec) (hb : c.code = cc) (hK : va_K D cl (TY cy) s) (hP : va_P D cl ws H) (q0 : Nat) {n : Nat} {f : Nat → Int32} (ha : ws[q0]? = some (a, aI cy n f)) {i : Nat} (hi : i < n) (hn : n < 2147483648) (hdg : decode cc pc = .ok (.iaload, 1))
    (kk : W p l e R s m args below meth c H locs cells slots Q (F0 m (pc + 1) ls (.int (f i) :: rest))) : W p l e R s m args below meth c H locs cells slots Q (F0 m pc ls (.int (nI i) :: .ref a :: rest)) :=
  va_iald hexec hb hK hP q0 0 ha rfl (vp_in_nI hi hn) hdg (by rw [nI_clamp (by omega)]; exact kk)
theorem cd_zald (hexec : p.tables.exec = Jvm.exec) (hb : c.code = cc) (hK : va_K D cl (TY cy) s) (hP : va_P D cl ws H) (q0 : Nat) {n : Nat} {f : Nat → Int32} (ha : ws[q0]? = some (a, aZ cy n f)) {i : Nat} (hi : i < n) (hn : n < 2147483648) (hdg : decode cc pc = .ok (.baload, 1))
    (kk : W p l e R s m args below meth c H locs cells slots Q (F0 m (pc + 1) ls (.int (f i) :: rest))) : W p l e R s m args below meth c H locs cells slots Q (F0 m pc ls (.int (nI i) :: .ref a :: rest)) :=
  va_zald hexec hb hK hP q0 1 ha rfl (vp_in_nI hi hn) hdg (by rw [nI_clamp (by omega)]; exact kk)
theorem cd_iast (hexec : p.tables.exec = Jvm.exec) (hb : c.code = cc) (hK : va_K D cl (TY cy) s) (hP : va_P D cl ws H) (hD : va_D A0 ws) (hS : va_S A0 H0 H locs) (q0 : Nat) {n : Nat} {f : Nat → Int32} (ha : ws[q0]? = some (a, aI cy n f)) {i : Nat} {x : Int32} (hi : i < n) (hn : n < 2147483648) (hdg : decode cc pc = .ok (.iastore, 1))
    (kk : ∀ (H1 : Heap) (locs1 : List Loc), va_P D cl (ws.set q0 (a, aI cy n (upd f i x))) H1 → va_D A0 (ws.set q0 (a, aI cy n (upd f i x))) → va_S A0 H0 H1 locs1 → W p l e R s m args below meth c H1 locs1 cells slots Q (F0 m (pc + 1) ls rest)) : W p l e R s m args below meth c H locs cells slots Q (F0 m pc ls (.int x :: .int (nI i) :: .ref a :: rest)) :=
  va_iast hexec hb hK hP hD hS q0 0 ha rfl (vp_in_nI hi hn) hdg (by rw [nI_clamp (by omega)]; exact kk)
theorem cd_zast (hexec : p.tables.exec = Jvm.exec) (hb : c.code = cc) (hK : va_K D cl (TY cy) s) (hP : va_P D cl ws H) (hD : va_D A0 ws) (hS : va_S A0 H0 H locs) (q0 : Nat) {n : Nat} {f : Nat → Int32} (ha : ws[q0]? = some (a, aZ cy n f)) {i : Nat} {x : Int32} (hx : vp_nar .boolean x = x) (hi : i < n) (hn : n < 2147483648) (hdg : decode cc pc = .ok (.bastore, 1))
    (kk : ∀ (H1 : Heap) (locs1 : List Loc), va_P D cl (ws.set q0 (a, aZ cy n (upd f i x))) H1 → va_D A0 (ws.set q0 (a, aZ cy n (upd f i x))) → va_S A0 H0 H1 locs1 → W p l e R s m args below meth c H1 locs1 cells slots Q (F0 m (pc + 1) ls rest)) : W p l e R s m args below meth c H locs cells slots Q (F0 m pc ls (.int x :: .int (nI i) :: .ref a :: rest)) :=
  va_zast hexec hb hK hP hD hS q0 1 ha rfl (vp_in_nI hi hn) hdg (by rw [nI_clamp (by omega), hx]; exact kk)
variable {mc ms : Nat} {free : Addr → Prop} {av : Array Value}
/-- a call of a method that reads alone -/
theorem cd_roi {post : Int32 → Prop} (hr : va_Run p l e R s m args below meth c H locs cells slots 0 0 (F0 m pc ls st0) rest (vp_Si post av) (fun _ => False)) (kk : ∀ r : Int32, post r → W p l e R s m args below meth c H locs cells slots Q (F0 m (pc + 3) ls (.int r :: rest))) : W p l e R s m args below meth c H locs cells slots Q (F0 m pc ls st0) := by
  intro T hT X
  obtain ⟨v, st₀, t, T', L, h0, X', hL, e1, -, ⟨r, hv, hp, hh⟩, st⟩ := hr T hT X
  cases hv
  obtain ⟨t2, a1, b1⟩ := kk r hp T' (by rw [e1, hh, h0]) (Stand.forget X' (fun q h => (hL q h).elim))
  exact ⟨t2, st t2 a1, b1⟩
/-- a call of a method that writes: the rest of the world stays -/
theorem cd_frQ {wc wr w1 ws' : va_W} {H1 : Heap} (hP : va_P D cl ws H) (hD : va_D A0 ws) (isC isR pm : List Nat) (hC : isC.map (fun i => ws[i]?) = wc.map some) (hR : isR.map (fun i => ws[i]?) = wr.map some) (hn : va_nd isR = true) (hdis : ∀ i ∈ isR, i ∉ isC) (hpn : va_nd pm = true) (hpm : pm.map (fun i => (wr ++ w1)[i]?) = ws'.map some)
    (hk : ∀ q : Nat, q < H.size → ¬ va_A wc H.size q → H1[q]? = H[q]?) (hF : ∀ q, va_A wc H.size q → A0 q) (hP1 : va_P D cl w1 H1) (hD1 : va_D (va_A wc H.size) w1) : va_P D cl ws' H1 ∧ va_D A0 ws' := by
  obtain ⟨h1, h2⟩ := va_join hP hD isC isR hC hR hn hdis hk hF hP1 hD1
  refine ⟨fun k q hq => ?_, h2.sub pm hpn hpm⟩
  have h3 : (pm.map (fun i => (wr ++ w1)[i]?))[k]? = some (some q) := by rw [hpm, List.getElem?_map, hq]; rfl
  rw [List.getElem?_map] at h3
  cases hi : pm[k]? with
  | none => rw [hi] at h3; cases h3
  | some i => rw [hi] at h3; exact h1 i q (Option.some.inj h3)
theorem cd_fri {S : Type} {post : Int32 → S → Prop} {W1 ws' : S → va_W} {wc wr : va_W} (hr : va_Run p l e R s m args below meth c H locs cells slots mc ms (F0 m pc ls st0) rest (va_Qi post (fun u t => va_P D cl (W1 u) t.heap ∧ va_D (va_A wc H.size) (W1 u)) (va_A wc H.size) av) (va_A wc H.size))
    (hP : va_P D cl ws H) (hD : va_D A0 ws) (hS : va_S A0 H0 H locs) (hA : ∀ q, H0.size ≤ q → A0 q) (isC isR pm : List Nat) (hC : isC.map (fun i => ws[i]?) = wc.map some) (hR : isR.map (fun i => ws[i]?) = wr.map some) (hn : va_nd isR = true) (hdis : ∀ i ∈ isR, i ∉ isC) (hpn : va_nd pm = true) (hpm : ∀ u : S, pm.map (fun i => (wr ++ W1 u)[i]?) = (ws' u).map some)
    (kk : ∀ (r : Int32) (u : S) (H1 : Heap) (locs1 : List Loc), post r u → va_P D cl (ws' u) H1 → va_D A0 (ws' u) → va_S A0 H0 H1 locs1 → W p l e R s m args below meth c H1 locs1 (cells + mc) (slots + ms) Q (F0 m (pc + 3) ls (.int r :: rest))) : W p l e R s m args below meth c H locs cells slots Q (F0 m pc ls st0) := by
  have hF := va_free (wc := wc) hD hS hA isC hC
  refine va_calli hr hS (fun q _ h => hF q h) hF (fun r u t H1 locs1 ht hvm hw hB hz1 hk1 hS1 => ?_)
  obtain ⟨hP1, hD1⟩ := hB
  rw [ht] at hP1
  obtain ⟨h1, h2⟩ := cd_frQ hP hD isC isR pm hC hR hn hdis hpn (hpm u) hk1 hF hP1 hD1
  exact kk r u H1 locs1 hw h1 h2 hS1
theorem cd_frv {S : Type} {post : S → Prop} {W1 ws' : S → va_W} {wc wr : va_W} (hr : va_Run p l e R s m args below meth c H locs cells slots mc ms (F0 m pc ls st0) rest (va_Qv post (fun u t => va_P D cl (W1 u) t.heap ∧ va_D (va_A wc H.size) (W1 u)) (va_A wc H.size) av) (va_A wc H.size))
    (hP : va_P D cl ws H) (hD : va_D A0 ws) (hS : va_S A0 H0 H locs) (hA : ∀ q, H0.size ≤ q → A0 q) (isC isR pm : List Nat) (hC : isC.map (fun i => ws[i]?) = wc.map some) (hR : isR.map (fun i => ws[i]?) = wr.map some) (hn : va_nd isR = true) (hdis : ∀ i ∈ isR, i ∉ isC) (hpn : va_nd pm = true) (hpm : ∀ u : S, pm.map (fun i => (wr ++ W1 u)[i]?) = (ws' u).map some)
    (kk : ∀ (u : S) (H1 : Heap) (locs1 : List Loc), post u → va_P D cl (ws' u) H1 → va_D A0 (ws' u) → va_S A0 H0 H1 locs1 → W p l e R s m args below meth c H1 locs1 (cells + mc) (slots + ms) Q (F0 m (pc + 3) ls rest)) : W p l e R s m args below meth c H locs cells slots Q (F0 m pc ls st0) := by
  have hF := va_free (wc := wc) hD hS hA isC hC
  refine va_callv hr hS (fun q _ h => hF q h) hF (fun u t H1 locs1 ht hvm hw hB hz1 hk1 hS1 => ?_)
  obtain ⟨hP1, hD1⟩ := hB
  rw [ht] at hP1
  obtain ⟨h1, h2⟩ := cd_frQ hP hD isC isR pm hC hR hn hdis hpn (hpm u) hk1 hF hP1 hD1
  exact kk u H1 locs1 hw h1 h2 hS1
/-- a call of a check: it throws, or nothing has changed -/
theorem cd_xrv {post : Unit → Prop} {px : String → Prop} (hr : vx_Run p l e R s m args below meth c H locs cells slots mc ms (F0 m pc ls st0) rest (va_Sv post av) (nX px) free) (hS : va_S A0 H0 H locs) (hf : ∀ q, free q → A0 q)
    (kx : ∀ (E : String) (ce : Cell) (q9 : Addr) (H1 : Heap) (locs1 : List Loc), px E → va_S A0 H0 H1 locs1 → H.size ≤ H1.size → (∀ q : Nat, q < H.size → H1[q]? = H[q]?) → H1[q9]? = some ce → ce.vm = .none → s.vm.findClass E = some ce.cls → vx_W p l e R s m args below meth c H1 locs1 (cells + mc) (slots + ms) Q (F0 m pc ls rest) q9)
    (kk : post () → ∀ locs1 : List Loc, va_S A0 H0 H locs1 → W p l e R s m args below meth c H locs1 (cells + mc) (slots + ms) Q (F0 m (pc + 3) ls rest)) : W p l e R s m args below meth c H locs cells slots Q (F0 m pc ls st0) := by
  intro T hT X
  have app : ∀ {L : List Loc}, (∀ q ∈ L, free q.base) → ∀ q ∈ locs ++ L, A0 q.base := fun hL q hq => (List.mem_append.mp hq).elim (hS.2.2 q) (fun h => hf _ (hL q h))
  rcases hr T hT X with ⟨v, st₀, t, T', L, h0, X', hL, e1, -, ⟨hv, hp, hh⟩, st⟩ | ⟨q, st₀, t, T', L, E, ce, h0, X', hL, e1, e2, ⟨hx, hz, hk⟩, hce, hcv, hcl, st⟩
  · cases hv
    obtain ⟨t2, a1, b1⟩ := kk hp (locs ++ L) ⟨hS.1, hS.2.1, app hL⟩ T' (by rw [e1, hh, h0]) X'
    exact ⟨t2, st t2 a1, b1⟩
  · rw [h0] at hz hk
    obtain ⟨t2, a1, b1⟩ := kx E ce q T'.heap (locs ++ L) hx ⟨Nat.le_trans hS.1 (by rw [e1]; exact hz), fun z h1 h2 => by rw [e1, hk z (Nat.lt_of_lt_of_le h1 hS.1)]; exact hS.2.1 z h1 h2, app hL⟩ (by rw [e1]; exact hz) (fun z h => by rw [e1]; exact hk z h) (by rw [e1]; exact hce) hcv hcl T' rfl X'
    exact ⟨t2, st.trans a1, b1⟩
/-- a call that writes or throws -/
theorem cd_xri {S : Type} {post : Int32 → S → Prop} {px : String → Prop} {W1 ws' : S → va_W} {wc wr : va_W} (hr : vx_Run p l e R s m args below meth c H locs cells slots mc ms (F0 m pc ls st0) rest (va_Qi post (fun u t => va_P D cl (W1 u) t.heap ∧ va_D (va_A wc H.size) (W1 u)) (va_A wc H.size) av) (nX px) (va_A wc H.size))
    (hP : va_P D cl ws H) (hD : va_D A0 ws) (hS : va_S A0 H0 H locs) (hA : ∀ q, H0.size ≤ q → A0 q) (isC isR pm : List Nat) (hC : isC.map (fun i => ws[i]?) = wc.map some) (hR : isR.map (fun i => ws[i]?) = wr.map some) (hn : va_nd isR = true) (hdis : ∀ i ∈ isR, i ∉ isC) (hpn : va_nd pm = true) (hpm : ∀ u : S, pm.map (fun i => (wr ++ W1 u)[i]?) = (ws' u).map some)
    (kx : ∀ (E : String) (ce : Cell) (q9 : Addr) (H1 : Heap) (locs1 : List Loc), px E → va_P D cl ws H1 → va_S A0 H0 H1 locs1 → H1[q9]? = some ce → ce.vm = .none → s.vm.findClass E = some ce.cls → vx_W p l e R s m args below meth c H1 locs1 (cells + mc) (slots + ms) Q (F0 m pc ls rest) q9)
    (kk : ∀ (r : Int32) (u : S) (H1 : Heap) (locs1 : List Loc), post r u → va_P D cl (ws' u) H1 → va_D A0 (ws' u) → va_S A0 H0 H1 locs1 → W p l e R s m args below meth c H1 locs1 (cells + mc) (slots + ms) Q (F0 m (pc + 3) ls (.int r :: rest))) : W p l e R s m args below meth c H locs cells slots Q (F0 m pc ls st0) := by
  have hF := va_free (wc := wc) hD hS hA isC hC
  intro T hT X
  have app : ∀ {L : List Loc}, (∀ q ∈ L, va_A wc H.size q.base) → ∀ q ∈ locs ++ L, A0 q.base := fun hL q hq => (List.mem_append.mp hq).elim (hS.2.2 q) (fun h => hF _ (hL q h))
  rcases hr T hT X with ⟨v, st₀, t, T', L, h0, X', hL, e1, -, ⟨⟨r, u, hv, hp, hP1, hD1⟩, hz, hk⟩, st⟩ | ⟨q, st₀, t, T', L, E, ce, h0, X', hL, e1, e2, ⟨hx, hz, hk⟩, hce, hcv, hcl, st⟩
  · cases hv
    rw [h0] at hz hk
    rw [← e1] at hz hk hP1
    obtain ⟨h1, h2⟩ := cd_frQ hP hD isC isR pm hC hR hn hdis hpn (hpm u) hk hF hP1 hD1
    obtain ⟨t2, a1, b1⟩ := kk r u T'.heap (locs ++ L) hp h1 h2 ⟨Nat.le_trans hS.1 hz, fun z h1 h2 => by rw [hk z (Nat.lt_of_lt_of_le h1 hS.1) (fun w => h2 (hF z w))]; exact hS.2.1 z h1 h2, app hL⟩ T' rfl X'
    exact ⟨t2, st t2 a1, b1⟩
  · rw [h0] at hz hk
    rw [← e1] at hz hk hce
    obtain ⟨t2, a1, b1⟩ := kx E ce q T'.heap (locs ++ L) hx (vaP_kept hP hk) ⟨Nat.le_trans hS.1 hz, fun z h1 h2 => by rw [hk z (Nat.lt_of_lt_of_le h1 hS.1)]; exact hS.2.1 z h1 h2, app hL⟩ hce hcv hcl T' rfl X'
    exact ⟨t2, st.trans a1, b1⟩
theorem wl1 {A1 : Type} {nL : Nat} (I : A1 → Prop) (μ : A1 → Nat) (lv : A1 → List (Nat × Value))
    (hs : ∀ (a1 : A1), I a1 → (∀ (b1 : A1), I b1 → μ b1 < μ a1 → ∀ ls : Array Slot, lv_has ls nL (lv b1) → W p l e R s m args below meth c H locs cells slots Q (F0 m pc ls [])) → ∀ ls : Array Slot, lv_has ls nL (lv a1) → W p l e R s m args below meth c H locs cells slots Q (F0 m pc ls []))
    (a1 : A1) (h : I a1) (hl : lv_has ls nL (lv a1)) : W p l e R s m args below meth c H locs cells slots Q (F0 m pc ls []) := by
  have key : ∀ (n : Nat) (a1 : A1), μ a1 < n → I a1 → ∀ ls : Array Slot, lv_has ls nL (lv a1) → W p l e R s m args below meth c H locs cells slots Q (F0 m pc ls []) := by
    intro n
    induction n with
    | zero => intro a1 h; exact absurd h (Nat.not_lt_zero _)
    | succ n ih => exact fun a1 h hI ls hl => hs a1 hI (fun b1 hJ hm ls2 hl2 => ih b1 (Nat.lt_of_lt_of_le hm (Nat.le_of_lt_succ h)) hJ ls2 hl2) ls hl
  exact key _ a1 (Nat.lt_succ_self _) h ls hl
theorem wl2 {A1 A2 : Type} {nL : Nat} (I : A1 → A2 → Prop) (μ : A1 → A2 → Nat) (lv : A1 → A2 → List (Nat × Value))
    (hs : ∀ (a1 : A1) (a2 : A2), I a1 a2 → (∀ (b1 : A1) (b2 : A2), I b1 b2 → μ b1 b2 < μ a1 a2 → ∀ ls : Array Slot, lv_has ls nL (lv b1 b2) → W p l e R s m args below meth c H locs cells slots Q (F0 m pc ls [])) → ∀ ls : Array Slot, lv_has ls nL (lv a1 a2) → W p l e R s m args below meth c H locs cells slots Q (F0 m pc ls []))
    (a1 : A1) (a2 : A2) (h : I a1 a2) (hl : lv_has ls nL (lv a1 a2)) : W p l e R s m args below meth c H locs cells slots Q (F0 m pc ls []) := by
  have key : ∀ (n : Nat) (a1 : A1) (a2 : A2), μ a1 a2 < n → I a1 a2 → ∀ ls : Array Slot, lv_has ls nL (lv a1 a2) → W p l e R s m args below meth c H locs cells slots Q (F0 m pc ls []) := by
    intro n
    induction n with
    | zero => intro a1 a2 h; exact absurd h (Nat.not_lt_zero _)
    | succ n ih => exact fun a1 a2 h hI ls hl => hs a1 a2 hI (fun b1 b2 hJ hm ls2 hl2 => ih b1 b2 (Nat.lt_of_lt_of_le hm (Nat.le_of_lt_succ h)) hJ ls2 hl2) ls hl
  exact key _ a1 a2 (Nat.lt_succ_self _) h ls hl
theorem wl3 {A1 A2 A3 : Type} {nL : Nat} (I : A1 → A2 → A3 → Prop) (μ : A1 → A2 → A3 → Nat) (lv : A1 → A2 → A3 → List (Nat × Value))
    (hs : ∀ (a1 : A1) (a2 : A2) (a3 : A3), I a1 a2 a3 → (∀ (b1 : A1) (b2 : A2) (b3 : A3), I b1 b2 b3 → μ b1 b2 b3 < μ a1 a2 a3 → ∀ ls : Array Slot, lv_has ls nL (lv b1 b2 b3) → W p l e R s m args below meth c H locs cells slots Q (F0 m pc ls [])) → ∀ ls : Array Slot, lv_has ls nL (lv a1 a2 a3) → W p l e R s m args below meth c H locs cells slots Q (F0 m pc ls []))
    (a1 : A1) (a2 : A2) (a3 : A3) (h : I a1 a2 a3) (hl : lv_has ls nL (lv a1 a2 a3)) : W p l e R s m args below meth c H locs cells slots Q (F0 m pc ls []) := by
  have key : ∀ (n : Nat) (a1 : A1) (a2 : A2) (a3 : A3), μ a1 a2 a3 < n → I a1 a2 a3 → ∀ ls : Array Slot, lv_has ls nL (lv a1 a2 a3) → W p l e R s m args below meth c H locs cells slots Q (F0 m pc ls []) := by
    intro n
    induction n with
    | zero => intro a1 a2 a3 h; exact absurd h (Nat.not_lt_zero _)
    | succ n ih => exact fun a1 a2 a3 h hI ls hl => hs a1 a2 a3 hI (fun b1 b2 b3 hJ hm ls2 hl2 => ih b1 b2 b3 (Nat.lt_of_lt_of_le hm (Nat.le_of_lt_succ h)) hJ ls2 hl2) ls hl
  exact key _ a1 a2 a3 (Nat.lt_succ_self _) h ls hl
theorem wh1 {A1 : Type} {nL : Nat} (I : A1 → Prop) (μ : A1 → Nat) (lv : A1 → List (Nat × Value)) (wd : A1 → va_W)
    (hs : ∀ (a1 : A1), I a1 → (∀ (b1 : A1), I b1 → μ b1 < μ a1 → ∀ (H1 : Heap) (locs1 : List Loc), va_P D cl (wd b1) H1 → va_D A0 (wd b1) → va_S A0 H0 H1 locs1 → ∀ ls : Array Slot, lv_has ls nL (lv b1) → W p l e R s m args below meth c H1 locs1 cells slots Q (F0 m pc ls [])) → ∀ (H1 : Heap) (locs1 : List Loc), va_P D cl (wd a1) H1 → va_D A0 (wd a1) → va_S A0 H0 H1 locs1 → ∀ ls : Array Slot, lv_has ls nL (lv a1) → W p l e R s m args below meth c H1 locs1 cells slots Q (F0 m pc ls []))
    (a1 : A1) (h : I a1) (hP : va_P D cl (wd a1) H) (hD : va_D A0 (wd a1)) (hS : va_S A0 H0 H locs) (hl : lv_has ls nL (lv a1)) : W p l e R s m args below meth c H locs cells slots Q (F0 m pc ls []) := by
  have key : ∀ (n : Nat) (a1 : A1), μ a1 < n → I a1 → ∀ (H1 : Heap) (locs1 : List Loc), va_P D cl (wd a1) H1 → va_D A0 (wd a1) → va_S A0 H0 H1 locs1 → ∀ ls : Array Slot, lv_has ls nL (lv a1) → W p l e R s m args below meth c H1 locs1 cells slots Q (F0 m pc ls []) := by
    intro n
    induction n with
    | zero => intro a1 h; exact absurd h (Nat.not_lt_zero _)
    | succ n ih => exact fun a1 h hI H1 locs1 hP hD hS ls hl => hs a1 hI (fun b1 hJ hm H2 locs2 hP2 hD2 hS2 ls2 hl2 => ih b1 (Nat.lt_of_lt_of_le hm (Nat.le_of_lt_succ h)) hJ H2 locs2 hP2 hD2 hS2 ls2 hl2) H1 locs1 hP hD hS ls hl
  exact key _ a1 (Nat.lt_succ_self _) h H locs hP hD hS ls hl
theorem wh2 {A1 A2 : Type} {nL : Nat} (I : A1 → A2 → Prop) (μ : A1 → A2 → Nat) (lv : A1 → A2 → List (Nat × Value)) (wd : A1 → A2 → va_W)
    (hs : ∀ (a1 : A1) (a2 : A2), I a1 a2 → (∀ (b1 : A1) (b2 : A2), I b1 b2 → μ b1 b2 < μ a1 a2 → ∀ (H1 : Heap) (locs1 : List Loc), va_P D cl (wd b1 b2) H1 → va_D A0 (wd b1 b2) → va_S A0 H0 H1 locs1 → ∀ ls : Array Slot, lv_has ls nL (lv b1 b2) → W p l e R s m args below meth c H1 locs1 cells slots Q (F0 m pc ls [])) → ∀ (H1 : Heap) (locs1 : List Loc), va_P D cl (wd a1 a2) H1 → va_D A0 (wd a1 a2) → va_S A0 H0 H1 locs1 → ∀ ls : Array Slot, lv_has ls nL (lv a1 a2) → W p l e R s m args below meth c H1 locs1 cells slots Q (F0 m pc ls []))
    (a1 : A1) (a2 : A2) (h : I a1 a2) (hP : va_P D cl (wd a1 a2) H) (hD : va_D A0 (wd a1 a2)) (hS : va_S A0 H0 H locs) (hl : lv_has ls nL (lv a1 a2)) : W p l e R s m args below meth c H locs cells slots Q (F0 m pc ls []) := by
  have key : ∀ (n : Nat) (a1 : A1) (a2 : A2), μ a1 a2 < n → I a1 a2 → ∀ (H1 : Heap) (locs1 : List Loc), va_P D cl (wd a1 a2) H1 → va_D A0 (wd a1 a2) → va_S A0 H0 H1 locs1 → ∀ ls : Array Slot, lv_has ls nL (lv a1 a2) → W p l e R s m args below meth c H1 locs1 cells slots Q (F0 m pc ls []) := by
    intro n
    induction n with
    | zero => intro a1 a2 h; exact absurd h (Nat.not_lt_zero _)
    | succ n ih => exact fun a1 a2 h hI H1 locs1 hP hD hS ls hl => hs a1 a2 hI (fun b1 b2 hJ hm H2 locs2 hP2 hD2 hS2 ls2 hl2 => ih b1 b2 (Nat.lt_of_lt_of_le hm (Nat.le_of_lt_succ h)) hJ H2 locs2 hP2 hD2 hS2 ls2 hl2) H1 locs1 hP hD hS ls hl
  exact key _ a1 a2 (Nat.lt_succ_self _) h H locs hP hD hS ls hl
theorem wh3 {A1 A2 A3 : Type} {nL : Nat} (I : A1 → A2 → A3 → Prop) (μ : A1 → A2 → A3 → Nat) (lv : A1 → A2 → A3 → List (Nat × Value)) (wd : A1 → A2 → A3 → va_W)
    (hs : ∀ (a1 : A1) (a2 : A2) (a3 : A3), I a1 a2 a3 → (∀ (b1 : A1) (b2 : A2) (b3 : A3), I b1 b2 b3 → μ b1 b2 b3 < μ a1 a2 a3 → ∀ (H1 : Heap) (locs1 : List Loc), va_P D cl (wd b1 b2 b3) H1 → va_D A0 (wd b1 b2 b3) → va_S A0 H0 H1 locs1 → ∀ ls : Array Slot, lv_has ls nL (lv b1 b2 b3) → W p l e R s m args below meth c H1 locs1 cells slots Q (F0 m pc ls [])) → ∀ (H1 : Heap) (locs1 : List Loc), va_P D cl (wd a1 a2 a3) H1 → va_D A0 (wd a1 a2 a3) → va_S A0 H0 H1 locs1 → ∀ ls : Array Slot, lv_has ls nL (lv a1 a2 a3) → W p l e R s m args below meth c H1 locs1 cells slots Q (F0 m pc ls []))
    (a1 : A1) (a2 : A2) (a3 : A3) (h : I a1 a2 a3) (hP : va_P D cl (wd a1 a2 a3) H) (hD : va_D A0 (wd a1 a2 a3)) (hS : va_S A0 H0 H locs) (hl : lv_has ls nL (lv a1 a2 a3)) : W p l e R s m args below meth c H locs cells slots Q (F0 m pc ls []) := by
  have key : ∀ (n : Nat) (a1 : A1) (a2 : A2) (a3 : A3), μ a1 a2 a3 < n → I a1 a2 a3 → ∀ (H1 : Heap) (locs1 : List Loc), va_P D cl (wd a1 a2 a3) H1 → va_D A0 (wd a1 a2 a3) → va_S A0 H0 H1 locs1 → ∀ ls : Array Slot, lv_has ls nL (lv a1 a2 a3) → W p l e R s m args below meth c H1 locs1 cells slots Q (F0 m pc ls []) := by
    intro n
    induction n with
    | zero => intro a1 a2 a3 h; exact absurd h (Nat.not_lt_zero _)
    | succ n ih => exact fun a1 a2 a3 h hI H1 locs1 hP hD hS ls hl => hs a1 a2 a3 hI (fun b1 b2 b3 hJ hm H2 locs2 hP2 hD2 hS2 ls2 hl2 => ih b1 b2 b3 (Nat.lt_of_lt_of_le hm (Nat.le_of_lt_succ h)) hJ H2 locs2 hP2 hD2 hS2 ls2 hl2) H1 locs1 hP hD hS ls hl
  exact key _ a1 a2 a3 (Nat.lt_succ_self _) h H locs hP hD hS ls hl
end CDN
end
section
theorem zz_last : True := trivial
end
