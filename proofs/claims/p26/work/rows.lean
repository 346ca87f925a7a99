section
-- ===== PART A: goes FIRST, ahead of the names: the tables' words, and 'selects' of the private methods out of them =====
/-- a private method of a class that the tables say can be made, by its rows of tables_1 -/
def lw_okq (q : MethodName × Nat) : Prop := (q.1.cls ≠ "java/lang/invoke/MethodHandle" ∧ q.1.cls ≠ "java/lang/invoke/VarHandle") ∧ Cond.instantiable q.1.cls q.2 ∈ tables_1 ∧ Cond.privateMethod q.1 ∈ tables_1 ∧ Cond.instanceMethod q.1 ∈ tables_1
theorem lw_p0 : lw_okq (⟨"java/lang/Throwable", "fillInStackTrace", "(I)Ljava/lang/Throwable;"⟩, 6) := ⟨⟨by decide +kernel, by decide +kernel⟩, List.mem_of_getElem? (i := 213) (by decide +kernel), List.mem_of_getElem? (i := 211) (by decide +kernel), List.mem_of_getElem? (i := 212) (by decide +kernel)⟩
theorem lw_p1 : lw_okq (⟨"CastDesk", "bestCast", "(I)I"⟩, 8) := ⟨⟨by decide +kernel, by decide +kernel⟩, List.mem_of_getElem? (i := 17) (by decide +kernel), List.mem_of_getElem? (i := 350) (by decide +kernel), List.mem_of_getElem? (i := 351) (by decide +kernel)⟩
theorem lw_p2 : lw_okq (⟨"CastDesk", "offerActors", "(I)V"⟩, 8) := ⟨⟨by decide +kernel, by decide +kernel⟩, List.mem_of_getElem? (i := 17) (by decide +kernel), List.mem_of_getElem? (i := 354) (by decide +kernel), List.mem_of_getElem? (i := 355) (by decide +kernel)⟩
theorem lw_p3 : lw_okq (⟨"CastDesk", "isReady", "(III)Z"⟩, 8) := ⟨⟨by decide +kernel, by decide +kernel⟩, List.mem_of_getElem? (i := 17) (by decide +kernel), List.mem_of_getElem? (i := 366) (by decide +kernel), List.mem_of_getElem? (i := 367) (by decide +kernel)⟩
theorem lw_p4 : lw_okq (⟨"CastDesk$Casting", "castPart", "(III)V"⟩, 4) := ⟨⟨by decide +kernel, by decide +kernel⟩, List.mem_of_getElem? (i := 80) (by decide +kernel), List.mem_of_getElem? (i := 396) (by decide +kernel), List.mem_of_getElem? (i := 397) (by decide +kernel)⟩
theorem lw_p5 : lw_okq (⟨"CastDesk", "actorIn", "(II)I"⟩, 8) := ⟨⟨by decide +kernel, by decide +kernel⟩, List.mem_of_getElem? (i := 17) (by decide +kernel), List.mem_of_getElem? (i := 427) (by decide +kernel), List.mem_of_getElem? (i := 428) (by decide +kernel)⟩
theorem lw_p6 : lw_okq (⟨"CastDesk", "countOthers", "(II)I"⟩, 8) := ⟨⟨by decide +kernel, by decide +kernel⟩, List.mem_of_getElem? (i := 17) (by decide +kernel), List.mem_of_getElem? (i := 469) (by decide +kernel), List.mem_of_getElem? (i := 470) (by decide +kernel)⟩
def lw_privs_1 : List (MethodName × Nat) := [(⟨"java/lang/Throwable", "fillInStackTrace", "(I)Ljava/lang/Throwable;"⟩, 6), (⟨"CastDesk", "bestCast", "(I)I"⟩, 8), (⟨"CastDesk", "offerActors", "(I)V"⟩, 8), (⟨"CastDesk", "isReady", "(III)Z"⟩, 8), (⟨"CastDesk$Casting", "castPart", "(III)V"⟩, 4), (⟨"CastDesk", "actorIn", "(II)I"⟩, 8), (⟨"CastDesk", "countOthers", "(II)I"⟩, 8)]
theorem lw_r1 : ∀ q ∈ lw_privs_1, lw_okq q := List.forall_mem_cons.mpr ⟨lw_p0, List.forall_mem_cons.mpr ⟨lw_p1, List.forall_mem_cons.mpr ⟨lw_p2, List.forall_mem_cons.mpr ⟨lw_p3, List.forall_mem_cons.mpr ⟨lw_p4, List.forall_mem_cons.mpr ⟨lw_p5, List.forall_mem_cons.mpr ⟨lw_p6, fun _ h => absurd h List.not_mem_nil⟩⟩⟩⟩⟩⟩⟩
def lw_privs : List (MethodName × Nat) := lw_privs_1
def lw_tbl : List Cond := k2_sels lw_privs ++ tables_1
theorem lw_privs_ok : ∀ q ∈ lw_privs, lw_okq q := lw_r1
end
section
/-! ===== BEGIN words of one list among another's, by their places ===== -/
theorem goodIn_r {big : List Cond} (ws : List Cond) (ps : List Nat) (hp : ws = ps.filterMap (fun i => big[i]?)) (h : ws.all goodWord = true) : GoodIn big ws := by
  intro w hw
  have h1 := List.all_eq_true.mp h w hw
  rw [hp] at hw
  obtain ⟨i, -, hi⟩ := List.mem_filterMap.mp hw
  have hm : w ∈ big := by first | exact List.mem_of_getElem? hi | exact List.getElem?_mem hi
  exact ⟨hm, good_of_word h1⟩
theorem goodIn_app {big a b : List Cond} (ha : GoodIn big a) (hb : GoodIn big b) : GoodIn big (a ++ b) := fun w h => (List.mem_append.mp h).elim (ha w) (hb w)
theorem goodIn_ca {big a b : List Cond} {c : Cond} (ha : GoodIn big (c :: a)) (hb : GoodIn big b) : GoodIn big (c :: (a ++ b)) := fun w h => (List.mem_cons.mp h).elim (fun e => ha w (List.mem_cons.mpr (Or.inl e))) (fun h => (List.mem_append.mp h).elim (fun h => ha w (List.mem_cons.mpr (Or.inr h))) (hb w))
theorem goodIn_sub {big ws : List Cond} (hm : ∀ w ∈ ws, w ∈ big) (h : ws.all goodWord = true) : GoodIn big ws := fun w hw => ⟨hm w hw, good_of_word (List.all_eq_true.mp h w hw)⟩
/-! ===== END ===== -/

/-! ===== BEGIN exceptions that leave a method, and their catching by the caller (launches without stack traces) ===== -/
section VXA
/-! The laws vx_back, vx_callV, vx_callS, vx_callSW, vx_throw0, vx_throwS follow proofs of the library, with one case more: JvmDerived/Free/Laws.lean (Back.of_free), Shelf42/LK1.lean (callV, callS), Shelf/KitTraced.lean (throwNew0V, throwNewS). -/
/-- where a method has thrown q: the class by its name, the cell, what was written, the world -/
def vx_T (XC : String → State → State → Prop) (st : State) (q : Addr) (t : State) (mc ms : Nat) (free : Addr → Prop) : Prop :=
  ∃ (E : String) (ce : Cell) (L : List Loc), XC E st t ∧ t.heap[q]? = some ce ∧ ce.vm = .none ∧ st.vm.findClass E = some ce.cls ∧ st.WarmedH t.vm ∧ st.sameButNew ({ t with vm := st.vm } : State) L mc ms ∧ ∀ z ∈ L, free z.base
def vx_Q (Qc : Array Value → State → Outcome → State → Prop) (XC : String → State → State → Prop) (mc ms : Nat) (free : Addr → Prop) : Array Value → State → Outcome → State → Prop := fun a st o t =>
  (Qc a st o t ∧ ∃ L, FrameEnd st o t L mc ms ∧ ∀ q ∈ L, free q.base) ∨ ∃ q, o = .threw q ∧ vx_T XC st q t mc ms free
/-- a callee that returns or throws -/
def vx_Met (l : Launch) (y : MethodName) (ws : List Cond) (rm : Room) (Pc : Array Value → State → Prop) (Qc : Array Value → State → Outcome → State → Prop) (XC : String → State → State → Prop) (mc ms : Nat) (free : Addr → Prop) : Prop :=
  MetFree l y (headSpec ws rm) Pc (fun _ _ _ _ _ => True) (vx_Q Qc XC mc ms free)
def vx_Post (XC : String → State → State → Prop) (mc ms : Nat) (free : Addr → Prop) : Pt → Array Value → Addr → Pt → Prop := fun A a q B =>
  ∃ (g : JFrame) (mk : MethodId) (t : State) (L : List Loc) (E : String) (ce : Cell), B.U.heap = t.heap ∧ B.U.vm = t.vm ∧ XC E (A.U.calling g mk a) t ∧ t.heap[q]? = some ce ∧ ce.vm = .none ∧ A.U.vm.findClass E = some ce.cls ∧ B.locs = A.locs ++ L ∧ (∀ z ∈ L, free z.base) ∧ B.cells = A.cells + mc ∧ B.slots = A.slots + ms
def vx_Back (l : Launch) (R : Room) (p : Program) (e : Env) (below : List Frame) (s : State) (sargs : Array Value) (y : MethodName) (len W9 : Nat)
    (Pre : Pt → Array Value → Prop) (Post : Pt → Array Value → Option Value → Pt → Prop) (PostX : Pt → Array Value → Addr → Pt → Prop) : Prop :=
  ∀ (m : MethodId) (meth : Method) (c : Code) (A : Pt) (g : JFrame) (ig : Instr) (mk : MethodId) (a : Array Value),
    Stand p l e R s m sargs below meth c A.U A.locs A.cells A.slots → g.method = m → g.locals.size = c.maxLocals → decode c.code g.pc = .ok (ig, len) →
    2 * g.monitorRoom + (g.stack.map fun v => v.category).sum ≤ W9 → A.U.methodNamed? y = some mk → Pre A a →
    (∃ (v : Option Value) (B : Pt), Stand p l e R s m sargs below meth c B.U B.locs B.cells B.slots ∧ Post A a v B ∧
      Steps p.tables e below (doInvoke e (A.U.setTop g) [] mk a).1 (B.U.setTop { g with pc := g.pc + len, stack := v.toList ++ g.stack })) ∨
    (∃ (q : Addr) (B : Pt), Stand p l e R s m sargs below meth c B.U B.locs B.cells B.slots ∧ PostX A a q B ∧
      Steps p.tables e below (doInvoke e (A.U.setTop g) [] mk a).1 ((B.U.setTop g).pushFrame (.throwing q)))
section Payer
variable {l : Launch} {R : Room} {p : Program} {e : Env} {below : List Frame} {s : State} {sargs : Array Value} {y : MethodName} {len W9 : Nat}
theorem vx_back {ws : List Cond} {rm : Room} {Pc : Array Value → State → Prop} {Qc : Array Value → State → Outcome → State → Prop} {XC : String → State → State → Prop} {mc ms : Nat} {free : Addr → Prop} {bytes : ByteArray} {maxL : Nat} {ret : Option FieldType}
    (hM : vx_Met l y ws rm Pc Qc XC mc ms free) (hblind : FrameBlind Pc) (hrc : rm.cells = mc) (hrs : rm.slots = ms)
    (hframes : rm.frames + 1 ≤ R.frames) (hlocals : W9 + (maxL + 11) + rm.locals ≤ R.locals)
    (hws : ∀ w ∈ ws, ∀ a' U, s.WarmedH U.vm → w.before a' U = true) (hcode : Cond.code y bytes maxL ret ∈ ws) (hinit : ∀ a' U, s.WarmedH U.vm → (Cond.initialized y.cls).before a' U = true) :
    vx_Back l R p e below s sargs y len W9 (PreOf R mc ms Pc) (PostOf Qc mc ms free) (vx_Post XC mc ms free) := by
  intro m meth c A g ig mk a X hg hsize hdg hW hn hp
  have h1 : (headSpec ws rm).pre.before a A.U = true := atoms_intro fun w hw => hws w hw _ _ X.warmed
  have h2 : (Cond.code y bytes maxL ret).before a A.U = true := hws _ hcode _ _ X.warmed
  have h3 : (Cond.initialized y.cls).before a A.U = true := hinit _ _ X.warmed
  have h4 : A.cells + (headSpec ws rm).room.cells ≤ R.cells := by rw [show (headSpec ws rm).room.cells = mc from hrc]; exact hp.1
  have h5 : A.slots + (headSpec ws rm).room.slots ≤ R.slots := by rw [show (headSpec ws rm).room.slots = ms from hrs]; exact hp.2.1
  have hPc : Pc a (A.U.calling g mk a) := hblind _ _ _ _ hp.2.2
  obtain ⟨U, Ls, c0, s0⟩ := A
  dsimp only [Pt.U, Pt.locs, Pt.cells, Pt.slots] at h1 h2 h3 h4 h5 X hn hPc ⊢
  obtain ⟨methY, cY, hmY, hcY, -, hlY, -, -, -, -⟩ := Cond.code_spec hn h2
  obtain ⟨kY, hkY, -⟩ := className_of_methodNamed hn
  have hinitY : kY.init = .initialized := Cond.initialized_spec (findClass_of_methodNamed hn) hkY h3
  have h : At U g.method c below := by rw [hg]; exact X.here
  have hlocals9 : W9 + (maxL + 11) + (headSpec ws rm).room.locals ≤ R.locals := hlocals
  have happ : (headSpec ws rm).appliesLoose y e.platform (U.calling g mk a) = true :=
    Spec.appliesLoose_calling (g := g) h hdg hn hkY hinitY
      (X.room_calling (g := g) (R' := (headSpec ws rm).room) hsize hmY hcY hframes (by rw [hlY]; omega) h4 h5) h1
  obtain ⟨mid, hmid⟩ := h.above
  have hfr : (U.setTop g).frames = (.java g :: mid) ++ below := by rw [State.frames_setTop' g h.top, hmid]; rfl
  obtain ⟨o, s₂, hsteps, -, hend, hq⟩ := Steps.callFree hM p X.admits X.cas X.clock (acts := []) hfr happ hPc trivial
  have hq' : vx_Q Qc XC mc ms free a (U.calling g mk a) o s₂ := hq
  rw [State.frames_setTop' g h.top] at hend
  obtain ⟨g₀, hg0⟩ := Option.isSome_iff_exists.mp h.top
  obtain ⟨r, hr⟩ := State.topJava?_eq_some.mp hg0
  have hr' : (({ U with heap := s₂.heap, slotsUsed := s₂.slotsUsed } : State).setVm s₂.vm).frames = .java g₀ :: r := hr
  rcases hq' with ⟨hqc, L, hfe, hL⟩ | ⟨q, rfl, E, ce, L, hx, hce, hcv, hcl, hW₂, hsm, hL⟩
  · obtain ⟨⟨v, rfl⟩, hW₂, e2, q2, q3, q4, q5, q6⟩ := id hfe
    have e3 : s₂ = ({ (U.calling g mk a).setFrames s₂.frames with heap := s₂.heap, slotsUsed := s₂.slotsUsed } : State).setVm s₂.vm := by
      have : s₂ = ({ s₂ with vm := (U.calling g mk a).vm } : State).setVm s₂.vm := rfl
      rw [e2] at this
      exact this
    obtain ⟨c₂, i₂, len₂, hc₂, hd₂, hf₂⟩ := hend
    have hW' : U.WarmedH s₂.vm := hW₂
    have hcc : c₂ = c := by
      have h1 : s₂.code? g.method = U.code? g.method := by
        rw [State.code?_eq, State.code?_eq, hW'.alike.method?]
      exact Option.some.inj (hc₂.symm.trans (h1.trans h.code))
    subst hcc
    have hlen : len₂ = len := by rw [hdg] at hd₂; cases hd₂; rfl
    subst hlen
    have hs₂ : s₂ = (({ U with heap := s₂.heap, slotsUsed := s₂.slotsUsed } : State).setVm s₂.vm).setTop { g with pc := g.pc + len₂, stack := v.toList ++ g.stack } := by
      refine e3.trans ?_
      rw [hf₂, State.calling_eq h.top, State.setFrames_setFrames, State.setTop_of_frames _ hr', hr]
      rfl
    have hsame : U.sameButNew ({ U with heap := s₂.heap, slotsUsed := s₂.slotsUsed } : State) L mc ms := by
      refine ⟨?_, q2, q3, q4, q5, q6⟩
      obtain ⟨t, ht, -⟩ := State.frames_cons hr
      show ({ U with heap := s₂.heap, slotsUsed := s₂.slotsUsed } : State) = { U.setFrames U.frames with heap := s₂.heap, slotsUsed := s₂.slotsUsed }
      rw [State.setFrames_self ht]
    subst hg
    refine Or.inl ⟨v, ⟨(({ U with heap := s₂.heap, slotsUsed := s₂.slotsUsed } : State).setVm s₂.vm), Ls ++ L, c0 + mc, s0 + ms⟩,
      ⟨X.admits, X.cas, X.clock, X.frames, X.room, X.hears, X.method, X.code, (X.here.setHeapUsed s₂.heap s₂.slotsUsed).setVm hW'.alike, X.tail, State.WarmedH.trans X.warmed hW', X.limits, X.bytes, X.same.trans (hsame.setVm s.vm)⟩,
      ⟨g, mk, s₂, L, rfl, rfl, hqc, rfl, hL, rfl, rfl⟩, ?_⟩
    show Steps p.tables e below _ ((({ U with heap := s₂.heap, slotsUsed := s₂.slotsUsed } : State).setVm s₂.vm).setTop { g with pc := g.pc + len₂, stack := v.toList ++ g.stack })
    rw [← hs₂]
    exact hsteps
  · obtain ⟨e2, q2, q3, q4, q5, q6⟩ := id hsm
    have e3 : s₂ = ({ (U.calling g mk a).setFrames s₂.frames with heap := s₂.heap, slotsUsed := s₂.slotsUsed } : State).setVm s₂.vm := by
      have : s₂ = ({ s₂ with vm := (U.calling g mk a).vm } : State).setVm s₂.vm := rfl
      rw [e2] at this
      exact this
    have hf₂ : s₂.frames = .throwing q :: .java g :: U.frames.tail := hend
    have hW' : U.WarmedH s₂.vm := hW₂
    have hs₂ : s₂ = ((({ U with heap := s₂.heap, slotsUsed := s₂.slotsUsed } : State).setVm s₂.vm).setTop g).pushFrame (.throwing q) := by
      refine e3.trans ?_
      rw [hf₂, State.calling_eq h.top, State.setFrames_setFrames, State.pushFrame, State.frames_setTop _ hr', State.setTop_of_frames _ hr', State.setFrames_setFrames, hr]
      rfl
    have hsame : U.sameButNew ({ U with heap := s₂.heap, slotsUsed := s₂.slotsUsed } : State) L mc ms := by
      refine ⟨?_, q2, q3, q4, q5, q6⟩
      obtain ⟨t, ht, -⟩ := State.frames_cons hr
      show ({ U with heap := s₂.heap, slotsUsed := s₂.slotsUsed } : State) = { U.setFrames U.frames with heap := s₂.heap, slotsUsed := s₂.slotsUsed }
      rw [State.setFrames_self ht]
    subst hg
    refine Or.inr ⟨q, ⟨(({ U with heap := s₂.heap, slotsUsed := s₂.slotsUsed } : State).setVm s₂.vm), Ls ++ L, c0 + mc, s0 + ms⟩,
      ⟨X.admits, X.cas, X.clock, X.frames, X.room, X.hears, X.method, X.code, (X.here.setHeapUsed s₂.heap s₂.slotsUsed).setVm hW'.alike, X.tail, State.WarmedH.trans X.warmed hW', X.limits, X.bytes, X.same.trans (hsame.setVm s.vm)⟩,
      ⟨g, mk, s₂, L, E, ce, rfl, rfl, hx, hce, hcv, hcl, rfl, hL, rfl, rfl⟩, ?_⟩
    show Steps p.tables e below _ (((({ U with heap := s₂.heap, slotsUsed := s₂.slotsUsed } : State).setVm s₂.vm).setTop g).pushFrame (.throwing q))
    rw [← hs₂]
    exact hsteps
end Payer
section Calls
variable {p : Program} {l : Launch} {e : Env} {R : Room} {s : State} {m : MethodId} {args : Array Value} {below : List Frame} {meth : Method} {c : Code} {T : State} {locs : List Loc} {cells slots : Nat}
theorem vx_callV (X : Stand p l e R s m args below meth c T locs cells slots) (hexec : p.tables.exec = Jvm.exec) {own C : String} {index : Nat} {y : MethodName} {bytes : ByteArray} {maxL : Nat} {ret : Option FieldType}
    (hown : s.vm.findClass own = some m.cls) (hlink : (Cond.methodLink own index y).before args s = true) (hinst : (Cond.instanceMethod y).before args s = true) (hsel : (Cond.selects C y y).before args s = true)
    (hcode : (Cond.code y bytes maxL ret).before args s = true) (hy : y.cls ≠ "java/lang/invoke/MethodHandle" ∧ y.cls ≠ "java/lang/invoke/VarHandle")
    {W9 : Nat} {Pre : Pt → Array Value → Prop} {Post : Pt → Array Value → Option Value → Pt → Prop} {PostX : Pt → Array Value → Addr → Pt → Prop} (hK : vx_Back l R p e below s args y 3 W9 Pre Post PostX)
    {b : Addr} {cellB : Cell} (hcell : T.heap[b]? = some cellB) (hobj : cellB.vm.isStatics = false) (hcls : s.vm.findClass C = some cellB.cls)
    {g : JFrame} (hg : g.method = m) (hsize : g.locals.size = c.maxLocals) {argsL rest : List Value} (hlen : ∀ sig, parseMethodDescriptor y.desc = some sig → argsL.length = sig.parameters.length)
    (hstack : g.stack = argsL.reverse ++ .ref b :: rest) (hW : 2 * g.monitorRoom + (rest.map fun v => v.category).sum ≤ W9) (hdg : decode c.code g.pc = .ok (.invokevirtual index, 3))
    (hpre : ∀ vm₁, s.WarmedH vm₁ → Pre ⟨T.setVm vm₁, locs, cells, slots⟩ (Value.ref b :: argsL).toArray) :
    (∃ (v : Option Value) (vm₁ : Vm) (B : Pt), s.WarmedH vm₁ ∧ Stand p l e R s m args below meth c B.U B.locs B.cells B.slots ∧ Post ⟨T.setVm vm₁, locs, cells, slots⟩ (Value.ref b :: argsL).toArray v B ∧
      ∀ target, Steps p.tables e below (B.U.setTop { g with pc := g.pc + 3, stack := v.toList ++ rest }) target → Steps p.tables e below (T.setTop g) target) ∨
    (∃ (q : Addr) (vm₁ : Vm) (B : Pt), s.WarmedH vm₁ ∧ Stand p l e R s m args below meth c B.U B.locs B.cells B.slots ∧ PostX ⟨T.setVm vm₁, locs, cells, slots⟩ (Value.ref b :: argsL).toArray q B ∧
      Steps p.tables e below (T.setTop g) ((B.U.setTop { g with stack := rest }).pushFrame (.throwing q))) := by
  obtain ⟨mk, methM, hnamed, hmethM, hstM, habM⟩ := Cond.instanceMethod_spec hinst
  obtain ⟨methM', cM, hmethM', -, -, -, -, -, -, hsigM⟩ := Cond.code_spec hnamed hcode
  cases hmethM.symm.trans hmethM'
  obtain ⟨c2, r2, m2, q1, q2, q3, q4, kP, hkP, hkPi⟩ := Cond.selects_spec hsel
  cases hcls.symm.trans q1
  cases (State.methodFound?_of_named hnamed hy).symm.trans q2
  cases hnamed.symm.trans q3
  have hselP : selectMethod e.platform s.vm cellB.cls mk = .method mk := by rw [Launch.admits_selectMethod X.admits]; exact q4
  obtain ⟨vm₁, X₁, hstep₁⟩ := X.invokevirtual hexec hown hlink hnamed hmethM hstM hkP hkPi hy (a := b) (cell := cellB) hcell
    (fun z h => by rw [h] at hobj; cases hobj) hselP hmethM habM hkP hkPi (g := g) hg (argsL := argsL) (rest := rest) (hlen _ hsigM) hstack hdg
  rcases hK m meth c ⟨T.setVm vm₁, locs, cells, slots⟩ { g with stack := rest } (.invokevirtual index) mk (Value.ref b :: argsL).toArray X₁ hg hsize hdg hW (X₁.named hnamed) (hpre vm₁ X₁.warmed) with ⟨v, B, X', hpost, hsteps⟩ | ⟨q, B, X', hpost, hsteps⟩
  · exact Or.inl ⟨v, vm₁, B, X₁.warmed, X', hpost, fun target h => hstep₁ _ fun acts => by rw [doInvoke_state]; exact hsteps.trans h⟩
  · exact Or.inr ⟨q, vm₁, B, X₁.warmed, X', hpost, hstep₁ _ fun acts => by rw [doInvoke_state]; exact hsteps⟩
theorem vx_callS (X : Stand p l e R s m args below meth c T locs cells slots) (hexec : p.tables.exec = Jvm.exec) {own : String} {index : Nat} {y : MethodName} {bytes : ByteArray} {maxL : Nat} {ret : Option FieldType}
    (hown : s.vm.findClass own = some m.cls) (hlink : (Cond.methodLink own index y).before args s = true) (hstat : (Cond.static y).before args s = true) (hinit : (Cond.initialized y.cls).before args s = true)
    (hcode : (Cond.code y bytes maxL ret).before args s = true) (hy : y.cls ≠ "java/lang/invoke/MethodHandle" ∧ y.cls ≠ "java/lang/invoke/VarHandle")
    {W9 : Nat} {Pre : Pt → Array Value → Prop} {Post : Pt → Array Value → Option Value → Pt → Prop} {PostX : Pt → Array Value → Addr → Pt → Prop} (hK : vx_Back l R p e below s args y 3 W9 Pre Post PostX)
    {g : JFrame} (hg : g.method = m) (hsize : g.locals.size = c.maxLocals) {argsL rest : List Value} (hlen : ∀ sig, parseMethodDescriptor y.desc = some sig → argsL.length = sig.parameters.length)
    (hstack : g.stack = argsL.reverse ++ rest) (hW : 2 * g.monitorRoom + (rest.map fun v => v.category).sum ≤ W9) (hdg : decode c.code g.pc = .ok (.invokestatic index, 3))
    (hpre : ∀ vm₁, s.WarmedH vm₁ → Pre ⟨T.setVm vm₁, locs, cells, slots⟩ argsL.toArray) :
    (∃ (v : Option Value) (vm₁ : Vm) (B : Pt), s.WarmedH vm₁ ∧ Stand p l e R s m args below meth c B.U B.locs B.cells B.slots ∧ Post ⟨T.setVm vm₁, locs, cells, slots⟩ argsL.toArray v B ∧
      ∀ target, Steps p.tables e below (B.U.setTop { g with pc := g.pc + 3, stack := v.toList ++ rest }) target → Steps p.tables e below (T.setTop g) target) ∨
    (∃ (q : Addr) (vm₁ : Vm) (B : Pt), s.WarmedH vm₁ ∧ Stand p l e R s m args below meth c B.U B.locs B.cells B.slots ∧ PostX ⟨T.setVm vm₁, locs, cells, slots⟩ argsL.toArray q B ∧
      Steps p.tables e below (T.setTop g) ((B.U.setTop { g with stack := rest }).pushFrame (.throwing q))) := by
  obtain ⟨mk, hnamed⟩ := Cond.code_named hcode
  obtain ⟨methM, cM, hmethM, -, -, -, -, -, -, hsigM⟩ := Cond.code_spec hnamed hcode
  have hstatic : methM.isStatic = true := Cond.static_spec hnamed hmethM hstat
  obtain ⟨kP, hkP, -⟩ := className_of_methodNamed hnamed
  have hinitP : kP.init = .initialized := Cond.initialized_spec (findClass_of_methodNamed hnamed) hkP hinit
  obtain ⟨vm₁, X₁, hstep₁⟩ := X.invokestatic hexec hown hlink hnamed hmethM hstatic hkP hinitP hy (g := g) hg (argsL := argsL) (rest := rest) (hlen _ hsigM) hstack hdg
  rcases hK m meth c ⟨T.setVm vm₁, locs, cells, slots⟩ { g with stack := rest } (.invokestatic index) mk argsL.toArray X₁ hg hsize hdg hW (X₁.named hnamed) (hpre vm₁ X₁.warmed) with ⟨v, B, X', hpost, hsteps⟩ | ⟨q, B, X', hpost, hsteps⟩
  · exact Or.inl ⟨v, vm₁, B, X₁.warmed, X', hpost, fun target h => hstep₁ _ fun acts => by rw [doInvoke_state]; exact hsteps.trans h⟩
  · exact Or.inr ⟨q, vm₁, B, X₁.warmed, X', hpost, hstep₁ _ fun acts => by rw [doInvoke_state]; exact hsteps⟩
end Calls
theorem vx_cls {s : State} {T : State} {vm₁ : Vm} {E : String} {k : ClassId} (hW : s.WarmedH vm₁) (h : (T.setVm vm₁).vm.findClass E = some k) : s.vm.findClass E = some k := by
  have h1 : vm₁.findClass E = some k := h
  rw [hW.alike.findClass] at h1
  exact h1
/-- the method's frame g, with q thrown over it -/
def vx_W (p : Program) (l : Launch) (e : Env) (R : Room) (s : State) (m : MethodId) (args : Array Value) (below : List Frame) (meth : Method) (c : Code) (H : Heap) (locs : List Loc) (cells slots : Nat) (Q : State → Prop) (g : JFrame) (q : Addr) : Prop :=
  ∀ T : State, T.heap = H → Stand p l e R s m args below meth c T locs cells slots → ∃ t, Steps p.tables e below ((T.setTop g).pushFrame (.throwing q)) t ∧ Q t
def vx_Run (p : Program) (l : Launch) (e : Env) (R : Room) (s : State) (m : MethodId) (args : Array Value) (below : List Frame) (meth : Method) (c : Code) (H : Heap) (locs : List Loc) (cells slots mc ms : Nat) (g : JFrame) (rest : List Value) (Qa : State → Outcome → State → Prop) (XC : String → State → State → Prop) (free : Addr → Prop) : Prop :=
  ∀ T : State, T.heap = H → Stand p l e R s m args below meth c T locs cells slots →
    (∃ (v : Option Value) (st₀ t T' : State) (L : List Loc), st₀.heap = H ∧ Stand p l e R s m args below meth c T' (locs ++ L) (cells + mc) (slots + ms) ∧ (∀ q ∈ L, free q.base) ∧ T'.heap = t.heap ∧ T'.vm = t.vm ∧ Qa st₀ (.returned v) t ∧
      Goes p e below T g T' { g with pc := g.pc + 3, stack := v.toList ++ rest }) ∨
    (∃ (q : Addr) (st₀ t T' : State) (L : List Loc) (E : String) (ce : Cell), st₀.heap = H ∧ Stand p l e R s m args below meth c T' (locs ++ L) (cells + mc) (slots + ms) ∧ (∀ z ∈ L, free z.base) ∧ T'.heap = t.heap ∧ T'.vm = t.vm ∧ XC E st₀ t ∧ t.heap[q]? = some ce ∧ ce.vm = .none ∧ s.vm.findClass E = some ce.cls ∧
      Steps p.tables e below (T.setTop g) ((T'.setTop { g with stack := rest }).pushFrame (.throwing q)))
def vx_X {S : Type} (px : S → Prop) (B : String → S → State → Prop) (A : Nat → Prop) : String → State → State → Prop := fun E st t => ∃ u : S, px u ∧ B E u t ∧ va_F A st t
section Runs
variable {p : Program} {l : Launch} {e : Env} {R : Room} {s : State} {m : MethodId} {args : Array Value} {below : List Frame} {meth : Method} {c : Code} {H : Heap} {locs : List Loc} {cells slots : Nat}
variable {y : MethodName} {bytes cc : ByteArray} {maxL nL mc ms n index : Nat} {ret : Option FieldType} {ws : List Cond} {rm : Room} {Pc : Array Value → State → Prop} {Qc : Array Value → State → Outcome → State → Prop} {XC : String → State → State → Prop} {free : Addr → Prop} {Ts : List Cond} {own C : String} {b : Addr} {As rest : List Value} {g : JFrame}
theorem vx_callBack (cb : CallB R s args own index y bytes maxL ret ws rm mc ms n) (hM : vx_Met l y ws rm Pc Qc XC mc ms free) (hbl : FrameBlind Pc) : vx_Back l R p e below s args y 3 8 (PreOf R mc ms Pc) (PostOf Qc mc ms free) (vx_Post XC mc ms free) := by
  obtain ⟨hrc, hrs, hfr, hlo, hws, hcw, -, hini, -⟩ := cb
  exact vx_back (bytes := bytes) (maxL := maxL) (ret := ret) hM hbl hrc hrs hfr hlo hws hcw (fun a' U hW => word_at hW (Or.inl (by first | rfl | simp [Cond.onTables, Cond.keeps, Cond.steady])) hini)
theorem vx_runV (S : CallFix p m c cc nL s args Ts own) (hM : vx_Met l y ws rm Pc Qc XC mc ms free) (cw : CallW R s args own C index y bytes maxL ret ws rm mc ms n) (hp : PreV s H C b Pc As)
    (hg : g.method = m) (hn : As.length = n) (hsize : g.locals.size = nL) (hstack : g.stack = As.reverse ++ .ref b :: rest) (hW : 2 * g.monitorRoom + (rest.map fun v => v.category).sum ≤ 8) (hdg : decode cc g.pc = .ok (.invokevirtual index, 3)) (hf : cells + mc ≤ R.cells ∧ slots + ms ≤ R.slots) :
    vx_Run p l e R s m args below meth c H locs cells slots mc ms g rest (Qc (Value.ref b :: As).toArray) XC free := by
  have hK : vx_Back l R p e below s args y 3 8 (PreOf R mc ms Pc) (PostOf Qc mc ms free) (vx_Post XC mc ms free) := vx_callBack cw.1 hM hp.1
  obtain ⟨⟨-, -, -, -, -, -, hcode, -, hy, hlen, hl⟩, hin, hse⟩ := cw
  obtain ⟨hx, hb, hml, ho, -⟩ := S
  obtain ⟨-, ⟨cellB, hcB, hoB, hclB⟩, hPc⟩ := hp
  intro T hT X
  rcases vx_callV X hx (C := C) (bytes := bytes) (maxL := maxL) (ret := ret) ho hl hin hse hcode hy hK (by rw [hT]; exact hcB) hoB hclB hg (hsize.trans hml.symm) (argsL := As) (rest := rest) (fun sig h => hn.trans (hlen sig h)) hstack hW (by rw [hb]; exact hdg)
    (fun vm₁ hW₁ => ⟨hf.1, hf.2, hPc (T.setVm vm₁) hT hW₁⟩) with ⟨v, vm₁, ⟨U', l2, c2, s2⟩, hW₁, X', ⟨g', mk, t, L, e1, e2, hq, h1, hL, h2, h3⟩, st⟩ | ⟨q, vm₁, ⟨U', l2, c2, s2⟩, hW₁, X', ⟨g', mk, t, L, E, ce, e1, e2, hq, hce, hcv, hcl, h1, hL, h2, h3⟩, st⟩
  · dsimp only [Pt.U, Pt.locs, Pt.cells, Pt.slots] at X' e1 e2 h1 h2 h3 st
    subst h1; subst h2; subst h3
    exact Or.inl ⟨v, (T.setVm vm₁).calling g' mk (Value.ref b :: As).toArray, t, U', L, hT, X', hL, e1, e2, hq, st⟩
  · dsimp only [Pt.U, Pt.locs, Pt.cells, Pt.slots] at X' e1 e2 h1 h2 h3 st hcl
    subst h1; subst h2; subst h3
    exact Or.inr ⟨q, (T.setVm vm₁).calling g' mk (Value.ref b :: As).toArray, t, U', L, E, ce, hT, X', hL, e1, e2, hq, hce, hcv, vx_cls hW₁ hcl, st⟩
theorem vx_runS (S : CallFix p m c cc nL s args Ts own) (hM : vx_Met l y ws rm Pc Qc XC mc ms free) (cw : CallB R s args own index y bytes maxL ret ws rm mc ms n ∧ (Cond.static y).before args s = true) (hp : PreS s H Pc As)
    (hg : g.method = m) (hn : As.length = n) (hsize : g.locals.size = nL) (hstack : g.stack = As.reverse ++ rest) (hW : 2 * g.monitorRoom + (rest.map fun v => v.category).sum ≤ 8) (hdg : decode cc g.pc = .ok (.invokestatic index, 3)) (hf : cells + mc ≤ R.cells ∧ slots + ms ≤ R.slots) :
    vx_Run p l e R s m args below meth c H locs cells slots mc ms g rest (Qc As.toArray) XC free := by
  have hK : vx_Back l R p e below s args y 3 8 (PreOf R mc ms Pc) (PostOf Qc mc ms free) (vx_Post XC mc ms free) := vx_callBack cw.1 hM hp.1
  obtain ⟨⟨-, -, -, -, -, -, hcode, hini, hy, hlen, hl⟩, hstt⟩ := cw
  obtain ⟨hx, hb, hml, ho, -⟩ := S
  intro T hT X
  rcases vx_callS X hx (bytes := bytes) (maxL := maxL) (ret := ret) ho hl hstt hini hcode hy hK hg (hsize.trans hml.symm) (argsL := As) (rest := rest) (fun sig h => hn.trans (hlen sig h)) hstack hW (by rw [hb]; exact hdg)
    (fun vm₁ hW₁ => ⟨hf.1, hf.2, hp.2 (T.setVm vm₁) hT hW₁⟩) with ⟨v, vm₁, ⟨U', l2, c2, s2⟩, hW₁, X', ⟨g', mk, t, L, e1, e2, hq, h1, hL, h2, h3⟩, st⟩ | ⟨q, vm₁, ⟨U', l2, c2, s2⟩, hW₁, X', ⟨g', mk, t, L, E, ce, e1, e2, hq, hce, hcv, hcl, h1, hL, h2, h3⟩, st⟩
  · dsimp only [Pt.U, Pt.locs, Pt.cells, Pt.slots] at X' e1 e2 h1 h2 h3 st
    subst h1; subst h2; subst h3
    exact Or.inl ⟨v, (T.setVm vm₁).calling g' mk As.toArray, t, U', L, hT, X', hL, e1, e2, hq, st⟩
  · dsimp only [Pt.U, Pt.locs, Pt.cells, Pt.slots] at X' e1 e2 h1 h2 h3 st hcl
    subst h1; subst h2; subst h3
    exact Or.inr ⟨q, (T.setVm vm₁).calling g' mk As.toArray, t, U', L, E, ce, hT, X', hL, e1, e2, hq, hce, hcv, vx_cls hW₁ hcl, st⟩
end Runs
section Rows
variable {p : Program} {l : Launch} {e : Env} {R : Room} {s : State} {m : MethodId} {args : Array Value} {below : List Frame} {meth : Method} {c : Code} {H : Heap} {locs : List Loc} {cells slots : Nat} {Q : State → Prop}
variable {mc ms : Nat} {free : Addr → Prop} {A0 A1 : Nat → Prop} {H0 : Heap} {a : Array Value} {pc : Nat} {ls : Array Slot} {st0 rest : List Value}
theorem vx_keep {st₀ t T' : State} {L : List Loc} (h0 : st₀.heap = H) (e1 : T'.heap = t.heap) (hS : va_S A0 H0 H locs) (hA : ∀ q, q < H.size → A1 q → A0 q) (hf : ∀ q, free q → A0 q) (hL : ∀ q ∈ L, free q.base) (hF : va_F A1 st₀ t) :
    H.size ≤ T'.heap.size ∧ (∀ q : Nat, q < H.size → ¬ A1 q → T'.heap[q]? = H[q]?) ∧ va_S A0 H0 T'.heap (locs ++ L) := by
  obtain ⟨hz, hk⟩ := hF
  rw [h0] at hz hk
  exact ⟨by rw [e1]; exact hz, fun q h1 h2 => by rw [e1]; exact hk q h1 h2,
    ⟨Nat.le_trans hS.1 (by rw [e1]; exact hz), fun q h1 h2 => by rw [e1, hk q (Nat.lt_of_lt_of_le h1 hS.1) (fun z => h2 (hA q (Nat.lt_of_lt_of_le h1 hS.1) z))]; exact hS.2.1 q h1 h2, fun q hq => by
      rcases List.mem_append.mp hq with h | h
      · exact hS.2.2 q h
      · exact hf _ (hL q h)⟩⟩
theorem vx_calli {S SX : Type} {post : Int32 → S → Prop} {px : SX → Prop} {B : S → State → Prop} {BX : String → SX → State → Prop} {AX : Nat → Prop} (hr : vx_Run p l e R s m args below meth c H locs cells slots mc ms (F0 m pc ls st0) rest (va_Qi post B A1 a) (vx_X px BX AX) free) (hS : va_S A0 H0 H locs) (hA : ∀ q, q < H.size → A1 q → A0 q) (hf : ∀ q, free q → A0 q) (hAX : ∀ q, q < H.size → AX q → A0 q)
    (kx : ∀ (E : String) (ce : Cell) (q9 : Addr) (u : SX) (t : State) (H1 : Heap) (locs1 : List Loc), t.heap = H1 → s.vm.Alike t.vm → px u → BX E u t → H.size ≤ H1.size → (∀ q : Nat, q < H.size → ¬ AX q → H1[q]? = H[q]?) → va_S A0 H0 H1 locs1 → H1[q9]? = some ce → ce.vm = .none → s.vm.findClass E = some ce.cls → vx_W p l e R s m args below meth c H1 locs1 (cells + mc) (slots + ms) Q (F0 m pc ls rest) q9)
    (kk : ∀ (r : Int32) (u : S) (t : State) (H1 : Heap) (locs1 : List Loc), t.heap = H1 → s.vm.Alike t.vm → post r u → B u t → H.size ≤ H1.size → (∀ q : Nat, q < H.size → ¬ A1 q → H1[q]? = H[q]?) → va_S A0 H0 H1 locs1 → W p l e R s m args below meth c H1 locs1 (cells + mc) (slots + ms) Q (F0 m (pc + 3) ls (.int r :: rest))) : W p l e R s m args below meth c H locs cells slots Q (F0 m pc ls st0) := by
  intro T hT X
  rcases hr T hT X with ⟨v, st₀, t, T', L, h0, X', hL, e1, e2, ⟨⟨r, u, hv, hp, hb⟩, hF⟩, st⟩ | ⟨q, st₀, t, T', L, E, ce, h0, X', hL, e1, e2, ⟨u, hp, hb, hF⟩, hce, hcv, hcl, st⟩
  · cases hv
    obtain ⟨k1, k2, k3⟩ := vx_keep h0 e1 hS hA hf hL hF
    obtain ⟨t2, a1, b1⟩ := kk r u t T'.heap (locs ++ L) e1.symm (by rw [← e2]; exact X'.warmed.alike) hp hb k1 k2 k3 T' rfl X'
    exact ⟨t2, st t2 a1, b1⟩
  · obtain ⟨k1, k2, k3⟩ := vx_keep h0 e1 hS hAX hf hL hF
    obtain ⟨t2, a1, b1⟩ := kx E ce q u t T'.heap (locs ++ L) e1.symm (by rw [← e2]; exact X'.warmed.alike) hp hb k1 k2 k3 (by rw [e1]; exact hce) hcv hcl T' rfl X'
    exact ⟨t2, st.trans a1, b1⟩
theorem vx_calll {S SX : Type} {post : Int64 → S → Prop} {px : SX → Prop} {B : S → State → Prop} {BX : String → SX → State → Prop} {AX : Nat → Prop} (hr : vx_Run p l e R s m args below meth c H locs cells slots mc ms (F0 m pc ls st0) rest (va_Ql post B A1 a) (vx_X px BX AX) free) (hS : va_S A0 H0 H locs) (hA : ∀ q, q < H.size → A1 q → A0 q) (hf : ∀ q, free q → A0 q) (hAX : ∀ q, q < H.size → AX q → A0 q)
    (kx : ∀ (E : String) (ce : Cell) (q9 : Addr) (u : SX) (t : State) (H1 : Heap) (locs1 : List Loc), t.heap = H1 → s.vm.Alike t.vm → px u → BX E u t → H.size ≤ H1.size → (∀ q : Nat, q < H.size → ¬ AX q → H1[q]? = H[q]?) → va_S A0 H0 H1 locs1 → H1[q9]? = some ce → ce.vm = .none → s.vm.findClass E = some ce.cls → vx_W p l e R s m args below meth c H1 locs1 (cells + mc) (slots + ms) Q (F0 m pc ls rest) q9)
    (kk : ∀ (r : Int64) (u : S) (t : State) (H1 : Heap) (locs1 : List Loc), t.heap = H1 → s.vm.Alike t.vm → post r u → B u t → H.size ≤ H1.size → (∀ q : Nat, q < H.size → ¬ A1 q → H1[q]? = H[q]?) → va_S A0 H0 H1 locs1 → W p l e R s m args below meth c H1 locs1 (cells + mc) (slots + ms) Q (F0 m (pc + 3) ls (.long r :: rest))) : W p l e R s m args below meth c H locs cells slots Q (F0 m pc ls st0) := by
  intro T hT X
  rcases hr T hT X with ⟨v, st₀, t, T', L, h0, X', hL, e1, e2, ⟨⟨r, u, hv, hp, hb⟩, hF⟩, st⟩ | ⟨q, st₀, t, T', L, E, ce, h0, X', hL, e1, e2, ⟨u, hp, hb, hF⟩, hce, hcv, hcl, st⟩
  · cases hv
    obtain ⟨k1, k2, k3⟩ := vx_keep h0 e1 hS hA hf hL hF
    obtain ⟨t2, a1, b1⟩ := kk r u t T'.heap (locs ++ L) e1.symm (by rw [← e2]; exact X'.warmed.alike) hp hb k1 k2 k3 T' rfl X'
    exact ⟨t2, st t2 a1, b1⟩
  · obtain ⟨k1, k2, k3⟩ := vx_keep h0 e1 hS hAX hf hL hF
    obtain ⟨t2, a1, b1⟩ := kx E ce q u t T'.heap (locs ++ L) e1.symm (by rw [← e2]; exact X'.warmed.alike) hp hb k1 k2 k3 (by rw [e1]; exact hce) hcv hcl T' rfl X'
    exact ⟨t2, st.trans a1, b1⟩
theorem vx_callf {S SX : Type} {post : UInt32 → S → Prop} {px : SX → Prop} {B : S → State → Prop} {BX : String → SX → State → Prop} {AX : Nat → Prop} (hr : vx_Run p l e R s m args below meth c H locs cells slots mc ms (F0 m pc ls st0) rest (va_Qf post B A1 a) (vx_X px BX AX) free) (hS : va_S A0 H0 H locs) (hA : ∀ q, q < H.size → A1 q → A0 q) (hf : ∀ q, free q → A0 q) (hAX : ∀ q, q < H.size → AX q → A0 q)
    (kx : ∀ (E : String) (ce : Cell) (q9 : Addr) (u : SX) (t : State) (H1 : Heap) (locs1 : List Loc), t.heap = H1 → s.vm.Alike t.vm → px u → BX E u t → H.size ≤ H1.size → (∀ q : Nat, q < H.size → ¬ AX q → H1[q]? = H[q]?) → va_S A0 H0 H1 locs1 → H1[q9]? = some ce → ce.vm = .none → s.vm.findClass E = some ce.cls → vx_W p l e R s m args below meth c H1 locs1 (cells + mc) (slots + ms) Q (F0 m pc ls rest) q9)
    (kk : ∀ (r : UInt32) (u : S) (t : State) (H1 : Heap) (locs1 : List Loc), t.heap = H1 → s.vm.Alike t.vm → post r u → B u t → H.size ≤ H1.size → (∀ q : Nat, q < H.size → ¬ A1 q → H1[q]? = H[q]?) → va_S A0 H0 H1 locs1 → W p l e R s m args below meth c H1 locs1 (cells + mc) (slots + ms) Q (F0 m (pc + 3) ls (.float r :: rest))) : W p l e R s m args below meth c H locs cells slots Q (F0 m pc ls st0) := by
  intro T hT X
  rcases hr T hT X with ⟨v, st₀, t, T', L, h0, X', hL, e1, e2, ⟨⟨r, u, hv, hp, hb⟩, hF⟩, st⟩ | ⟨q, st₀, t, T', L, E, ce, h0, X', hL, e1, e2, ⟨u, hp, hb, hF⟩, hce, hcv, hcl, st⟩
  · cases hv
    obtain ⟨k1, k2, k3⟩ := vx_keep h0 e1 hS hA hf hL hF
    obtain ⟨t2, a1, b1⟩ := kk r u t T'.heap (locs ++ L) e1.symm (by rw [← e2]; exact X'.warmed.alike) hp hb k1 k2 k3 T' rfl X'
    exact ⟨t2, st t2 a1, b1⟩
  · obtain ⟨k1, k2, k3⟩ := vx_keep h0 e1 hS hAX hf hL hF
    obtain ⟨t2, a1, b1⟩ := kx E ce q u t T'.heap (locs ++ L) e1.symm (by rw [← e2]; exact X'.warmed.alike) hp hb k1 k2 k3 (by rw [e1]; exact hce) hcv hcl T' rfl X'
    exact ⟨t2, st.trans a1, b1⟩
theorem vx_calld {S SX : Type} {post : UInt64 → S → Prop} {px : SX → Prop} {B : S → State → Prop} {BX : String → SX → State → Prop} {AX : Nat → Prop} (hr : vx_Run p l e R s m args below meth c H locs cells slots mc ms (F0 m pc ls st0) rest (va_Qd post B A1 a) (vx_X px BX AX) free) (hS : va_S A0 H0 H locs) (hA : ∀ q, q < H.size → A1 q → A0 q) (hf : ∀ q, free q → A0 q) (hAX : ∀ q, q < H.size → AX q → A0 q)
    (kx : ∀ (E : String) (ce : Cell) (q9 : Addr) (u : SX) (t : State) (H1 : Heap) (locs1 : List Loc), t.heap = H1 → s.vm.Alike t.vm → px u → BX E u t → H.size ≤ H1.size → (∀ q : Nat, q < H.size → ¬ AX q → H1[q]? = H[q]?) → va_S A0 H0 H1 locs1 → H1[q9]? = some ce → ce.vm = .none → s.vm.findClass E = some ce.cls → vx_W p l e R s m args below meth c H1 locs1 (cells + mc) (slots + ms) Q (F0 m pc ls rest) q9)
    (kk : ∀ (r : UInt64) (u : S) (t : State) (H1 : Heap) (locs1 : List Loc), t.heap = H1 → s.vm.Alike t.vm → post r u → B u t → H.size ≤ H1.size → (∀ q : Nat, q < H.size → ¬ A1 q → H1[q]? = H[q]?) → va_S A0 H0 H1 locs1 → W p l e R s m args below meth c H1 locs1 (cells + mc) (slots + ms) Q (F0 m (pc + 3) ls (.double r :: rest))) : W p l e R s m args below meth c H locs cells slots Q (F0 m pc ls st0) := by
  intro T hT X
  rcases hr T hT X with ⟨v, st₀, t, T', L, h0, X', hL, e1, e2, ⟨⟨r, u, hv, hp, hb⟩, hF⟩, st⟩ | ⟨q, st₀, t, T', L, E, ce, h0, X', hL, e1, e2, ⟨u, hp, hb, hF⟩, hce, hcv, hcl, st⟩
  · cases hv
    obtain ⟨k1, k2, k3⟩ := vx_keep h0 e1 hS hA hf hL hF
    obtain ⟨t2, a1, b1⟩ := kk r u t T'.heap (locs ++ L) e1.symm (by rw [← e2]; exact X'.warmed.alike) hp hb k1 k2 k3 T' rfl X'
    exact ⟨t2, st t2 a1, b1⟩
  · obtain ⟨k1, k2, k3⟩ := vx_keep h0 e1 hS hAX hf hL hF
    obtain ⟨t2, a1, b1⟩ := kx E ce q u t T'.heap (locs ++ L) e1.symm (by rw [← e2]; exact X'.warmed.alike) hp hb k1 k2 k3 (by rw [e1]; exact hce) hcv hcl T' rfl X'
    exact ⟨t2, st.trans a1, b1⟩
theorem vx_callv {S SX : Type} {post : S → Prop} {px : SX → Prop} {B : S → State → Prop} {BX : String → SX → State → Prop} {AX : Nat → Prop} (hr : vx_Run p l e R s m args below meth c H locs cells slots mc ms (F0 m pc ls st0) rest (va_Qv post B A1 a) (vx_X px BX AX) free) (hS : va_S A0 H0 H locs) (hA : ∀ q, q < H.size → A1 q → A0 q) (hf : ∀ q, free q → A0 q) (hAX : ∀ q, q < H.size → AX q → A0 q)
    (kx : ∀ (E : String) (ce : Cell) (q9 : Addr) (u : SX) (t : State) (H1 : Heap) (locs1 : List Loc), t.heap = H1 → s.vm.Alike t.vm → px u → BX E u t → H.size ≤ H1.size → (∀ q : Nat, q < H.size → ¬ AX q → H1[q]? = H[q]?) → va_S A0 H0 H1 locs1 → H1[q9]? = some ce → ce.vm = .none → s.vm.findClass E = some ce.cls → vx_W p l e R s m args below meth c H1 locs1 (cells + mc) (slots + ms) Q (F0 m pc ls rest) q9)
    (kk : ∀ (u : S) (t : State) (H1 : Heap) (locs1 : List Loc), t.heap = H1 → s.vm.Alike t.vm → post u → B u t → H.size ≤ H1.size → (∀ q : Nat, q < H.size → ¬ A1 q → H1[q]? = H[q]?) → va_S A0 H0 H1 locs1 → W p l e R s m args below meth c H1 locs1 (cells + mc) (slots + ms) Q (F0 m (pc + 3) ls (rest))) : W p l e R s m args below meth c H locs cells slots Q (F0 m pc ls st0) := by
  intro T hT X
  rcases hr T hT X with ⟨v, st₀, t, T', L, h0, X', hL, e1, e2, ⟨⟨u, hv, hp, hb⟩, hF⟩, st⟩ | ⟨q, st₀, t, T', L, E, ce, h0, X', hL, e1, e2, ⟨u, hp, hb, hF⟩, hce, hcv, hcl, st⟩
  · cases hv
    obtain ⟨k1, k2, k3⟩ := vx_keep h0 e1 hS hA hf hL hF
    obtain ⟨t2, a1, b1⟩ := kk u t T'.heap (locs ++ L) e1.symm (by rw [← e2]; exact X'.warmed.alike) hp hb k1 k2 k3 T' rfl X'
    exact ⟨t2, st t2 a1, b1⟩
  · obtain ⟨k1, k2, k3⟩ := vx_keep h0 e1 hS hAX hf hL hF
    obtain ⟨t2, a1, b1⟩ := kx E ce q u t T'.heap (locs ++ L) e1.symm (by rw [← e2]; exact X'.warmed.alike) hp hb k1 k2 k3 (by rw [e1]; exact hce) hcv hcl T' rfl X'
    exact ⟨t2, st.trans a1, b1⟩
/-- caught by the row x of this method's table; the rows ahead don't take it -/
theorem vx_catch {own name : String} {E : String} {ce : Cell} {q : Addr} (hown : s.vm.findClass own = some m.cls) (pre : List ExceptionTableEntry) (x : ExceptionTableEntry) (suf : List ExceptionTableEntry) (hsplit : c.exceptionTable.toList = pre ++ x :: suf)
    (hpass : ∀ z ∈ pre, covers z pc = false ∨ (z.catchType ≠ 0 ∧ ∃ nm : String, (Cond.classLink own z.catchType nm).before args s = true ∧ va_Nc E nm s)) (hx : covers x pc = true) (h0 : x.catchType ≠ 0)
    (hlink : (Cond.classLink own x.catchType name).before args s = true) (hcast : (Cond.castable E name).before args s = true) (hcell : H[q]? = some ce) (hv : ce.vm = .none) (hcl : s.vm.findClass E = some ce.cls)
    (kk : W p l e R s m args below meth c H locs cells slots Q (F0 m x.handlerPc ls [.ref q])) : vx_W p l e R s m args below meth c H locs cells slots Q (F0 m pc ls rest) q := by
  intro T hT X
  have hpl : e.platform.magicAccessors = ({} : Platform).magicAccessors := by rw [X.admits.platform]
  obtain ⟨c3, c4, hc3, hc4, hasg⟩ := Cond.castable_spec hcast
  cases Option.some.inj (hc3.symm.trans hcl)
  obtain ⟨c5, hc5, hcl5⟩ := Cond.classLink_spec hown hlink e.platform hpl
  cases Option.some.inj (hc4.symm.trans hc5)
  obtain ⟨vm', X', st⟩ := X.thenCaughtThrough q (g := F0 m pc ls rest) rfl (Steps.refl _) (by rw [hT]; exact hcell) (by rw [hv]; rfl) (by obtain ⟨k9, h9, -⟩ := Vm.findClass_spec hcl; exact ⟨k9, h9⟩) pre x suf hsplit
    (fun z hz => by
      rcases hpass z hz with h | ⟨hz0, nm, hl1, hn1⟩
      · exact Or.inl h
      · obtain ⟨c6, hc6, hcl6⟩ := Cond.classLink_spec hown hl1 e.platform hpl
        obtain ⟨a8, b8, h1, h2, h3⟩ := hn1
        cases Option.some.inj (h1.symm.trans hcl)
        cases Option.some.inj (h2.symm.trans hc6)
        exact Or.inr ⟨hz0, _, hcl6, h3⟩) hx (Or.inr ⟨h0, c4, hcl5, hasg⟩)
  obtain ⟨t, a1, b1⟩ := kk (T.setVm vm') hT X'
  exact ⟨t, st.trans a1, b1⟩
end Rows
section Ends
variable {p : Program} {l : Launch} {e : Env} {R : Room} {s : State} {m : MethodId} {args : Array Value} {below : List Frame} {meth : Method} {c : Code} {H : Heap} {locs : List Loc} {cells slots : Nat} {Q : State → Prop}
variable {mc ms : Nat} {free : Addr → Prop} {A0 A1 : Nat → Prop} {H0 : Heap} {a : Array Value} {ls : Array Slot} {st0 rest : List Value}
variable {Qc : Array Value → State → Outcome → State → Prop} {XC : String → State → State → Prop}
/-- what a body that may throw owes at its end -/
def vx_MQ (below : List Frame) (Qc : Array Value → State → Outcome → State → Prop) (XC : String → State → State → Prop) (a : Array Value) (s : State) (mc ms : Nat) (free : Addr → Prop) : State → Prop := fun t =>
  ∃ o, t.status = .running ∧ Ended t below o ∧ vx_Q Qc XC mc ms free a s o t
theorem vx_ret {g : JFrame} {mc ms : Nat} (k : W p l e R s m args below meth c H locs cells slots (MQ below Qc args s mc ms free) g) : W p l e R s m args below meth c H locs cells slots (vx_MQ below Qc XC args s mc ms free) g := by
  intro T hT X
  obtain ⟨t, a1, o, b1, b2, b3, b4⟩ := k T hT X
  exact ⟨t, a1, o, b1, b2, Or.inl ⟨b3, b4⟩⟩
/-- not caught here: it goes on to the caller -/
theorem vx_widen {g : JFrame} {q : Addr} {k n : Nat} (h1 : cells ≤ k) (h2 : slots ≤ n) (kk : vx_W p l e R s m args below meth c H locs k n Q g q) : vx_W p l e R s m args below meth c H locs cells slots Q g q := fun T hT X => kk T hT (stand_widen X h1 h2)
theorem vx_out {pc : Nat} {E : String} {ce : Cell} {q : Addr} {mc ms : Nat} (hout : ∀ x ∈ c.exceptionTable.toList, covers x pc = false) (hlocks : meth.locks = false) (hcell : H[q]? = some ce) (hv : ce.vm = .none) (hcl : s.vm.findClass E = some ce.cls)
    (hx : ∀ t : State, t.heap = H → s.vm.Alike t.vm → XC E s t) (hf : ∀ z ∈ locs, free z.base) (hc : cells ≤ mc) (hs : slots ≤ ms) :
    vx_W p l e R s m args below meth c H locs cells slots (vx_MQ below Qc XC args s mc ms free) (F0 m pc ls rest) q := by
  intro T hT X
  obtain ⟨st1, hrun, hend, hW, hsm⟩ := X.leaveThrown q (g := F0 m pc ls rest) rfl rfl rfl hout hlocks
  have hcell9 : (T.setFrames (.throwing q :: below)).heap[q]? = some ce := by
    show T.heap[q]? = some ce
    rw [hT]; exact hcell
  exact ⟨_, st1, .threw q, hrun, hend, Or.inr ⟨q, rfl, E, ce, locs, hx _ hT hW.alike, hcell9, hv, hcl, hW, hsm.mono hc hs, hf⟩⟩
theorem vx_frame {U : State} {k n : Nat} (h : s.sameButNew ({ U with vm := s.vm } : State) locs k n) : s.heap.size ≤ U.heap.size ∧ ∀ q : Nat, q < s.heap.size → (∀ z ∈ locs, z.base ≠ q) → U.heap[q]? = s.heap[q]? := by
  obtain ⟨-, h2, -, -, -, h6⟩ := h
  refine ⟨h2, fun q hq hz => ?_⟩
  obtain ⟨c9, e1, e2, e3, e4⟩ := h6 q _ (Array.getElem?_eq_getElem hq)
  have hs : c9.slots = (s.heap[q]).slots := Array.ext_getElem? fun i => e4 i fun hm => hz _ hm rfl
  have h9 : c9 = s.heap[q] := by
    rw [hs] at e2
    exact e2
  have e5 : U.heap[q]? = some c9 := e1
  rw [e5, h9, Array.getElem?_eq_getElem hq]
/-- the words of a throw but the four that speak of the heap -/
def vx_no (w : Cond) : Bool := decide (w ≠ .isRef (.static Bundle.tN "UNASSIGNED_STACK" Bundle.steD)) && decide (w ≠ .isRef (.static Bundle.tN "SUPPRESSED_SENTINEL" Bundle.listD)) && decide (w ≠ .laysStatic Bundle.tN "UNASSIGNED_STACK" Bundle.steD) && decide (w ≠ .laysStatic Bundle.tN "SUPPRESSED_SENTINEL" Bundle.listD)
def vx_at0 (own : String) (ic : Nat) (X : String) (names : List String) : List Cond := (Bundle.ownAtoms0 own ic X names).filter vx_no
def vx_atS (own : String) (ic : Nat) (X : String) (names : List String) : List Cond := (Bundle.ownAtoms own ic X names).filter vx_no
/-- a word that the tables alone decide, or a good one -/
def vx_ot (w : Cond) : Bool := w.onTables || goodWord w
theorem vx_ot_at {args a' : Array Value} {s U : State} {w : Cond} (hW : s.WarmedH U.vm) (hvm : s.vm = U.vm) (hg : vx_ot w = true) (h : w.before args s = true) : w.before a' U = true := by
  simp only [vx_ot, Bool.or_eq_true] at hg
  rcases hg with hg | hg
  · exact va_tabs hg hvm h
  · exact word_at hW (good_of_word hg) h
/-- a list's words: the good ones out of the method's own list, the others by premises of their own -/
theorem vx_hat {args : Array Value} {s : State} {L B : List Cond} (h1 : ∀ w ∈ L.filter goodWord, w.before args s = true) (h2 : ∀ w ∈ L.filter (fun w => !goodWord w), w ∈ B) (h3 : ∀ w ∈ B, w.before args s = true) : ∀ w ∈ L, w.before args s = true := by
  intro w hw
  by_cases g : goodWord w = true
  · exact h1 w (List.mem_filter.mpr ⟨hw, g⟩)
  · refine h3 w (h2 w (List.mem_filter.mpr ⟨hw, ?_⟩))
    show (!goodWord w) = true
    cases hgw : goodWord w
    · rfl
    · exact absurd hgw g
theorem vx_c {args : Array Value} {s : State} {w : Cond} {B : List Cond} (h : w.before args s = true) (t : ∀ w ∈ B, w.before args s = true) : ∀ w' ∈ w :: B, w'.before args s = true := fun w' h' => (List.mem_cons.mp h').elim (fun e => by rw [e]; exact h) (t w')
theorem vx_n {args : Array Value} {s : State} : ∀ w ∈ ([] : List Cond), w.before args s = true := fun _ h => nomatch h
theorem vx_own {args : Array Value} {s : State} {L : List Cond} (h1 : ∀ w ∈ L.filter vx_no, w.before args s = true)
    (hU : (Cond.isRef (.static Bundle.tN "UNASSIGNED_STACK" Bundle.steD)).before args s = true) (hN : (Cond.isRef (.static Bundle.tN "SUPPRESSED_SENTINEL" Bundle.listD)).before args s = true)
    (lU : (Cond.laysStatic Bundle.tN "UNASSIGNED_STACK" Bundle.steD).before args s = true) (lN : (Cond.laysStatic Bundle.tN "SUPPRESSED_SENTINEL" Bundle.listD).before args s = true) : ∀ w ∈ L, w.before args s = true := by
  intro w hw
  by_cases e1 : w = .isRef (.static Bundle.tN "UNASSIGNED_STACK" Bundle.steD)
  · rw [e1]; exact hU
  · by_cases e2 : w = .isRef (.static Bundle.tN "SUPPRESSED_SENTINEL" Bundle.listD)
    · rw [e2]; exact hN
    · by_cases e3 : w = .laysStatic Bundle.tN "UNASSIGNED_STACK" Bundle.steD
      · rw [e3]; exact lU
      · by_cases e4 : w = .laysStatic Bundle.tN "SUPPRESSED_SENTINEL" Bundle.listD
        · rw [e4]; exact lN
        · exact h1 w (List.mem_filter.mpr ⟨hw, by unfold vx_no; rw [decide_eq_true e1, decide_eq_true e2, decide_eq_true e3, decide_eq_true e4]; rfl⟩)
/-- where a static field lies, its class's statics cell in H -/
def vx_L (C n d : String) (A : Nat → Prop) (U : State) (H : Heap) : Prop := ∃ (c : ClassId) (k : Class) (i : Nat) (f : Field) (a : Nat) (cell : Cell), U.vm.findClass C = some c ∧ U.fieldFound? C n d = some (c, k, i, f) ∧ f.isStatic = true ∧ k.statics = some a ∧ H[a]? = some cell ∧ cell.vm.isStatics = true ∧ cell.cls = c ∧ f.slot < cell.slots.size ∧ k.staticTypes[f.slot]? = some f.type ∧ ¬ A a
theorem vx_L.moved {C n d : String} {A : Nat → Prop} {u U : State} {H : Heap} (hvm : u.vm.Alike U.vm) (h : vx_L C n d A u H) : vx_L C n d A U H := by
  obtain ⟨c, k, i, f, a, cell, h1, h2, h3, h4, h5, h6, h7, h8, h9, h10⟩ := h
  obtain ⟨k', hi', he⟩ := State.fieldFound?_setVm hvm h2
  exact ⟨c, k', i, f, a, cell, by rw [hvm.findClass]; exact h1, hi', h3, by rw [he]; exact h4, h5, h6, h7, h8, by rw [he]; exact h9, h10⟩
theorem vx_L.kept {C n d : String} {A : Nat → Prop} {U : State} {H H1 : Heap} (h : vx_L C n d A U H) (hq : ∀ a : Nat, a < H.size → ¬ A a → H1[a]? = H[a]?) : vx_L C n d A U H1 := by
  obtain ⟨c, k, i, f, a, cell, h1, h2, h3, h4, h5, h6, h7, h8, h9, h10⟩ := h
  exact ⟨c, k, i, f, a, cell, h1, h2, h3, h4, by rw [hq a (Array.getElem?_eq_some_iff.mp h5).1 h10]; exact h5, h6, h7, h8, h9, h10⟩
theorem vx_L.narrow {C n d : String} {A B : Nat → Prop} {U : State} {H : Heap} (h : vx_L C n d A U H) (hAB : ∀ q, B q → A q) : vx_L C n d B U H := by
  obtain ⟨c, k, i, f, a, cell, h1, h2, h3, h4, h5, h6, h7, h8, h9, h10⟩ := h
  exact ⟨c, k, i, f, a, cell, h1, h2, h3, h4, h5, h6, h7, h8, h9, fun z => h10 (hAB _ z)⟩
theorem vx_L.word {C n d : String} {A : Nat → Prop} {s : State} {args : Array Value} (h : vx_L C n d A s s.heap) : (Cond.laysStatic C n d).before args s = true := by
  obtain ⟨c, k, i, f, a, cell, h1, h2, h3, h4, h5, h6, h7, h8, h9, -⟩ := h
  show (Cond.laysStatic C n d).holds args s none s [] = true
  exact Cond.laysStatic_of h1 h2 h3 h4 h5 h6 h7 h8 h9
/-- .. and what it holds: null or some reference -/
def vx_Zq (C n d : String) (A : Nat → Prop) (U : State) (H : Heap) : Prop := va_Zq C n d A U H ∧ vx_L C n d A U H
theorem vx_Zq.moved {C n d : String} {A : Nat → Prop} {u U : State} {H : Heap} (hvm : u.vm.Alike U.vm) (h : vx_Zq C n d A u H) : vx_Zq C n d A U H := ⟨va_Zq.moved hvm h.1, vx_L.moved hvm h.2⟩
theorem vx_Zq.kept {C n d : String} {A : Nat → Prop} {U : State} {H H1 : Heap} (h : vx_Zq C n d A U H) (hq : ∀ a : Nat, a < H.size → ¬ A a → H1[a]? = H[a]?) : vx_Zq C n d A U H1 := ⟨va_Zq.kept h.1 hq, vx_L.kept h.2 hq⟩
theorem vx_Zq.narrow {C n d : String} {A B : Nat → Prop} {U : State} {H : Heap} (h : vx_Zq C n d A U H) (hAB : ∀ q, B q → A q) : vx_Zq C n d B U H := ⟨va_Zq.narrow h.1 hAB, vx_L.narrow h.2 hAB⟩
theorem vx_Zqof {args : Array Value} {s : State} {C n d : String} {A : Nat → Prop} (hl : (Cond.laysStatic C n d).before args s = true) (hini : (Cond.initialized C).before args s = true) (h : (Cond.isRef (.static C n d)).before args s = true) (hA : ∀ a : Nat, a < s.heap.size → ¬ A a) : vx_Zq C n d A s s.heap := by
  refine ⟨va_Zqof hl hini h hA, ?_⟩
  obtain ⟨c, k, i, f, a, cell, h1, h2, h3, h4, h5, h6, h7, h8, h9⟩ := Cond.laysStatic_spec hl
  exact ⟨c, k, i, f, a, cell, h1, h2, h3, h4, h5, h6, h7, h8, h9, hA a (Array.getElem?_eq_some_iff.mp h5).1⟩
theorem vx_isRef {C n d : String} {v : Value} {A : Nat → Prop} {s : State} {args : Array Value} (h : va_Z C n d v A s s.heap) (hv : v.isRef = true) : (Cond.isRef (.static C n d)).before args s = true := by
  obtain ⟨cf, kf, fi, f, a, cell, h1, h2, h3, h4, h5, h6, h7, -⟩ := h
  have he : (Term.static C n d).eval args s none [] s = some v := by
    simp [Term.eval, State.fieldNamed?, h1, h2, h4, h5, h6, h7]
  simp only [Cond.before, Cond.holds, Cond.value, he]
  cases v <;> simp_all [Value.isRef]
theorem vx_isRefq {C n d : String} {A : Nat → Prop} {s : State} {args : Array Value} (h : va_Zq C n d A s s.heap) : (Cond.isRef (.static C n d)).before args s = true := by
  rcases h with h | ⟨t, h⟩
  · exact vx_isRef h rfl
  · exact vx_isRef h rfl
/-- the same frame, seen from here: as if the method were called anew in this heap -/
theorem vx_rebase {T : State} (X : Stand p l e R s m args below meth c T locs cells slots) {R' : Room} (hf : R'.frames ≤ R.frames) (hl : R'.locals ≤ R.locals) (hc : cells + R'.cells ≤ R.cells) (hs : slots + R'.slots ≤ R.slots) :
    Stand p l e R' ((T.setVm s.vm).setFrames (.invoking m args :: below)) m args below meth c T [] 0 0 := by
  have htop : (T.setVm s.vm).topJava?.isSome := X.here.top
  have hF : ((T.setVm s.vm).setFrames (.invoking m args :: below)).frames = .invoking m args :: below := State.frames_setFrames _ (State.cur_lt_of_top htop)
  obtain ⟨g₀, hg0⟩ := Option.isSome_iff_exists.mp htop
  obtain ⟨r, hr⟩ := State.topJava?_eq_some.mp hg0
  have hl9 : e.platform.stackLimits (T.setVm s.vm).me = e.platform.stackLimits s.me := X.limits
  have hb9 : (T.setVm s.vm).me.stackBytes = s.me.stackBytes := X.bytes
  refine ⟨X.admits, X.cas, X.clock, hF, ?_, X.hears, X.method, X.code, X.here, X.tail, X.warmed, ?_, ?_, ?_⟩
  · have h := X.room
    have hU : ((T.setVm s.vm).setFrames (.invoking m args :: below)).localsInUse = s.localsInUse := by
      rw [State.localsInUse_invoking hF (meth := meth) (c := c) X.method X.code, State.localsInUse_invoking X.frames X.method X.code]
    simp only [State.hasRoom, Bool.and_eq_true, decide_eq_true_eq] at h ⊢
    obtain ⟨⟨⟨⟨h1, h2, h3, h4, h5, h6⟩, h7⟩, h8⟩, h9⟩ := h
    rw [X.frames, List.length_cons] at h2 h3
    have q1 := X.heapSize
    have q2 := X.used
    simp only [hF, hU, List.length_cons, State.stackLimits_setFrames, State.stackBytes_setFrames, hl9, hb9]
    refine ⟨⟨⟨⟨by omega, by omega, by omega, by omega, by omega, h6⟩, ?_⟩, ?_⟩, X.book⟩
    · show T.heap.size + R'.cells ≤ e.platform.maxCells
      omega
    · show T.slotsUsed + R'.slots ≤ e.platform.maxSlots
      omega
  · rw [State.stackLimits_setFrames]; rfl
  · rw [State.stackBytes_setFrames]; rfl
  · refine ⟨?_, Nat.le_refl _, Nat.le_refl _, ?_, ?_, fun a c9 h9 => ⟨c9, h9, rfl, rfl, fun _ _ => rfl⟩⟩
    · obtain ⟨t, ht, -⟩ := State.frames_cons hr
      show T.setVm s.vm = { ((T.setVm s.vm).setFrames (.invoking m args :: below)).setFrames (T.setVm s.vm).frames with heap := T.heap, slotsUsed := T.slotsUsed }
      rw [State.setFrames_setFrames, State.setFrames_self ht]
      rfl
    · show T.slotsUsed = T.slotsUsed + ((T.heap.toList.drop T.heap.size).map (·.slots.size)).sum
      rw [List.drop_eq_nil_of_le (Nat.le_of_eq Array.length_toList)]
      rfl
    · show ((T.heap.toList.drop T.heap.size).map (·.slots.size)).sum ≤ 0
      rw [List.drop_eq_nil_of_le (Nat.le_of_eq Array.length_toList)]
      exact Nat.le_refl _
/-- 'throw new E()': new; dup; invokespecial; athrow -/
theorem vx_throw0 {cc : ByteArray} {pc : Nat} (hexec : p.tables.exec = Jvm.exec) (hb : c.code = cc) (hl : l.stackTraces = false) {own cls : String} {names : List String} {ik ic mc ms : Nat} {A : Nat → Prop}
    (hown : s.vm.findClass own = some m.cls) (hcls : Bundle.fit cls = true) (hnames : ∀ n ∈ names, Bundle.fit n = true)
    (hk : (Cond.classLink own ik cls).before args s = true) (hini : (Cond.initialized cls).before args s = true) (hat : ∀ w ∈ vx_at0 own ic cls names, w.before args s = true)
    (hgood : ∀ w ∈ Cond.classLink own ik cls :: Cond.initialized cls :: vx_at0 own ic cls names, vx_ot w = true)
    (hU : vx_Zq Bundle.tN "UNASSIGNED_STACK" Bundle.steD A s s.heap) (hN : vx_Zq Bundle.tN "SUPPRESSED_SENTINEL" Bundle.listD A s s.heap) (hS : va_S A s.heap H locs) (hsize : ls.size = c.maxLocals)
    (d0 : decode cc pc = .ok (.new ik, 3)) (d3 : decode cc (pc + 3) = .ok (.dup, 1)) (d4 : decode cc (pc + 4) = .ok (.invokespecial ic, 3)) (d7 : decode cc (pc + 7) = .ok (.athrow, 1))
    (hout : ∀ x ∈ c.exceptionTable.toList, covers x (pc + 7) = false)
    (hRframes : names.length + 3 < R.frames) (hRlocals : (rest.map fun v => v.category).sum + (13 * (names.length + 1) + 42) ≤ R.locals) (hRcells : cells + 1 ≤ R.cells) (hRslots : slots + 6 ≤ R.slots) (hlocks : meth.locks = false)
    (hx : ∀ t : State, s.vm.Alike t.vm → H.size ≤ t.heap.size → (∀ q : Nat, q < H.size → t.heap[q]? = H[q]?) → XC cls s t)
    (hf : ∀ z ∈ locs, free z.base) (hc : cells + 1 ≤ mc) (hs : slots + 6 ≤ ms) :
    W p l e R s m args below meth c H locs cells slots (vx_MQ below Qc XC args s mc ms free) (F0 m pc ls rest) := by
  intro T hT X
  have htr : e.platform.stackTraces = false := (show e.platform.stackTraces = l.stackTraces by rw [X.admits.platform]).trans hl
  have Y := vx_rebase X (R' := { frames := R.frames, locals := R.locals, cells := 1, slots := 6 }) (Nat.le_refl _) (Nat.le_refl _) hRcells hRslots
  obtain ⟨s', hA⟩ : ∃ z, z = (T.setVm s.vm).setFrames (.invoking m args :: below) := ⟨_, rfl⟩
  rw [← hA] at Y
  have hvm : s'.vm = s.vm := by rw [hA]; rfl
  have hhp : s'.heap = H := by rw [hA]; exact hT
  have hW0 : s.WarmedH s'.vm := by rw [hvm]; exact State.WarmedH.refl s
  have hat' : ∀ w ∈ vx_at0 own ic cls names, w.before args s' = true := fun w hw => vx_ot_at hW0 hvm.symm (hgood w (List.mem_cons_of_mem _ (List.mem_cons_of_mem _ hw))) (hat w hw)
  have hk' : (Cond.classLink own ik cls).before args s' = true := vx_ot_at hW0 hvm.symm (hgood _ List.mem_cons_self) hk
  have hini' : (Cond.initialized cls).before args s' = true := vx_ot_at hW0 hvm.symm (hgood _ (List.mem_cons_of_mem _ List.mem_cons_self)) hini
  have hU' : vx_Zq Bundle.tN "UNASSIGNED_STACK" Bundle.steD A s' s'.heap := by rw [hhp]; exact vx_Zq.moved hW0.alike (hU.kept hS.2.1)
  have hN' : vx_Zq Bundle.tN "SUPPRESSED_SENTINEL" Bundle.listD A s' s'.heap := by rw [hhp]; exact vx_Zq.moved hW0.alike (hN.kept hS.2.1)
  have h : ∀ w ∈ Bundle.ownAtoms0 own ic cls names, w.before args s' = true := vx_own hat' (vx_isRefq hU'.1) (vx_isRefq hN'.1) hU'.2.word hN'.2.word
  have hown' : s'.vm.findClass own = some m.cls := by rw [hvm]; exact hown
  have hins : (Cond.instantiable cls 6).before args s' = true := h _ (by simp [Bundle.ownAtoms0])
  obtain ⟨vm₁, cX, kX, hfX, hkX, -, -, X₁, st1⟩ := Y.newCold hexec (own := own) (C := cls) (index := ik) (n := 6) hown' hk' hins hini'
    (g := F0 m pc ls rest) rfl (by rw [hb]; exact d0) (Nat.le_refl _) (Nat.le_refl _)
  generalize hT1 : (T.setVm vm₁).pushCell { cls := cX, slots := kX.instanceTypes.map defaultValue, vm := .none } = T1 at X₁ st1
  have hcat : (Value.ref T.heap.size).category = 1 := rfl
  have hcellA : T1.heap[T.heap.size]? = some (freshCell cX kX) := by rw [← hT1]; exact State.heap_pushCell_size _ _
  have d3' : decode c.code (pc + 3) = .ok (.dup, 1) := by rw [hb]; exact d3
  obtain ⟨U, hsteps, hrun, hend, hW, hsame, ce, hce, hO⟩ := X₁.ctorThrow0 hexec htr (own := own) (cls := cls) (names := names) (ic := ic) hown' hcls hnames h (fun x hx => nomatch hx) hfX hkX hcellA (by rw [hhp, hT]; exact Nat.le_refl _)
    (g := { method := m, pc := pc + 4, locals := ls, stack := .ref T.heap.size :: .ref T.heap.size :: rest, locked := none }) rfl hsize rfl rfl (rest := rest) rfl
    (by rw [hb]; exact d4) (by rw [hb]; exact d7) hout hRframes (by simp only [List.map_cons, List.sum_cons, hcat]; omega) hlocks
  obtain ⟨f1, f2⟩ := vx_frame hsame
  rw [hhp] at f1 f2
  have hWs : s.WarmedH U.vm := State.WarmedH.trans hW0 hW
  have hcl : s.vm.findClass cls = some ce.cls := by
    have h9 := hO.cls
    rw [hvm] at h9
    exact h9
  have hall : s.sameButNew ({ U with vm := s.vm } : State) locs mc ms := by
    subst hA
    obtain ⟨e1, e2⟩ := hsame
    rw [State.setFrames_setFrames] at e1
    have h2 : (T.setVm s.vm).sameButNew ({ U with vm := s.vm } : State) [] (0 + 1) (0 + 6) := ⟨e1, e2⟩
    have h3 := X.same.trans h2
    rw [List.append_nil] at h3
    exact h3.mono hc hs
  refine ⟨U, ?_, .threw T.heap.size, hrun, hend, Or.inr ⟨T.heap.size, rfl, cls, ce, locs, hx U hWs.alike f1 (fun q hq => f2 q hq (fun z hz => nomatch hz)), hce, hO.vm, hcl, hWs, hall, hf⟩⟩
  refine st1 _ ?_
  show Steps p.tables e below (T1.setTop { method := m, pc := pc + 3, locals := ls, stack := .ref T.heap.size :: rest, locked := none }) _
  jvm_step X₁.here [X₁.here.top, hexec, d3', Value.category]
  exact hsteps
/-- 'throw new E("text")': new; dup; ldc; invokespecial; athrow -/
theorem vx_throwS {cc : ByteArray} {pc : Nat} (hexec : p.tables.exec = Jvm.exec) (hb : c.code = cc) (hl : l.stackTraces = false) {own cls text : String} {names : List String} {ik is ic mc ms sa : Nat} {A : Nat → Prop}
    (hown : s.vm.findClass own = some m.cls) (hcls : Bundle.fit cls = true) (hnames : ∀ n ∈ names, Bundle.fit n = true)
    (hk : (Cond.classLink own ik cls).before args s = true) (hini : (Cond.initialized cls).before args s = true) (hstr : vk_R own is text sa s) (hat : ∀ w ∈ vx_atS own ic cls names, w.before args s = true)
    (hgood : ∀ w ∈ Cond.classLink own ik cls :: Cond.initialized cls :: vx_atS own ic cls names, vx_ot w = true)
    (hU : vx_Zq Bundle.tN "UNASSIGNED_STACK" Bundle.steD A s s.heap) (hN : vx_Zq Bundle.tN "SUPPRESSED_SENTINEL" Bundle.listD A s s.heap) (hS : va_S A s.heap H locs) (hsize : ls.size = c.maxLocals)
    (d0 : decode cc pc = .ok (.new ik, 3)) (d3 : decode cc (pc + 3) = .ok (.dup, 1)) (d4 : decode cc (pc + 4) = .ok (.ldc is, 2)) (d6 : decode cc (pc + 6) = .ok (.invokespecial ic, 3)) (d9 : decode cc (pc + 9) = .ok (.athrow, 1))
    (hout : ∀ x ∈ c.exceptionTable.toList, covers x (pc + 9) = false)
    (hRframes : names.length + 3 < R.frames) (hRlocals : (rest.map fun v => v.category).sum + (13 * (names.length + 1) + 43) ≤ R.locals) (hRcells : cells + 1 ≤ R.cells) (hRslots : slots + 6 ≤ R.slots) (hlocks : meth.locks = false)
    (hx : ∀ t : State, s.vm.Alike t.vm → H.size ≤ t.heap.size → (∀ q : Nat, q < H.size → t.heap[q]? = H[q]?) → XC cls s t)
    (hf : ∀ z ∈ locs, free z.base) (hc : cells + 1 ≤ mc) (hs : slots + 6 ≤ ms) :
    W p l e R s m args below meth c H locs cells slots (vx_MQ below Qc XC args s mc ms free) (F0 m pc ls rest) := by
  intro T hT X
  have htr : e.platform.stackTraces = false := (show e.platform.stackTraces = l.stackTraces by rw [X.admits.platform]).trans hl
  have Y := vx_rebase X (R' := { frames := R.frames, locals := R.locals, cells := 1, slots := 6 }) (Nat.le_refl _) (Nat.le_refl _) hRcells hRslots
  obtain ⟨s', hA⟩ : ∃ z, z = (T.setVm s.vm).setFrames (.invoking m args :: below) := ⟨_, rfl⟩
  rw [← hA] at Y
  have hvm : s'.vm = s.vm := by rw [hA]; rfl
  have hhp : s'.heap = H := by rw [hA]; exact hT
  have hW0 : s.WarmedH s'.vm := by rw [hvm]; exact State.WarmedH.refl s
  have hat' : ∀ w ∈ vx_atS own ic cls names, w.before args s' = true := fun w hw => vx_ot_at hW0 hvm.symm (hgood w (List.mem_cons_of_mem _ (List.mem_cons_of_mem _ hw))) (hat w hw)
  have hk' : (Cond.classLink own ik cls).before args s' = true := vx_ot_at hW0 hvm.symm (hgood _ List.mem_cons_self) hk
  have hini' : (Cond.initialized cls).before args s' = true := vx_ot_at hW0 hvm.symm (hgood _ (List.mem_cons_of_mem _ List.mem_cons_self)) hini
  have hU' : vx_Zq Bundle.tN "UNASSIGNED_STACK" Bundle.steD A s' s'.heap := by rw [hhp]; exact vx_Zq.moved hW0.alike (hU.kept hS.2.1)
  have hN' : vx_Zq Bundle.tN "SUPPRESSED_SENTINEL" Bundle.listD A s' s'.heap := by rw [hhp]; exact vx_Zq.moved hW0.alike (hN.kept hS.2.1)
  have h : ∀ w ∈ Bundle.ownAtoms own ic cls names, w.before args s' = true := vx_own hat' (vx_isRefq hU'.1) (vx_isRefq hN'.1) hU'.2.word hN'.2.word
  have hown' : s'.vm.findClass own = some m.cls := by rw [hvm]; exact hown
  have hins : (Cond.instantiable cls 6).before args s' = true := h _ (by simp [Bundle.ownAtoms])
  obtain ⟨vm₁, cX, kX, hfX, hkX, -, -, X₁, st1⟩ := Y.newCold hexec (own := own) (C := cls) (index := ik) (n := 6) hown' hk' hins hini'
    (g := F0 m pc ls rest) rfl (by rw [hb]; exact d0) (Nat.le_refl _) (Nat.le_refl _)
  generalize hT1 : (T.setVm vm₁).pushCell { cls := cX, slots := kX.instanceTypes.map defaultValue, vm := .none } = T1 at X₁ st1
  have hcat : (Value.ref T.heap.size).category = 1 := rfl
  have hcellA : T1.heap[T.heap.size]? = some (freshCell cX kX) := by rw [← hT1]; exact State.heap_pushCell_size _ _
  have d3' : decode c.code (pc + 3) = .ok (.dup, 1) := by rw [hb]; exact d3
  have d4' : decode c.code (pc + 4) = .ok (.ldc is, 2) := by rw [hb]; exact d4
  have hstr' : vk_R own is text sa s' := vk_R.warm hW0 hstr
  obtain ⟨U, hsteps, hrun, hend, hW, hsame, ce, hce, hO⟩ := X₁.ctorThrowS hexec htr (own := own) (cls := cls) (names := names) (ic := ic) hown' hcls hnames h (fun x hx => nomatch hx) hfX hkX hcellA (by rw [hhp, hT]; exact Nat.le_refl _) (msg := .ref sa) rfl
    (g := { method := m, pc := pc + 6, locals := ls, stack := .ref sa :: .ref T.heap.size :: .ref T.heap.size :: rest, locked := none }) rfl hsize rfl rfl (rest := rest) rfl
    (by rw [hb]; exact d6) (by rw [hb]; exact d9) hout hRframes (by simp only [List.map_cons, List.sum_cons, hcat]; omega) hlocks
  obtain ⟨f1, f2⟩ := vx_frame hsame
  rw [hhp] at f1 f2
  have hWs : s.WarmedH U.vm := State.WarmedH.trans hW0 hW
  have hcl : s.vm.findClass cls = some ce.cls := by
    have h9 := hO.cls
    rw [hvm] at h9
    exact h9
  have hall : s.sameButNew ({ U with vm := s.vm } : State) locs mc ms := by
    subst hA
    obtain ⟨e1, e2⟩ := hsame
    rw [State.setFrames_setFrames] at e1
    have h2 : (T.setVm s.vm).sameButNew ({ U with vm := s.vm } : State) [] (0 + 1) (0 + 6) := ⟨e1, e2⟩
    have h3 := X.same.trans h2
    rw [List.append_nil] at h3
    exact h3.mono hc hs
  refine ⟨U, ?_, .threw T.heap.size, hrun, hend, Or.inr ⟨T.heap.size, rfl, cls, ce, locs, hx U hWs.alike f1 (fun q hq => f2 q hq (fun z hz => nomatch hz)), hce, hO.vm, hcl, hWs, hall, hf⟩⟩
  refine st1 _ ?_
  show Steps p.tables e below (T1.setTop { method := m, pc := pc + 3, locals := ls, stack := .ref T.heap.size :: rest, locked := none }) _
  jvm_step X₁.here [X₁.here.top, hexec, d3', Value.category]
  exact X₁.ldcString hexec (own := own) (text := text) (index := is) (a := sa) hown' hstr'.1 hstr'.2
    (g := { method := m, pc := pc + 4, locals := ls, stack := .ref T.heap.size :: .ref T.heap.size :: rest, locked := none }) rfl d4' _ hsteps
/-- 'throw new E("text")', the text by a wide index -/
theorem vx_throwSW {cc : ByteArray} {pc : Nat} (hexec : p.tables.exec = Jvm.exec) (hb : c.code = cc) (hl : l.stackTraces = false) {own cls text : String} {names : List String} {ik is ic mc ms sa : Nat} {A : Nat → Prop}
    (hown : s.vm.findClass own = some m.cls) (hcls : Bundle.fit cls = true) (hnames : ∀ n ∈ names, Bundle.fit n = true)
    (hk : (Cond.classLink own ik cls).before args s = true) (hini : (Cond.initialized cls).before args s = true) (hstr : vk_R own is text sa s) (hat : ∀ w ∈ vx_atS own ic cls names, w.before args s = true)
    (hgood : ∀ w ∈ Cond.classLink own ik cls :: Cond.initialized cls :: vx_atS own ic cls names, vx_ot w = true)
    (hU : vx_Zq Bundle.tN "UNASSIGNED_STACK" Bundle.steD A s s.heap) (hN : vx_Zq Bundle.tN "SUPPRESSED_SENTINEL" Bundle.listD A s s.heap) (hS : va_S A s.heap H locs) (hsize : ls.size = c.maxLocals)
    (d0 : decode cc pc = .ok (.new ik, 3)) (d3 : decode cc (pc + 3) = .ok (.dup, 1)) (d4 : decode cc (pc + 4) = .ok (.ldc_w is, 3)) (d7 : decode cc (pc + 7) = .ok (.invokespecial ic, 3)) (d10 : decode cc (pc + 10) = .ok (.athrow, 1))
    (hout : ∀ x ∈ c.exceptionTable.toList, covers x (pc + 10) = false)
    (hRframes : names.length + 3 < R.frames) (hRlocals : (rest.map fun v => v.category).sum + (13 * (names.length + 1) + 43) ≤ R.locals) (hRcells : cells + 1 ≤ R.cells) (hRslots : slots + 6 ≤ R.slots) (hlocks : meth.locks = false)
    (hx : ∀ t : State, s.vm.Alike t.vm → H.size ≤ t.heap.size → (∀ q : Nat, q < H.size → t.heap[q]? = H[q]?) → XC cls s t)
    (hf : ∀ z ∈ locs, free z.base) (hc : cells + 1 ≤ mc) (hs : slots + 6 ≤ ms) :
    W p l e R s m args below meth c H locs cells slots (vx_MQ below Qc XC args s mc ms free) (F0 m pc ls rest) := by
  intro T hT X
  have htr : e.platform.stackTraces = false := (show e.platform.stackTraces = l.stackTraces by rw [X.admits.platform]).trans hl
  have Y := vx_rebase X (R' := { frames := R.frames, locals := R.locals, cells := 1, slots := 6 }) (Nat.le_refl _) (Nat.le_refl _) hRcells hRslots
  obtain ⟨s', hA⟩ : ∃ z, z = (T.setVm s.vm).setFrames (.invoking m args :: below) := ⟨_, rfl⟩
  rw [← hA] at Y
  have hvm : s'.vm = s.vm := by rw [hA]; rfl
  have hhp : s'.heap = H := by rw [hA]; exact hT
  have hW0 : s.WarmedH s'.vm := by rw [hvm]; exact State.WarmedH.refl s
  have hat' : ∀ w ∈ vx_atS own ic cls names, w.before args s' = true := fun w hw => vx_ot_at hW0 hvm.symm (hgood w (List.mem_cons_of_mem _ (List.mem_cons_of_mem _ hw))) (hat w hw)
  have hk' : (Cond.classLink own ik cls).before args s' = true := vx_ot_at hW0 hvm.symm (hgood _ List.mem_cons_self) hk
  have hini' : (Cond.initialized cls).before args s' = true := vx_ot_at hW0 hvm.symm (hgood _ (List.mem_cons_of_mem _ List.mem_cons_self)) hini
  have hU' : vx_Zq Bundle.tN "UNASSIGNED_STACK" Bundle.steD A s' s'.heap := by rw [hhp]; exact vx_Zq.moved hW0.alike (hU.kept hS.2.1)
  have hN' : vx_Zq Bundle.tN "SUPPRESSED_SENTINEL" Bundle.listD A s' s'.heap := by rw [hhp]; exact vx_Zq.moved hW0.alike (hN.kept hS.2.1)
  have h : ∀ w ∈ Bundle.ownAtoms own ic cls names, w.before args s' = true := vx_own hat' (vx_isRefq hU'.1) (vx_isRefq hN'.1) hU'.2.word hN'.2.word
  have hown' : s'.vm.findClass own = some m.cls := by rw [hvm]; exact hown
  have hins : (Cond.instantiable cls 6).before args s' = true := h _ (by simp [Bundle.ownAtoms])
  obtain ⟨vm₁, cX, kX, hfX, hkX, -, -, X₁, st1⟩ := Y.newCold hexec (own := own) (C := cls) (index := ik) (n := 6) hown' hk' hins hini'
    (g := F0 m pc ls rest) rfl (by rw [hb]; exact d0) (Nat.le_refl _) (Nat.le_refl _)
  generalize hT1 : (T.setVm vm₁).pushCell { cls := cX, slots := kX.instanceTypes.map defaultValue, vm := .none } = T1 at X₁ st1
  have hcat : (Value.ref T.heap.size).category = 1 := rfl
  have hcellA : T1.heap[T.heap.size]? = some (freshCell cX kX) := by rw [← hT1]; exact State.heap_pushCell_size _ _
  have d3' : decode c.code (pc + 3) = .ok (.dup, 1) := by rw [hb]; exact d3
  have d4' : decode c.code (pc + 4) = .ok (.ldc_w is, 3) := by rw [hb]; exact d4
  have hstr' : vk_R own is text sa s' := vk_R.warm hW0 hstr
  obtain ⟨U, hsteps, hrun, hend, hW, hsame, ce, hce, hO⟩ := X₁.ctorThrowS hexec htr (own := own) (cls := cls) (names := names) (ic := ic) hown' hcls hnames h (fun x hx => nomatch hx) hfX hkX hcellA (by rw [hhp, hT]; exact Nat.le_refl _) (msg := .ref sa) rfl
    (g := { method := m, pc := pc + 7, locals := ls, stack := .ref sa :: .ref T.heap.size :: .ref T.heap.size :: rest, locked := none }) rfl hsize rfl rfl (rest := rest) rfl
    (by rw [hb]; exact d7) (by rw [hb]; exact d10) hout hRframes (by simp only [List.map_cons, List.sum_cons, hcat]; omega) hlocks
  obtain ⟨f1, f2⟩ := vx_frame hsame
  rw [hhp] at f1 f2
  have hWs : s.WarmedH U.vm := State.WarmedH.trans hW0 hW
  have hcl : s.vm.findClass cls = some ce.cls := by
    have h9 := hO.cls
    rw [hvm] at h9
    exact h9
  have hall : s.sameButNew ({ U with vm := s.vm } : State) locs mc ms := by
    subst hA
    obtain ⟨e1, e2⟩ := hsame
    rw [State.setFrames_setFrames] at e1
    have h2 : (T.setVm s.vm).sameButNew ({ U with vm := s.vm } : State) [] (0 + 1) (0 + 6) := ⟨e1, e2⟩
    have h3 := X.same.trans h2
    rw [List.append_nil] at h3
    exact h3.mono hc hs
  refine ⟨U, ?_, .threw T.heap.size, hrun, hend, Or.inr ⟨T.heap.size, rfl, cls, ce, locs, hx U hWs.alike f1 (fun q hq => f2 q hq (fun z hz => nomatch hz)), hce, hO.vm, hcl, hWs, hall, hf⟩⟩
  refine st1 _ ?_
  show Steps p.tables e below (T1.setTop { method := m, pc := pc + 3, locals := ls, stack := .ref T.heap.size :: rest, locked := none }) _
  jvm_step X₁.here [X₁.here.top, hexec, d3', Value.category]
  exact X₁.ldcStringW hexec (own := own) (text := text) (index := is) (a := sa) hown' hstr'.1 hstr'.2
    (g := { method := m, pc := pc + 4, locals := ls, stack := .ref T.heap.size :: .ref T.heap.size :: rest, locked := none }) rfl d4' _ hsteps
end Ends
section Bodies
variable {l : Launch}
theorem vx_ofW {y : MethodName} {ws ws' : List Cond} {rm : Room} {Pc : Array Value → State → Prop} {Qc : Array Value → State → Outcome → State → Prop} {XC : String → State → State → Prop} {mc ms : Nat} {free : Addr → Prop} {cc : ByteArray} {maxL : Nat} {ret : Option FieldType}
    (hy : plainName y.cls = true) (hw : ws = Cond.code y cc maxL ret :: ws')
    (body : ∀ p e s m args below meth c s₁, BodyLoose p l y (headSpec ws rm) cc maxL ret e s m args below meth c s₁ → c.maxLocals = maxL → (∀ x ∈ c.exceptionTable.toList, False) → Pc args s →
      W p l e (headSpec ws rm).room s m args below meth c s.heap [] 0 0 (vx_MQ below Qc XC args s mc ms free) (entryFrame m args maxL)) : vx_Met l y ws rm Pc Qc XC mc ms free := by
  refine MetFree.of_bodyS (code := cc) (maxLocals := maxL) (ret := ret) hy ?_ ?_
  · intro args s m h hn
    obtain ⟨meth, c, h1, h2, h3, h4, h5, h6, -, -⟩ := Cond.code_spec hn (atoms_spec (ws := ws) h _ (by rw [hw]; exact List.mem_cons_self))
    exact ⟨meth, c, h1, h2, h3, h4, h5, h6⟩
  · intro p e s m args below meth c s₁ B hml hP _
    have hh0 : s₁.heap = s.heap := by rw [B.state]; rfl
    have ht : ∀ x ∈ c.exceptionTable.toList, False := by
      obtain ⟨meth9, c9, h1, h2, -, -, -, -, h7, -⟩ := Cond.code_spec B.named (atoms_spec (ws := ws) B.pre _ (by rw [hw]; exact List.mem_cons_self))
      cases Option.some.inj (h1.symm.trans B.method)
      cases Option.some.inj (h2.symm.trans (Stand.of_body B).code)
      intro x hx
      rw [Array.isEmpty_iff.mp h7] at hx
      cases hx
    obtain ⟨t, a1, o, b1, b2, b3⟩ := body p e s m args below meth c s₁ B hml ht hP s₁ hh0 (Stand.of_body B)
    exact ⟨t, o, a1, b1, b2, b3⟩
/-- the table of a body with handlers -/
theorem vx_table {p : Program} {x y : MethodName} {S : Spec} {cc bytes : ByteArray} {maxL maxL' : Nat} {ret ret' : Option FieldType} {e : Env} {s s₁ : State} {m : MethodId} {args : Array Value} {below : List Frame} {meth : Method} {c : Code} {hh : List (Nat × Nat × Nat × Nat)}
    (B : BodyLoose p l y S cc maxL ret e s m args below meth c s₁) (h : (Cond.codeWith y bytes maxL' ret' hh).before args s = true) : c.exceptionTable.toList = tableOf hh := by
  obtain ⟨m9, meth9, c9, hn9, h1, h2, -, -, h6, -⟩ := Cond.codeWith_spec h
  cases Option.some.inj (hn9.symm.trans B.named)
  cases Option.some.inj (h1.symm.trans B.method)
  cases Option.some.inj (h2.symm.trans (Stand.of_body B).code)
  rw [← h6, table_eq]
end Bodies
end VXA
/-! ===== END ===== -/
/-! ===== BEGIN a static call of a method with an exception table ===== -/
section VXS
variable {p : Program} {l : Launch} {e : Env} {R : Room} {s : State} {m : MethodId} {args : Array Value} {below : List Frame} {meth : Method} {c : Code} {T : State} {H : Heap} {locs : List Loc} {cells slots : Nat}
abbrev vx_CSW (R : Room) (s : State) (args : Array Value) (own : String) (index : Nat) (y : MethodName) (bytes : ByteArray) (maxL : Nat) (ret : Option FieldType) (hh : List (Nat × Nat × Nat × Nat)) (ws : List Cond) (rm : Room) (mc ms n : Nat) : Prop :=
  (rm.cells = mc ∧ rm.slots = ms ∧ rm.frames + 1 ≤ R.frames ∧ 8 + (maxL + 11) + rm.locals ≤ R.locals ∧ (∀ w ∈ ws, ∀ (a' : Array Value) (U : State), s.WarmedH U.vm → w.before a' U = true) ∧ Cond.codeWith y bytes maxL ret hh ∈ ws) ∧
  (Cond.codeWith y bytes maxL ret hh).before args s = true ∧ (Cond.initialized y.cls).before args s = true ∧ (y.cls ≠ "java/lang/invoke/MethodHandle" ∧ y.cls ≠ "java/lang/invoke/VarHandle") ∧
  (∀ sig, parseMethodDescriptor y.desc = some sig → n = sig.parameters.length) ∧ (Cond.methodLink own index y).before args s = true ∧ (Cond.static y).before args s = true
theorem vx_cwSW {own : String} {index maxL mc ms : Nat} {y : MethodName} {bytes : ByteArray} {ret : Option FieldType} {hh : List (Nat × Nat × Nat × Nat)} {Ts ws ws' : List Cond} {rm : Room} (n : Nat) (ht : ∀ w ∈ Ts, w.before args s = true) (hT : GoodIn Ts (va_wsS own index y ws)) (hw : ws = Cond.codeWith y bytes maxL ret hh :: ws') (hrc : rm.cells = mc) (hrs : rm.slots = ms)
    (hd : y.cls ≠ "java/lang/invoke/MethodHandle" ∧ y.cls ≠ "java/lang/invoke/VarHandle" ∧ (parseMethodDescriptor y.desc).map (fun d => d.parameters.length) = some n) (hR : rm.frames + 1 ≤ R.frames ∧ 8 + (maxL + 11) + rm.locals ≤ R.locals) :
    vx_CSW R s args own index y bytes maxL ret hh ws rm mc ms n := by
  have ok : ∀ w ∈ va_wsS own index y ws, w.before args s = true := fun w h => ht w (hT w h).1
  have hG : GoodIn Ts ws := fun w h => hT w (by unfold va_wsS; exact List.mem_append_right _ h)
  have hc : Cond.codeWith y bytes maxL ret hh ∈ ws := by rw [hw]; exact List.mem_cons_self
  refine ⟨⟨hrc, hrs, hR.1, hR.2, pay_in ht hG, hc⟩, ht _ (hG _ hc).1, ok _ (by simp [va_wsS]), ⟨hd.1, hd.2.1⟩, fun sig h => ?_, ok _ (by simp [va_wsS]), ok _ (by simp [va_wsS])⟩
  have h2 := hd.2.2
  rw [h] at h2
  exact (Option.some.inj h2).symm
theorem vx_callSW (X : Stand p l e R s m args below meth c T locs cells slots) (hexec : p.tables.exec = Jvm.exec) {own : String} {index : Nat} {y : MethodName} {bytes : ByteArray} {maxL : Nat} {ret : Option FieldType} {hh : List (Nat × Nat × Nat × Nat)}
    (hown : s.vm.findClass own = some m.cls) (hlink : (Cond.methodLink own index y).before args s = true) (hstat : (Cond.static y).before args s = true) (hinit : (Cond.initialized y.cls).before args s = true)
    (hcode : (Cond.codeWith y bytes maxL ret hh).before args s = true) (hy : y.cls ≠ "java/lang/invoke/MethodHandle" ∧ y.cls ≠ "java/lang/invoke/VarHandle")
    {W9 : Nat} {Pre : Pt → Array Value → Prop} {Post : Pt → Array Value → Option Value → Pt → Prop} (hK : Back l R p e below s args y 3 W9 Pre Post)
    {g : JFrame} (hg : g.method = m) (hsize : g.locals.size = c.maxLocals) {argsL rest : List Value} (hlen : ∀ sig, parseMethodDescriptor y.desc = some sig → argsL.length = sig.parameters.length)
    (hstack : g.stack = argsL.reverse ++ rest) (hW : 2 * g.monitorRoom + (rest.map fun v => v.category).sum ≤ W9) (hdg : decode c.code g.pc = .ok (.invokestatic index, 3))
    (hpre : ∀ vm₁, s.WarmedH vm₁ → Pre ⟨T.setVm vm₁, locs, cells, slots⟩ argsL.toArray) :
    ∃ (v : Option Value) (vm₁ : Vm) (B : Pt), s.WarmedH vm₁ ∧ Stand p l e R s m args below meth c B.U B.locs B.cells B.slots ∧ Post ⟨T.setVm vm₁, locs, cells, slots⟩ argsL.toArray v B ∧
      ∀ target, Steps p.tables e below (B.U.setTop { g with pc := g.pc + 3, stack := v.toList ++ rest }) target → Steps p.tables e below (T.setTop g) target := by
  obtain ⟨mk, methM, cM, hnamed, hmethM, -, -, -, -, -, -, hsigM⟩ := Cond.codeWith_spec hcode
  have hstatic : methM.isStatic = true := Cond.static_spec hnamed hmethM hstat
  obtain ⟨kP, hkP, -⟩ := className_of_methodNamed hnamed
  have hinitP : kP.init = .initialized := Cond.initialized_spec (findClass_of_methodNamed hnamed) hkP hinit
  obtain ⟨vm₁, X₁, hstep₁⟩ := X.invokestatic hexec hown hlink hnamed hmethM hstatic hkP hinitP hy (g := g) hg (argsL := argsL) (rest := rest) (hlen _ hsigM) hstack hdg
  obtain ⟨v, B, X', hpost, hsteps⟩ := hK m meth c ⟨T.setVm vm₁, locs, cells, slots⟩ { g with stack := rest } (.invokestatic index) mk argsL.toArray X₁ hg hsize hdg hW (X₁.named hnamed) (hpre vm₁ X₁.warmed)
  exact ⟨v, vm₁, B, X₁.warmed, X', hpost, fun target h => hstep₁ _ fun acts => by rw [doInvoke_state]; exact hsteps.trans h⟩
theorem vx_runSW {y : MethodName} {bytes cc : ByteArray} {maxL nL mc ms n index : Nat} {ret : Option FieldType} {hh : List (Nat × Nat × Nat × Nat)} {ws : List Cond} {rm : Room} {Pc : Array Value → State → Prop} {Qc : Array Value → State → Outcome → State → Prop} {free : Addr → Prop} {Ts : List Cond} {own : String} {As rest : List Value} {g : JFrame}
    (S : CallFix p m c cc nL s args Ts own) (hM : Met l y ws rm Pc Qc mc ms free) (cw : vx_CSW R s args own index y bytes maxL ret hh ws rm mc ms n) (hp : PreS s H Pc As)
    (hg : g.method = m) (hn : As.length = n) (hsize : g.locals.size = nL) (hstack : g.stack = As.reverse ++ rest) (hW : 2 * g.monitorRoom + (rest.map fun v => v.category).sum ≤ 8) (hdg : decode cc g.pc = .ok (.invokestatic index, 3)) (hf : cells + mc ≤ R.cells ∧ slots + ms ≤ R.slots) :
    va_Run p l e R s m args below meth c H locs cells slots mc ms g rest (Qc As.toArray) (free) := by
  obtain ⟨⟨hrc, hrs, hfr, hlo, hws, hcw⟩, hcode, hini, hy, hlen, hl, hstt⟩ := cw
  have hK : Back l R p e below s args y 3 8 (PreOf R mc ms Pc) (PostOf Qc mc ms free) := va_backW (hh := hh) (bytes := bytes) (maxL := maxL) (ret := ret) hM hp.1 hrc hrs hfr hlo hws hcw (fun a' U hW => word_at hW (Or.inl (by first | rfl | simp [Cond.onTables, Cond.keeps, Cond.steady])) hini)
  obtain ⟨hx, hb, hml, ho, -⟩ := S
  intro T hT X
  obtain ⟨v, vm₁, ⟨U', l2, c2, s2⟩, hW₁, X', ⟨g', mk, t, L, e1, e2, hq, h1, hL, h2, h3⟩, st⟩ := vx_callSW X hx (hh := hh) (bytes := bytes) (maxL := maxL) (ret := ret) ho hl hstt hini hcode hy hK hg (hsize.trans hml.symm) (argsL := As) (rest := rest) (fun sig h => hn.trans (hlen sig h)) hstack hW (by rw [hb]; exact hdg)
    (fun vm₁ hW₁ => ⟨hf.1, hf.2, hp.2 (T.setVm vm₁) hT hW₁⟩)
  dsimp only [Pt.U, Pt.locs, Pt.cells, Pt.slots] at X' e1 e2 h1 h2 h3 st
  subst h1; subst h2; subst h3
  exact ⟨v, (T.setVm vm₁).calling g' mk As.toArray, t, U', L, hT, X', hL, e1, e2, hq, st⟩
/-- not caught here, past rows that name other classes: it goes on to the caller -/
theorem vx_outP {p : Program} {l : Launch} {e : Env} {R : Room} {s : State} {m : MethodId} {args : Array Value} {below : List Frame} {meth : Method} {c : Code} {H : Heap} {locs : List Loc} {cells slots : Nat} {free : Addr → Prop} {ls : Array Slot} {rest : List Value} {Qc : Array Value → State → Outcome → State → Prop} {XC : String → State → State → Prop}
    {pc : Nat} {own E : String} {ce : Cell} {q : Addr} {mc ms : Nat} (hown : s.vm.findClass own = some m.cls) (hlocks : meth.locks = false)
    (hpass : ∀ z ∈ c.exceptionTable.toList, covers z pc = false ∨ (z.catchType ≠ 0 ∧ ∃ nm : String, (Cond.classLink own z.catchType nm).before args s = true ∧ va_Nc E nm s)) (hcell : H[q]? = some ce) (hv : ce.vm = .none) (hcl : s.vm.findClass E = some ce.cls)
    (hx : ∀ t : State, t.heap = H → s.vm.Alike t.vm → XC E s t) (hf : ∀ z ∈ locs, free z.base) (hc : cells ≤ mc) (hs : slots ≤ ms) :
    vx_W p l e R s m args below meth c H locs cells slots (vx_MQ below Qc XC args s mc ms free) (F0 m pc ls rest) q := by
  intro T hT X
  have hpl : e.platform.magicAccessors = ({} : Platform).magicAccessors := by rw [X.admits.platform]
  obtain ⟨vm', hW', X', st⟩ := X.outThrough hlocks q (g := F0 m pc ls rest) rfl rfl rfl (cell := ce) (by rw [hT]; exact hcell) (by rw [hv]; rfl)
    (by obtain ⟨k9, h9, -⟩ := Vm.findClass_spec hcl; exact ⟨k9, h9⟩) (fun z hz => by
      rcases hpass z hz with h | ⟨hz0, nm, hl1, hn1⟩
      · exact Or.inl h
      · obtain ⟨c6, hc6, hcl6⟩ := Cond.classLink_spec hown hl1 e.platform hpl
        obtain ⟨a8, b8, h1, h2, h3⟩ := hn1
        cases Option.some.inj (h1.symm.trans hcl)
        cases Option.some.inj (h2.symm.trans hc6)
        exact Or.inr ⟨hz0, _, hcl6, h3⟩)
  obtain ⟨g₀, hfr⟩ := X'.frames_eq
  have hcell9 : ((T.setVm vm').setFrames (.throwing q :: below)).heap[q]? = some ce := by
    show T.heap[q]? = some ce
    rw [hT]; exact hcell
  have hend : Ended ((T.setVm vm').setFrames (.throwing q :: below)) below (.threw q) := State.frames_setFrames _ (State.cur_lt_of_frames hfr)
  refine ⟨(T.setVm vm').setFrames (.throwing q :: below), ?_, .threw q, X'.here.running, hend, Or.inr ⟨q, rfl, E, ce, locs, hx _ hT (X'.ends _).1.alike, hcell9, hv, hcl, (X'.ends _).1, (X'.ends _).2.mono hc hs, hf⟩⟩
  rw [X.pushThrowing_eq]
  exact st
/-- a thing of a world lies in the heap -/
theorem vx_lt {D : va_G} {cl : List vw_C} {ws : va_W} {H1 : Heap} (h : va_P D cl ws H1) {k : Nat} {q : Nat × va_E} (hk : ws[k]? = some q) : q.1 < H1.size := (h k q hk).lt
end VXS
/-! ===== END ===== -/
/-! ===== BEGIN methods with a table of their own: called by a name, returning or throwing ===== -/
section VXH
/-! vx_backW, vx_callVX, vx_callSX, vx_callVW, vx_runVW, vx_runVX, vx_runSX, vx_ofWH follow the same proofs as their sisters above (Free/Laws.lean, Shelf42/LK1.lean); vx_outP calls Shelf42/NT130.lean (outThrough). -/
section
variable {l : Launch} {R : Room} {p : Program} {e : Env} {below : List Frame} {s : State} {sargs : Array Value} {y : MethodName} {len W9 : Nat}
theorem vx_backW {ws : List Cond} {rm : Room} {Pc : Array Value → State → Prop} {Qc : Array Value → State → Outcome → State → Prop} {XC : String → State → State → Prop} {mc ms : Nat} {free : Addr → Prop} {bytes : ByteArray} {maxL : Nat} {ret : Option FieldType} {hh : List (Nat × Nat × Nat × Nat)}
    (hM : vx_Met l y ws rm Pc Qc XC mc ms free) (hblind : FrameBlind Pc) (hrc : rm.cells = mc) (hrs : rm.slots = ms)
    (hframes : rm.frames + 1 ≤ R.frames) (hlocals : W9 + (maxL + 11) + rm.locals ≤ R.locals)
    (hws : ∀ w ∈ ws, ∀ a' U, s.WarmedH U.vm → w.before a' U = true) (hcode : Cond.codeWith y bytes maxL ret hh ∈ ws) (hinit : ∀ a' U, s.WarmedH U.vm → (Cond.initialized y.cls).before a' U = true) :
    vx_Back l R p e below s sargs y len W9 (PreOf R mc ms Pc) (PostOf Qc mc ms free) (vx_Post XC mc ms free) := by
  intro m meth c A g ig mk a X hg hsize hdg hW hn hp
  have h1 : (headSpec ws rm).pre.before a A.U = true := atoms_intro fun w hw => hws w hw _ _ X.warmed
  have h2 : (Cond.codeWith y bytes maxL ret hh).before a A.U = true := hws _ hcode _ _ X.warmed
  have h3 : (Cond.initialized y.cls).before a A.U = true := hinit _ _ X.warmed
  have h4 : A.cells + (headSpec ws rm).room.cells ≤ R.cells := by rw [show (headSpec ws rm).room.cells = mc from hrc]; exact hp.1
  have h5 : A.slots + (headSpec ws rm).room.slots ≤ R.slots := by rw [show (headSpec ws rm).room.slots = ms from hrs]; exact hp.2.1
  have hPc : Pc a (A.U.calling g mk a) := hblind _ _ _ _ hp.2.2
  obtain ⟨U, Ls, c0, s0⟩ := A
  dsimp only [Pt.U, Pt.locs, Pt.cells, Pt.slots] at h1 h2 h3 h4 h5 X hn hPc ⊢
  obtain ⟨m9, methY, cY, hn9, hmY, hcY, -, hlY, -⟩ := Cond.codeWith_spec h2
  cases Option.some.inj (hn9.symm.trans hn)
  obtain ⟨kY, hkY, -⟩ := className_of_methodNamed hn
  have hinitY : kY.init = .initialized := Cond.initialized_spec (findClass_of_methodNamed hn) hkY h3
  have h : At U g.method c below := by rw [hg]; exact X.here
  have hlocals9 : W9 + (maxL + 11) + (headSpec ws rm).room.locals ≤ R.locals := hlocals
  have happ : (headSpec ws rm).appliesLoose y e.platform (U.calling g mk a) = true :=
    Spec.appliesLoose_calling (g := g) h hdg hn hkY hinitY
      (X.room_calling (g := g) (R' := (headSpec ws rm).room) hsize hmY hcY hframes (by rw [hlY]; omega) h4 h5) h1
  obtain ⟨mid, hmid⟩ := h.above
  have hfr : (U.setTop g).frames = (.java g :: mid) ++ below := by rw [State.frames_setTop' g h.top, hmid]; rfl
  obtain ⟨o, s₂, hsteps, -, hend, hq⟩ := Steps.callFree hM p X.admits X.cas X.clock (acts := []) hfr happ hPc trivial
  have hq' : vx_Q Qc XC mc ms free a (U.calling g mk a) o s₂ := hq
  rw [State.frames_setTop' g h.top] at hend
  obtain ⟨g₀, hg0⟩ := Option.isSome_iff_exists.mp h.top
  obtain ⟨r, hr⟩ := State.topJava?_eq_some.mp hg0
  have hr' : (({ U with heap := s₂.heap, slotsUsed := s₂.slotsUsed } : State).setVm s₂.vm).frames = .java g₀ :: r := hr
  rcases hq' with ⟨hqc, L, hfe, hL⟩ | ⟨q, rfl, E, ce, L, hx, hce, hcv, hcl, hW₂, hsm, hL⟩
  · obtain ⟨⟨v, rfl⟩, hW₂, e2, q2, q3, q4, q5, q6⟩ := id hfe
    have e3 : s₂ = ({ (U.calling g mk a).setFrames s₂.frames with heap := s₂.heap, slotsUsed := s₂.slotsUsed } : State).setVm s₂.vm := by
      have : s₂ = ({ s₂ with vm := (U.calling g mk a).vm } : State).setVm s₂.vm := rfl
      rw [e2] at this
      exact this
    obtain ⟨c₂, i₂, len₂, hc₂, hd₂, hf₂⟩ := hend
    have hW' : U.WarmedH s₂.vm := hW₂
    have hcc : c₂ = c := by
      have h1 : s₂.code? g.method = U.code? g.method := by
        rw [State.code?_eq, State.code?_eq, hW'.alike.method?]
      exact Option.some.inj (hc₂.symm.trans (h1.trans h.code))
    subst hcc
    have hlen : len₂ = len := by rw [hdg] at hd₂; cases hd₂; rfl
    subst hlen
    have hs₂ : s₂ = (({ U with heap := s₂.heap, slotsUsed := s₂.slotsUsed } : State).setVm s₂.vm).setTop { g with pc := g.pc + len₂, stack := v.toList ++ g.stack } := by
      refine e3.trans ?_
      rw [hf₂, State.calling_eq h.top, State.setFrames_setFrames, State.setTop_of_frames _ hr', hr]
      rfl
    have hsame : U.sameButNew ({ U with heap := s₂.heap, slotsUsed := s₂.slotsUsed } : State) L mc ms := by
      refine ⟨?_, q2, q3, q4, q5, q6⟩
      obtain ⟨t, ht, -⟩ := State.frames_cons hr
      show ({ U with heap := s₂.heap, slotsUsed := s₂.slotsUsed } : State) = { U.setFrames U.frames with heap := s₂.heap, slotsUsed := s₂.slotsUsed }
      rw [State.setFrames_self ht]
    subst hg
    refine Or.inl ⟨v, ⟨(({ U with heap := s₂.heap, slotsUsed := s₂.slotsUsed } : State).setVm s₂.vm), Ls ++ L, c0 + mc, s0 + ms⟩,
      ⟨X.admits, X.cas, X.clock, X.frames, X.room, X.hears, X.method, X.code, (X.here.setHeapUsed s₂.heap s₂.slotsUsed).setVm hW'.alike, X.tail, State.WarmedH.trans X.warmed hW', X.limits, X.bytes, X.same.trans (hsame.setVm s.vm)⟩,
      ⟨g, mk, s₂, L, rfl, rfl, hqc, rfl, hL, rfl, rfl⟩, ?_⟩
    show Steps p.tables e below _ ((({ U with heap := s₂.heap, slotsUsed := s₂.slotsUsed } : State).setVm s₂.vm).setTop { g with pc := g.pc + len₂, stack := v.toList ++ g.stack })
    rw [← hs₂]
    exact hsteps
  · obtain ⟨e2, q2, q3, q4, q5, q6⟩ := id hsm
    have e3 : s₂ = ({ (U.calling g mk a).setFrames s₂.frames with heap := s₂.heap, slotsUsed := s₂.slotsUsed } : State).setVm s₂.vm := by
      have : s₂ = ({ s₂ with vm := (U.calling g mk a).vm } : State).setVm s₂.vm := rfl
      rw [e2] at this
      exact this
    have hf₂ : s₂.frames = .throwing q :: .java g :: U.frames.tail := hend
    have hW' : U.WarmedH s₂.vm := hW₂
    have hs₂ : s₂ = ((({ U with heap := s₂.heap, slotsUsed := s₂.slotsUsed } : State).setVm s₂.vm).setTop g).pushFrame (.throwing q) := by
      refine e3.trans ?_
      rw [hf₂, State.calling_eq h.top, State.setFrames_setFrames, State.pushFrame, State.frames_setTop _ hr', State.setTop_of_frames _ hr', State.setFrames_setFrames, hr]
      rfl
    have hsame : U.sameButNew ({ U with heap := s₂.heap, slotsUsed := s₂.slotsUsed } : State) L mc ms := by
      refine ⟨?_, q2, q3, q4, q5, q6⟩
      obtain ⟨t, ht, -⟩ := State.frames_cons hr
      show ({ U with heap := s₂.heap, slotsUsed := s₂.slotsUsed } : State) = { U.setFrames U.frames with heap := s₂.heap, slotsUsed := s₂.slotsUsed }
      rw [State.setFrames_self ht]
    subst hg
    refine Or.inr ⟨q, ⟨(({ U with heap := s₂.heap, slotsUsed := s₂.slotsUsed } : State).setVm s₂.vm), Ls ++ L, c0 + mc, s0 + ms⟩,
      ⟨X.admits, X.cas, X.clock, X.frames, X.room, X.hears, X.method, X.code, (X.here.setHeapUsed s₂.heap s₂.slotsUsed).setVm hW'.alike, X.tail, State.WarmedH.trans X.warmed hW', X.limits, X.bytes, X.same.trans (hsame.setVm s.vm)⟩,
      ⟨g, mk, s₂, L, E, ce, rfl, rfl, hx, hce, hcv, hcl, rfl, hL, rfl, rfl⟩, ?_⟩
    show Steps p.tables e below _ (((({ U with heap := s₂.heap, slotsUsed := s₂.slotsUsed } : State).setVm s₂.vm).setTop g).pushFrame (.throwing q))
    rw [← hs₂]
    exact hsteps
end
variable {p : Program} {l : Launch} {e : Env} {R : Room} {s : State} {m : MethodId} {args : Array Value} {below : List Frame} {meth : Method} {c : Code} {T : State} {H : Heap} {locs : List Loc} {cells slots : Nat}
theorem vx_callVX (X : Stand p l e R s m args below meth c T locs cells slots) (hexec : p.tables.exec = Jvm.exec) {own C : String} {index : Nat} {y : MethodName} {bytes : ByteArray} {maxL : Nat} {ret : Option FieldType} {hh : List (Nat × Nat × Nat × Nat)}
    (hown : s.vm.findClass own = some m.cls) (hlink : (Cond.methodLink own index y).before args s = true) (hinst : (Cond.instanceMethod y).before args s = true) (hsel : (Cond.selects C y y).before args s = true)
    (hcode : (Cond.codeWith y bytes maxL ret hh).before args s = true) (hy : y.cls ≠ "java/lang/invoke/MethodHandle" ∧ y.cls ≠ "java/lang/invoke/VarHandle")
    {W9 : Nat} {Pre : Pt → Array Value → Prop} {Post : Pt → Array Value → Option Value → Pt → Prop} {PostX : Pt → Array Value → Addr → Pt → Prop} (hK : vx_Back l R p e below s args y 3 W9 Pre Post PostX)
    {b : Addr} {cellB : Cell} (hcell : T.heap[b]? = some cellB) (hobj : cellB.vm.isStatics = false) (hcls : s.vm.findClass C = some cellB.cls)
    {g : JFrame} (hg : g.method = m) (hsize : g.locals.size = c.maxLocals) {argsL rest : List Value} (hlen : ∀ sig, parseMethodDescriptor y.desc = some sig → argsL.length = sig.parameters.length)
    (hstack : g.stack = argsL.reverse ++ .ref b :: rest) (hW : 2 * g.monitorRoom + (rest.map fun v => v.category).sum ≤ W9) (hdg : decode c.code g.pc = .ok (.invokevirtual index, 3))
    (hpre : ∀ vm₁, s.WarmedH vm₁ → Pre ⟨T.setVm vm₁, locs, cells, slots⟩ (Value.ref b :: argsL).toArray) :
    (∃ (v : Option Value) (vm₁ : Vm) (B : Pt), s.WarmedH vm₁ ∧ Stand p l e R s m args below meth c B.U B.locs B.cells B.slots ∧ Post ⟨T.setVm vm₁, locs, cells, slots⟩ (Value.ref b :: argsL).toArray v B ∧
      ∀ target, Steps p.tables e below (B.U.setTop { g with pc := g.pc + 3, stack := v.toList ++ rest }) target → Steps p.tables e below (T.setTop g) target) ∨
    (∃ (q : Addr) (vm₁ : Vm) (B : Pt), s.WarmedH vm₁ ∧ Stand p l e R s m args below meth c B.U B.locs B.cells B.slots ∧ PostX ⟨T.setVm vm₁, locs, cells, slots⟩ (Value.ref b :: argsL).toArray q B ∧
      Steps p.tables e below (T.setTop g) ((B.U.setTop { g with stack := rest }).pushFrame (.throwing q))) := by
  obtain ⟨mk, methM, hnamed, hmethM, hstM, habM⟩ := Cond.instanceMethod_spec hinst
  obtain ⟨m8, methM', cM, hn8, hmethM', -, -, -, -, -, -, hsigM⟩ := Cond.codeWith_spec hcode
  cases Option.some.inj (hn8.symm.trans hnamed)
  cases hmethM.symm.trans hmethM'
  obtain ⟨c2, r2, m2, q1, q2, q3, q4, kP, hkP, hkPi⟩ := Cond.selects_spec hsel
  cases hcls.symm.trans q1
  cases (State.methodFound?_of_named hnamed hy).symm.trans q2
  cases hnamed.symm.trans q3
  have hselP : selectMethod e.platform s.vm cellB.cls mk = .method mk := by rw [Launch.admits_selectMethod X.admits]; exact q4
  obtain ⟨vm₁, X₁, hstep₁⟩ := X.invokevirtual hexec hown hlink hnamed hmethM hstM hkP hkPi hy (a := b) (cell := cellB) hcell
    (fun z h => by rw [h] at hobj; cases hobj) hselP hmethM habM hkP hkPi (g := g) hg (argsL := argsL) (rest := rest) (hlen _ hsigM) hstack hdg
  rcases hK m meth c ⟨T.setVm vm₁, locs, cells, slots⟩ { g with stack := rest } (.invokevirtual index) mk (Value.ref b :: argsL).toArray X₁ hg hsize hdg hW (X₁.named hnamed) (hpre vm₁ X₁.warmed) with ⟨v, B, X', hpost, hsteps⟩ | ⟨q, B, X', hpost, hsteps⟩
  · exact Or.inl ⟨v, vm₁, B, X₁.warmed, X', hpost, fun target h => hstep₁ _ fun acts => by rw [doInvoke_state]; exact hsteps.trans h⟩
  · exact Or.inr ⟨q, vm₁, B, X₁.warmed, X', hpost, hstep₁ _ fun acts => by rw [doInvoke_state]; exact hsteps⟩
theorem vx_callSX (X : Stand p l e R s m args below meth c T locs cells slots) (hexec : p.tables.exec = Jvm.exec) {own : String} {index : Nat} {y : MethodName} {bytes : ByteArray} {maxL : Nat} {ret : Option FieldType} {hh : List (Nat × Nat × Nat × Nat)}
    (hown : s.vm.findClass own = some m.cls) (hlink : (Cond.methodLink own index y).before args s = true) (hstat : (Cond.static y).before args s = true) (hinit : (Cond.initialized y.cls).before args s = true)
    (hcode : (Cond.codeWith y bytes maxL ret hh).before args s = true) (hy : y.cls ≠ "java/lang/invoke/MethodHandle" ∧ y.cls ≠ "java/lang/invoke/VarHandle")
    {W9 : Nat} {Pre : Pt → Array Value → Prop} {Post : Pt → Array Value → Option Value → Pt → Prop} {PostX : Pt → Array Value → Addr → Pt → Prop} (hK : vx_Back l R p e below s args y 3 W9 Pre Post PostX)
    {g : JFrame} (hg : g.method = m) (hsize : g.locals.size = c.maxLocals) {argsL rest : List Value} (hlen : ∀ sig, parseMethodDescriptor y.desc = some sig → argsL.length = sig.parameters.length)
    (hstack : g.stack = argsL.reverse ++ rest) (hW : 2 * g.monitorRoom + (rest.map fun v => v.category).sum ≤ W9) (hdg : decode c.code g.pc = .ok (.invokestatic index, 3))
    (hpre : ∀ vm₁, s.WarmedH vm₁ → Pre ⟨T.setVm vm₁, locs, cells, slots⟩ argsL.toArray) :
    (∃ (v : Option Value) (vm₁ : Vm) (B : Pt), s.WarmedH vm₁ ∧ Stand p l e R s m args below meth c B.U B.locs B.cells B.slots ∧ Post ⟨T.setVm vm₁, locs, cells, slots⟩ argsL.toArray v B ∧
      ∀ target, Steps p.tables e below (B.U.setTop { g with pc := g.pc + 3, stack := v.toList ++ rest }) target → Steps p.tables e below (T.setTop g) target) ∨
    (∃ (q : Addr) (vm₁ : Vm) (B : Pt), s.WarmedH vm₁ ∧ Stand p l e R s m args below meth c B.U B.locs B.cells B.slots ∧ PostX ⟨T.setVm vm₁, locs, cells, slots⟩ argsL.toArray q B ∧
      Steps p.tables e below (T.setTop g) ((B.U.setTop { g with stack := rest }).pushFrame (.throwing q))) := by
  obtain ⟨mk, methM, cM, hnamed, hmethM, -, -, -, -, -, -, hsigM⟩ := Cond.codeWith_spec hcode
  have hstatic : methM.isStatic = true := Cond.static_spec hnamed hmethM hstat
  obtain ⟨kP, hkP, -⟩ := className_of_methodNamed hnamed
  have hinitP : kP.init = .initialized := Cond.initialized_spec (findClass_of_methodNamed hnamed) hkP hinit
  obtain ⟨vm₁, X₁, hstep₁⟩ := X.invokestatic hexec hown hlink hnamed hmethM hstatic hkP hinitP hy (g := g) hg (argsL := argsL) (rest := rest) (hlen _ hsigM) hstack hdg
  rcases hK m meth c ⟨T.setVm vm₁, locs, cells, slots⟩ { g with stack := rest } (.invokestatic index) mk argsL.toArray X₁ hg hsize hdg hW (X₁.named hnamed) (hpre vm₁ X₁.warmed) with ⟨v, B, X', hpost, hsteps⟩ | ⟨q, B, X', hpost, hsteps⟩
  · exact Or.inl ⟨v, vm₁, B, X₁.warmed, X', hpost, fun target h => hstep₁ _ fun acts => by rw [doInvoke_state]; exact hsteps.trans h⟩
  · exact Or.inr ⟨q, vm₁, B, X₁.warmed, X', hpost, hstep₁ _ fun acts => by rw [doInvoke_state]; exact hsteps⟩
theorem vx_callVW (X : Stand p l e R s m args below meth c T locs cells slots) (hexec : p.tables.exec = Jvm.exec) {own C : String} {index : Nat} {y : MethodName} {bytes : ByteArray} {maxL : Nat} {ret : Option FieldType} {hh : List (Nat × Nat × Nat × Nat)}
    (hown : s.vm.findClass own = some m.cls) (hlink : (Cond.methodLink own index y).before args s = true) (hinst : (Cond.instanceMethod y).before args s = true) (hsel : (Cond.selects C y y).before args s = true)
    (hcode : (Cond.codeWith y bytes maxL ret hh).before args s = true) (hy : y.cls ≠ "java/lang/invoke/MethodHandle" ∧ y.cls ≠ "java/lang/invoke/VarHandle")
    {W9 : Nat} {Pre : Pt → Array Value → Prop} {Post : Pt → Array Value → Option Value → Pt → Prop} (hK : Back l R p e below s args y 3 W9 Pre Post)
    {b : Addr} {cellB : Cell} (hcell : T.heap[b]? = some cellB) (hobj : cellB.vm.isStatics = false) (hcls : s.vm.findClass C = some cellB.cls)
    {g : JFrame} (hg : g.method = m) (hsize : g.locals.size = c.maxLocals) {argsL rest : List Value} (hlen : ∀ sig, parseMethodDescriptor y.desc = some sig → argsL.length = sig.parameters.length)
    (hstack : g.stack = argsL.reverse ++ .ref b :: rest) (hW : 2 * g.monitorRoom + (rest.map fun v => v.category).sum ≤ W9) (hdg : decode c.code g.pc = .ok (.invokevirtual index, 3))
    (hpre : ∀ vm₁, s.WarmedH vm₁ → Pre ⟨T.setVm vm₁, locs, cells, slots⟩ (Value.ref b :: argsL).toArray) :
    ∃ (v : Option Value) (vm₁ : Vm) (B : Pt), s.WarmedH vm₁ ∧ Stand p l e R s m args below meth c B.U B.locs B.cells B.slots ∧ Post ⟨T.setVm vm₁, locs, cells, slots⟩ (Value.ref b :: argsL).toArray v B ∧
      ∀ target, Steps p.tables e below (B.U.setTop { g with pc := g.pc + 3, stack := v.toList ++ rest }) target → Steps p.tables e below (T.setTop g) target := by
  obtain ⟨mk, methM, hnamed, hmethM, hstM, habM⟩ := Cond.instanceMethod_spec hinst
  obtain ⟨m8, methM', cM, hn8, hmethM', -, -, -, -, -, -, hsigM⟩ := Cond.codeWith_spec hcode
  cases Option.some.inj (hn8.symm.trans hnamed)
  cases hmethM.symm.trans hmethM'
  obtain ⟨c2, r2, m2, q1, q2, q3, q4, kP, hkP, hkPi⟩ := Cond.selects_spec hsel
  cases hcls.symm.trans q1
  cases (State.methodFound?_of_named hnamed hy).symm.trans q2
  cases hnamed.symm.trans q3
  have hselP : selectMethod e.platform s.vm cellB.cls mk = .method mk := by rw [Launch.admits_selectMethod X.admits]; exact q4
  obtain ⟨vm₁, X₁, hstep₁⟩ := X.invokevirtual hexec hown hlink hnamed hmethM hstM hkP hkPi hy (a := b) (cell := cellB) hcell
    (fun z h => by rw [h] at hobj; cases hobj) hselP hmethM habM hkP hkPi (g := g) hg (argsL := argsL) (rest := rest) (hlen _ hsigM) hstack hdg
  obtain ⟨v, B, X', hpost, hsteps⟩ := hK m meth c ⟨T.setVm vm₁, locs, cells, slots⟩ { g with stack := rest } (.invokevirtual index) mk (Value.ref b :: argsL).toArray X₁ hg hsize hdg hW (X₁.named hnamed) (hpre vm₁ X₁.warmed)
  exact ⟨v, vm₁, B, X₁.warmed, X', hpost, fun target h => hstep₁ _ fun acts => by rw [doInvoke_state]; exact hsteps.trans h⟩
abbrev vx_CVW (R : Room) (s : State) (args : Array Value) (own C : String) (index : Nat) (y : MethodName) (bytes : ByteArray) (maxL : Nat) (ret : Option FieldType) (hh : List (Nat × Nat × Nat × Nat)) (ws : List Cond) (rm : Room) (mc ms n : Nat) : Prop :=
  (rm.cells = mc ∧ rm.slots = ms ∧ rm.frames + 1 ≤ R.frames ∧ 8 + (maxL + 11) + rm.locals ≤ R.locals ∧ (∀ w ∈ ws, ∀ (a' : Array Value) (U : State), s.WarmedH U.vm → w.before a' U = true) ∧ Cond.codeWith y bytes maxL ret hh ∈ ws) ∧
  (Cond.codeWith y bytes maxL ret hh).before args s = true ∧ (Cond.initialized y.cls).before args s = true ∧ (y.cls ≠ "java/lang/invoke/MethodHandle" ∧ y.cls ≠ "java/lang/invoke/VarHandle") ∧
  (∀ sig, parseMethodDescriptor y.desc = some sig → n = sig.parameters.length) ∧ (Cond.methodLink own index y).before args s = true ∧ (Cond.instanceMethod y).before args s = true ∧ (Cond.selects C y y).before args s = true
theorem vx_cwVW {own C : String} {index maxL mc ms : Nat} {y : MethodName} {bytes : ByteArray} {ret : Option FieldType} {hh : List (Nat × Nat × Nat × Nat)} {Ts ws ws' : List Cond} {rm : Room} (n : Nat) (ht : ∀ w ∈ Ts, w.before args s = true) (hT : GoodIn Ts (wsV own index C y ws)) (hw : ws = Cond.codeWith y bytes maxL ret hh :: ws') (hrc : rm.cells = mc) (hrs : rm.slots = ms)
    (hd : y.cls = C ∧ y.cls ≠ "java/lang/invoke/MethodHandle" ∧ y.cls ≠ "java/lang/invoke/VarHandle" ∧ (parseMethodDescriptor y.desc).map (fun d => d.parameters.length) = some n) (hR : rm.frames + 1 ≤ R.frames ∧ 8 + (maxL + 11) + rm.locals ≤ R.locals) :
    vx_CVW R s args own C index y bytes maxL ret hh ws rm mc ms n := by
  obtain ⟨hC, hd⟩ := hd
  subst hC
  have ok : ∀ w ∈ wsV own index y.cls y ws, w.before args s = true := fun w h => ht w (hT w h).1
  have hG : GoodIn Ts ws := fun w h => hT w (by unfold wsV; exact List.mem_append_right _ h)
  have hc : Cond.codeWith y bytes maxL ret hh ∈ ws := by rw [hw]; exact List.mem_cons_self
  refine ⟨⟨hrc, hrs, hR.1, hR.2, pay_in ht hG, hc⟩, ht _ (hG _ hc).1, ok _ (by simp [wsV]), ⟨hd.1, hd.2.1⟩, fun sig h => ?_, ok _ (by simp [wsV]), ok _ (by simp [wsV]), ok _ (by simp [wsV])⟩
  have h2 := hd.2.2
  rw [h] at h2
  exact (Option.some.inj h2).symm
theorem vx_runVW {y : MethodName} {bytes cc : ByteArray} {maxL nL mc ms n index : Nat} {ret : Option FieldType} {hh : List (Nat × Nat × Nat × Nat)} {ws : List Cond} {rm : Room} {Pc : Array Value → State → Prop} {Qc : Array Value → State → Outcome → State → Prop} {free : Addr → Prop} {Ts : List Cond} {own C : String} {b : Addr} {As rest : List Value} {g : JFrame}
    (S : CallFix p m c cc nL s args Ts own) (hM : Met l y ws rm Pc Qc mc ms free) (cw : vx_CVW R s args own C index y bytes maxL ret hh ws rm mc ms n) (hp : PreV s H C b Pc As)
    (hg : g.method = m) (hn : As.length = n) (hsize : g.locals.size = nL) (hstack : g.stack = As.reverse ++ .ref b :: rest) (hW : 2 * g.monitorRoom + (rest.map fun v => v.category).sum ≤ 8) (hdg : decode cc g.pc = .ok (.invokevirtual index, 3)) (hf : cells + mc ≤ R.cells ∧ slots + ms ≤ R.slots) :
    va_Run p l e R s m args below meth c H locs cells slots mc ms g rest (Qc (Value.ref b :: As).toArray) free := by
  obtain ⟨⟨hrc, hrs, hfr, hlo, hws, hcw⟩, hcode, hini, hy, hlen, hl, hin, hse⟩ := cw
  have hK : Back l R p e below s args y 3 8 (PreOf R mc ms Pc) (PostOf Qc mc ms free) := va_backW (hh := hh) (bytes := bytes) (maxL := maxL) (ret := ret) hM hp.1 hrc hrs hfr hlo hws hcw (fun a' U hW => word_at hW (Or.inl (by first | rfl | simp [Cond.onTables, Cond.keeps, Cond.steady])) hini)
  obtain ⟨hx, hb, hml, ho, -⟩ := S
  obtain ⟨-, ⟨cellB, hcB, hoB, hclB⟩, hPc⟩ := hp
  intro T hT X
  obtain ⟨v, vm₁, ⟨U', l2, c2, s2⟩, hW₁, X', ⟨g', mk, t, L, e1, e2, hq, h1, hL, h2, h3⟩, st⟩ := vx_callVW X hx (C := C) (hh := hh) (bytes := bytes) (maxL := maxL) (ret := ret) ho hl hin hse hcode hy hK (by rw [hT]; exact hcB) hoB hclB hg (hsize.trans hml.symm) (argsL := As) (rest := rest) (fun sig h => hn.trans (hlen sig h)) hstack hW (by rw [hb]; exact hdg)
    (fun vm₁ hW₁ => ⟨hf.1, hf.2, hPc (T.setVm vm₁) hT hW₁⟩)
  dsimp only [Pt.U, Pt.locs, Pt.cells, Pt.slots] at X' e1 e2 h1 h2 h3 st
  subst h1; subst h2; subst h3
  exact ⟨v, (T.setVm vm₁).calling g' mk (Value.ref b :: As).toArray, t, U', L, hT, X', hL, e1, e2, hq, st⟩
section
variable {y : MethodName} {bytes cc : ByteArray} {maxL nL mc ms n index : Nat} {ret : Option FieldType} {ws : List Cond} {rm : Room} {Pc : Array Value → State → Prop} {Qc : Array Value → State → Outcome → State → Prop} {XC : String → State → State → Prop} {free : Addr → Prop} {Ts : List Cond} {own C : String} {b : Addr} {As rest : List Value} {g : JFrame}
theorem vx_runVX {hh : List (Nat × Nat × Nat × Nat)} (S : CallFix p m c cc nL s args Ts own) (hM : vx_Met l y ws rm Pc Qc XC mc ms free) (cw : vx_CVW R s args own C index y bytes maxL ret hh ws rm mc ms n) (hp : PreV s H C b Pc As)
    (hg : g.method = m) (hn : As.length = n) (hsize : g.locals.size = nL) (hstack : g.stack = As.reverse ++ .ref b :: rest) (hW : 2 * g.monitorRoom + (rest.map fun v => v.category).sum ≤ 8) (hdg : decode cc g.pc = .ok (.invokevirtual index, 3)) (hf : cells + mc ≤ R.cells ∧ slots + ms ≤ R.slots) :
    vx_Run p l e R s m args below meth c H locs cells slots mc ms g rest (Qc (Value.ref b :: As).toArray) XC free := by
  obtain ⟨⟨hrc, hrs, hfr, hlo, hws, hcw⟩, hcode, hini, hy, hlen, hl, hin, hse⟩ := cw
  have hK : vx_Back l R p e below s args y 3 8 (PreOf R mc ms Pc) (PostOf Qc mc ms free) (vx_Post XC mc ms free) := vx_backW (hh := hh) (bytes := bytes) (maxL := maxL) (ret := ret) hM hp.1 hrc hrs hfr hlo hws hcw (fun a' U hW => word_at hW (Or.inl (by first | rfl | simp [Cond.onTables, Cond.keeps, Cond.steady])) hini)
  obtain ⟨hx, hb, hml, ho, -⟩ := S
  obtain ⟨-, ⟨cellB, hcB, hoB, hclB⟩, hPc⟩ := hp
  intro T hT X
  rcases vx_callVX X hx (C := C) (hh := hh) (bytes := bytes) (maxL := maxL) (ret := ret) ho hl hin hse hcode hy hK (by rw [hT]; exact hcB) hoB hclB hg (hsize.trans hml.symm) (argsL := As) (rest := rest) (fun sig h => hn.trans (hlen sig h)) hstack hW (by rw [hb]; exact hdg)
    (fun vm₁ hW₁ => ⟨hf.1, hf.2, hPc (T.setVm vm₁) hT hW₁⟩) with ⟨v, vm₁, ⟨U', l2, c2, s2⟩, hW₁, X', ⟨g', mk, t, L, e1, e2, hq, h1, hL, h2, h3⟩, st⟩ | ⟨q, vm₁, ⟨U', l2, c2, s2⟩, hW₁, X', ⟨g', mk, t, L, E, ce, e1, e2, hq, hce, hcv, hcl, h1, hL, h2, h3⟩, st⟩
  · dsimp only [Pt.U, Pt.locs, Pt.cells, Pt.slots] at X' e1 e2 h1 h2 h3 st
    subst h1; subst h2; subst h3
    exact Or.inl ⟨v, (T.setVm vm₁).calling g' mk (Value.ref b :: As).toArray, t, U', L, hT, X', hL, e1, e2, hq, st⟩
  · dsimp only [Pt.U, Pt.locs, Pt.cells, Pt.slots] at X' e1 e2 h1 h2 h3 st hcl
    subst h1; subst h2; subst h3
    exact Or.inr ⟨q, (T.setVm vm₁).calling g' mk (Value.ref b :: As).toArray, t, U', L, E, ce, hT, X', hL, e1, e2, hq, hce, hcv, vx_cls hW₁ hcl, st⟩
theorem vx_runSX {hh : List (Nat × Nat × Nat × Nat)} (S : CallFix p m c cc nL s args Ts own) (hM : vx_Met l y ws rm Pc Qc XC mc ms free) (cw : vx_CSW R s args own index y bytes maxL ret hh ws rm mc ms n) (hp : PreS s H Pc As)
    (hg : g.method = m) (hn : As.length = n) (hsize : g.locals.size = nL) (hstack : g.stack = As.reverse ++ rest) (hW : 2 * g.monitorRoom + (rest.map fun v => v.category).sum ≤ 8) (hdg : decode cc g.pc = .ok (.invokestatic index, 3)) (hf : cells + mc ≤ R.cells ∧ slots + ms ≤ R.slots) :
    vx_Run p l e R s m args below meth c H locs cells slots mc ms g rest (Qc As.toArray) XC free := by
  obtain ⟨⟨hrc, hrs, hfr, hlo, hws, hcw⟩, hcode, hini, hy, hlen, hl, hstt⟩ := cw
  have hK : vx_Back l R p e below s args y 3 8 (PreOf R mc ms Pc) (PostOf Qc mc ms free) (vx_Post XC mc ms free) := vx_backW (hh := hh) (bytes := bytes) (maxL := maxL) (ret := ret) hM hp.1 hrc hrs hfr hlo hws hcw (fun a' U hW => word_at hW (Or.inl (by first | rfl | simp [Cond.onTables, Cond.keeps, Cond.steady])) hini)
  obtain ⟨hx, hb, hml, ho, -⟩ := S
  intro T hT X
  rcases vx_callSX X hx (hh := hh) (bytes := bytes) (maxL := maxL) (ret := ret) ho hl hstt hini hcode hy hK hg (hsize.trans hml.symm) (argsL := As) (rest := rest) (fun sig h => hn.trans (hlen sig h)) hstack hW (by rw [hb]; exact hdg)
    (fun vm₁ hW₁ => ⟨hf.1, hf.2, hp.2 (T.setVm vm₁) hT hW₁⟩) with ⟨v, vm₁, ⟨U', l2, c2, s2⟩, hW₁, X', ⟨g', mk, t, L, e1, e2, hq, h1, hL, h2, h3⟩, st⟩ | ⟨q, vm₁, ⟨U', l2, c2, s2⟩, hW₁, X', ⟨g', mk, t, L, E, ce, e1, e2, hq, hce, hcv, hcl, h1, hL, h2, h3⟩, st⟩
  · dsimp only [Pt.U, Pt.locs, Pt.cells, Pt.slots] at X' e1 e2 h1 h2 h3 st
    subst h1; subst h2; subst h3
    exact Or.inl ⟨v, (T.setVm vm₁).calling g' mk As.toArray, t, U', L, hT, X', hL, e1, e2, hq, st⟩
  · dsimp only [Pt.U, Pt.locs, Pt.cells, Pt.slots] at X' e1 e2 h1 h2 h3 st hcl
    subst h1; subst h2; subst h3
    exact Or.inr ⟨q, (T.setVm vm₁).calling g' mk As.toArray, t, U', L, E, ce, hT, X', hL, e1, e2, hq, hce, hcv, vx_cls hW₁ hcl, st⟩
end
end VXH
theorem vx_ofWH {l : Launch} {y : MethodName} {ws ws' : List Cond} {rm : Room} {Pc : Array Value → State → Prop} {Qc : Array Value → State → Outcome → State → Prop} {XC : String → State → State → Prop} {mc ms : Nat} {free : Addr → Prop} {cc : ByteArray} {maxL : Nat} {ret : Option FieldType} {hh : List (Nat × Nat × Nat × Nat)}
    (hy : plainName y.cls = true) (hw : ws = Cond.codeWith y cc maxL ret hh :: ws')
    (body : ∀ p e s m args below meth c s₁, BodyLoose p l y (headSpec ws rm) cc maxL ret e s m args below meth c s₁ → c.maxLocals = maxL → Pc args s →
      W p l e (headSpec ws rm).room s m args below meth c s.heap [] 0 0 (vx_MQ below Qc XC args s mc ms free) (entryFrame m args maxL)) : vx_Met l y ws rm Pc Qc XC mc ms free := by
  refine MetFree.of_bodyS (code := cc) (maxLocals := maxL) (ret := ret) hy ?_ ?_
  · intro args s m h hn
    obtain ⟨m9, meth, c, hn9, h1, h2, h3, h4, -, h5, h6, -⟩ := Cond.codeWith_spec (atoms_spec (ws := ws) h _ (by rw [hw]; exact List.mem_cons_self))
    cases hn.symm.trans hn9
    exact ⟨meth, c, h1, h2, h3, h4, h5, h6⟩
  · intro p e s m args below meth c s₁ B hml hP _
    have hh0 : s₁.heap = s.heap := by rw [B.state]; rfl
    obtain ⟨t, a1, o, b1, b2, b3⟩ := body p e s m args below meth c s₁ B hml hP s₁ hh0 (Stand.of_body B)
    exact ⟨t, o, a1, b1, b2, b3⟩
/-! ===== END ===== -/
end
section
/-! ===== BEGIN printed: names, fields, word lists, decode rows ===== -/
def RX0 : String := "CastDesk$BoxOffice"
def TX0 : u_T := fun k => match k with
  | 0 => ("CastDesk$BoxOffice", "shows", "[I", true)
  | 1 => ("CastDesk$BoxOffice", "promises", "[I", true)
  | 2 => ("CastDesk$BoxOffice", "parts", "[I", true)
  | 3 => ("CastDesk$BoxOffice", "stars", "[I", true)
  | 4 => ("CastDesk$BoxOffice", "refunds", "[I", true)
  | 5 => ("CastDesk$BoxOffice", "prices", "[I", true)
  | 6 => ("CastDesk$BoxOffice", "count", "I", false)
  | _ => ("CastDesk$BoxOffice", "money", "I", false)
def tyX0 : Nat → FieldType := fun k => match k with
  | 0 => .array .int
  | 1 => .array .int
  | 2 => .array .int
  | 3 => .array .int
  | 4 => .array .int
  | 5 => .array .int
  | 6 => .int
  | _ => .int
abbrev wsX00 : List Cond := u_ws RX0 TX0 8
theorem nmX0 : ∀ a, a < 8 → ∀ b, b < 8 → a ≠ b → (TX0 a).2.1 ≠ (TX0 b).2.1 := by decide +kernel
theorem tyX0_ok : ∀ k, k < 8 → parseFieldDescriptor (TX0 k).2.2.1 = some (tyX0 k) := by decide +kernel
abbrev cX0_init : ByteArray := prog_2_method_1_code
def yX0_init : MethodName := ⟨RX0, "<init>", "()V"⟩
def RX1 : String := "CastDesk$Casting"
def TX1 : u_T := fun k => match k with
  | 0 => ("CastDesk$Casting", "actors", "[I", true)
  | 1 => ("CastDesk$Casting", "keys", "[I", true)
  | 2 => ("CastDesk$Casting", "leastOfSet", "[I", true)
  | _ => ("CastDesk$Casting", "setsBound", "I", false)
def tyX1 : Nat → FieldType := fun k => match k with
  | 0 => .array .int
  | 1 => .array .int
  | 2 => .array .int
  | _ => .int
abbrev wsX10 : List Cond := u_ws RX1 TX1 4
theorem nmX1 : ∀ a, a < 4 → ∀ b, b < 4 → a ≠ b → (TX1 a).2.1 ≠ (TX1 b).2.1 := by decide +kernel
theorem tyX1_ok : ∀ k, k < 4 → parseFieldDescriptor (TX1 k).2.2.1 = some (tyX1 k) := by decide +kernel
abbrev cX1_init : ByteArray := prog_3_method_1_code
def yX1_init : MethodName := ⟨RX1, "<init>", "()V"⟩
abbrev cX1_strainOf : ByteArray := prog_3_method_2_code
def yX1_strainOf : MethodName := ⟨RX1, "strainOf", "(I)I"⟩
abbrev cX1_workOf : ByteArray := prog_3_method_3_code
def yX1_workOf : MethodName := ⟨RX1, "workOf", "(I)I"⟩
abbrev cX1_rankOf : ByteArray := prog_3_method_4_code
def yX1_rankOf : MethodName := ⟨RX1, "rankOf", "(II)I"⟩
abbrev cX1_rankShift : ByteArray := prog_3_method_5_code
def yX1_rankShift : MethodName := ⟨RX1, "rankShift", "(I)I"⟩
abbrev cX1_clear : ByteArray := prog_3_method_6_code
def yX1_clear : MethodName := ⟨RX1, "clear", "()V"⟩
abbrev cX1_offer : ByteArray := prog_3_method_7_code
def yX1_offer : MethodName := ⟨RX1, "offer", "(IIII)V"⟩
abbrev cX1_leastKey : ByteArray := prog_3_method_8_code
def yX1_leastKey : MethodName := ⟨RX1, "leastKey", "(I)I"⟩
abbrev cX1_castPart : ByteArray := prog_3_method_9_code
def yX1_castPart : MethodName := ⟨RX1, "castPart", "(III)V"⟩
abbrev cX1_leastStrain : ByteArray := prog_3_method_10_code
def yX1_leastStrain : MethodName := ⟨RX1, "leastStrain", "(I)I"⟩
abbrev cX1_leastFrom : ByteArray := prog_3_method_11_code
def yX1_leastFrom : MethodName := ⟨RX1, "leastFrom", "([IIII)I"⟩
def RX2 : String := "CastDesk$Programme"
def TX2 : u_T := fun k => match k with
  | 0 => ("CastDesk$Programme", "states", "[I", true)
  | 1 => ("CastDesk$Programme", "casts", "[I", true)
  | 2 => ("CastDesk$Programme", "days", "[I", true)
  | _ => ("CastDesk$Programme", "count", "I", false)
def tyX2 : Nat → FieldType := fun k => match k with
  | 0 => .array .int
  | 1 => .array .int
  | 2 => .array .int
  | _ => .int
abbrev wsX20 : List Cond := u_ws RX2 TX2 4
theorem nmX2 : ∀ a, a < 4 → ∀ b, b < 4 → a ≠ b → (TX2 a).2.1 ≠ (TX2 b).2.1 := by decide +kernel
theorem tyX2_ok : ∀ k, k < 4 → parseFieldDescriptor (TX2 k).2.2.1 = some (tyX2 k) := by decide +kernel
abbrev cX2_init : ByteArray := prog_4_method_1_code
def yX2_init : MethodName := ⟨RX2, "<init>", "()V"⟩
def RX3 : String := "CastDesk$Rows"
def TX3 : u_T := fun k => match k with
  | 0 => ("CastDesk$Rows", "actors", "[I", true)
  | _ => ("CastDesk$Rows", "lengths", "[I", true)
def tyX3 : Nat → FieldType := fun k => match k with
  | 0 => .array .int
  | _ => .array .int
abbrev wsX30 : List Cond := u_ws RX3 TX3 2
theorem nmX3 : ∀ a, a < 2 → ∀ b, b < 2 → a ≠ b → (TX3 a).2.1 ≠ (TX3 b).2.1 := by decide +kernel
theorem tyX3_ok : ∀ k, k < 2 → parseFieldDescriptor (TX3 k).2.2.1 = some (tyX3 k) := by decide +kernel
abbrev cX3_init : ByteArray := prog_5_method_1_code
def yX3_init : MethodName := ⟨RX3, "<init>", "()V"⟩
abbrev cX3_actorAt : ByteArray := prog_5_method_2_code
def yX3_actorAt : MethodName := ⟨RX3, "actorAt", "(II)I"⟩
abbrev cX3_rankIn : ByteArray := prog_5_method_3_code
def yX3_rankIn : MethodName := ⟨RX3, "rankIn", "(II)I"⟩
abbrev cX3_isFull : ByteArray := prog_5_method_4_code
def yX3_isFull : MethodName := ⟨RX3, "isFull", "(I)Z"⟩
abbrev cX3_append : ByteArray := prog_5_method_5_code
def yX3_append : MethodName := ⟨RX3, "append", "(II)I"⟩
abbrev cX3_remove : ByteArray := prog_5_method_6_code
def yX3_remove : MethodName := ⟨RX3, "remove", "(II)V"⟩
def RX4 : String := "CastDesk$Troupe"
def TX4 : u_T := fun k => match k with
  | 0 => ("CastDesk$Troupe", "sizes", "[I", true)
  | 1 => ("CastDesk$Troupe", "known", "[I", true)
  | _ => ("CastDesk$Troupe", "ill", "[I", true)
def tyX4 : Nat → FieldType := fun k => match k with
  | 0 => .array .int
  | 1 => .array .int
  | _ => .array .int
abbrev wsX40 : List Cond := u_ws RX4 TX4 3
theorem nmX4 : ∀ a, a < 3 → ∀ b, b < 3 → a ≠ b → (TX4 a).2.1 ≠ (TX4 b).2.1 := by decide +kernel
theorem tyX4_ok : ∀ k, k < 3 → parseFieldDescriptor (TX4 k).2.2.1 = some (tyX4 k) := by decide +kernel
abbrev cX4_init : ByteArray := prog_6_method_1_code
def yX4_init : MethodName := ⟨RX4, "<init>", "()V"⟩
abbrev cX4_fallIll : ByteArray := prog_6_method_2_code
def yX4_fallIll : MethodName := ⟨RX4, "fallIll", "(III)I"⟩
def RX5 : String := "CastDesk$Wardrobe"
def TX5 : u_T := fun k => match k with
  | 0 => ("CastDesk$Wardrobe", "sizes", "[I", true)
  | 1 => ("CastDesk$Wardrobe", "parts", "[I", true)
  | 2 => ("CastDesk$Wardrobe", "isLetOut", "[Z", true)
  | _ => ("CastDesk$Wardrobe", "count", "I", false)
def tyX5 : Nat → FieldType := fun k => match k with
  | 0 => .array .int
  | 1 => .array .int
  | 2 => .array .boolean
  | _ => .int
abbrev wsX50 : List Cond := u_ws RX5 TX5 4
theorem nmX5 : ∀ a, a < 4 → ∀ b, b < 4 → a ≠ b → (TX5 a).2.1 ≠ (TX5 b).2.1 := by decide +kernel
theorem tyX5_ok : ∀ k, k < 4 → parseFieldDescriptor (TX5 k).2.2.1 = some (tyX5 k) := by decide +kernel
abbrev cX5_init : ByteArray := prog_7_method_1_code
def yX5_init : MethodName := ⟨RX5, "<init>", "()V"⟩
abbrev cX5_add : ByteArray := prog_7_method_2_code
def yX5_add : MethodName := ⟨RX5, "add", "(II)I"⟩
abbrev cX5_lowestFitting : ByteArray := prog_7_method_3_code
def yX5_lowestFitting : MethodName := ⟨RX5, "lowestFitting", "(II)I"⟩
abbrev cX5_lowestToLetOut : ByteArray := prog_7_method_4_code
def yX5_lowestToLetOut : MethodName := ⟨RX5, "lowestToLetOut", "(II)I"⟩
def RX6 : String := "CastDesk"
def TX6 : u_T := fun k => match k with
  | 0 => ("CastDesk", "troupe", "LCastDesk$Troupe;", true)
  | 1 => ("CastDesk", "rows", "LCastDesk$Rows;", true)
  | 2 => ("CastDesk", "wardrobe", "LCastDesk$Wardrobe;", true)
  | 3 => ("CastDesk", "casting", "LCastDesk$Casting;", true)
  | 4 => ("CastDesk", "programme", "LCastDesk$Programme;", true)
  | 5 => ("CastDesk", "office", "LCastDesk$BoxOffice;", true)
  | 6 => ("CastDesk", "partCount", "I", false)
  | _ => ("CastDesk", "today", "I", false)
def tyX6 : Nat → FieldType := fun k => match k with
  | 0 => .object "CastDesk$Troupe"
  | 1 => .object "CastDesk$Rows"
  | 2 => .object "CastDesk$Wardrobe"
  | 3 => .object "CastDesk$Casting"
  | 4 => .object "CastDesk$Programme"
  | 5 => .object "CastDesk$BoxOffice"
  | 6 => .int
  | _ => .int
abbrev wsX60 : List Cond := u_ws RX6 TX6 8
theorem nmX6 : ∀ a, a < 8 → ∀ b, b < 8 → a ≠ b → (TX6 a).2.1 ≠ (TX6 b).2.1 := by decide +kernel
theorem tyX6_ok : ∀ k, k < 8 → parseFieldDescriptor (TX6 k).2.2.1 = some (tyX6 k) := by decide +kernel
abbrev cX6_init : ByteArray := prog_1_method_1_code
def yX6_init : MethodName := ⟨RX6, "<init>", "()V"⟩
abbrev cX6_setParts : ByteArray := prog_1_method_2_code
def yX6_setParts : MethodName := ⟨RX6, "setParts", "(I)I"⟩
abbrev cX6_setSize : ByteArray := prog_1_method_3_code
def yX6_setSize : MethodName := ⟨RX6, "setSize", "(II)I"⟩
abbrev cX6_learn : ByteArray := prog_1_method_4_code
def yX6_learn : MethodName := ⟨RX6, "learn", "(IIZ)I"⟩
abbrev cX6_put : ByteArray := prog_1_method_5_code
def yX6_put : MethodName := ⟨RX6, "put", "(II)I"⟩
abbrev cX6_take : ByteArray := prog_1_method_6_code
def yX6_take : MethodName := ⟨RX6, "take", "(II)I"⟩
abbrev cX6_costume : ByteArray := prog_1_method_7_code
def yX6_costume : MethodName := ⟨RX6, "costume", "(II)I"⟩
abbrev cX6_sizeOf : ByteArray := prog_1_method_8_code
def yX6_sizeOf : MethodName := ⟨RX6, "sizeOf", "(I)I"⟩
abbrev cX6_cold : ByteArray := prog_1_method_9_code
def yX6_cold : MethodName := ⟨RX6, "cold", "(III)I"⟩
abbrev cX6_isIll : ByteArray := prog_1_method_10_code
def yX6_isIll : MethodName := ⟨RX6, "isIll", "(II)Z"⟩
abbrev cX6_canPlay : ByteArray := prog_1_method_11_code
def yX6_canPlay : MethodName := ⟨RX6, "canPlay", "(III)Z"⟩
abbrev cX6_strain : ByteArray := prog_1_method_12_code
def yX6_strain : MethodName := ⟨RX6, "strain", "(I)I"⟩
abbrev cX6_strainByAll : ByteArray := prog_1_method_13_code
def yX6_strainByAll : MethodName := ⟨RX6, "strainByAll", "(I)I"⟩
abbrev cX6_work : ByteArray := prog_1_method_14_code
def yX6_work : MethodName := ⟨RX6, "work", "(I)I"⟩
abbrev cX6_actorFor : ByteArray := prog_1_method_15_code
def yX6_actorFor : MethodName := ⟨RX6, "actorFor", "(II)I"⟩
abbrev cX6_chain : ByteArray := prog_1_method_16_code
def yX6_chain : MethodName := ⟨RX6, "chain", "(II)I"⟩
abbrev cX6_needActor : ByteArray := prog_1_method_25_code
def yX6_needActor : MethodName := ⟨RX6, "needActor", "(I)V"⟩
abbrev cX6_needPart : ByteArray := prog_1_method_26_code
def yX6_needPart : MethodName := ⟨RX6, "needPart", "(I)V"⟩
abbrev cX6_needOneOf : ByteArray := prog_1_method_27_code
def yX6_needOneOf : MethodName := ⟨RX6, "needOneOf", "(II)V"⟩
abbrev cX6_needSize : ByteArray := prog_1_method_28_code
def yX6_needSize : MethodName := ⟨RX6, "needSize", "(I)V"⟩
abbrev cX6_needDay : ByteArray := prog_1_method_29_code
def yX6_needDay : MethodName := ⟨RX6, "needDay", "(II)V"⟩
abbrev cX6_has : ByteArray := prog_1_method_30_code
def yX6_has : MethodName := ⟨RX6, "has", "(II)Z"⟩
abbrev cX6_with : ByteArray := prog_1_method_31_code
def yX6_with : MethodName := ⟨RX6, "with", "(II)I"⟩
abbrev cX6_without : ByteArray := prog_1_method_32_code
def yX6_without : MethodName := ⟨RX6, "without", "(II)I"⟩
abbrev cX6_isReady : ByteArray := prog_1_method_33_code
def yX6_isReady : MethodName := ⟨RX6, "isReady", "(III)Z"⟩
abbrev cX6_offerActors : ByteArray := prog_1_method_34_code
def yX6_offerActors : MethodName := ⟨RX6, "offerActors", "(I)V"⟩
abbrev cX6_bestCast : ByteArray := prog_1_method_35_code
def yX6_bestCast : MethodName := ⟨RX6, "bestCast", "(I)I"⟩
abbrev cX6_actorIn : ByteArray := prog_1_method_36_code
def yX6_actorIn : MethodName := ⟨RX6, "actorIn", "(II)I"⟩
abbrev cX6_countOthers : ByteArray := prog_1_method_37_code
def yX6_countOthers : MethodName := ⟨RX6, "countOthers", "(II)I"⟩
def RX7 : String := "CastDeskModel"
def TX7 : u_T := fun k => match k with
  | _ => ("", "", "", false)
def tyX7 : Nat → FieldType := fun k => match k with
  | _ => .int
abbrev wsX70 : List Cond := u_ws RX7 TX7 0
theorem nmX7 : ∀ a, a < 0 → ∀ b, b < 0 → a ≠ b → (TX7 a).2.1 ≠ (TX7 b).2.1 := by decide +kernel
theorem tyX7_ok : ∀ k, k < 0 → parseFieldDescriptor (TX7 k).2.2.1 = some (tyX7 k) := by decide +kernel
def RJ6 : String := "java/lang/Integer"
def TJ6 : u_T := fun k => match k with
  | _ => ("", "", "", false)
def tyJ6 : Nat → FieldType := fun k => match k with
  | _ => .int
abbrev wsJ60 : List Cond := u_ws RJ6 TJ6 0
theorem nmJ6 : ∀ a, a < 0 → ∀ b, b < 0 → a ≠ b → (TJ6 a).2.1 ≠ (TJ6 b).2.1 := by decide +kernel
theorem tyJ6_ok : ∀ k, k < 0 → parseFieldDescriptor (TJ6 k).2.2.1 = some (tyJ6 k) := by decide +kernel
abbrev cJ6_bitCount_0f7a4 : ByteArray := prog_14_method_49_code
def yJ6_bitCount_0f7a4 : MethodName := ⟨RJ6, "bitCount", "(I)I"⟩
def RJ9 : String := "java/lang/Math"
def TJ9 : u_T := fun k => match k with
  | _ => ("", "", "", false)
def tyJ9 : Nat → FieldType := fun k => match k with
  | _ => .int
abbrev wsJ90 : List Cond := u_ws RJ9 TJ9 0
theorem nmJ9 : ∀ a, a < 0 → ∀ b, b < 0 → a ≠ b → (TJ9 a).2.1 ≠ (TJ9 b).2.1 := by decide +kernel
theorem tyJ9_ok : ∀ k, k < 0 → parseFieldDescriptor (TJ9 k).2.2.1 = some (tyJ9 k) := by decide +kernel
abbrev cJ9_max_7cf53 : ByteArray := prog_15_method_65_code
def yJ9_max_7cf53 : MethodName := ⟨RJ9, "max", "(II)I"⟩
def RJ0 : String := "java/lang/String"
def TJ0 : u_T := fun k => match k with
  | _ => ("", "", "", false)
def tyJ0 : Nat → FieldType := fun k => match k with
  | _ => .int
abbrev wsJ00 : List Cond := u_ws RJ0 TJ0 0
theorem nmJ0 : ∀ a, a < 0 → ∀ b, b < 0 → a ≠ b → (TJ0 a).2.1 ≠ (TJ0 b).2.1 := by decide +kernel
theorem tyJ0_ok : ∀ k, k < 0 → parseFieldDescriptor (TJ0 k).2.2.1 = some (tyJ0 k) := by decide +kernel
def RL : String := "CastDeskLaw"
abbrev cL_cell : ByteArray := method_2_code
def yL_cell : MethodName := ⟨RL, "cell", "([II)I"⟩
abbrev cL_at : ByteArray := method_3_code
def yL_at : MethodName := ⟨RL, "at", "(II)I"⟩
abbrev cL_rank : ByteArray := method_4_code
def yL_rank : MethodName := ⟨RL, "rank", "(II[I[I)I"⟩
abbrev cL_plays : ByteArray := method_5_code
def yL_plays : MethodName := ⟨RL, "plays", "(LCastDesk;II[I)Z"⟩
abbrev cL_good : ByteArray := method_6_code
def yL_good : MethodName := ⟨RL, "good", "(LCastDesk;I[I[I[I)Z"⟩
abbrev cL_chained : ByteArray := method_7_code
def yL_chained : MethodName := ⟨RL, "chained", "(LCastDesk;II[I)Z"⟩
abbrev cL_cold : ByteArray := method_8_code
def yL_cold : MethodName := ⟨RL, "cold", "(LCastDesk;II[I[I)Z"⟩
abbrev cL_act : ByteArray := method_9_code
def yL_act : MethodName := ⟨RL, "act", "(LCastDesk;II[I[I[I[I[I)Z"⟩
abbrev cL_law : ByteArray := code
def yL_law : MethodName := ⟨RL, "law", "([I)Z"⟩
def wsX0_init : List Cond := .code yX0_init cX0_init 1 none :: ([.methodLink RX0 3 objectInit, .instanceMethod objectInit, .code objectInit ⟨#[0xb1]⟩ 1 none, .arrayClass .int, .fieldLink RX0 9 "CastDesk$BoxOffice" "shows" "[I", .fieldLink RX0 15 "CastDesk$BoxOffice" "promises" "[I", .fieldLink RX0 18 "CastDesk$BoxOffice" "parts" "[I", .fieldLink RX0 21 "CastDesk$BoxOffice" "stars" "[I", .fieldLink RX0 24 "CastDesk$BoxOffice" "refunds" "[I", .fieldLink RX0 27 "CastDesk$BoxOffice" "prices" "[I"] ++ wsX00)
def wsX1_init : List Cond := .code yX1_init cX1_init 2 none :: ([.methodLink RX1 5 objectInit, .instanceMethod objectInit, .code objectInit ⟨#[0xb1]⟩ 1 none, .arrayClass .int, .fieldLink RX1 11 "CastDesk$Casting" "actors" "[I", .fieldLink RX1 15 "CastDesk$Casting" "keys" "[I", .fieldLink RX1 18 "CastDesk$Casting" "leastOfSet" "[I"] ++ wsX10)
def wsX1_strainOf : List Cond := .code yX1_strainOf cX1_strainOf 1 (some .int) :: ([])
def wsX1_workOf : List Cond := .code yX1_workOf cX1_workOf 1 (some .int) :: ([])
def wsX1_rankShift : List Cond := .code yX1_rankShift cX1_rankShift 1 (some .int) :: ([])
def wsX1_rankOf : List Cond := .code yX1_rankOf cX1_rankOf 2 (some .int) :: ([.methodLink RX1 21 yX1_rankShift, .static yX1_rankShift, .initialized RX1, .code yX1_rankShift cX1_rankShift 1 (some .int)])
def wsX1_clear : List Cond := .code yX1_clear cX1_clear 2 none :: ([.fieldLink RX1 11 "CastDesk$Casting" "actors" "[I", .fieldLink RX1 25 "CastDesk$Casting" "setsBound" "I"] ++ wsX10)
def wsX1_offer : List Cond := .code yX1_offer cX1_offer 6 none :: ([.fieldLink RX1 11 "CastDesk$Casting" "actors" "[I", .fieldLink RX1 15 "CastDesk$Casting" "keys" "[I", .fieldLink RX1 25 "CastDesk$Casting" "setsBound" "I", .methodLink RX1 29 Lib.Math.max.name, .static Lib.Math.max.name, .initialized "java/lang/Math", .code Lib.Math.max.name Lib.Math.max.code 2 (some .int), .methodLink RX1 21 yX1_rankShift, .static yX1_rankShift, .initialized RX1, .code yX1_rankShift cX1_rankShift 1 (some .int)] ++ wsX10)
def wsJ6_bitCount_0f7a4 : List Cond := .code yJ6_bitCount_0f7a4 cJ6_bitCount_0f7a4 1 (some .int) :: ([.constant RJ6 265 (1431655765), .constant RJ6 266 (858993459), .constant RJ6 267 (252645135)])
def wsX6_has : List Cond := .code yX6_has cX6_has 2 (some .boolean) :: ([])
def wsX6_with : List Cond := .code yX6_with cX6_with 2 (some .int) :: ([])
def wsX1_castPart : List Cond := .code yX1_castPart cX1_castPart 9 none :: ([.fieldLink RX1 11 "CastDesk$Casting" "actors" "[I", .fieldLink RX1 15 "CastDesk$Casting" "keys" "[I", .fieldLink RX1 18 "CastDesk$Casting" "leastOfSet" "[I", .static yX6_has, .initialized RX6, .code yX6_has cX6_has 2 (some .boolean), .static yX6_with, .code yX6_with cX6_with 2 (some .int)] ++ wsX10)
def wsX1_leastKey : List Cond := .code yX1_leastKey cX1_leastKey 6 (some .int) :: ([.fieldLink RX1 18 "CastDesk$Casting" "leastOfSet" "[I", .fieldLink RX1 25 "CastDesk$Casting" "setsBound" "I", .methodLink RX1 35 yJ6_bitCount_0f7a4, .static yJ6_bitCount_0f7a4, .initialized RJ6, .code yJ6_bitCount_0f7a4 cJ6_bitCount_0f7a4 1 (some .int), .constant RJ6 265 (1431655765), .constant RJ6 266 (858993459), .constant RJ6 267 (252645135), .methodLink RX1 40 yX1_castPart, .instanceMethod yX1_castPart, .selects RX1 yX1_castPart yX1_castPart, .initialized RX1, .code yX1_castPart cX1_castPart 9 none, .fieldLink RX1 11 "CastDesk$Casting" "actors" "[I", .fieldLink RX1 15 "CastDesk$Casting" "keys" "[I", .static yX6_has, .initialized RX6, .code yX6_has cX6_has 2 (some .boolean), .static yX6_with, .code yX6_with cX6_with 2 (some .int)] ++ wsX10)
def wsX1_leastFrom : List Cond := .code yX1_leastFrom cX1_leastFrom 8 (some .int) :: ([.static yX6_has, .initialized RX6, .code yX6_has cX6_has 2 (some .boolean), .static yX6_with, .code yX6_with cX6_with 2 (some .int), .methodLink RX1 51 yX1_leastFrom, .static yX1_leastFrom, .initialized RX1])
def wsX1_leastStrain : List Cond := .code yX1_leastStrain cX1_leastStrain 2 (some .int) :: ([.fieldLink RX1 11 "CastDesk$Casting" "actors" "[I", .methodLink RX1 51 yX1_leastFrom, .static yX1_leastFrom, .initialized RX1, .code yX1_leastFrom cX1_leastFrom 8 (some .int), .static yX6_has, .initialized RX6, .code yX6_has cX6_has 2 (some .boolean), .static yX6_with, .code yX6_with cX6_with 2 (some .int)] ++ wsX10)
def wsX2_init : List Cond := .code yX2_init cX2_init 2 none :: ([.methodLink RX2 3 objectInit, .instanceMethod objectInit, .code objectInit ⟨#[0xb1]⟩ 1 none, .arrayClass .int, .fieldLink RX2 9 "CastDesk$Programme" "states" "[I", .fieldLink RX2 15 "CastDesk$Programme" "casts" "[I", .fieldLink RX2 18 "CastDesk$Programme" "days" "[I"] ++ wsX20)
def wsX3_init : List Cond := .code yX3_init cX3_init 1 none :: ([.methodLink RX3 3 objectInit, .instanceMethod objectInit, .code objectInit ⟨#[0xb1]⟩ 1 none, .arrayClass .int, .fieldLink RX3 9 "CastDesk$Rows" "actors" "[I", .fieldLink RX3 15 "CastDesk$Rows" "lengths" "[I"] ++ wsX30)
def wsX3_actorAt : List Cond := .code yX3_actorAt cX3_actorAt 3 (some .int) :: ([.fieldLink RX3 15 "CastDesk$Rows" "lengths" "[I", .fieldLink RX3 9 "CastDesk$Rows" "actors" "[I"] ++ wsX30)
def wsX3_rankIn : List Cond := .code yX3_rankIn cX3_rankIn 4 (some .int) :: ([.fieldLink RX3 15 "CastDesk$Rows" "lengths" "[I", .fieldLink RX3 9 "CastDesk$Rows" "actors" "[I"] ++ wsX30)
def wsX3_isFull : List Cond := .code yX3_isFull cX3_isFull 2 (some .boolean) :: ([.fieldLink RX3 15 "CastDesk$Rows" "lengths" "[I"] ++ wsX30)
def wsX3_append : List Cond := .code yX3_append cX3_append 4 (some .int) :: ([.fieldLink RX3 15 "CastDesk$Rows" "lengths" "[I", .fieldLink RX3 9 "CastDesk$Rows" "actors" "[I"] ++ wsX30)
def wsX3_remove : List Cond := .code yX3_remove cX3_remove 4 none :: ([.fieldLink RX3 15 "CastDesk$Rows" "lengths" "[I", .fieldLink RX3 9 "CastDesk$Rows" "actors" "[I"] ++ wsX30)
def wsX4_init : List Cond := .code yX4_init cX4_init 2 none :: ([.methodLink RX4 3 objectInit, .instanceMethod objectInit, .code objectInit ⟨#[0xb1]⟩ 1 none, .arrayClass .int, .fieldLink RX4 9 "CastDesk$Troupe" "sizes" "[I", .fieldLink RX4 15 "CastDesk$Troupe" "known" "[I", .fieldLink RX4 18 "CastDesk$Troupe" "ill" "[I"] ++ wsX40)
def wsX4_fallIll : List Cond := .code yX4_fallIll cX4_fallIll 6 (some .int) :: ([.fieldLink RX4 18 "CastDesk$Troupe" "ill" "[I", .static yX6_has, .initialized RX6, .code yX6_has cX6_has 2 (some .boolean), .static yX6_with, .code yX6_with cX6_with 2 (some .int)] ++ wsX40)
def wsX5_init : List Cond := .code yX5_init cX5_init 1 none :: ([.methodLink RX5 3 objectInit, .instanceMethod objectInit, .code objectInit ⟨#[0xb1]⟩ 1 none, .arrayClass .int, .fieldLink RX5 9 "CastDesk$Wardrobe" "sizes" "[I", .fieldLink RX5 15 "CastDesk$Wardrobe" "parts" "[I", .arrayClass .boolean, .fieldLink RX5 18 "CastDesk$Wardrobe" "isLetOut" "[Z"] ++ wsX50)
def wsX5_add : List Cond := .code yX5_add cX5_add 3 (some .int) :: ([.fieldLink RX5 15 "CastDesk$Wardrobe" "parts" "[I", .fieldLink RX5 22 "CastDesk$Wardrobe" "count" "I", .fieldLink RX5 9 "CastDesk$Wardrobe" "sizes" "[I"] ++ wsX50)
def wsX5_lowestFitting : List Cond := .code yX5_lowestFitting cX5_lowestFitting 4 (some .int) :: ([.fieldLink RX5 22 "CastDesk$Wardrobe" "count" "I", .fieldLink RX5 15 "CastDesk$Wardrobe" "parts" "[I", .fieldLink RX5 9 "CastDesk$Wardrobe" "sizes" "[I"] ++ wsX50)
def wsX5_lowestToLetOut : List Cond := .code yX5_lowestToLetOut cX5_lowestToLetOut 4 (some .int) :: ([.fieldLink RX5 22 "CastDesk$Wardrobe" "count" "I", .fieldLink RX5 15 "CastDesk$Wardrobe" "parts" "[I", .fieldLink RX5 9 "CastDesk$Wardrobe" "sizes" "[I", .fieldLink RX5 18 "CastDesk$Wardrobe" "isLetOut" "[Z"] ++ wsX50)
def wsX6_init_r1 : List Cond := [Cond.methodLink RX6 1 objectInit, Cond.instanceMethod objectInit, Cond.code objectInit ⟨#[0xb1]⟩ 1 none, Cond.classLink RX6 7 RX4, Cond.instantiable RX4 3, Cond.initialized RX4, Cond.fieldLink RX6 10 "CastDesk" "troupe" "LCastDesk$Troupe;", Cond.classLink RX6 16 RX3, Cond.instantiable RX3 2, Cond.initialized RX3, Cond.fieldLink RX6 19 "CastDesk" "rows" "LCastDesk$Rows;", Cond.classLink RX6 23 RX5, Cond.instantiable RX5 4, Cond.initialized RX5, Cond.fieldLink RX6 26 "CastDesk" "wardrobe" "LCastDesk$Wardrobe;", Cond.classLink RX6 30 RX1, Cond.instantiable RX1 4, Cond.initialized RX1, Cond.fieldLink RX6 33 "CastDesk" "casting" "LCastDesk$Casting;", Cond.classLink RX6 37 RX2, Cond.instantiable RX2 4, Cond.initialized RX2, Cond.fieldLink RX6 40 "CastDesk" "programme" "LCastDesk$Programme;", Cond.classLink RX6 44 RX0]
def wsX6_init_r2 : List Cond := [Cond.instantiable RX0 8, Cond.initialized RX0, Cond.fieldLink RX6 47 "CastDesk" "office" "LCastDesk$BoxOffice;", Cond.fieldLink RX6 51 "CastDesk" "partCount" "I", Cond.fieldLink RX6 55 "CastDesk" "today" "I", Cond.methodLink RX6 9 yX4_init, Cond.instanceMethod yX4_init, Cond.code yX4_init cX4_init 2 none, Cond.methodLink RX4 3 objectInit, Cond.arrayClass .int, Cond.fieldLink RX4 9 "CastDesk$Troupe" "sizes" "[I", Cond.fieldLink RX4 15 "CastDesk$Troupe" "known" "[I", Cond.fieldLink RX4 18 "CastDesk$Troupe" "ill" "[I", Cond.instanceMethod yX3_init, Cond.code yX3_init cX3_init 1 none, Cond.methodLink RX3 3 objectInit, Cond.fieldLink RX3 9 "CastDesk$Rows" "actors" "[I", Cond.fieldLink RX3 15 "CastDesk$Rows" "lengths" "[I", Cond.instanceMethod yX5_init, Cond.code yX5_init cX5_init 1 none, Cond.methodLink RX5 3 objectInit, Cond.fieldLink RX5 9 "CastDesk$Wardrobe" "sizes" "[I", Cond.fieldLink RX5 15 "CastDesk$Wardrobe" "parts" "[I", Cond.arrayClass .boolean]
def wsX6_init_r3 : List Cond := [Cond.fieldLink RX5 18 "CastDesk$Wardrobe" "isLetOut" "[Z", Cond.methodLink RX6 32 yX1_init, Cond.instanceMethod yX1_init, Cond.code yX1_init cX1_init 2 none, Cond.methodLink RX1 5 objectInit, Cond.fieldLink RX1 11 "CastDesk$Casting" "actors" "[I", Cond.fieldLink RX1 15 "CastDesk$Casting" "keys" "[I", Cond.fieldLink RX1 18 "CastDesk$Casting" "leastOfSet" "[I", Cond.methodLink RX6 39 yX2_init, Cond.instanceMethod yX2_init, Cond.code yX2_init cX2_init 2 none, Cond.methodLink RX2 3 objectInit, Cond.fieldLink RX2 9 "CastDesk$Programme" "states" "[I", Cond.fieldLink RX2 15 "CastDesk$Programme" "casts" "[I", Cond.fieldLink RX2 18 "CastDesk$Programme" "days" "[I", Cond.instanceMethod yX0_init, Cond.code yX0_init cX0_init 1 none, Cond.methodLink RX0 3 objectInit, Cond.fieldLink RX0 9 "CastDesk$BoxOffice" "shows" "[I", Cond.fieldLink RX0 15 "CastDesk$BoxOffice" "promises" "[I", Cond.fieldLink RX0 18 "CastDesk$BoxOffice" "parts" "[I", Cond.fieldLink RX0 21 "CastDesk$BoxOffice" "stars" "[I", Cond.fieldLink RX0 24 "CastDesk$BoxOffice" "refunds" "[I", Cond.fieldLink RX0 27 "CastDesk$BoxOffice" "prices" "[I"]
def wsX6_init : List Cond := .code yX6_init cX6_init 1 none :: ((wsX6_init_r1 ++ (wsX6_init_r2 ++ wsX6_init_r3)) ++ wsX40 ++ wsX60 ++ wsX30 ++ wsX50 ++ wsX10 ++ wsX20 ++ wsX00)
def wsX6_setParts : List Cond := .code yX6_setParts cX6_setParts 3 (some .int) :: ([.classLink RX6 58 "java/lang/IllegalArgumentException", .initialized "java/lang/IllegalArgumentException", .fieldLink RX6 51 "CastDesk" "partCount" "I"] ++ wsX60 ++ (vx_atS RX6 62 "java/lang/IllegalArgumentException" ["java/lang/RuntimeException", "java/lang/Exception"]).filter goodWord)
def wsX6_needActor : List Cond := .code yX6_needActor cX6_needActor 1 none :: ([.classLink RX6 215 "java/lang/IndexOutOfBoundsException", .initialized "java/lang/IndexOutOfBoundsException"] ++ (vx_atS RX6 219 "java/lang/IndexOutOfBoundsException" ["java/lang/RuntimeException", "java/lang/Exception"]).filter goodWord)
def wsX6_needSize : List Cond := .code yX6_needSize cX6_needSize 1 none :: ([.classLink RX6 58 "java/lang/IllegalArgumentException", .initialized "java/lang/IllegalArgumentException"] ++ (vx_atS RX6 62 "java/lang/IllegalArgumentException" ["java/lang/RuntimeException", "java/lang/Exception"]).filter goodWord)
def wsX6_setSize : List Cond := .code yX6_setSize cX6_setSize 4 (some .int) :: ([.fieldLink RX6 10 "CastDesk" "troupe" "LCastDesk$Troupe;", .fieldLink RX6 72 "CastDesk$Troupe" "sizes" "[I", .methodLink RX6 65 yX6_needActor, .static yX6_needActor, .initialized RX6, .code yX6_needActor cX6_needActor 1 none, .classLink RX6 215 "java/lang/IndexOutOfBoundsException", .initialized "java/lang/IndexOutOfBoundsException", .methodLink RX6 69 yX6_needSize, .static yX6_needSize, .code yX6_needSize cX6_needSize 1 none, .classLink RX6 58 "java/lang/IllegalArgumentException", .initialized "java/lang/IllegalArgumentException"] ++ wsX60 ++ wsX40 ++ (vx_atS RX6 219 "java/lang/IndexOutOfBoundsException" ["java/lang/RuntimeException", "java/lang/Exception"]).filter goodWord ++ (vx_atS RX6 62 "java/lang/IllegalArgumentException" ["java/lang/RuntimeException", "java/lang/Exception"]).filter goodWord)
def wsX6_needPart : List Cond := .code yX6_needPart cX6_needPart 1 none :: ([.classLink RX6 215 "java/lang/IndexOutOfBoundsException", .initialized "java/lang/IndexOutOfBoundsException"] ++ (vx_atS RX6 219 "java/lang/IndexOutOfBoundsException" ["java/lang/RuntimeException", "java/lang/Exception"]).filter goodWord)
def wsX6_without : List Cond := .code yX6_without cX6_without 2 (some .int) :: ([])
def wsX6_learn_r1 : List Cond := [Cond.classLink RX6 95 "java/lang/IllegalStateException", Cond.initialized "java/lang/IllegalStateException", Cond.fieldLink RX6 10 "CastDesk" "troupe" "LCastDesk$Troupe;", Cond.fieldLink RX6 79 "CastDesk$Troupe" "known" "[I", Cond.methodLink RX6 65 yX6_needActor, Cond.static yX6_needActor, Cond.initialized RX6, Cond.code yX6_needActor cX6_needActor 1 none, Cond.classLink RX6 215 "java/lang/IndexOutOfBoundsException", Cond.initialized "java/lang/IndexOutOfBoundsException", Cond.methodLink RX6 76 yX6_needPart, Cond.static yX6_needPart, Cond.code yX6_needPart cX6_needPart 1 none, Cond.methodLink RX6 82 yX6_with, Cond.static yX6_with, Cond.code yX6_with cX6_with 2 (some .int), Cond.methodLink RX6 86 yX6_without, Cond.static yX6_without, Cond.code yX6_without cX6_without 2 (some .int), Cond.methodLink RX6 89 yJ6_bitCount_0f7a4, Cond.static yJ6_bitCount_0f7a4, Cond.initialized RJ6, Cond.code yJ6_bitCount_0f7a4 cJ6_bitCount_0f7a4 1 (some .int), Cond.constant RJ6 265 (1431655765)]
def wsX6_learn_r2 : List Cond := [Cond.constant RJ6 266 (858993459), Cond.constant RJ6 267 (252645135)]
def wsX6_learn : List Cond := .code yX6_learn cX6_learn 6 (some .int) :: ((wsX6_learn_r1 ++ wsX6_learn_r2) ++ wsX60 ++ wsX40 ++ (vx_atS RX6 99 "java/lang/IllegalStateException" ["java/lang/RuntimeException", "java/lang/Exception"]).filter goodWord ++ (vx_atS RX6 219 "java/lang/IndexOutOfBoundsException" ["java/lang/RuntimeException", "java/lang/Exception"]).filter goodWord)
def wsX6_put_r1 : List Cond := [Cond.classLink RX6 95 "java/lang/IllegalStateException", Cond.initialized "java/lang/IllegalStateException", Cond.fieldLink RX6 19 "CastDesk" "rows" "LCastDesk$Rows;", Cond.methodLink RX6 76 yX6_needPart, Cond.static yX6_needPart, Cond.initialized RX6, Cond.code yX6_needPart cX6_needPart 1 none, Cond.classLink RX6 215 "java/lang/IndexOutOfBoundsException", Cond.initialized "java/lang/IndexOutOfBoundsException", Cond.methodLink RX6 65 yX6_needActor, Cond.static yX6_needActor, Cond.code yX6_needActor cX6_needActor 1 none, Cond.methodLink RX6 100 yX3_rankIn, Cond.instanceMethod yX3_rankIn, Cond.selects RX3 yX3_rankIn yX3_rankIn, Cond.initialized RX3, Cond.code yX3_rankIn cX3_rankIn 4 (some .int), Cond.fieldLink RX3 15 "CastDesk$Rows" "lengths" "[I", Cond.fieldLink RX3 9 "CastDesk$Rows" "actors" "[I", Cond.methodLink RX6 105 yX3_isFull, Cond.instanceMethod yX3_isFull, Cond.selects RX3 yX3_isFull yX3_isFull, Cond.code yX3_isFull cX3_isFull 2 (some .boolean), Cond.methodLink RX6 111 yX3_append]
def wsX6_put_r2 : List Cond := [Cond.instanceMethod yX3_append, Cond.selects RX3 yX3_append yX3_append, Cond.code yX3_append cX3_append 4 (some .int)]
def wsX6_put : List Cond := .code yX6_put cX6_put 3 (some .int) :: ((wsX6_put_r1 ++ wsX6_put_r2) ++ wsX60 ++ wsX30 ++ (vx_atS RX6 99 "java/lang/IllegalStateException" ["java/lang/RuntimeException", "java/lang/Exception"]).filter goodWord ++ (vx_atS RX6 219 "java/lang/IndexOutOfBoundsException" ["java/lang/RuntimeException", "java/lang/Exception"]).filter goodWord)
def wsX6_take : List Cond := .code yX6_take cX6_take 4 (some .int) :: ([.classLink RX6 95 "java/lang/IllegalStateException", .initialized "java/lang/IllegalStateException", .fieldLink RX6 19 "CastDesk" "rows" "LCastDesk$Rows;", .methodLink RX6 76 yX6_needPart, .static yX6_needPart, .initialized RX6, .code yX6_needPart cX6_needPart 1 none, .classLink RX6 215 "java/lang/IndexOutOfBoundsException", .initialized "java/lang/IndexOutOfBoundsException", .methodLink RX6 65 yX6_needActor, .static yX6_needActor, .code yX6_needActor cX6_needActor 1 none, .methodLink RX6 100 yX3_rankIn, .instanceMethod yX3_rankIn, .selects RX3 yX3_rankIn yX3_rankIn, .initialized RX3, .code yX3_rankIn cX3_rankIn 4 (some .int), .fieldLink RX3 15 "CastDesk$Rows" "lengths" "[I", .fieldLink RX3 9 "CastDesk$Rows" "actors" "[I", .methodLink RX6 116 yX3_remove, .instanceMethod yX3_remove, .selects RX3 yX3_remove yX3_remove, .code yX3_remove cX3_remove 4 none] ++ wsX60 ++ wsX30 ++ (vx_atS RX6 99 "java/lang/IllegalStateException" ["java/lang/RuntimeException", "java/lang/Exception"]).filter goodWord ++ (vx_atS RX6 219 "java/lang/IndexOutOfBoundsException" ["java/lang/RuntimeException", "java/lang/Exception"]).filter goodWord)
def wsX6_costume : List Cond := .code yX6_costume cX6_costume 3 (some .int) :: ([.classLink RX6 95 "java/lang/IllegalStateException", .initialized "java/lang/IllegalStateException", .fieldLink RX6 26 "CastDesk" "wardrobe" "LCastDesk$Wardrobe;", .fieldLink RX6 120 "CastDesk$Wardrobe" "count" "I", .methodLink RX6 76 yX6_needPart, .static yX6_needPart, .initialized RX6, .code yX6_needPart cX6_needPart 1 none, .classLink RX6 215 "java/lang/IndexOutOfBoundsException", .initialized "java/lang/IndexOutOfBoundsException", .methodLink RX6 69 yX6_needSize, .static yX6_needSize, .code yX6_needSize cX6_needSize 1 none, .classLink RX6 58 "java/lang/IllegalArgumentException", .initialized "java/lang/IllegalArgumentException", .methodLink RX6 125 yX5_add, .instanceMethod yX5_add, .selects RX5 yX5_add yX5_add, .initialized RX5, .code yX5_add cX5_add 3 (some .int), .fieldLink RX5 15 "CastDesk$Wardrobe" "parts" "[I", .fieldLink RX5 22 "CastDesk$Wardrobe" "count" "I", .fieldLink RX5 9 "CastDesk$Wardrobe" "sizes" "[I"] ++ wsX60 ++ wsX50 ++ (vx_atS RX6 99 "java/lang/IllegalStateException" ["java/lang/RuntimeException", "java/lang/Exception"]).filter goodWord ++ (vx_atS RX6 219 "java/lang/IndexOutOfBoundsException" ["java/lang/RuntimeException", "java/lang/Exception"]).filter goodWord ++ (vx_atS RX6 62 "java/lang/IllegalArgumentException" ["java/lang/RuntimeException", "java/lang/Exception"]).filter goodWord)
def wsX6_needOneOf : List Cond := .code yX6_needOneOf cX6_needOneOf 2 none :: ([.classLink RX6 215 "java/lang/IndexOutOfBoundsException", .initialized "java/lang/IndexOutOfBoundsException"] ++ (vx_atS RX6 219 "java/lang/IndexOutOfBoundsException" ["java/lang/RuntimeException", "java/lang/Exception"]).filter goodWord)
def wsX6_sizeOf : List Cond := .code yX6_sizeOf cX6_sizeOf 2 (some .int) :: ([.fieldLink RX6 26 "CastDesk" "wardrobe" "LCastDesk$Wardrobe;", .fieldLink RX6 120 "CastDesk$Wardrobe" "count" "I", .fieldLink RX6 131 "CastDesk$Wardrobe" "sizes" "[I", .methodLink RX6 128 yX6_needOneOf, .static yX6_needOneOf, .initialized RX6, .code yX6_needOneOf cX6_needOneOf 2 none, .classLink RX6 215 "java/lang/IndexOutOfBoundsException", .initialized "java/lang/IndexOutOfBoundsException"] ++ wsX60 ++ wsX50 ++ (vx_atS RX6 219 "java/lang/IndexOutOfBoundsException" ["java/lang/RuntimeException", "java/lang/Exception"]).filter goodWord)
def wsX6_needDay : List Cond := .code yX6_needDay cX6_needDay 2 none :: ([.classLink RX6 58 "java/lang/IllegalArgumentException", .initialized "java/lang/IllegalArgumentException"] ++ (vx_atS RX6 62 "java/lang/IllegalArgumentException" ["java/lang/RuntimeException", "java/lang/Exception"]).filter goodWord)
def wsX6_cold : List Cond := .code yX6_cold cX6_cold 4 (some .int) :: ([.fieldLink RX6 55 "CastDesk" "today" "I", .fieldLink RX6 10 "CastDesk" "troupe" "LCastDesk$Troupe;", .methodLink RX6 65 yX6_needActor, .static yX6_needActor, .initialized RX6, .code yX6_needActor cX6_needActor 1 none, .classLink RX6 215 "java/lang/IndexOutOfBoundsException", .initialized "java/lang/IndexOutOfBoundsException", .methodLink RX6 132 yX6_needDay, .static yX6_needDay, .code yX6_needDay cX6_needDay 2 none, .classLink RX6 58 "java/lang/IllegalArgumentException", .initialized "java/lang/IllegalArgumentException", .methodLink RX6 135 yX4_fallIll, .instanceMethod yX4_fallIll, .selects RX4 yX4_fallIll yX4_fallIll, .initialized RX4, .code yX4_fallIll cX4_fallIll 6 (some .int), .fieldLink RX4 18 "CastDesk$Troupe" "ill" "[I", .static yX6_has, .code yX6_has cX6_has 2 (some .boolean), .static yX6_with, .code yX6_with cX6_with 2 (some .int)] ++ wsX60 ++ wsX40 ++ (vx_atS RX6 219 "java/lang/IndexOutOfBoundsException" ["java/lang/RuntimeException", "java/lang/Exception"]).filter goodWord ++ (vx_atS RX6 62 "java/lang/IllegalArgumentException" ["java/lang/RuntimeException", "java/lang/Exception"]).filter goodWord)
def wsX6_isIll : List Cond := .code yX6_isIll cX6_isIll 3 (some .boolean) :: ([.fieldLink RX6 10 "CastDesk" "troupe" "LCastDesk$Troupe;", .fieldLink RX6 139 "CastDesk$Troupe" "ill" "[I", .methodLink RX6 65 yX6_needActor, .static yX6_needActor, .initialized RX6, .code yX6_needActor cX6_needActor 1 none, .classLink RX6 215 "java/lang/IndexOutOfBoundsException", .initialized "java/lang/IndexOutOfBoundsException", .methodLink RX6 132 yX6_needDay, .static yX6_needDay, .code yX6_needDay cX6_needDay 2 none, .classLink RX6 58 "java/lang/IllegalArgumentException", .initialized "java/lang/IllegalArgumentException", .methodLink RX6 142 yX6_has, .static yX6_has, .code yX6_has cX6_has 2 (some .boolean)] ++ wsX60 ++ wsX40 ++ (vx_atS RX6 219 "java/lang/IndexOutOfBoundsException" ["java/lang/RuntimeException", "java/lang/Exception"]).filter goodWord ++ (vx_atS RX6 62 "java/lang/IllegalArgumentException" ["java/lang/RuntimeException", "java/lang/Exception"]).filter goodWord)
def wsX6_isReady : List Cond := .code yX6_isReady cX6_isReady 5 (some .boolean) :: ([.fieldLink RX6 10 "CastDesk" "troupe" "LCastDesk$Troupe;", .fieldLink RX6 72 "CastDesk$Troupe" "sizes" "[I", .fieldLink RX6 79 "CastDesk$Troupe" "known" "[I", .fieldLink RX6 26 "CastDesk" "wardrobe" "LCastDesk$Wardrobe;", .methodLink RX6 142 yX6_has, .static yX6_has, .initialized RX6, .code yX6_has cX6_has 2 (some .boolean), .methodLink RX6 228 yX5_lowestFitting, .instanceMethod yX5_lowestFitting, .selects RX5 yX5_lowestFitting yX5_lowestFitting, .initialized RX5, .code yX5_lowestFitting cX5_lowestFitting 4 (some .int), .fieldLink RX5 22 "CastDesk$Wardrobe" "count" "I", .fieldLink RX5 15 "CastDesk$Wardrobe" "parts" "[I", .fieldLink RX5 9 "CastDesk$Wardrobe" "sizes" "[I", .methodLink RX6 231 yX5_lowestToLetOut, .instanceMethod yX5_lowestToLetOut, .selects RX5 yX5_lowestToLetOut yX5_lowestToLetOut, .code yX5_lowestToLetOut cX5_lowestToLetOut 4 (some .int), .fieldLink RX5 18 "CastDesk$Wardrobe" "isLetOut" "[Z"] ++ wsX60 ++ wsX40 ++ wsX50)
def wsX6_canPlay_r1 : List Cond := [Cond.fieldLink RX6 19 "CastDesk" "rows" "LCastDesk$Rows;", Cond.fieldLink RX6 10 "CastDesk" "troupe" "LCastDesk$Troupe;", Cond.fieldLink RX6 139 "CastDesk$Troupe" "ill" "[I", Cond.methodLink RX6 65 yX6_needActor, Cond.static yX6_needActor, Cond.initialized RX6, Cond.code yX6_needActor cX6_needActor 1 none, Cond.classLink RX6 215 "java/lang/IndexOutOfBoundsException", Cond.initialized "java/lang/IndexOutOfBoundsException", Cond.methodLink RX6 76 yX6_needPart, Cond.static yX6_needPart, Cond.code yX6_needPart cX6_needPart 1 none, Cond.methodLink RX6 132 yX6_needDay, Cond.static yX6_needDay, Cond.code yX6_needDay cX6_needDay 2 none, Cond.classLink RX6 58 "java/lang/IllegalArgumentException", Cond.initialized "java/lang/IllegalArgumentException", Cond.methodLink RX6 100 yX3_rankIn, Cond.instanceMethod yX3_rankIn, Cond.selects RX3 yX3_rankIn yX3_rankIn, Cond.initialized RX3, Cond.code yX3_rankIn cX3_rankIn 4 (some .int), Cond.fieldLink RX3 15 "CastDesk$Rows" "lengths" "[I", Cond.fieldLink RX3 9 "CastDesk$Rows" "actors" "[I"]
def wsX6_canPlay_r2 : List Cond := [Cond.methodLink RX6 146 yX6_isReady, Cond.instanceMethod yX6_isReady, Cond.selects RX6 yX6_isReady yX6_isReady, Cond.code yX6_isReady cX6_isReady 5 (some .boolean), Cond.fieldLink RX6 72 "CastDesk$Troupe" "sizes" "[I", Cond.fieldLink RX6 79 "CastDesk$Troupe" "known" "[I", Cond.fieldLink RX6 26 "CastDesk" "wardrobe" "LCastDesk$Wardrobe;", Cond.methodLink RX6 142 yX6_has, Cond.static yX6_has, Cond.code yX6_has cX6_has 2 (some .boolean), Cond.methodLink RX6 228 yX5_lowestFitting, Cond.instanceMethod yX5_lowestFitting, Cond.selects RX5 yX5_lowestFitting yX5_lowestFitting, Cond.initialized RX5, Cond.code yX5_lowestFitting cX5_lowestFitting 4 (some .int), Cond.fieldLink RX5 22 "CastDesk$Wardrobe" "count" "I", Cond.fieldLink RX5 15 "CastDesk$Wardrobe" "parts" "[I", Cond.fieldLink RX5 9 "CastDesk$Wardrobe" "sizes" "[I", Cond.methodLink RX6 231 yX5_lowestToLetOut, Cond.instanceMethod yX5_lowestToLetOut, Cond.selects RX5 yX5_lowestToLetOut yX5_lowestToLetOut, Cond.code yX5_lowestToLetOut cX5_lowestToLetOut 4 (some .int), Cond.fieldLink RX5 18 "CastDesk$Wardrobe" "isLetOut" "[Z"]
def wsX6_canPlay : List Cond := .code yX6_canPlay cX6_canPlay 4 (some .boolean) :: ((wsX6_canPlay_r1 ++ wsX6_canPlay_r2) ++ wsX60 ++ wsX40 ++ wsX30 ++ wsX50 ++ (vx_atS RX6 219 "java/lang/IndexOutOfBoundsException" ["java/lang/RuntimeException", "java/lang/Exception"]).filter goodWord ++ (vx_atS RX6 62 "java/lang/IllegalArgumentException" ["java/lang/RuntimeException", "java/lang/Exception"]).filter goodWord)
def wsX6_offerActors_r1 : List Cond := [Cond.fieldLink RX6 33 "CastDesk" "casting" "LCastDesk$Casting;", Cond.fieldLink RX6 51 "CastDesk" "partCount" "I", Cond.fieldLink RX6 19 "CastDesk" "rows" "LCastDesk$Rows;", Cond.fieldLink RX6 26 "CastDesk" "wardrobe" "LCastDesk$Wardrobe;", Cond.fieldLink RX6 10 "CastDesk" "troupe" "LCastDesk$Troupe;", Cond.fieldLink RX6 72 "CastDesk$Troupe" "sizes" "[I", Cond.methodLink RX6 234 yX1_clear, Cond.instanceMethod yX1_clear, Cond.selects RX1 yX1_clear yX1_clear, Cond.initialized RX1, Cond.code yX1_clear cX1_clear 2 none, Cond.fieldLink RX1 11 "CastDesk$Casting" "actors" "[I", Cond.fieldLink RX1 25 "CastDesk$Casting" "setsBound" "I", Cond.methodLink RX6 193 yX3_actorAt, Cond.instanceMethod yX3_actorAt, Cond.selects RX3 yX3_actorAt yX3_actorAt, Cond.initialized RX3, Cond.code yX3_actorAt cX3_actorAt 3 (some .int), Cond.fieldLink RX3 15 "CastDesk$Rows" "lengths" "[I", Cond.fieldLink RX3 9 "CastDesk$Rows" "actors" "[I", Cond.methodLink RX6 146 yX6_isReady, Cond.instanceMethod yX6_isReady, Cond.selects RX6 yX6_isReady yX6_isReady, Cond.initialized RX6]
def wsX6_offerActors_r2 : List Cond := [Cond.code yX6_isReady cX6_isReady 5 (some .boolean), Cond.fieldLink RX6 79 "CastDesk$Troupe" "known" "[I", Cond.methodLink RX6 142 yX6_has, Cond.static yX6_has, Cond.code yX6_has cX6_has 2 (some .boolean), Cond.methodLink RX6 228 yX5_lowestFitting, Cond.instanceMethod yX5_lowestFitting, Cond.selects RX5 yX5_lowestFitting yX5_lowestFitting, Cond.initialized RX5, Cond.code yX5_lowestFitting cX5_lowestFitting 4 (some .int), Cond.fieldLink RX5 22 "CastDesk$Wardrobe" "count" "I", Cond.fieldLink RX5 15 "CastDesk$Wardrobe" "parts" "[I", Cond.fieldLink RX5 9 "CastDesk$Wardrobe" "sizes" "[I", Cond.methodLink RX6 231 yX5_lowestToLetOut, Cond.instanceMethod yX5_lowestToLetOut, Cond.selects RX5 yX5_lowestToLetOut yX5_lowestToLetOut, Cond.code yX5_lowestToLetOut cX5_lowestToLetOut 4 (some .int), Cond.fieldLink RX5 18 "CastDesk$Wardrobe" "isLetOut" "[Z", Cond.methodLink RX6 237 yX1_offer, Cond.instanceMethod yX1_offer, Cond.selects RX1 yX1_offer yX1_offer, Cond.code yX1_offer cX1_offer 6 none, Cond.fieldLink RX1 15 "CastDesk$Casting" "keys" "[I", Cond.methodLink RX1 29 Lib.Math.max.name]
def wsX6_offerActors_r3 : List Cond := [Cond.static Lib.Math.max.name, Cond.initialized "java/lang/Math", Cond.code Lib.Math.max.name Lib.Math.max.code 2 (some .int), Cond.methodLink RX1 21 yX1_rankShift, Cond.static yX1_rankShift, Cond.code yX1_rankShift cX1_rankShift 1 (some .int)]
def wsX6_offerActors : List Cond := .code yX6_offerActors cX6_offerActors 6 none :: ((wsX6_offerActors_r1 ++ (wsX6_offerActors_r2 ++ wsX6_offerActors_r3)) ++ wsX60 ++ wsX40 ++ wsX10 ++ wsX30 ++ wsX50)
def wsX6_bestCast_r1 : List Cond := [Cond.fieldLink RX6 33 "CastDesk" "casting" "LCastDesk$Casting;", Cond.fieldLink RX6 51 "CastDesk" "partCount" "I", Cond.methodLink RX6 156 yX6_offerActors, Cond.instanceMethod yX6_offerActors, Cond.selects RX6 yX6_offerActors yX6_offerActors, Cond.initialized RX6, Cond.code yX6_offerActors cX6_offerActors 6 none, Cond.fieldLink RX6 19 "CastDesk" "rows" "LCastDesk$Rows;", Cond.fieldLink RX6 26 "CastDesk" "wardrobe" "LCastDesk$Wardrobe;", Cond.fieldLink RX6 10 "CastDesk" "troupe" "LCastDesk$Troupe;", Cond.fieldLink RX6 72 "CastDesk$Troupe" "sizes" "[I", Cond.methodLink RX6 234 yX1_clear, Cond.instanceMethod yX1_clear, Cond.selects RX1 yX1_clear yX1_clear, Cond.initialized RX1, Cond.code yX1_clear cX1_clear 2 none, Cond.fieldLink RX1 11 "CastDesk$Casting" "actors" "[I", Cond.fieldLink RX1 25 "CastDesk$Casting" "setsBound" "I", Cond.methodLink RX6 193 yX3_actorAt, Cond.instanceMethod yX3_actorAt, Cond.selects RX3 yX3_actorAt yX3_actorAt, Cond.initialized RX3, Cond.code yX3_actorAt cX3_actorAt 3 (some .int), Cond.fieldLink RX3 15 "CastDesk$Rows" "lengths" "[I"]
def wsX6_bestCast_r2 : List Cond := [Cond.fieldLink RX3 9 "CastDesk$Rows" "actors" "[I", Cond.methodLink RX6 146 yX6_isReady, Cond.instanceMethod yX6_isReady, Cond.selects RX6 yX6_isReady yX6_isReady, Cond.code yX6_isReady cX6_isReady 5 (some .boolean), Cond.fieldLink RX6 79 "CastDesk$Troupe" "known" "[I", Cond.methodLink RX6 142 yX6_has, Cond.static yX6_has, Cond.code yX6_has cX6_has 2 (some .boolean), Cond.methodLink RX6 228 yX5_lowestFitting, Cond.instanceMethod yX5_lowestFitting, Cond.selects RX5 yX5_lowestFitting yX5_lowestFitting, Cond.initialized RX5, Cond.code yX5_lowestFitting cX5_lowestFitting 4 (some .int), Cond.fieldLink RX5 22 "CastDesk$Wardrobe" "count" "I", Cond.fieldLink RX5 15 "CastDesk$Wardrobe" "parts" "[I", Cond.fieldLink RX5 9 "CastDesk$Wardrobe" "sizes" "[I", Cond.methodLink RX6 231 yX5_lowestToLetOut, Cond.instanceMethod yX5_lowestToLetOut, Cond.selects RX5 yX5_lowestToLetOut yX5_lowestToLetOut, Cond.code yX5_lowestToLetOut cX5_lowestToLetOut 4 (some .int), Cond.fieldLink RX5 18 "CastDesk$Wardrobe" "isLetOut" "[Z", Cond.methodLink RX6 237 yX1_offer, Cond.instanceMethod yX1_offer]
def wsX6_bestCast_r3 : List Cond := [Cond.selects RX1 yX1_offer yX1_offer, Cond.code yX1_offer cX1_offer 6 none, Cond.fieldLink RX1 15 "CastDesk$Casting" "keys" "[I", Cond.methodLink RX1 29 Lib.Math.max.name, Cond.static Lib.Math.max.name, Cond.initialized "java/lang/Math", Cond.code Lib.Math.max.name Lib.Math.max.code 2 (some .int), Cond.methodLink RX1 21 yX1_rankShift, Cond.static yX1_rankShift, Cond.code yX1_rankShift cX1_rankShift 1 (some .int), Cond.methodLink RX6 241 yX1_leastKey, Cond.instanceMethod yX1_leastKey, Cond.selects RX1 yX1_leastKey yX1_leastKey, Cond.code yX1_leastKey cX1_leastKey 6 (some .int), Cond.fieldLink RX1 18 "CastDesk$Casting" "leastOfSet" "[I", Cond.methodLink RX1 35 yJ6_bitCount_0f7a4, Cond.static yJ6_bitCount_0f7a4, Cond.initialized RJ6, Cond.code yJ6_bitCount_0f7a4 cJ6_bitCount_0f7a4 1 (some .int), Cond.constant RJ6 265 (1431655765), Cond.constant RJ6 266 (858993459), Cond.constant RJ6 267 (252645135), Cond.methodLink RX1 40 yX1_castPart, Cond.instanceMethod yX1_castPart]
def wsX6_bestCast_r4 : List Cond := [Cond.selects RX1 yX1_castPart yX1_castPart, Cond.code yX1_castPart cX1_castPart 9 none, Cond.static yX6_with, Cond.code yX6_with cX6_with 2 (some .int)]
def wsX6_bestCast : List Cond := .code yX6_bestCast cX6_bestCast 2 (some .int) :: ((wsX6_bestCast_r1 ++ (wsX6_bestCast_r2 ++ (wsX6_bestCast_r3 ++ wsX6_bestCast_r4))) ++ wsX60 ++ wsX40 ++ wsX10 ++ wsX30 ++ wsX50)
def wsX6_strain_r1 : List Cond := [Cond.fieldLink RX6 10 "CastDesk" "troupe" "LCastDesk$Troupe;", Cond.fieldLink RX6 139 "CastDesk$Troupe" "ill" "[I", Cond.methodLink RX6 132 yX6_needDay, Cond.static yX6_needDay, Cond.initialized RX6, Cond.code yX6_needDay cX6_needDay 2 none, Cond.classLink RX6 58 "java/lang/IllegalArgumentException", Cond.initialized "java/lang/IllegalArgumentException", Cond.methodLink RX6 150 yX6_bestCast, Cond.instanceMethod yX6_bestCast, Cond.selects RX6 yX6_bestCast yX6_bestCast, Cond.code yX6_bestCast cX6_bestCast 2 (some .int), Cond.fieldLink RX6 33 "CastDesk" "casting" "LCastDesk$Casting;", Cond.fieldLink RX6 51 "CastDesk" "partCount" "I", Cond.methodLink RX6 156 yX6_offerActors, Cond.instanceMethod yX6_offerActors, Cond.selects RX6 yX6_offerActors yX6_offerActors, Cond.code yX6_offerActors cX6_offerActors 6 none, Cond.fieldLink RX6 19 "CastDesk" "rows" "LCastDesk$Rows;", Cond.fieldLink RX6 26 "CastDesk" "wardrobe" "LCastDesk$Wardrobe;", Cond.fieldLink RX6 72 "CastDesk$Troupe" "sizes" "[I", Cond.methodLink RX6 234 yX1_clear, Cond.instanceMethod yX1_clear, Cond.selects RX1 yX1_clear yX1_clear]
def wsX6_strain_r2 : List Cond := [Cond.initialized RX1, Cond.code yX1_clear cX1_clear 2 none, Cond.fieldLink RX1 11 "CastDesk$Casting" "actors" "[I", Cond.fieldLink RX1 25 "CastDesk$Casting" "setsBound" "I", Cond.methodLink RX6 193 yX3_actorAt, Cond.instanceMethod yX3_actorAt, Cond.selects RX3 yX3_actorAt yX3_actorAt, Cond.initialized RX3, Cond.code yX3_actorAt cX3_actorAt 3 (some .int), Cond.fieldLink RX3 15 "CastDesk$Rows" "lengths" "[I", Cond.fieldLink RX3 9 "CastDesk$Rows" "actors" "[I", Cond.methodLink RX6 146 yX6_isReady, Cond.instanceMethod yX6_isReady, Cond.selects RX6 yX6_isReady yX6_isReady, Cond.code yX6_isReady cX6_isReady 5 (some .boolean), Cond.fieldLink RX6 79 "CastDesk$Troupe" "known" "[I", Cond.methodLink RX6 142 yX6_has, Cond.static yX6_has, Cond.code yX6_has cX6_has 2 (some .boolean), Cond.methodLink RX6 228 yX5_lowestFitting, Cond.instanceMethod yX5_lowestFitting, Cond.selects RX5 yX5_lowestFitting yX5_lowestFitting, Cond.initialized RX5, Cond.code yX5_lowestFitting cX5_lowestFitting 4 (some .int)]
def wsX6_strain_r3 : List Cond := [Cond.fieldLink RX5 22 "CastDesk$Wardrobe" "count" "I", Cond.fieldLink RX5 15 "CastDesk$Wardrobe" "parts" "[I", Cond.fieldLink RX5 9 "CastDesk$Wardrobe" "sizes" "[I", Cond.methodLink RX6 231 yX5_lowestToLetOut, Cond.instanceMethod yX5_lowestToLetOut, Cond.selects RX5 yX5_lowestToLetOut yX5_lowestToLetOut, Cond.code yX5_lowestToLetOut cX5_lowestToLetOut 4 (some .int), Cond.fieldLink RX5 18 "CastDesk$Wardrobe" "isLetOut" "[Z", Cond.methodLink RX6 237 yX1_offer, Cond.instanceMethod yX1_offer, Cond.selects RX1 yX1_offer yX1_offer, Cond.code yX1_offer cX1_offer 6 none, Cond.fieldLink RX1 15 "CastDesk$Casting" "keys" "[I", Cond.methodLink RX1 29 Lib.Math.max.name, Cond.static Lib.Math.max.name, Cond.initialized "java/lang/Math", Cond.code Lib.Math.max.name Lib.Math.max.code 2 (some .int), Cond.methodLink RX1 21 yX1_rankShift, Cond.static yX1_rankShift, Cond.code yX1_rankShift cX1_rankShift 1 (some .int), Cond.methodLink RX6 241 yX1_leastKey, Cond.instanceMethod yX1_leastKey, Cond.selects RX1 yX1_leastKey yX1_leastKey, Cond.code yX1_leastKey cX1_leastKey 6 (some .int)]
def wsX6_strain_r4 : List Cond := [Cond.fieldLink RX1 18 "CastDesk$Casting" "leastOfSet" "[I", Cond.methodLink RX1 35 yJ6_bitCount_0f7a4, Cond.static yJ6_bitCount_0f7a4, Cond.initialized RJ6, Cond.code yJ6_bitCount_0f7a4 cJ6_bitCount_0f7a4 1 (some .int), Cond.constant RJ6 265 (1431655765), Cond.constant RJ6 266 (858993459), Cond.constant RJ6 267 (252645135), Cond.methodLink RX1 40 yX1_castPart, Cond.instanceMethod yX1_castPart, Cond.selects RX1 yX1_castPart yX1_castPart, Cond.code yX1_castPart cX1_castPart 9 none, Cond.static yX6_with, Cond.code yX6_with cX6_with 2 (some .int), Cond.methodLink RX6 153 yX1_strainOf, Cond.static yX1_strainOf, Cond.code yX1_strainOf cX1_strainOf 1 (some .int)]
def wsX6_strain : List Cond := .code yX6_strain cX6_strain 3 (some .int) :: ((wsX6_strain_r1 ++ (wsX6_strain_r2 ++ (wsX6_strain_r3 ++ wsX6_strain_r4))) ++ wsX60 ++ wsX40 ++ wsX10 ++ wsX30 ++ wsX50 ++ (vx_atS RX6 62 "java/lang/IllegalArgumentException" ["java/lang/RuntimeException", "java/lang/Exception"]).filter goodWord)
def wsX6_strainByAll_r1 : List Cond := [Cond.fieldLink RX6 10 "CastDesk" "troupe" "LCastDesk$Troupe;", Cond.fieldLink RX6 139 "CastDesk$Troupe" "ill" "[I", Cond.fieldLink RX6 33 "CastDesk" "casting" "LCastDesk$Casting;", Cond.fieldLink RX6 51 "CastDesk" "partCount" "I", Cond.methodLink RX6 132 yX6_needDay, Cond.static yX6_needDay, Cond.initialized RX6, Cond.code yX6_needDay cX6_needDay 2 none, Cond.classLink RX6 58 "java/lang/IllegalArgumentException", Cond.initialized "java/lang/IllegalArgumentException", Cond.methodLink RX6 156 yX6_offerActors, Cond.instanceMethod yX6_offerActors, Cond.selects RX6 yX6_offerActors yX6_offerActors, Cond.code yX6_offerActors cX6_offerActors 6 none, Cond.fieldLink RX6 19 "CastDesk" "rows" "LCastDesk$Rows;", Cond.fieldLink RX6 26 "CastDesk" "wardrobe" "LCastDesk$Wardrobe;", Cond.fieldLink RX6 72 "CastDesk$Troupe" "sizes" "[I", Cond.methodLink RX6 234 yX1_clear, Cond.instanceMethod yX1_clear, Cond.selects RX1 yX1_clear yX1_clear, Cond.initialized RX1, Cond.code yX1_clear cX1_clear 2 none, Cond.fieldLink RX1 11 "CastDesk$Casting" "actors" "[I", Cond.fieldLink RX1 25 "CastDesk$Casting" "setsBound" "I"]
def wsX6_strainByAll_r2 : List Cond := [Cond.methodLink RX6 193 yX3_actorAt, Cond.instanceMethod yX3_actorAt, Cond.selects RX3 yX3_actorAt yX3_actorAt, Cond.initialized RX3, Cond.code yX3_actorAt cX3_actorAt 3 (some .int), Cond.fieldLink RX3 15 "CastDesk$Rows" "lengths" "[I", Cond.fieldLink RX3 9 "CastDesk$Rows" "actors" "[I", Cond.methodLink RX6 146 yX6_isReady, Cond.instanceMethod yX6_isReady, Cond.selects RX6 yX6_isReady yX6_isReady, Cond.code yX6_isReady cX6_isReady 5 (some .boolean), Cond.fieldLink RX6 79 "CastDesk$Troupe" "known" "[I", Cond.methodLink RX6 142 yX6_has, Cond.static yX6_has, Cond.code yX6_has cX6_has 2 (some .boolean), Cond.methodLink RX6 228 yX5_lowestFitting, Cond.instanceMethod yX5_lowestFitting, Cond.selects RX5 yX5_lowestFitting yX5_lowestFitting, Cond.initialized RX5, Cond.code yX5_lowestFitting cX5_lowestFitting 4 (some .int), Cond.fieldLink RX5 22 "CastDesk$Wardrobe" "count" "I", Cond.fieldLink RX5 15 "CastDesk$Wardrobe" "parts" "[I", Cond.fieldLink RX5 9 "CastDesk$Wardrobe" "sizes" "[I", Cond.methodLink RX6 231 yX5_lowestToLetOut]
def wsX6_strainByAll_r3 : List Cond := [Cond.instanceMethod yX5_lowestToLetOut, Cond.selects RX5 yX5_lowestToLetOut yX5_lowestToLetOut, Cond.code yX5_lowestToLetOut cX5_lowestToLetOut 4 (some .int), Cond.fieldLink RX5 18 "CastDesk$Wardrobe" "isLetOut" "[Z", Cond.methodLink RX6 237 yX1_offer, Cond.instanceMethod yX1_offer, Cond.selects RX1 yX1_offer yX1_offer, Cond.code yX1_offer cX1_offer 6 none, Cond.fieldLink RX1 15 "CastDesk$Casting" "keys" "[I", Cond.methodLink RX1 29 Lib.Math.max.name, Cond.static Lib.Math.max.name, Cond.initialized "java/lang/Math", Cond.code Lib.Math.max.name Lib.Math.max.code 2 (some .int), Cond.methodLink RX1 21 yX1_rankShift, Cond.static yX1_rankShift, Cond.code yX1_rankShift cX1_rankShift 1 (some .int), Cond.methodLink RX6 159 yX1_leastStrain, Cond.instanceMethod yX1_leastStrain, Cond.selects RX1 yX1_leastStrain yX1_leastStrain, Cond.code yX1_leastStrain cX1_leastStrain 2 (some .int), Cond.methodLink RX1 51 yX1_leastFrom, Cond.static yX1_leastFrom, Cond.code yX1_leastFrom cX1_leastFrom 8 (some .int), Cond.static yX6_with]
def wsX6_strainByAll_r4 : List Cond := [Cond.code yX6_with cX6_with 2 (some .int)]
def wsX6_strainByAll : List Cond := .code yX6_strainByAll cX6_strainByAll 2 (some .int) :: ((wsX6_strainByAll_r1 ++ (wsX6_strainByAll_r2 ++ (wsX6_strainByAll_r3 ++ wsX6_strainByAll_r4))) ++ wsX60 ++ wsX40 ++ wsX10 ++ wsX30 ++ wsX50 ++ (vx_atS RX6 62 "java/lang/IllegalArgumentException" ["java/lang/RuntimeException", "java/lang/Exception"]).filter goodWord)
def wsX6_work_r1 : List Cond := [Cond.fieldLink RX6 10 "CastDesk" "troupe" "LCastDesk$Troupe;", Cond.fieldLink RX6 139 "CastDesk$Troupe" "ill" "[I", Cond.methodLink RX6 132 yX6_needDay, Cond.static yX6_needDay, Cond.initialized RX6, Cond.code yX6_needDay cX6_needDay 2 none, Cond.classLink RX6 58 "java/lang/IllegalArgumentException", Cond.initialized "java/lang/IllegalArgumentException", Cond.methodLink RX6 150 yX6_bestCast, Cond.instanceMethod yX6_bestCast, Cond.selects RX6 yX6_bestCast yX6_bestCast, Cond.code yX6_bestCast cX6_bestCast 2 (some .int), Cond.fieldLink RX6 33 "CastDesk" "casting" "LCastDesk$Casting;", Cond.fieldLink RX6 51 "CastDesk" "partCount" "I", Cond.methodLink RX6 156 yX6_offerActors, Cond.instanceMethod yX6_offerActors, Cond.selects RX6 yX6_offerActors yX6_offerActors, Cond.code yX6_offerActors cX6_offerActors 6 none, Cond.fieldLink RX6 19 "CastDesk" "rows" "LCastDesk$Rows;", Cond.fieldLink RX6 26 "CastDesk" "wardrobe" "LCastDesk$Wardrobe;", Cond.fieldLink RX6 72 "CastDesk$Troupe" "sizes" "[I", Cond.methodLink RX6 234 yX1_clear, Cond.instanceMethod yX1_clear, Cond.selects RX1 yX1_clear yX1_clear]
def wsX6_work_r2 : List Cond := [Cond.initialized RX1, Cond.code yX1_clear cX1_clear 2 none, Cond.fieldLink RX1 11 "CastDesk$Casting" "actors" "[I", Cond.fieldLink RX1 25 "CastDesk$Casting" "setsBound" "I", Cond.methodLink RX6 193 yX3_actorAt, Cond.instanceMethod yX3_actorAt, Cond.selects RX3 yX3_actorAt yX3_actorAt, Cond.initialized RX3, Cond.code yX3_actorAt cX3_actorAt 3 (some .int), Cond.fieldLink RX3 15 "CastDesk$Rows" "lengths" "[I", Cond.fieldLink RX3 9 "CastDesk$Rows" "actors" "[I", Cond.methodLink RX6 146 yX6_isReady, Cond.instanceMethod yX6_isReady, Cond.selects RX6 yX6_isReady yX6_isReady, Cond.code yX6_isReady cX6_isReady 5 (some .boolean), Cond.fieldLink RX6 79 "CastDesk$Troupe" "known" "[I", Cond.methodLink RX6 142 yX6_has, Cond.static yX6_has, Cond.code yX6_has cX6_has 2 (some .boolean), Cond.methodLink RX6 228 yX5_lowestFitting, Cond.instanceMethod yX5_lowestFitting, Cond.selects RX5 yX5_lowestFitting yX5_lowestFitting, Cond.initialized RX5, Cond.code yX5_lowestFitting cX5_lowestFitting 4 (some .int)]
def wsX6_work_r3 : List Cond := [Cond.fieldLink RX5 22 "CastDesk$Wardrobe" "count" "I", Cond.fieldLink RX5 15 "CastDesk$Wardrobe" "parts" "[I", Cond.fieldLink RX5 9 "CastDesk$Wardrobe" "sizes" "[I", Cond.methodLink RX6 231 yX5_lowestToLetOut, Cond.instanceMethod yX5_lowestToLetOut, Cond.selects RX5 yX5_lowestToLetOut yX5_lowestToLetOut, Cond.code yX5_lowestToLetOut cX5_lowestToLetOut 4 (some .int), Cond.fieldLink RX5 18 "CastDesk$Wardrobe" "isLetOut" "[Z", Cond.methodLink RX6 237 yX1_offer, Cond.instanceMethod yX1_offer, Cond.selects RX1 yX1_offer yX1_offer, Cond.code yX1_offer cX1_offer 6 none, Cond.fieldLink RX1 15 "CastDesk$Casting" "keys" "[I", Cond.methodLink RX1 29 Lib.Math.max.name, Cond.static Lib.Math.max.name, Cond.initialized "java/lang/Math", Cond.code Lib.Math.max.name Lib.Math.max.code 2 (some .int), Cond.methodLink RX1 21 yX1_rankShift, Cond.static yX1_rankShift, Cond.code yX1_rankShift cX1_rankShift 1 (some .int), Cond.methodLink RX6 241 yX1_leastKey, Cond.instanceMethod yX1_leastKey, Cond.selects RX1 yX1_leastKey yX1_leastKey, Cond.code yX1_leastKey cX1_leastKey 6 (some .int)]
def wsX6_work_r4 : List Cond := [Cond.fieldLink RX1 18 "CastDesk$Casting" "leastOfSet" "[I", Cond.methodLink RX1 35 yJ6_bitCount_0f7a4, Cond.static yJ6_bitCount_0f7a4, Cond.initialized RJ6, Cond.code yJ6_bitCount_0f7a4 cJ6_bitCount_0f7a4 1 (some .int), Cond.constant RJ6 265 (1431655765), Cond.constant RJ6 266 (858993459), Cond.constant RJ6 267 (252645135), Cond.methodLink RX1 40 yX1_castPart, Cond.instanceMethod yX1_castPart, Cond.selects RX1 yX1_castPart yX1_castPart, Cond.code yX1_castPart cX1_castPart 9 none, Cond.static yX6_with, Cond.code yX6_with cX6_with 2 (some .int), Cond.methodLink RX6 162 yX1_workOf, Cond.static yX1_workOf, Cond.code yX1_workOf cX1_workOf 1 (some .int)]
def wsX6_work : List Cond := .code yX6_work cX6_work 3 (some .int) :: ((wsX6_work_r1 ++ (wsX6_work_r2 ++ (wsX6_work_r3 ++ wsX6_work_r4))) ++ wsX60 ++ wsX40 ++ wsX10 ++ wsX30 ++ wsX50 ++ (vx_atS RX6 62 "java/lang/IllegalArgumentException" ["java/lang/RuntimeException", "java/lang/Exception"]).filter goodWord)
def wsX6_actorIn : List Cond := .code yX6_actorIn cX6_actorIn 3 (some .int) :: ([.fieldLink RX6 19 "CastDesk" "rows" "LCastDesk$Rows;", .methodLink RX6 244 yX1_rankOf, .static yX1_rankOf, .initialized RX1, .code yX1_rankOf cX1_rankOf 2 (some .int), .methodLink RX1 21 yX1_rankShift, .static yX1_rankShift, .code yX1_rankShift cX1_rankShift 1 (some .int), .methodLink RX6 193 yX3_actorAt, .instanceMethod yX3_actorAt, .selects RX3 yX3_actorAt yX3_actorAt, .initialized RX3, .code yX3_actorAt cX3_actorAt 3 (some .int), .fieldLink RX3 15 "CastDesk$Rows" "lengths" "[I", .fieldLink RX3 9 "CastDesk$Rows" "actors" "[I"] ++ wsX60 ++ wsX30)
def wsX6_actorFor_r1 : List Cond := [Cond.fieldLink RX6 10 "CastDesk" "troupe" "LCastDesk$Troupe;", Cond.fieldLink RX6 139 "CastDesk$Troupe" "ill" "[I", Cond.fieldLink RX6 51 "CastDesk" "partCount" "I", Cond.methodLink RX6 76 yX6_needPart, Cond.static yX6_needPart, Cond.initialized RX6, Cond.code yX6_needPart cX6_needPart 1 none, Cond.classLink RX6 215 "java/lang/IndexOutOfBoundsException", Cond.initialized "java/lang/IndexOutOfBoundsException", Cond.methodLink RX6 132 yX6_needDay, Cond.static yX6_needDay, Cond.code yX6_needDay cX6_needDay 2 none, Cond.classLink RX6 58 "java/lang/IllegalArgumentException", Cond.initialized "java/lang/IllegalArgumentException", Cond.methodLink RX6 150 yX6_bestCast, Cond.instanceMethod yX6_bestCast, Cond.selects RX6 yX6_bestCast yX6_bestCast, Cond.code yX6_bestCast cX6_bestCast 2 (some .int), Cond.fieldLink RX6 33 "CastDesk" "casting" "LCastDesk$Casting;", Cond.methodLink RX6 156 yX6_offerActors, Cond.instanceMethod yX6_offerActors, Cond.selects RX6 yX6_offerActors yX6_offerActors, Cond.code yX6_offerActors cX6_offerActors 6 none, Cond.fieldLink RX6 19 "CastDesk" "rows" "LCastDesk$Rows;"]
def wsX6_actorFor_r2 : List Cond := [Cond.fieldLink RX6 26 "CastDesk" "wardrobe" "LCastDesk$Wardrobe;", Cond.fieldLink RX6 72 "CastDesk$Troupe" "sizes" "[I", Cond.methodLink RX6 234 yX1_clear, Cond.instanceMethod yX1_clear, Cond.selects RX1 yX1_clear yX1_clear, Cond.initialized RX1, Cond.code yX1_clear cX1_clear 2 none, Cond.fieldLink RX1 11 "CastDesk$Casting" "actors" "[I", Cond.fieldLink RX1 25 "CastDesk$Casting" "setsBound" "I", Cond.methodLink RX6 193 yX3_actorAt, Cond.instanceMethod yX3_actorAt, Cond.selects RX3 yX3_actorAt yX3_actorAt, Cond.initialized RX3, Cond.code yX3_actorAt cX3_actorAt 3 (some .int), Cond.fieldLink RX3 15 "CastDesk$Rows" "lengths" "[I", Cond.fieldLink RX3 9 "CastDesk$Rows" "actors" "[I", Cond.methodLink RX6 146 yX6_isReady, Cond.instanceMethod yX6_isReady, Cond.selects RX6 yX6_isReady yX6_isReady, Cond.code yX6_isReady cX6_isReady 5 (some .boolean), Cond.fieldLink RX6 79 "CastDesk$Troupe" "known" "[I", Cond.methodLink RX6 142 yX6_has, Cond.static yX6_has, Cond.code yX6_has cX6_has 2 (some .boolean)]
def wsX6_actorFor_r3 : List Cond := [Cond.methodLink RX6 228 yX5_lowestFitting, Cond.instanceMethod yX5_lowestFitting, Cond.selects RX5 yX5_lowestFitting yX5_lowestFitting, Cond.initialized RX5, Cond.code yX5_lowestFitting cX5_lowestFitting 4 (some .int), Cond.fieldLink RX5 22 "CastDesk$Wardrobe" "count" "I", Cond.fieldLink RX5 15 "CastDesk$Wardrobe" "parts" "[I", Cond.fieldLink RX5 9 "CastDesk$Wardrobe" "sizes" "[I", Cond.methodLink RX6 231 yX5_lowestToLetOut, Cond.instanceMethod yX5_lowestToLetOut, Cond.selects RX5 yX5_lowestToLetOut yX5_lowestToLetOut, Cond.code yX5_lowestToLetOut cX5_lowestToLetOut 4 (some .int), Cond.fieldLink RX5 18 "CastDesk$Wardrobe" "isLetOut" "[Z", Cond.methodLink RX6 237 yX1_offer, Cond.instanceMethod yX1_offer, Cond.selects RX1 yX1_offer yX1_offer, Cond.code yX1_offer cX1_offer 6 none, Cond.fieldLink RX1 15 "CastDesk$Casting" "keys" "[I", Cond.methodLink RX1 29 Lib.Math.max.name, Cond.static Lib.Math.max.name, Cond.initialized "java/lang/Math", Cond.code Lib.Math.max.name Lib.Math.max.code 2 (some .int), Cond.methodLink RX1 21 yX1_rankShift, Cond.static yX1_rankShift]
def wsX6_actorFor_r4 : List Cond := [Cond.code yX1_rankShift cX1_rankShift 1 (some .int), Cond.methodLink RX6 241 yX1_leastKey, Cond.instanceMethod yX1_leastKey, Cond.selects RX1 yX1_leastKey yX1_leastKey, Cond.code yX1_leastKey cX1_leastKey 6 (some .int), Cond.fieldLink RX1 18 "CastDesk$Casting" "leastOfSet" "[I", Cond.methodLink RX1 35 yJ6_bitCount_0f7a4, Cond.static yJ6_bitCount_0f7a4, Cond.initialized RJ6, Cond.code yJ6_bitCount_0f7a4 cJ6_bitCount_0f7a4 1 (some .int), Cond.constant RJ6 265 (1431655765), Cond.constant RJ6 266 (858993459), Cond.constant RJ6 267 (252645135), Cond.methodLink RX1 40 yX1_castPart, Cond.instanceMethod yX1_castPart, Cond.selects RX1 yX1_castPart yX1_castPart, Cond.code yX1_castPart cX1_castPart 9 none, Cond.static yX6_with, Cond.code yX6_with cX6_with 2 (some .int), Cond.methodLink RX6 165 yX6_actorIn, Cond.instanceMethod yX6_actorIn, Cond.selects RX6 yX6_actorIn yX6_actorIn, Cond.code yX6_actorIn cX6_actorIn 3 (some .int), Cond.methodLink RX6 244 yX1_rankOf]
def wsX6_actorFor_r5 : List Cond := [Cond.static yX1_rankOf, Cond.code yX1_rankOf cX1_rankOf 2 (some .int)]
def wsX6_actorFor : List Cond := .code yX6_actorFor cX6_actorFor 4 (some .int) :: ((wsX6_actorFor_r1 ++ (wsX6_actorFor_r2 ++ (wsX6_actorFor_r3 ++ (wsX6_actorFor_r4 ++ wsX6_actorFor_r5)))) ++ wsX60 ++ wsX40 ++ wsX10 ++ wsX30 ++ wsX50 ++ (vx_atS RX6 219 "java/lang/IndexOutOfBoundsException" ["java/lang/RuntimeException", "java/lang/Exception"]).filter goodWord ++ (vx_atS RX6 62 "java/lang/IllegalArgumentException" ["java/lang/RuntimeException", "java/lang/Exception"]).filter goodWord)
def wsX6_countOthers : List Cond := .code yX6_countOthers cX6_countOthers 5 (some .int) :: ([.fieldLink RX6 51 "CastDesk" "partCount" "I", .methodLink RX6 165 yX6_actorIn, .instanceMethod yX6_actorIn, .selects RX6 yX6_actorIn yX6_actorIn, .initialized RX6, .code yX6_actorIn cX6_actorIn 3 (some .int), .fieldLink RX6 19 "CastDesk" "rows" "LCastDesk$Rows;", .methodLink RX6 244 yX1_rankOf, .static yX1_rankOf, .initialized RX1, .code yX1_rankOf cX1_rankOf 2 (some .int), .methodLink RX1 21 yX1_rankShift, .static yX1_rankShift, .code yX1_rankShift cX1_rankShift 1 (some .int), .methodLink RX6 193 yX3_actorAt, .instanceMethod yX3_actorAt, .selects RX3 yX3_actorAt yX3_actorAt, .initialized RX3, .code yX3_actorAt cX3_actorAt 3 (some .int), .fieldLink RX3 15 "CastDesk$Rows" "lengths" "[I", .fieldLink RX3 9 "CastDesk$Rows" "actors" "[I"] ++ wsX60 ++ wsX30)
def wsX6_chain_r1 : List Cond := [Cond.fieldLink RX6 10 "CastDesk" "troupe" "LCastDesk$Troupe;", Cond.fieldLink RX6 139 "CastDesk$Troupe" "ill" "[I", Cond.methodLink RX6 65 yX6_needActor, Cond.static yX6_needActor, Cond.initialized RX6, Cond.code yX6_needActor cX6_needActor 1 none, Cond.classLink RX6 215 "java/lang/IndexOutOfBoundsException", Cond.initialized "java/lang/IndexOutOfBoundsException", Cond.methodLink RX6 132 yX6_needDay, Cond.static yX6_needDay, Cond.code yX6_needDay cX6_needDay 2 none, Cond.classLink RX6 58 "java/lang/IllegalArgumentException", Cond.initialized "java/lang/IllegalArgumentException", Cond.methodLink RX6 150 yX6_bestCast, Cond.instanceMethod yX6_bestCast, Cond.selects RX6 yX6_bestCast yX6_bestCast, Cond.code yX6_bestCast cX6_bestCast 2 (some .int), Cond.fieldLink RX6 33 "CastDesk" "casting" "LCastDesk$Casting;", Cond.fieldLink RX6 51 "CastDesk" "partCount" "I", Cond.methodLink RX6 156 yX6_offerActors, Cond.instanceMethod yX6_offerActors, Cond.selects RX6 yX6_offerActors yX6_offerActors, Cond.code yX6_offerActors cX6_offerActors 6 none, Cond.fieldLink RX6 19 "CastDesk" "rows" "LCastDesk$Rows;"]
def wsX6_chain_r2 : List Cond := [Cond.fieldLink RX6 26 "CastDesk" "wardrobe" "LCastDesk$Wardrobe;", Cond.fieldLink RX6 72 "CastDesk$Troupe" "sizes" "[I", Cond.methodLink RX6 234 yX1_clear, Cond.instanceMethod yX1_clear, Cond.selects RX1 yX1_clear yX1_clear, Cond.initialized RX1, Cond.code yX1_clear cX1_clear 2 none, Cond.fieldLink RX1 11 "CastDesk$Casting" "actors" "[I", Cond.fieldLink RX1 25 "CastDesk$Casting" "setsBound" "I", Cond.methodLink RX6 193 yX3_actorAt, Cond.instanceMethod yX3_actorAt, Cond.selects RX3 yX3_actorAt yX3_actorAt, Cond.initialized RX3, Cond.code yX3_actorAt cX3_actorAt 3 (some .int), Cond.fieldLink RX3 15 "CastDesk$Rows" "lengths" "[I", Cond.fieldLink RX3 9 "CastDesk$Rows" "actors" "[I", Cond.methodLink RX6 146 yX6_isReady, Cond.instanceMethod yX6_isReady, Cond.selects RX6 yX6_isReady yX6_isReady, Cond.code yX6_isReady cX6_isReady 5 (some .boolean), Cond.fieldLink RX6 79 "CastDesk$Troupe" "known" "[I", Cond.methodLink RX6 142 yX6_has, Cond.static yX6_has, Cond.code yX6_has cX6_has 2 (some .boolean)]
def wsX6_chain_r3 : List Cond := [Cond.methodLink RX6 228 yX5_lowestFitting, Cond.instanceMethod yX5_lowestFitting, Cond.selects RX5 yX5_lowestFitting yX5_lowestFitting, Cond.initialized RX5, Cond.code yX5_lowestFitting cX5_lowestFitting 4 (some .int), Cond.fieldLink RX5 22 "CastDesk$Wardrobe" "count" "I", Cond.fieldLink RX5 15 "CastDesk$Wardrobe" "parts" "[I", Cond.fieldLink RX5 9 "CastDesk$Wardrobe" "sizes" "[I", Cond.methodLink RX6 231 yX5_lowestToLetOut, Cond.instanceMethod yX5_lowestToLetOut, Cond.selects RX5 yX5_lowestToLetOut yX5_lowestToLetOut, Cond.code yX5_lowestToLetOut cX5_lowestToLetOut 4 (some .int), Cond.fieldLink RX5 18 "CastDesk$Wardrobe" "isLetOut" "[Z", Cond.methodLink RX6 237 yX1_offer, Cond.instanceMethod yX1_offer, Cond.selects RX1 yX1_offer yX1_offer, Cond.code yX1_offer cX1_offer 6 none, Cond.fieldLink RX1 15 "CastDesk$Casting" "keys" "[I", Cond.methodLink RX1 29 Lib.Math.max.name, Cond.static Lib.Math.max.name, Cond.initialized "java/lang/Math", Cond.code Lib.Math.max.name Lib.Math.max.code 2 (some .int), Cond.methodLink RX1 21 yX1_rankShift, Cond.static yX1_rankShift]
def wsX6_chain_r4 : List Cond := [Cond.code yX1_rankShift cX1_rankShift 1 (some .int), Cond.methodLink RX6 241 yX1_leastKey, Cond.instanceMethod yX1_leastKey, Cond.selects RX1 yX1_leastKey yX1_leastKey, Cond.code yX1_leastKey cX1_leastKey 6 (some .int), Cond.fieldLink RX1 18 "CastDesk$Casting" "leastOfSet" "[I", Cond.methodLink RX1 35 yJ6_bitCount_0f7a4, Cond.static yJ6_bitCount_0f7a4, Cond.initialized RJ6, Cond.code yJ6_bitCount_0f7a4 cJ6_bitCount_0f7a4 1 (some .int), Cond.constant RJ6 265 (1431655765), Cond.constant RJ6 266 (858993459), Cond.constant RJ6 267 (252645135), Cond.methodLink RX1 40 yX1_castPart, Cond.instanceMethod yX1_castPart, Cond.selects RX1 yX1_castPart yX1_castPart, Cond.code yX1_castPart cX1_castPart 9 none, Cond.static yX6_with, Cond.code yX6_with cX6_with 2 (some .int), Cond.methodLink RX6 82 yX6_with, Cond.methodLink RX6 168 yX6_countOthers, Cond.instanceMethod yX6_countOthers, Cond.selects RX6 yX6_countOthers yX6_countOthers, Cond.code yX6_countOthers cX6_countOthers 5 (some .int)]
def wsX6_chain_r5 : List Cond := [Cond.methodLink RX6 165 yX6_actorIn, Cond.instanceMethod yX6_actorIn, Cond.selects RX6 yX6_actorIn yX6_actorIn, Cond.code yX6_actorIn cX6_actorIn 3 (some .int), Cond.methodLink RX6 244 yX1_rankOf, Cond.static yX1_rankOf, Cond.code yX1_rankOf cX1_rankOf 2 (some .int)]
def wsX6_chain : List Cond := .code yX6_chain cX6_chain 5 (some .int) :: ((wsX6_chain_r1 ++ (wsX6_chain_r2 ++ (wsX6_chain_r3 ++ (wsX6_chain_r4 ++ wsX6_chain_r5)))) ++ wsX60 ++ wsX40 ++ wsX10 ++ wsX30 ++ wsX50 ++ (vx_atS RX6 219 "java/lang/IndexOutOfBoundsException" ["java/lang/RuntimeException", "java/lang/Exception"]).filter goodWord ++ (vx_atS RX6 62 "java/lang/IllegalArgumentException" ["java/lang/RuntimeException", "java/lang/Exception"]).filter goodWord)
def wsJ9_max_7cf53 : List Cond := .code yJ9_max_7cf53 cJ9_max_7cf53 2 (some .int) :: ([])
def wsL_cell : List Cond := .code yL_cell cL_cell 2 (some .int) :: ([.constant RL 7 (986798887)])
def wsL_at : List Cond := .code yL_at cL_at 2 (some .int) :: ([])
def wsL_rank : List Cond := .code yL_rank cL_rank 5 (some .int) :: ([])
def wsL_plays_r1 : List Cond := [Cond.methodLink RL 8 yX6_actorFor, Cond.instanceMethod yX6_actorFor, Cond.selects RX6 yX6_actorFor yX6_actorFor, Cond.initialized RX6, Cond.code yX6_actorFor cX6_actorFor 4 (some .int), Cond.fieldLink RX6 10 "CastDesk" "troupe" "LCastDesk$Troupe;", Cond.fieldLink RX6 139 "CastDesk$Troupe" "ill" "[I", Cond.fieldLink RX6 51 "CastDesk" "partCount" "I", Cond.methodLink RX6 76 yX6_needPart, Cond.static yX6_needPart, Cond.code yX6_needPart cX6_needPart 1 none, Cond.classLink RX6 215 "java/lang/IndexOutOfBoundsException", Cond.initialized "java/lang/IndexOutOfBoundsException", Cond.methodLink RX6 132 yX6_needDay, Cond.static yX6_needDay, Cond.code yX6_needDay cX6_needDay 2 none, Cond.classLink RX6 58 "java/lang/IllegalArgumentException", Cond.initialized "java/lang/IllegalArgumentException", Cond.methodLink RX6 150 yX6_bestCast, Cond.instanceMethod yX6_bestCast, Cond.selects RX6 yX6_bestCast yX6_bestCast, Cond.code yX6_bestCast cX6_bestCast 2 (some .int), Cond.fieldLink RX6 33 "CastDesk" "casting" "LCastDesk$Casting;", Cond.methodLink RX6 156 yX6_offerActors]
def wsL_plays_r2 : List Cond := [Cond.instanceMethod yX6_offerActors, Cond.selects RX6 yX6_offerActors yX6_offerActors, Cond.code yX6_offerActors cX6_offerActors 6 none, Cond.fieldLink RX6 19 "CastDesk" "rows" "LCastDesk$Rows;", Cond.fieldLink RX6 26 "CastDesk" "wardrobe" "LCastDesk$Wardrobe;", Cond.fieldLink RX6 72 "CastDesk$Troupe" "sizes" "[I", Cond.methodLink RX6 234 yX1_clear, Cond.instanceMethod yX1_clear, Cond.selects RX1 yX1_clear yX1_clear, Cond.initialized RX1, Cond.code yX1_clear cX1_clear 2 none, Cond.fieldLink RX1 11 "CastDesk$Casting" "actors" "[I", Cond.fieldLink RX1 25 "CastDesk$Casting" "setsBound" "I", Cond.methodLink RX6 193 yX3_actorAt, Cond.instanceMethod yX3_actorAt, Cond.selects RX3 yX3_actorAt yX3_actorAt, Cond.initialized RX3, Cond.code yX3_actorAt cX3_actorAt 3 (some .int), Cond.fieldLink RX3 15 "CastDesk$Rows" "lengths" "[I", Cond.fieldLink RX3 9 "CastDesk$Rows" "actors" "[I", Cond.methodLink RX6 146 yX6_isReady, Cond.instanceMethod yX6_isReady, Cond.selects RX6 yX6_isReady yX6_isReady, Cond.code yX6_isReady cX6_isReady 5 (some .boolean)]
def wsL_plays_r3 : List Cond := [Cond.fieldLink RX6 79 "CastDesk$Troupe" "known" "[I", Cond.methodLink RX6 142 yX6_has, Cond.static yX6_has, Cond.code yX6_has cX6_has 2 (some .boolean), Cond.methodLink RX6 228 yX5_lowestFitting, Cond.instanceMethod yX5_lowestFitting, Cond.selects RX5 yX5_lowestFitting yX5_lowestFitting, Cond.initialized RX5, Cond.code yX5_lowestFitting cX5_lowestFitting 4 (some .int), Cond.fieldLink RX5 22 "CastDesk$Wardrobe" "count" "I", Cond.fieldLink RX5 15 "CastDesk$Wardrobe" "parts" "[I", Cond.fieldLink RX5 9 "CastDesk$Wardrobe" "sizes" "[I", Cond.methodLink RX6 231 yX5_lowestToLetOut, Cond.instanceMethod yX5_lowestToLetOut, Cond.selects RX5 yX5_lowestToLetOut yX5_lowestToLetOut, Cond.code yX5_lowestToLetOut cX5_lowestToLetOut 4 (some .int), Cond.fieldLink RX5 18 "CastDesk$Wardrobe" "isLetOut" "[Z", Cond.methodLink RX6 237 yX1_offer, Cond.instanceMethod yX1_offer, Cond.selects RX1 yX1_offer yX1_offer, Cond.code yX1_offer cX1_offer 6 none, Cond.fieldLink RX1 15 "CastDesk$Casting" "keys" "[I", Cond.methodLink RX1 29 Lib.Math.max.name, Cond.static Lib.Math.max.name]
def wsL_plays_r4 : List Cond := [Cond.initialized "java/lang/Math", Cond.code Lib.Math.max.name Lib.Math.max.code 2 (some .int), Cond.methodLink RX1 21 yX1_rankShift, Cond.static yX1_rankShift, Cond.code yX1_rankShift cX1_rankShift 1 (some .int), Cond.methodLink RX6 241 yX1_leastKey, Cond.instanceMethod yX1_leastKey, Cond.selects RX1 yX1_leastKey yX1_leastKey, Cond.code yX1_leastKey cX1_leastKey 6 (some .int), Cond.fieldLink RX1 18 "CastDesk$Casting" "leastOfSet" "[I", Cond.methodLink RX1 35 yJ6_bitCount_0f7a4, Cond.static yJ6_bitCount_0f7a4, Cond.initialized RJ6, Cond.code yJ6_bitCount_0f7a4 cJ6_bitCount_0f7a4 1 (some .int), Cond.constant RJ6 265 (1431655765), Cond.constant RJ6 266 (858993459), Cond.constant RJ6 267 (252645135), Cond.methodLink RX1 40 yX1_castPart, Cond.instanceMethod yX1_castPart, Cond.selects RX1 yX1_castPart yX1_castPart, Cond.code yX1_castPart cX1_castPart 9 none, Cond.static yX6_with, Cond.code yX6_with cX6_with 2 (some .int), Cond.methodLink RX6 165 yX6_actorIn]
def wsL_plays_r5 : List Cond := [Cond.instanceMethod yX6_actorIn, Cond.selects RX6 yX6_actorIn yX6_actorIn, Cond.code yX6_actorIn cX6_actorIn 3 (some .int), Cond.methodLink RX6 244 yX1_rankOf, Cond.static yX1_rankOf, Cond.code yX1_rankOf cX1_rankOf 2 (some .int)]
def wsL_plays : List Cond := .code yL_plays cL_plays 5 (some .boolean) :: ((wsL_plays_r1 ++ (wsL_plays_r2 ++ (wsL_plays_r3 ++ (wsL_plays_r4 ++ wsL_plays_r5)))) ++ wsX60 ++ wsX40 ++ wsX10 ++ wsX30 ++ wsX50 ++ (vx_atS RX6 219 "java/lang/IndexOutOfBoundsException" ["java/lang/RuntimeException", "java/lang/Exception"]).filter goodWord ++ (vx_atS RX6 62 "java/lang/IllegalArgumentException" ["java/lang/RuntimeException", "java/lang/Exception"]).filter goodWord)
def wsL_good_r1 : List Cond := [Cond.methodLink RL 14 yX6_strain, Cond.instanceMethod yX6_strain, Cond.selects RX6 yX6_strain yX6_strain, Cond.initialized RX6, Cond.code yX6_strain cX6_strain 3 (some .int), Cond.fieldLink RX6 10 "CastDesk" "troupe" "LCastDesk$Troupe;", Cond.fieldLink RX6 139 "CastDesk$Troupe" "ill" "[I", Cond.methodLink RX6 132 yX6_needDay, Cond.static yX6_needDay, Cond.code yX6_needDay cX6_needDay 2 none, Cond.classLink RX6 58 "java/lang/IllegalArgumentException", Cond.initialized "java/lang/IllegalArgumentException", Cond.methodLink RX6 150 yX6_bestCast, Cond.instanceMethod yX6_bestCast, Cond.selects RX6 yX6_bestCast yX6_bestCast, Cond.code yX6_bestCast cX6_bestCast 2 (some .int), Cond.fieldLink RX6 33 "CastDesk" "casting" "LCastDesk$Casting;", Cond.fieldLink RX6 51 "CastDesk" "partCount" "I", Cond.methodLink RX6 156 yX6_offerActors, Cond.instanceMethod yX6_offerActors, Cond.selects RX6 yX6_offerActors yX6_offerActors, Cond.code yX6_offerActors cX6_offerActors 6 none, Cond.fieldLink RX6 19 "CastDesk" "rows" "LCastDesk$Rows;", Cond.fieldLink RX6 26 "CastDesk" "wardrobe" "LCastDesk$Wardrobe;"]
def wsL_good_r2 : List Cond := [Cond.fieldLink RX6 72 "CastDesk$Troupe" "sizes" "[I", Cond.methodLink RX6 234 yX1_clear, Cond.instanceMethod yX1_clear, Cond.selects RX1 yX1_clear yX1_clear, Cond.initialized RX1, Cond.code yX1_clear cX1_clear 2 none, Cond.fieldLink RX1 11 "CastDesk$Casting" "actors" "[I", Cond.fieldLink RX1 25 "CastDesk$Casting" "setsBound" "I", Cond.methodLink RX6 193 yX3_actorAt, Cond.instanceMethod yX3_actorAt, Cond.selects RX3 yX3_actorAt yX3_actorAt, Cond.initialized RX3, Cond.code yX3_actorAt cX3_actorAt 3 (some .int), Cond.fieldLink RX3 15 "CastDesk$Rows" "lengths" "[I", Cond.fieldLink RX3 9 "CastDesk$Rows" "actors" "[I", Cond.methodLink RX6 146 yX6_isReady, Cond.instanceMethod yX6_isReady, Cond.selects RX6 yX6_isReady yX6_isReady, Cond.code yX6_isReady cX6_isReady 5 (some .boolean), Cond.fieldLink RX6 79 "CastDesk$Troupe" "known" "[I", Cond.methodLink RX6 142 yX6_has, Cond.static yX6_has, Cond.code yX6_has cX6_has 2 (some .boolean), Cond.methodLink RX6 228 yX5_lowestFitting]
def wsL_good_r3 : List Cond := [Cond.instanceMethod yX5_lowestFitting, Cond.selects RX5 yX5_lowestFitting yX5_lowestFitting, Cond.initialized RX5, Cond.code yX5_lowestFitting cX5_lowestFitting 4 (some .int), Cond.fieldLink RX5 22 "CastDesk$Wardrobe" "count" "I", Cond.fieldLink RX5 15 "CastDesk$Wardrobe" "parts" "[I", Cond.fieldLink RX5 9 "CastDesk$Wardrobe" "sizes" "[I", Cond.methodLink RX6 231 yX5_lowestToLetOut, Cond.instanceMethod yX5_lowestToLetOut, Cond.selects RX5 yX5_lowestToLetOut yX5_lowestToLetOut, Cond.code yX5_lowestToLetOut cX5_lowestToLetOut 4 (some .int), Cond.fieldLink RX5 18 "CastDesk$Wardrobe" "isLetOut" "[Z", Cond.methodLink RX6 237 yX1_offer, Cond.instanceMethod yX1_offer, Cond.selects RX1 yX1_offer yX1_offer, Cond.code yX1_offer cX1_offer 6 none, Cond.fieldLink RX1 15 "CastDesk$Casting" "keys" "[I", Cond.methodLink RX1 29 Lib.Math.max.name, Cond.static Lib.Math.max.name, Cond.initialized "java/lang/Math", Cond.code Lib.Math.max.name Lib.Math.max.code 2 (some .int), Cond.methodLink RX1 21 yX1_rankShift, Cond.static yX1_rankShift, Cond.code yX1_rankShift cX1_rankShift 1 (some .int)]
def wsL_good_r4 : List Cond := [Cond.methodLink RX6 241 yX1_leastKey, Cond.instanceMethod yX1_leastKey, Cond.selects RX1 yX1_leastKey yX1_leastKey, Cond.code yX1_leastKey cX1_leastKey 6 (some .int), Cond.fieldLink RX1 18 "CastDesk$Casting" "leastOfSet" "[I", Cond.methodLink RX1 35 yJ6_bitCount_0f7a4, Cond.static yJ6_bitCount_0f7a4, Cond.initialized RJ6, Cond.code yJ6_bitCount_0f7a4 cJ6_bitCount_0f7a4 1 (some .int), Cond.constant RJ6 265 (1431655765), Cond.constant RJ6 266 (858993459), Cond.constant RJ6 267 (252645135), Cond.methodLink RX1 40 yX1_castPart, Cond.instanceMethod yX1_castPart, Cond.selects RX1 yX1_castPart yX1_castPart, Cond.code yX1_castPart cX1_castPart 9 none, Cond.static yX6_with, Cond.code yX6_with cX6_with 2 (some .int), Cond.methodLink RX6 153 yX1_strainOf, Cond.static yX1_strainOf, Cond.code yX1_strainOf cX1_strainOf 1 (some .int), Cond.methodLink RL 18 yX6_strainByAll, Cond.instanceMethod yX6_strainByAll, Cond.selects RX6 yX6_strainByAll yX6_strainByAll]
def wsL_good_r5 : List Cond := [Cond.code yX6_strainByAll cX6_strainByAll 2 (some .int), Cond.methodLink RX6 159 yX1_leastStrain, Cond.instanceMethod yX1_leastStrain, Cond.selects RX1 yX1_leastStrain yX1_leastStrain, Cond.code yX1_leastStrain cX1_leastStrain 2 (some .int), Cond.methodLink RX1 51 yX1_leastFrom, Cond.static yX1_leastFrom, Cond.code yX1_leastFrom cX1_leastFrom 8 (some .int), Cond.methodLink RL 21 yX6_work, Cond.instanceMethod yX6_work, Cond.selects RX6 yX6_work yX6_work, Cond.code yX6_work cX6_work 3 (some .int), Cond.methodLink RX6 162 yX1_workOf, Cond.static yX1_workOf, Cond.code yX1_workOf cX1_workOf 1 (some .int), Cond.methodLink RL 8 yX6_actorFor, Cond.instanceMethod yX6_actorFor, Cond.selects RX6 yX6_actorFor yX6_actorFor, Cond.code yX6_actorFor cX6_actorFor 4 (some .int), Cond.methodLink RX6 76 yX6_needPart, Cond.static yX6_needPart, Cond.code yX6_needPart cX6_needPart 1 none, Cond.classLink RX6 215 "java/lang/IndexOutOfBoundsException", Cond.initialized "java/lang/IndexOutOfBoundsException"]
def wsL_good_r6 : List Cond := [Cond.methodLink RX6 165 yX6_actorIn, Cond.instanceMethod yX6_actorIn, Cond.selects RX6 yX6_actorIn yX6_actorIn, Cond.code yX6_actorIn cX6_actorIn 3 (some .int), Cond.methodLink RX6 244 yX1_rankOf, Cond.static yX1_rankOf, Cond.code yX1_rankOf cX1_rankOf 2 (some .int), Cond.methodLink RL 24 yX6_canPlay, Cond.instanceMethod yX6_canPlay, Cond.selects RX6 yX6_canPlay yX6_canPlay, Cond.code yX6_canPlay cX6_canPlay 4 (some .boolean), Cond.methodLink RX6 65 yX6_needActor, Cond.static yX6_needActor, Cond.code yX6_needActor cX6_needActor 1 none, Cond.methodLink RX6 100 yX3_rankIn, Cond.instanceMethod yX3_rankIn, Cond.selects RX3 yX3_rankIn yX3_rankIn, Cond.code yX3_rankIn cX3_rankIn 4 (some .int), Cond.methodLink RL 28 yL_rank, Cond.static yL_rank, Cond.initialized RL, Cond.code yL_rank cL_rank 5 (some .int)]
def wsL_good : List Cond := .code yL_good cL_good 11 (some .boolean) :: ((wsL_good_r1 ++ (wsL_good_r2 ++ (wsL_good_r3 ++ (wsL_good_r4 ++ (wsL_good_r5 ++ wsL_good_r6))))) ++ wsX60 ++ wsX40 ++ wsX10 ++ wsX30 ++ wsX50 ++ (vx_atS RX6 62 "java/lang/IllegalArgumentException" ["java/lang/RuntimeException", "java/lang/Exception"]).filter goodWord ++ (vx_atS RX6 219 "java/lang/IndexOutOfBoundsException" ["java/lang/RuntimeException", "java/lang/Exception"]).filter goodWord)
def wsL_chained_r1 : List Cond := [Cond.methodLink RL 34 yX6_chain, Cond.instanceMethod yX6_chain, Cond.selects RX6 yX6_chain yX6_chain, Cond.initialized RX6, Cond.code yX6_chain cX6_chain 5 (some .int), Cond.fieldLink RX6 10 "CastDesk" "troupe" "LCastDesk$Troupe;", Cond.fieldLink RX6 139 "CastDesk$Troupe" "ill" "[I", Cond.methodLink RX6 65 yX6_needActor, Cond.static yX6_needActor, Cond.code yX6_needActor cX6_needActor 1 none, Cond.classLink RX6 215 "java/lang/IndexOutOfBoundsException", Cond.initialized "java/lang/IndexOutOfBoundsException", Cond.methodLink RX6 132 yX6_needDay, Cond.static yX6_needDay, Cond.code yX6_needDay cX6_needDay 2 none, Cond.classLink RX6 58 "java/lang/IllegalArgumentException", Cond.initialized "java/lang/IllegalArgumentException", Cond.methodLink RX6 150 yX6_bestCast, Cond.instanceMethod yX6_bestCast, Cond.selects RX6 yX6_bestCast yX6_bestCast, Cond.code yX6_bestCast cX6_bestCast 2 (some .int), Cond.fieldLink RX6 33 "CastDesk" "casting" "LCastDesk$Casting;", Cond.fieldLink RX6 51 "CastDesk" "partCount" "I", Cond.methodLink RX6 156 yX6_offerActors]
def wsL_chained_r2 : List Cond := [Cond.instanceMethod yX6_offerActors, Cond.selects RX6 yX6_offerActors yX6_offerActors, Cond.code yX6_offerActors cX6_offerActors 6 none, Cond.fieldLink RX6 19 "CastDesk" "rows" "LCastDesk$Rows;", Cond.fieldLink RX6 26 "CastDesk" "wardrobe" "LCastDesk$Wardrobe;", Cond.fieldLink RX6 72 "CastDesk$Troupe" "sizes" "[I", Cond.methodLink RX6 234 yX1_clear, Cond.instanceMethod yX1_clear, Cond.selects RX1 yX1_clear yX1_clear, Cond.initialized RX1, Cond.code yX1_clear cX1_clear 2 none, Cond.fieldLink RX1 11 "CastDesk$Casting" "actors" "[I", Cond.fieldLink RX1 25 "CastDesk$Casting" "setsBound" "I", Cond.methodLink RX6 193 yX3_actorAt, Cond.instanceMethod yX3_actorAt, Cond.selects RX3 yX3_actorAt yX3_actorAt, Cond.initialized RX3, Cond.code yX3_actorAt cX3_actorAt 3 (some .int), Cond.fieldLink RX3 15 "CastDesk$Rows" "lengths" "[I", Cond.fieldLink RX3 9 "CastDesk$Rows" "actors" "[I", Cond.methodLink RX6 146 yX6_isReady, Cond.instanceMethod yX6_isReady, Cond.selects RX6 yX6_isReady yX6_isReady, Cond.code yX6_isReady cX6_isReady 5 (some .boolean)]
def wsL_chained_r3 : List Cond := [Cond.fieldLink RX6 79 "CastDesk$Troupe" "known" "[I", Cond.methodLink RX6 142 yX6_has, Cond.static yX6_has, Cond.code yX6_has cX6_has 2 (some .boolean), Cond.methodLink RX6 228 yX5_lowestFitting, Cond.instanceMethod yX5_lowestFitting, Cond.selects RX5 yX5_lowestFitting yX5_lowestFitting, Cond.initialized RX5, Cond.code yX5_lowestFitting cX5_lowestFitting 4 (some .int), Cond.fieldLink RX5 22 "CastDesk$Wardrobe" "count" "I", Cond.fieldLink RX5 15 "CastDesk$Wardrobe" "parts" "[I", Cond.fieldLink RX5 9 "CastDesk$Wardrobe" "sizes" "[I", Cond.methodLink RX6 231 yX5_lowestToLetOut, Cond.instanceMethod yX5_lowestToLetOut, Cond.selects RX5 yX5_lowestToLetOut yX5_lowestToLetOut, Cond.code yX5_lowestToLetOut cX5_lowestToLetOut 4 (some .int), Cond.fieldLink RX5 18 "CastDesk$Wardrobe" "isLetOut" "[Z", Cond.methodLink RX6 237 yX1_offer, Cond.instanceMethod yX1_offer, Cond.selects RX1 yX1_offer yX1_offer, Cond.code yX1_offer cX1_offer 6 none, Cond.fieldLink RX1 15 "CastDesk$Casting" "keys" "[I", Cond.methodLink RX1 29 Lib.Math.max.name, Cond.static Lib.Math.max.name]
def wsL_chained_r4 : List Cond := [Cond.initialized "java/lang/Math", Cond.code Lib.Math.max.name Lib.Math.max.code 2 (some .int), Cond.methodLink RX1 21 yX1_rankShift, Cond.static yX1_rankShift, Cond.code yX1_rankShift cX1_rankShift 1 (some .int), Cond.methodLink RX6 241 yX1_leastKey, Cond.instanceMethod yX1_leastKey, Cond.selects RX1 yX1_leastKey yX1_leastKey, Cond.code yX1_leastKey cX1_leastKey 6 (some .int), Cond.fieldLink RX1 18 "CastDesk$Casting" "leastOfSet" "[I", Cond.methodLink RX1 35 yJ6_bitCount_0f7a4, Cond.static yJ6_bitCount_0f7a4, Cond.initialized RJ6, Cond.code yJ6_bitCount_0f7a4 cJ6_bitCount_0f7a4 1 (some .int), Cond.constant RJ6 265 (1431655765), Cond.constant RJ6 266 (858993459), Cond.constant RJ6 267 (252645135), Cond.methodLink RX1 40 yX1_castPart, Cond.instanceMethod yX1_castPart, Cond.selects RX1 yX1_castPart yX1_castPart, Cond.code yX1_castPart cX1_castPart 9 none, Cond.static yX6_with, Cond.code yX6_with cX6_with 2 (some .int), Cond.methodLink RX6 82 yX6_with]
def wsL_chained_r5 : List Cond := [Cond.methodLink RX6 168 yX6_countOthers, Cond.instanceMethod yX6_countOthers, Cond.selects RX6 yX6_countOthers yX6_countOthers, Cond.code yX6_countOthers cX6_countOthers 5 (some .int), Cond.methodLink RX6 165 yX6_actorIn, Cond.instanceMethod yX6_actorIn, Cond.selects RX6 yX6_actorIn yX6_actorIn, Cond.code yX6_actorIn cX6_actorIn 3 (some .int), Cond.methodLink RX6 244 yX1_rankOf, Cond.static yX1_rankOf, Cond.code yX1_rankOf cX1_rankOf 2 (some .int), Cond.methodLink RL 14 yX6_strain, Cond.instanceMethod yX6_strain, Cond.selects RX6 yX6_strain yX6_strain, Cond.code yX6_strain cX6_strain 3 (some .int), Cond.methodLink RX6 153 yX1_strainOf, Cond.static yX1_strainOf, Cond.code yX1_strainOf cX1_strainOf 1 (some .int), Cond.methodLink RL 37 yL_plays, Cond.static yL_plays, Cond.initialized RL, Cond.code yL_plays cL_plays 5 (some .boolean), Cond.methodLink RL 8 yX6_actorFor, Cond.instanceMethod yX6_actorFor]
def wsL_chained_r6 : List Cond := [Cond.selects RX6 yX6_actorFor yX6_actorFor, Cond.code yX6_actorFor cX6_actorFor 4 (some .int), Cond.methodLink RX6 76 yX6_needPart, Cond.static yX6_needPart, Cond.code yX6_needPart cX6_needPart 1 none]
def wsL_chained : List Cond := .code yL_chained cL_chained 6 (some .boolean) :: ((wsL_chained_r1 ++ (wsL_chained_r2 ++ (wsL_chained_r3 ++ (wsL_chained_r4 ++ (wsL_chained_r5 ++ wsL_chained_r6))))) ++ wsX60 ++ wsX40 ++ wsX10 ++ wsX30 ++ wsX50 ++ (vx_atS RX6 219 "java/lang/IndexOutOfBoundsException" ["java/lang/RuntimeException", "java/lang/Exception"]).filter goodWord ++ (vx_atS RX6 62 "java/lang/IllegalArgumentException" ["java/lang/RuntimeException", "java/lang/Exception"]).filter goodWord)
def wsL_cold_r1 : List Cond := [Cond.methodLink RL 34 yX6_chain, Cond.instanceMethod yX6_chain, Cond.selects RX6 yX6_chain yX6_chain, Cond.initialized RX6, Cond.code yX6_chain cX6_chain 5 (some .int), Cond.fieldLink RX6 10 "CastDesk" "troupe" "LCastDesk$Troupe;", Cond.fieldLink RX6 139 "CastDesk$Troupe" "ill" "[I", Cond.methodLink RX6 65 yX6_needActor, Cond.static yX6_needActor, Cond.code yX6_needActor cX6_needActor 1 none, Cond.classLink RX6 215 "java/lang/IndexOutOfBoundsException", Cond.initialized "java/lang/IndexOutOfBoundsException", Cond.methodLink RX6 132 yX6_needDay, Cond.static yX6_needDay, Cond.code yX6_needDay cX6_needDay 2 none, Cond.classLink RX6 58 "java/lang/IllegalArgumentException", Cond.initialized "java/lang/IllegalArgumentException", Cond.methodLink RX6 150 yX6_bestCast, Cond.instanceMethod yX6_bestCast, Cond.selects RX6 yX6_bestCast yX6_bestCast, Cond.code yX6_bestCast cX6_bestCast 2 (some .int), Cond.fieldLink RX6 33 "CastDesk" "casting" "LCastDesk$Casting;", Cond.fieldLink RX6 51 "CastDesk" "partCount" "I", Cond.methodLink RX6 156 yX6_offerActors]
def wsL_cold_r2 : List Cond := [Cond.instanceMethod yX6_offerActors, Cond.selects RX6 yX6_offerActors yX6_offerActors, Cond.code yX6_offerActors cX6_offerActors 6 none, Cond.fieldLink RX6 19 "CastDesk" "rows" "LCastDesk$Rows;", Cond.fieldLink RX6 26 "CastDesk" "wardrobe" "LCastDesk$Wardrobe;", Cond.fieldLink RX6 72 "CastDesk$Troupe" "sizes" "[I", Cond.methodLink RX6 234 yX1_clear, Cond.instanceMethod yX1_clear, Cond.selects RX1 yX1_clear yX1_clear, Cond.initialized RX1, Cond.code yX1_clear cX1_clear 2 none, Cond.fieldLink RX1 11 "CastDesk$Casting" "actors" "[I", Cond.fieldLink RX1 25 "CastDesk$Casting" "setsBound" "I", Cond.methodLink RX6 193 yX3_actorAt, Cond.instanceMethod yX3_actorAt, Cond.selects RX3 yX3_actorAt yX3_actorAt, Cond.initialized RX3, Cond.code yX3_actorAt cX3_actorAt 3 (some .int), Cond.fieldLink RX3 15 "CastDesk$Rows" "lengths" "[I", Cond.fieldLink RX3 9 "CastDesk$Rows" "actors" "[I", Cond.methodLink RX6 146 yX6_isReady, Cond.instanceMethod yX6_isReady, Cond.selects RX6 yX6_isReady yX6_isReady, Cond.code yX6_isReady cX6_isReady 5 (some .boolean)]
def wsL_cold_r3 : List Cond := [Cond.fieldLink RX6 79 "CastDesk$Troupe" "known" "[I", Cond.methodLink RX6 142 yX6_has, Cond.static yX6_has, Cond.code yX6_has cX6_has 2 (some .boolean), Cond.methodLink RX6 228 yX5_lowestFitting, Cond.instanceMethod yX5_lowestFitting, Cond.selects RX5 yX5_lowestFitting yX5_lowestFitting, Cond.initialized RX5, Cond.code yX5_lowestFitting cX5_lowestFitting 4 (some .int), Cond.fieldLink RX5 22 "CastDesk$Wardrobe" "count" "I", Cond.fieldLink RX5 15 "CastDesk$Wardrobe" "parts" "[I", Cond.fieldLink RX5 9 "CastDesk$Wardrobe" "sizes" "[I", Cond.methodLink RX6 231 yX5_lowestToLetOut, Cond.instanceMethod yX5_lowestToLetOut, Cond.selects RX5 yX5_lowestToLetOut yX5_lowestToLetOut, Cond.code yX5_lowestToLetOut cX5_lowestToLetOut 4 (some .int), Cond.fieldLink RX5 18 "CastDesk$Wardrobe" "isLetOut" "[Z", Cond.methodLink RX6 237 yX1_offer, Cond.instanceMethod yX1_offer, Cond.selects RX1 yX1_offer yX1_offer, Cond.code yX1_offer cX1_offer 6 none, Cond.fieldLink RX1 15 "CastDesk$Casting" "keys" "[I", Cond.methodLink RX1 29 Lib.Math.max.name, Cond.static Lib.Math.max.name]
def wsL_cold_r4 : List Cond := [Cond.initialized "java/lang/Math", Cond.code Lib.Math.max.name Lib.Math.max.code 2 (some .int), Cond.methodLink RX1 21 yX1_rankShift, Cond.static yX1_rankShift, Cond.code yX1_rankShift cX1_rankShift 1 (some .int), Cond.methodLink RX6 241 yX1_leastKey, Cond.instanceMethod yX1_leastKey, Cond.selects RX1 yX1_leastKey yX1_leastKey, Cond.code yX1_leastKey cX1_leastKey 6 (some .int), Cond.fieldLink RX1 18 "CastDesk$Casting" "leastOfSet" "[I", Cond.methodLink RX1 35 yJ6_bitCount_0f7a4, Cond.static yJ6_bitCount_0f7a4, Cond.initialized RJ6, Cond.code yJ6_bitCount_0f7a4 cJ6_bitCount_0f7a4 1 (some .int), Cond.constant RJ6 265 (1431655765), Cond.constant RJ6 266 (858993459), Cond.constant RJ6 267 (252645135), Cond.methodLink RX1 40 yX1_castPart, Cond.instanceMethod yX1_castPart, Cond.selects RX1 yX1_castPart yX1_castPart, Cond.code yX1_castPart cX1_castPart 9 none, Cond.static yX6_with, Cond.code yX6_with cX6_with 2 (some .int), Cond.methodLink RX6 82 yX6_with]
def wsL_cold_r5 : List Cond := [Cond.methodLink RX6 168 yX6_countOthers, Cond.instanceMethod yX6_countOthers, Cond.selects RX6 yX6_countOthers yX6_countOthers, Cond.code yX6_countOthers cX6_countOthers 5 (some .int), Cond.methodLink RX6 165 yX6_actorIn, Cond.instanceMethod yX6_actorIn, Cond.selects RX6 yX6_actorIn yX6_actorIn, Cond.code yX6_actorIn cX6_actorIn 3 (some .int), Cond.methodLink RX6 244 yX1_rankOf, Cond.static yX1_rankOf, Cond.code yX1_rankOf cX1_rankOf 2 (some .int), Cond.methodLink RL 14 yX6_strain, Cond.instanceMethod yX6_strain, Cond.selects RX6 yX6_strain yX6_strain, Cond.code yX6_strain cX6_strain 3 (some .int), Cond.methodLink RX6 153 yX1_strainOf, Cond.static yX1_strainOf, Cond.code yX1_strainOf cX1_strainOf 1 (some .int), Cond.methodLink RL 8 yX6_actorFor, Cond.instanceMethod yX6_actorFor, Cond.selects RX6 yX6_actorFor yX6_actorFor, Cond.code yX6_actorFor cX6_actorFor 4 (some .int), Cond.methodLink RX6 76 yX6_needPart, Cond.static yX6_needPart]
def wsL_cold_r6 : List Cond := [Cond.code yX6_needPart cX6_needPart 1 none, Cond.methodLink RL 41 yX6_isIll, Cond.instanceMethod yX6_isIll, Cond.selects RX6 yX6_isIll yX6_isIll, Cond.code yX6_isIll cX6_isIll 3 (some .boolean), Cond.methodLink RL 45 yX6_cold, Cond.instanceMethod yX6_cold, Cond.selects RX6 yX6_cold yX6_cold, Cond.code yX6_cold cX6_cold 4 (some .int), Cond.fieldLink RX6 55 "CastDesk" "today" "I", Cond.methodLink RX6 135 yX4_fallIll, Cond.instanceMethod yX4_fallIll, Cond.selects RX4 yX4_fallIll yX4_fallIll, Cond.initialized RX4, Cond.code yX4_fallIll cX4_fallIll 6 (some .int), Cond.fieldLink RX4 18 "CastDesk$Troupe" "ill" "[I", Cond.methodLink RL 37 yL_plays, Cond.static yL_plays, Cond.initialized RL, Cond.code yL_plays cL_plays 5 (some .boolean)]
def wsL_cold : List Cond := .code yL_cold cL_cold 10 (some .boolean) :: ((wsL_cold_r1 ++ (wsL_cold_r2 ++ (wsL_cold_r3 ++ (wsL_cold_r4 ++ (wsL_cold_r5 ++ wsL_cold_r6))))) ++ wsX60 ++ wsX40 ++ wsX10 ++ wsX30 ++ wsX50 ++ (vx_atS RX6 219 "java/lang/IndexOutOfBoundsException" ["java/lang/RuntimeException", "java/lang/Exception"]).filter goodWord ++ (vx_atS RX6 62 "java/lang/IllegalArgumentException" ["java/lang/RuntimeException", "java/lang/Exception"]).filter goodWord)
def wsL_act_r1 : List Cond := [Cond.methodLink RL 49 yL_at, Cond.static yL_at, Cond.initialized RL, Cond.code yL_at cL_at 2 (some .int), Cond.methodLink RL 28 yL_rank, Cond.static yL_rank, Cond.code yL_rank cL_rank 5 (some .int), Cond.methodLink RL 52 yX6_put, Cond.instanceMethod yX6_put, Cond.selects RX6 yX6_put yX6_put, Cond.initialized RX6, Cond.code yX6_put cX6_put 3 (some .int), Cond.classLink RX6 95 "java/lang/IllegalStateException", Cond.initialized "java/lang/IllegalStateException", Cond.fieldLink RX6 19 "CastDesk" "rows" "LCastDesk$Rows;", Cond.methodLink RX6 76 yX6_needPart, Cond.static yX6_needPart, Cond.code yX6_needPart cX6_needPart 1 none, Cond.classLink RX6 215 "java/lang/IndexOutOfBoundsException", Cond.initialized "java/lang/IndexOutOfBoundsException", Cond.methodLink RX6 65 yX6_needActor, Cond.static yX6_needActor, Cond.code yX6_needActor cX6_needActor 1 none, Cond.methodLink RX6 100 yX3_rankIn]
def wsL_act_r2 : List Cond := [Cond.instanceMethod yX3_rankIn, Cond.selects RX3 yX3_rankIn yX3_rankIn, Cond.initialized RX3, Cond.code yX3_rankIn cX3_rankIn 4 (some .int), Cond.fieldLink RX3 15 "CastDesk$Rows" "lengths" "[I", Cond.fieldLink RX3 9 "CastDesk$Rows" "actors" "[I", Cond.methodLink RX6 105 yX3_isFull, Cond.instanceMethod yX3_isFull, Cond.selects RX3 yX3_isFull yX3_isFull, Cond.code yX3_isFull cX3_isFull 2 (some .boolean), Cond.methodLink RX6 111 yX3_append, Cond.instanceMethod yX3_append, Cond.selects RX3 yX3_append yX3_append, Cond.code yX3_append cX3_append 4 (some .int), Cond.methodLink RL 55 yX6_take, Cond.instanceMethod yX6_take, Cond.selects RX6 yX6_take yX6_take, Cond.code yX6_take cX6_take 4 (some .int), Cond.methodLink RX6 116 yX3_remove, Cond.instanceMethod yX3_remove, Cond.selects RX3 yX3_remove yX3_remove, Cond.code yX3_remove cX3_remove 4 none, Cond.methodLink RL 58 yX6_learn, Cond.instanceMethod yX6_learn]
def wsL_act_r3 : List Cond := [Cond.selects RX6 yX6_learn yX6_learn, Cond.code yX6_learn cX6_learn 6 (some .int), Cond.fieldLink RX6 10 "CastDesk" "troupe" "LCastDesk$Troupe;", Cond.fieldLink RX6 79 "CastDesk$Troupe" "known" "[I", Cond.methodLink RX6 82 yX6_with, Cond.static yX6_with, Cond.code yX6_with cX6_with 2 (some .int), Cond.methodLink RX6 86 yX6_without, Cond.static yX6_without, Cond.code yX6_without cX6_without 2 (some .int), Cond.methodLink RX6 89 yJ6_bitCount_0f7a4, Cond.static yJ6_bitCount_0f7a4, Cond.initialized RJ6, Cond.code yJ6_bitCount_0f7a4 cJ6_bitCount_0f7a4 1 (some .int), Cond.constant RJ6 265 (1431655765), Cond.constant RJ6 266 (858993459), Cond.constant RJ6 267 (252645135), Cond.methodLink RL 62 yX6_costume, Cond.instanceMethod yX6_costume, Cond.selects RX6 yX6_costume yX6_costume, Cond.code yX6_costume cX6_costume 3 (some .int), Cond.fieldLink RX6 26 "CastDesk" "wardrobe" "LCastDesk$Wardrobe;", Cond.fieldLink RX6 120 "CastDesk$Wardrobe" "count" "I", Cond.methodLink RX6 69 yX6_needSize]
def wsL_act_r4 : List Cond := [Cond.static yX6_needSize, Cond.code yX6_needSize cX6_needSize 1 none, Cond.classLink RX6 58 "java/lang/IllegalArgumentException", Cond.initialized "java/lang/IllegalArgumentException", Cond.methodLink RX6 125 yX5_add, Cond.instanceMethod yX5_add, Cond.selects RX5 yX5_add yX5_add, Cond.initialized RX5, Cond.code yX5_add cX5_add 3 (some .int), Cond.fieldLink RX5 15 "CastDesk$Wardrobe" "parts" "[I", Cond.fieldLink RX5 22 "CastDesk$Wardrobe" "count" "I", Cond.fieldLink RX5 9 "CastDesk$Wardrobe" "sizes" "[I", Cond.methodLink RL 65 yX6_sizeOf, Cond.instanceMethod yX6_sizeOf, Cond.selects RX6 yX6_sizeOf yX6_sizeOf, Cond.code yX6_sizeOf cX6_sizeOf 2 (some .int), Cond.fieldLink RX6 131 "CastDesk$Wardrobe" "sizes" "[I", Cond.methodLink RX6 128 yX6_needOneOf, Cond.static yX6_needOneOf, Cond.code yX6_needOneOf cX6_needOneOf 2 none, Cond.methodLink RL 68 yX6_setSize, Cond.instanceMethod yX6_setSize, Cond.selects RX6 yX6_setSize yX6_setSize, Cond.code yX6_setSize cX6_setSize 4 (some .int)]
def wsL_act_r5 : List Cond := [Cond.fieldLink RX6 72 "CastDesk$Troupe" "sizes" "[I", Cond.methodLink RL 71 yL_cold, Cond.static yL_cold, Cond.code yL_cold cL_cold 10 (some .boolean), Cond.methodLink RL 34 yX6_chain, Cond.instanceMethod yX6_chain, Cond.selects RX6 yX6_chain yX6_chain, Cond.code yX6_chain cX6_chain 5 (some .int), Cond.fieldLink RX6 139 "CastDesk$Troupe" "ill" "[I", Cond.methodLink RX6 132 yX6_needDay, Cond.static yX6_needDay, Cond.code yX6_needDay cX6_needDay 2 none, Cond.methodLink RX6 150 yX6_bestCast, Cond.instanceMethod yX6_bestCast, Cond.selects RX6 yX6_bestCast yX6_bestCast, Cond.code yX6_bestCast cX6_bestCast 2 (some .int), Cond.fieldLink RX6 33 "CastDesk" "casting" "LCastDesk$Casting;", Cond.fieldLink RX6 51 "CastDesk" "partCount" "I", Cond.methodLink RX6 156 yX6_offerActors, Cond.instanceMethod yX6_offerActors, Cond.selects RX6 yX6_offerActors yX6_offerActors, Cond.code yX6_offerActors cX6_offerActors 6 none, Cond.methodLink RX6 234 yX1_clear, Cond.instanceMethod yX1_clear]
def wsL_act_r6 : List Cond := [Cond.selects RX1 yX1_clear yX1_clear, Cond.initialized RX1, Cond.code yX1_clear cX1_clear 2 none, Cond.fieldLink RX1 11 "CastDesk$Casting" "actors" "[I", Cond.fieldLink RX1 25 "CastDesk$Casting" "setsBound" "I", Cond.methodLink RX6 193 yX3_actorAt, Cond.instanceMethod yX3_actorAt, Cond.selects RX3 yX3_actorAt yX3_actorAt, Cond.code yX3_actorAt cX3_actorAt 3 (some .int), Cond.methodLink RX6 146 yX6_isReady, Cond.instanceMethod yX6_isReady, Cond.selects RX6 yX6_isReady yX6_isReady, Cond.code yX6_isReady cX6_isReady 5 (some .boolean), Cond.methodLink RX6 142 yX6_has, Cond.static yX6_has, Cond.code yX6_has cX6_has 2 (some .boolean), Cond.methodLink RX6 228 yX5_lowestFitting, Cond.instanceMethod yX5_lowestFitting, Cond.selects RX5 yX5_lowestFitting yX5_lowestFitting, Cond.code yX5_lowestFitting cX5_lowestFitting 4 (some .int), Cond.methodLink RX6 231 yX5_lowestToLetOut, Cond.instanceMethod yX5_lowestToLetOut, Cond.selects RX5 yX5_lowestToLetOut yX5_lowestToLetOut, Cond.code yX5_lowestToLetOut cX5_lowestToLetOut 4 (some .int)]
def wsL_act_r7 : List Cond := [Cond.fieldLink RX5 18 "CastDesk$Wardrobe" "isLetOut" "[Z", Cond.methodLink RX6 237 yX1_offer, Cond.instanceMethod yX1_offer, Cond.selects RX1 yX1_offer yX1_offer, Cond.code yX1_offer cX1_offer 6 none, Cond.fieldLink RX1 15 "CastDesk$Casting" "keys" "[I", Cond.methodLink RX1 29 Lib.Math.max.name, Cond.static Lib.Math.max.name, Cond.initialized "java/lang/Math", Cond.code Lib.Math.max.name Lib.Math.max.code 2 (some .int), Cond.methodLink RX1 21 yX1_rankShift, Cond.static yX1_rankShift, Cond.code yX1_rankShift cX1_rankShift 1 (some .int), Cond.methodLink RX6 241 yX1_leastKey, Cond.instanceMethod yX1_leastKey, Cond.selects RX1 yX1_leastKey yX1_leastKey, Cond.code yX1_leastKey cX1_leastKey 6 (some .int), Cond.fieldLink RX1 18 "CastDesk$Casting" "leastOfSet" "[I", Cond.methodLink RX1 35 yJ6_bitCount_0f7a4, Cond.methodLink RX1 40 yX1_castPart, Cond.instanceMethod yX1_castPart, Cond.selects RX1 yX1_castPart yX1_castPart, Cond.code yX1_castPart cX1_castPart 9 none, Cond.methodLink RX6 168 yX6_countOthers]
def wsL_act_r8 : List Cond := [Cond.instanceMethod yX6_countOthers, Cond.selects RX6 yX6_countOthers yX6_countOthers, Cond.code yX6_countOthers cX6_countOthers 5 (some .int), Cond.methodLink RX6 165 yX6_actorIn, Cond.instanceMethod yX6_actorIn, Cond.selects RX6 yX6_actorIn yX6_actorIn, Cond.code yX6_actorIn cX6_actorIn 3 (some .int), Cond.methodLink RX6 244 yX1_rankOf, Cond.static yX1_rankOf, Cond.code yX1_rankOf cX1_rankOf 2 (some .int), Cond.methodLink RL 14 yX6_strain, Cond.instanceMethod yX6_strain, Cond.selects RX6 yX6_strain yX6_strain, Cond.code yX6_strain cX6_strain 3 (some .int), Cond.methodLink RX6 153 yX1_strainOf, Cond.static yX1_strainOf, Cond.code yX1_strainOf cX1_strainOf 1 (some .int), Cond.methodLink RL 8 yX6_actorFor, Cond.instanceMethod yX6_actorFor, Cond.selects RX6 yX6_actorFor yX6_actorFor, Cond.code yX6_actorFor cX6_actorFor 4 (some .int), Cond.methodLink RL 41 yX6_isIll, Cond.instanceMethod yX6_isIll, Cond.selects RX6 yX6_isIll yX6_isIll]
def wsL_act_r9 : List Cond := [Cond.code yX6_isIll cX6_isIll 3 (some .boolean), Cond.methodLink RL 45 yX6_cold, Cond.instanceMethod yX6_cold, Cond.selects RX6 yX6_cold yX6_cold, Cond.code yX6_cold cX6_cold 4 (some .int), Cond.fieldLink RX6 55 "CastDesk" "today" "I", Cond.methodLink RX6 135 yX4_fallIll, Cond.instanceMethod yX4_fallIll, Cond.selects RX4 yX4_fallIll yX4_fallIll, Cond.initialized RX4, Cond.code yX4_fallIll cX4_fallIll 6 (some .int), Cond.fieldLink RX4 18 "CastDesk$Troupe" "ill" "[I", Cond.methodLink RL 37 yL_plays, Cond.static yL_plays, Cond.code yL_plays cL_plays 5 (some .boolean), Cond.methodLink RL 74 yL_good, Cond.static yL_good, Cond.code yL_good cL_good 11 (some .boolean), Cond.methodLink RL 18 yX6_strainByAll, Cond.instanceMethod yX6_strainByAll, Cond.selects RX6 yX6_strainByAll yX6_strainByAll, Cond.code yX6_strainByAll cX6_strainByAll 2 (some .int), Cond.methodLink RX6 159 yX1_leastStrain, Cond.instanceMethod yX1_leastStrain]
def wsL_act_r10 : List Cond := [Cond.selects RX1 yX1_leastStrain yX1_leastStrain, Cond.code yX1_leastStrain cX1_leastStrain 2 (some .int), Cond.methodLink RX1 51 yX1_leastFrom, Cond.static yX1_leastFrom, Cond.code yX1_leastFrom cX1_leastFrom 8 (some .int), Cond.methodLink RL 21 yX6_work, Cond.instanceMethod yX6_work, Cond.selects RX6 yX6_work yX6_work, Cond.code yX6_work cX6_work 3 (some .int), Cond.methodLink RX6 162 yX1_workOf, Cond.static yX1_workOf, Cond.code yX1_workOf cX1_workOf 1 (some .int), Cond.methodLink RL 24 yX6_canPlay, Cond.instanceMethod yX6_canPlay, Cond.selects RX6 yX6_canPlay yX6_canPlay, Cond.code yX6_canPlay cX6_canPlay 4 (some .boolean), Cond.methodLink RL 78 yL_chained, Cond.static yL_chained, Cond.code yL_chained cL_chained 6 (some .boolean)]
def wsL_act : List Cond := .code yL_act cL_act 13 (some .boolean) :: ((wsL_act_r1 ++ (wsL_act_r2 ++ (wsL_act_r3 ++ (wsL_act_r4 ++ (wsL_act_r5 ++ (wsL_act_r6 ++ (wsL_act_r7 ++ (wsL_act_r8 ++ (wsL_act_r9 ++ wsL_act_r10))))))))) ++ wsX60 ++ wsX30 ++ wsX40 ++ wsX50 ++ wsX10 ++ (vx_atS RX6 99 "java/lang/IllegalStateException" ["java/lang/RuntimeException", "java/lang/Exception"]).filter goodWord ++ (vx_atS RX6 219 "java/lang/IndexOutOfBoundsException" ["java/lang/RuntimeException", "java/lang/Exception"]).filter goodWord ++ (vx_atS RX6 62 "java/lang/IllegalArgumentException" ["java/lang/RuntimeException", "java/lang/Exception"]).filter goodWord)
def wsL_law0_r1 : List Cond := [Cond.classLink RL 9 RX6, Cond.instantiable RX6 8, Cond.initialized RX6, Cond.arrayClass .int, Cond.constant RL 86 (2147483647), Cond.methodLink RL 81 yX6_init, Cond.instanceMethod yX6_init, Cond.code yX6_init cX6_init 1 none, Cond.methodLink RX6 1 objectInit, Cond.instanceMethod objectInit, Cond.code objectInit ⟨#[0xb1]⟩ 1 none, Cond.classLink RX6 7 RX4, Cond.instantiable RX4 3, Cond.initialized RX4, Cond.fieldLink RX6 10 "CastDesk" "troupe" "LCastDesk$Troupe;", Cond.classLink RX6 16 RX3, Cond.instantiable RX3 2, Cond.initialized RX3, Cond.fieldLink RX6 19 "CastDesk" "rows" "LCastDesk$Rows;", Cond.classLink RX6 23 RX5, Cond.instantiable RX5 4, Cond.initialized RX5, Cond.fieldLink RX6 26 "CastDesk" "wardrobe" "LCastDesk$Wardrobe;", Cond.classLink RX6 30 RX1]
def wsL_law0_r2 : List Cond := [Cond.instantiable RX1 4, Cond.initialized RX1, Cond.fieldLink RX6 33 "CastDesk" "casting" "LCastDesk$Casting;", Cond.classLink RX6 37 RX2, Cond.instantiable RX2 4, Cond.initialized RX2, Cond.fieldLink RX6 40 "CastDesk" "programme" "LCastDesk$Programme;", Cond.classLink RX6 44 RX0, Cond.instantiable RX0 8, Cond.initialized RX0, Cond.fieldLink RX6 47 "CastDesk" "office" "LCastDesk$BoxOffice;", Cond.fieldLink RX6 51 "CastDesk" "partCount" "I", Cond.fieldLink RX6 55 "CastDesk" "today" "I", Cond.methodLink RX6 9 yX4_init, Cond.instanceMethod yX4_init, Cond.code yX4_init cX4_init 2 none, Cond.methodLink RX4 3 objectInit, Cond.fieldLink RX4 9 "CastDesk$Troupe" "sizes" "[I", Cond.fieldLink RX4 15 "CastDesk$Troupe" "known" "[I", Cond.fieldLink RX4 18 "CastDesk$Troupe" "ill" "[I", Cond.instanceMethod yX3_init, Cond.code yX3_init cX3_init 1 none, Cond.methodLink RX3 3 objectInit, Cond.fieldLink RX3 9 "CastDesk$Rows" "actors" "[I"]
def wsL_law0_r3 : List Cond := [Cond.fieldLink RX3 15 "CastDesk$Rows" "lengths" "[I", Cond.instanceMethod yX5_init, Cond.code yX5_init cX5_init 1 none, Cond.methodLink RX5 3 objectInit, Cond.fieldLink RX5 9 "CastDesk$Wardrobe" "sizes" "[I", Cond.fieldLink RX5 15 "CastDesk$Wardrobe" "parts" "[I", Cond.arrayClass .boolean, Cond.fieldLink RX5 18 "CastDesk$Wardrobe" "isLetOut" "[Z", Cond.methodLink RX6 32 yX1_init, Cond.instanceMethod yX1_init, Cond.code yX1_init cX1_init 2 none, Cond.methodLink RX1 5 objectInit, Cond.fieldLink RX1 11 "CastDesk$Casting" "actors" "[I", Cond.fieldLink RX1 15 "CastDesk$Casting" "keys" "[I", Cond.fieldLink RX1 18 "CastDesk$Casting" "leastOfSet" "[I", Cond.methodLink RX6 39 yX2_init, Cond.instanceMethod yX2_init, Cond.code yX2_init cX2_init 2 none, Cond.methodLink RX2 3 objectInit, Cond.fieldLink RX2 9 "CastDesk$Programme" "states" "[I", Cond.fieldLink RX2 15 "CastDesk$Programme" "casts" "[I", Cond.fieldLink RX2 18 "CastDesk$Programme" "days" "[I", Cond.instanceMethod yX0_init, Cond.code yX0_init cX0_init 1 none]
def wsL_law0_r4 : List Cond := [Cond.methodLink RX0 3 objectInit, Cond.fieldLink RX0 9 "CastDesk$BoxOffice" "shows" "[I", Cond.fieldLink RX0 15 "CastDesk$BoxOffice" "promises" "[I", Cond.fieldLink RX0 18 "CastDesk$BoxOffice" "parts" "[I", Cond.fieldLink RX0 21 "CastDesk$BoxOffice" "stars" "[I", Cond.fieldLink RX0 24 "CastDesk$BoxOffice" "refunds" "[I", Cond.fieldLink RX0 27 "CastDesk$BoxOffice" "prices" "[I", Cond.methodLink RL 82 yL_cell, Cond.static yL_cell, Cond.initialized RL, Cond.code yL_cell cL_cell 2 (some .int), Cond.constant RL 7 (986798887), Cond.methodLink RL 49 yL_at, Cond.static yL_at, Cond.code yL_at cL_at 2 (some .int), Cond.methodLink RL 87 yX6_setParts, Cond.instanceMethod yX6_setParts, Cond.selects RX6 yX6_setParts yX6_setParts, Cond.code yX6_setParts cX6_setParts 3 (some .int), Cond.classLink RX6 58 "java/lang/IllegalArgumentException", Cond.initialized "java/lang/IllegalArgumentException", Cond.methodLink RL 28 yL_rank, Cond.static yL_rank, Cond.code yL_rank cL_rank 5 (some .int)]
def wsL_law0_r5 : List Cond := [Cond.methodLink RL 52 yX6_put, Cond.instanceMethod yX6_put, Cond.selects RX6 yX6_put yX6_put, Cond.code yX6_put cX6_put 3 (some .int), Cond.classLink RX6 95 "java/lang/IllegalStateException", Cond.initialized "java/lang/IllegalStateException", Cond.methodLink RX6 76 yX6_needPart, Cond.static yX6_needPart, Cond.code yX6_needPart cX6_needPart 1 none, Cond.classLink RX6 215 "java/lang/IndexOutOfBoundsException", Cond.initialized "java/lang/IndexOutOfBoundsException", Cond.methodLink RX6 65 yX6_needActor, Cond.static yX6_needActor, Cond.code yX6_needActor cX6_needActor 1 none, Cond.methodLink RX6 100 yX3_rankIn, Cond.instanceMethod yX3_rankIn, Cond.selects RX3 yX3_rankIn yX3_rankIn, Cond.code yX3_rankIn cX3_rankIn 4 (some .int), Cond.methodLink RX6 105 yX3_isFull, Cond.instanceMethod yX3_isFull, Cond.selects RX3 yX3_isFull yX3_isFull, Cond.code yX3_isFull cX3_isFull 2 (some .boolean), Cond.methodLink RX6 111 yX3_append, Cond.instanceMethod yX3_append]
def wsL_law0_r6 : List Cond := [Cond.selects RX3 yX3_append yX3_append, Cond.code yX3_append cX3_append 4 (some .int), Cond.methodLink RL 58 yX6_learn, Cond.instanceMethod yX6_learn, Cond.selects RX6 yX6_learn yX6_learn, Cond.code yX6_learn cX6_learn 6 (some .int), Cond.fieldLink RX6 79 "CastDesk$Troupe" "known" "[I", Cond.methodLink RX6 82 yX6_with, Cond.static yX6_with, Cond.code yX6_with cX6_with 2 (some .int), Cond.methodLink RX6 86 yX6_without, Cond.static yX6_without, Cond.code yX6_without cX6_without 2 (some .int), Cond.methodLink RX6 89 yJ6_bitCount_0f7a4, Cond.static yJ6_bitCount_0f7a4, Cond.initialized RJ6, Cond.code yJ6_bitCount_0f7a4 cJ6_bitCount_0f7a4 1 (some .int), Cond.constant RJ6 265 (1431655765), Cond.constant RJ6 266 (858993459), Cond.constant RJ6 267 (252645135), Cond.methodLink RL 62 yX6_costume, Cond.instanceMethod yX6_costume, Cond.selects RX6 yX6_costume yX6_costume, Cond.code yX6_costume cX6_costume 3 (some .int)]
def wsL_law0_r7 : List Cond := [Cond.fieldLink RX6 120 "CastDesk$Wardrobe" "count" "I", Cond.methodLink RX6 69 yX6_needSize, Cond.static yX6_needSize, Cond.code yX6_needSize cX6_needSize 1 none, Cond.methodLink RX6 125 yX5_add, Cond.instanceMethod yX5_add, Cond.selects RX5 yX5_add yX5_add, Cond.code yX5_add cX5_add 3 (some .int), Cond.fieldLink RX5 22 "CastDesk$Wardrobe" "count" "I", Cond.methodLink RL 90 yL_act, Cond.static yL_act, Cond.code yL_act cL_act 13 (some .boolean), Cond.methodLink RL 55 yX6_take, Cond.instanceMethod yX6_take, Cond.selects RX6 yX6_take yX6_take, Cond.code yX6_take cX6_take 4 (some .int), Cond.methodLink RX6 116 yX3_remove, Cond.instanceMethod yX3_remove, Cond.selects RX3 yX3_remove yX3_remove, Cond.code yX3_remove cX3_remove 4 none, Cond.methodLink RL 65 yX6_sizeOf, Cond.instanceMethod yX6_sizeOf, Cond.selects RX6 yX6_sizeOf yX6_sizeOf, Cond.code yX6_sizeOf cX6_sizeOf 2 (some .int)]
def wsL_law0_r8 : List Cond := [Cond.fieldLink RX6 131 "CastDesk$Wardrobe" "sizes" "[I", Cond.methodLink RX6 128 yX6_needOneOf, Cond.static yX6_needOneOf, Cond.code yX6_needOneOf cX6_needOneOf 2 none, Cond.methodLink RL 68 yX6_setSize, Cond.instanceMethod yX6_setSize, Cond.selects RX6 yX6_setSize yX6_setSize, Cond.code yX6_setSize cX6_setSize 4 (some .int), Cond.fieldLink RX6 72 "CastDesk$Troupe" "sizes" "[I", Cond.methodLink RL 71 yL_cold, Cond.static yL_cold, Cond.code yL_cold cL_cold 10 (some .boolean), Cond.methodLink RL 34 yX6_chain, Cond.instanceMethod yX6_chain, Cond.selects RX6 yX6_chain yX6_chain, Cond.code yX6_chain cX6_chain 5 (some .int), Cond.fieldLink RX6 139 "CastDesk$Troupe" "ill" "[I", Cond.methodLink RX6 132 yX6_needDay, Cond.static yX6_needDay, Cond.code yX6_needDay cX6_needDay 2 none, Cond.methodLink RX6 150 yX6_bestCast, Cond.instanceMethod yX6_bestCast, Cond.selects RX6 yX6_bestCast yX6_bestCast, Cond.code yX6_bestCast cX6_bestCast 2 (some .int)]
def wsL_law0_r9 : List Cond := [Cond.methodLink RX6 156 yX6_offerActors, Cond.instanceMethod yX6_offerActors, Cond.selects RX6 yX6_offerActors yX6_offerActors, Cond.code yX6_offerActors cX6_offerActors 6 none, Cond.methodLink RX6 234 yX1_clear, Cond.instanceMethod yX1_clear, Cond.selects RX1 yX1_clear yX1_clear, Cond.code yX1_clear cX1_clear 2 none, Cond.fieldLink RX1 25 "CastDesk$Casting" "setsBound" "I", Cond.methodLink RX6 193 yX3_actorAt, Cond.instanceMethod yX3_actorAt, Cond.selects RX3 yX3_actorAt yX3_actorAt, Cond.code yX3_actorAt cX3_actorAt 3 (some .int), Cond.methodLink RX6 146 yX6_isReady, Cond.instanceMethod yX6_isReady, Cond.selects RX6 yX6_isReady yX6_isReady, Cond.code yX6_isReady cX6_isReady 5 (some .boolean), Cond.methodLink RX6 142 yX6_has, Cond.static yX6_has, Cond.code yX6_has cX6_has 2 (some .boolean), Cond.methodLink RX6 228 yX5_lowestFitting, Cond.instanceMethod yX5_lowestFitting, Cond.selects RX5 yX5_lowestFitting yX5_lowestFitting, Cond.code yX5_lowestFitting cX5_lowestFitting 4 (some .int)]
def wsL_law0_r10 : List Cond := [Cond.methodLink RX6 231 yX5_lowestToLetOut, Cond.instanceMethod yX5_lowestToLetOut, Cond.selects RX5 yX5_lowestToLetOut yX5_lowestToLetOut, Cond.code yX5_lowestToLetOut cX5_lowestToLetOut 4 (some .int), Cond.methodLink RX6 237 yX1_offer, Cond.instanceMethod yX1_offer, Cond.selects RX1 yX1_offer yX1_offer, Cond.code yX1_offer cX1_offer 6 none, Cond.methodLink RX1 29 Lib.Math.max.name, Cond.static Lib.Math.max.name, Cond.initialized "java/lang/Math", Cond.code Lib.Math.max.name Lib.Math.max.code 2 (some .int), Cond.methodLink RX1 21 yX1_rankShift, Cond.static yX1_rankShift, Cond.code yX1_rankShift cX1_rankShift 1 (some .int), Cond.methodLink RX6 241 yX1_leastKey, Cond.instanceMethod yX1_leastKey, Cond.selects RX1 yX1_leastKey yX1_leastKey, Cond.code yX1_leastKey cX1_leastKey 6 (some .int), Cond.methodLink RX1 35 yJ6_bitCount_0f7a4, Cond.methodLink RX1 40 yX1_castPart, Cond.instanceMethod yX1_castPart, Cond.selects RX1 yX1_castPart yX1_castPart, Cond.code yX1_castPart cX1_castPart 9 none]
def wsL_law0_r11 : List Cond := [Cond.methodLink RX6 168 yX6_countOthers, Cond.instanceMethod yX6_countOthers, Cond.selects RX6 yX6_countOthers yX6_countOthers, Cond.code yX6_countOthers cX6_countOthers 5 (some .int), Cond.methodLink RX6 165 yX6_actorIn, Cond.instanceMethod yX6_actorIn, Cond.selects RX6 yX6_actorIn yX6_actorIn, Cond.code yX6_actorIn cX6_actorIn 3 (some .int), Cond.methodLink RX6 244 yX1_rankOf, Cond.static yX1_rankOf, Cond.code yX1_rankOf cX1_rankOf 2 (some .int), Cond.methodLink RL 14 yX6_strain, Cond.instanceMethod yX6_strain, Cond.selects RX6 yX6_strain yX6_strain, Cond.code yX6_strain cX6_strain 3 (some .int), Cond.methodLink RX6 153 yX1_strainOf, Cond.static yX1_strainOf, Cond.code yX1_strainOf cX1_strainOf 1 (some .int), Cond.methodLink RL 8 yX6_actorFor, Cond.instanceMethod yX6_actorFor, Cond.selects RX6 yX6_actorFor yX6_actorFor, Cond.code yX6_actorFor cX6_actorFor 4 (some .int), Cond.methodLink RL 41 yX6_isIll, Cond.instanceMethod yX6_isIll]
def wsL_law0_r12 : List Cond := [Cond.selects RX6 yX6_isIll yX6_isIll, Cond.code yX6_isIll cX6_isIll 3 (some .boolean), Cond.methodLink RL 45 yX6_cold, Cond.instanceMethod yX6_cold, Cond.selects RX6 yX6_cold yX6_cold, Cond.code yX6_cold cX6_cold 4 (some .int), Cond.methodLink RX6 135 yX4_fallIll, Cond.instanceMethod yX4_fallIll, Cond.selects RX4 yX4_fallIll yX4_fallIll, Cond.code yX4_fallIll cX4_fallIll 6 (some .int), Cond.methodLink RL 37 yL_plays, Cond.static yL_plays, Cond.code yL_plays cL_plays 5 (some .boolean), Cond.methodLink RL 74 yL_good, Cond.static yL_good, Cond.code yL_good cL_good 11 (some .boolean), Cond.methodLink RL 18 yX6_strainByAll, Cond.instanceMethod yX6_strainByAll, Cond.selects RX6 yX6_strainByAll yX6_strainByAll, Cond.code yX6_strainByAll cX6_strainByAll 2 (some .int), Cond.methodLink RX6 159 yX1_leastStrain, Cond.instanceMethod yX1_leastStrain, Cond.selects RX1 yX1_leastStrain yX1_leastStrain, Cond.code yX1_leastStrain cX1_leastStrain 2 (some .int)]
def wsL_law0_r13 : List Cond := [Cond.methodLink RX1 51 yX1_leastFrom, Cond.static yX1_leastFrom, Cond.code yX1_leastFrom cX1_leastFrom 8 (some .int), Cond.methodLink RL 21 yX6_work, Cond.instanceMethod yX6_work, Cond.selects RX6 yX6_work yX6_work, Cond.code yX6_work cX6_work 3 (some .int), Cond.methodLink RX6 162 yX1_workOf, Cond.static yX1_workOf, Cond.code yX1_workOf cX1_workOf 1 (some .int), Cond.methodLink RL 24 yX6_canPlay, Cond.instanceMethod yX6_canPlay, Cond.selects RX6 yX6_canPlay yX6_canPlay, Cond.code yX6_canPlay cX6_canPlay 4 (some .boolean), Cond.methodLink RL 78 yL_chained, Cond.static yL_chained, Cond.code yL_chained cL_chained 6 (some .boolean)]
def wsL_law0 : List Cond := (wsL_law0_r1 ++ (wsL_law0_r2 ++ (wsL_law0_r3 ++ (wsL_law0_r4 ++ (wsL_law0_r5 ++ (wsL_law0_r6 ++ (wsL_law0_r7 ++ (wsL_law0_r8 ++ (wsL_law0_r9 ++ (wsL_law0_r10 ++ (wsL_law0_r11 ++ (wsL_law0_r12 ++ wsL_law0_r13)))))))))))) ++ wsX60 ++ wsX40 ++ wsX30 ++ wsX50 ++ wsX10 ++ wsX20 ++ wsX00 ++ ([] : List Cond)
def wsL_law : List Cond := wsL_law0 ++ (vx_atS RX6 62 "java/lang/IllegalArgumentException" ["java/lang/RuntimeException", "java/lang/Exception"]).filter goodWord ++ (vx_atS RX6 99 "java/lang/IllegalStateException" ["java/lang/RuntimeException", "java/lang/Exception"]).filter goodWord ++ (vx_atS RX6 219 "java/lang/IndexOutOfBoundsException" ["java/lang/RuntimeException", "java/lang/Exception"]).filter goodWord
end
section
theorem mem_r {big ws : List Cond} (ps : List Nat) (hp : ws = ps.filterMap (fun i => big[i]?)) : ∀ w ∈ ws, w ∈ big := by
  intro w hw
  rw [hp] at hw
  obtain ⟨i, -, hi⟩ := List.mem_filterMap.mp hw
  exact List.mem_of_getElem? hi
set_option maxRecDepth 20000 in
theorem wsL_law0_r1_q : ∀ w ∈ wsL_law0_r1, w ∈ lw_tbl := mem_r [23, 24, 8, 50, 499, 25, 26, 27, 28, 29, 30, 31, 32, 9, 152, 51, 52, 10, 153, 64, 65, 11, 154, 86] (by decide +kernel)
set_option maxRecDepth 20000 in
theorem wsL_law0_r2_q : ∀ w ∈ wsL_law0_r2, w ∈ lw_tbl := mem_r [87, 12, 155, 105, 106, 13, 156, 123, 124, 14, 157, 158, 159, 33, 34, 35, 36, 37, 39, 41, 54, 55, 56, 57] (by decide +kernel)
set_option maxRecDepth 20000 in
theorem wsL_law0_r3_q : ∀ w ∈ wsL_law0_r3, w ∈ lw_tbl := mem_r [58, 67, 68, 69, 70, 72, 85, 73, 88, 89, 90, 91, 92, 93, 94, 107, 108, 109, 110, 111, 112, 113, 126, 127] (by decide +kernel)
set_option maxRecDepth 20000 in
theorem wsL_law0_r4_q : ∀ w ∈ wsL_law0_r4, w ∈ lw_tbl := mem_r [128, 129, 130, 131, 132, 133, 134, 335, 336, 7, 337, 338, 339, 340, 341, 177, 178, 179, 180, 181, 18, 342, 343, 344] (by decide +kernel)
set_option maxRecDepth 20000 in
theorem wsL_law0_r5_q : ∀ w ∈ wsL_law0_r5, w ∈ lw_tbl := mem_r [304, 305, 306, 307, 288, 20, 272, 273, 274, 256, 19, 253, 254, 255, 308, 309, 310, 311, 313, 314, 315, 316, 318, 319] (by decide +kernel)
set_option maxRecDepth 20000 in
theorem wsL_law0_r6_q : ∀ w ∈ wsL_law0_r6, w ∈ lw_tbl := mem_r [320, 321, 249, 250, 251, 252, 40, 276, 277, 278, 279, 280, 281, 282, 283, 21, 284, 285, 286, 287, 322, 323, 324, 325] (by decide +kernel)
set_option maxRecDepth 20000 in
theorem wsL_law0_r7_q : ∀ w ∈ wsL_law0_r7, w ∈ lw_tbl := mem_r [75, 326, 327, 328, 331, 332, 333, 334, 74, 444, 445, 446, 447, 448, 449, 450, 452, 453, 454, 455, 456, 457, 458, 459] (by decide +kernel)
set_option maxRecDepth 20000 in
theorem wsL_law0_r8_q : ∀ w ∈ wsL_law0_r8, w ∈ lw_tbl := mem_r [71, 460, 461, 462, 464, 465, 466, 467, 38, 468, 469, 470, 471, 472, 473, 474, 42, 352, 353, 354, 356, 358, 1, 359] (by decide +kernel)
set_option maxRecDepth 20000 in
theorem wsL_law0_r9_q : ∀ w ∈ wsL_law0_r9, w ∈ lw_tbl := mem_r [360, 362, 2, 363, 364, 365, 366, 367, 95, 368, 369, 370, 371, 372, 374, 3, 375, 376, 377, 378, 379, 380, 381, 382] (by decide +kernel)
set_option maxRecDepth 20000 in
theorem wsL_law0_r10_q : ∀ w ∈ wsL_law0_r10, w ∈ lw_tbl := mem_r [383, 384, 385, 386, 387, 388, 389, 390, 394, 395, 22, 396, 391, 392, 393, 397, 398, 399, 400, 401, 402, 404, 4, 405] (by decide +kernel)
set_option maxRecDepth 20000 in
theorem wsL_law0_r11_q : ∀ w ∈ wsL_law0_r11, w ∈ lw_tbl := mem_r [475, 477, 6, 478, 433, 435, 5, 436, 437, 438, 439, 348, 349, 350, 351, 408, 409, 410, 429, 430, 431, 432, 479, 480] (by decide +kernel)
set_option maxRecDepth 20000 in
theorem wsL_law0_r12_q : ∀ w ∈ wsL_law0_r12, w ∈ lw_tbl := mem_r [481, 482, 483, 484, 485, 486, 487, 488, 489, 490, 493, 494, 495, 345, 346, 347, 411, 412, 413, 414, 415, 416, 417, 418] (by decide +kernel)
set_option maxRecDepth 20000 in
theorem wsL_law0_r13_q : ∀ w ∈ wsL_law0_r13, w ∈ lw_tbl := mem_r [419, 420, 421, 422, 423, 424, 425, 426, 427, 428, 440, 441, 442, 443, 496, 497, 498] (by decide +kernel)
set_option maxRecDepth 20000 in
theorem wsX60_q : ∀ w ∈ wsX60, w ∈ lw_tbl := mem_r [160, 162, 164, 166, 168, 170, 172, 174] (by decide +kernel)
set_option maxRecDepth 20000 in
theorem wsX40_q : ∀ w ∈ wsX40, w ∈ lw_tbl := mem_r [43, 45, 47] (by decide +kernel)
set_option maxRecDepth 20000 in
theorem wsX30_q : ∀ w ∈ wsX30, w ∈ lw_tbl := mem_r [59, 61] (by decide +kernel)
set_option maxRecDepth 20000 in
theorem wsX50_q : ∀ w ∈ wsX50, w ∈ lw_tbl := mem_r [76, 78, 80, 82] (by decide +kernel)
set_option maxRecDepth 20000 in
theorem wsX10_q : ∀ w ∈ wsX10, w ∈ lw_tbl := mem_r [96, 98, 100, 102] (by decide +kernel)
set_option maxRecDepth 20000 in
theorem wsX20_q : ∀ w ∈ wsX20, w ∈ lw_tbl := mem_r [114, 116, 118, 120] (by decide +kernel)
set_option maxRecDepth 20000 in
theorem wsX00_q : ∀ w ∈ wsX00, w ∈ lw_tbl := mem_r [135, 137, 139, 141, 143, 145, 147, 149] (by decide +kernel)
theorem wsL_law_in0 : ∀ w ∈ wsL_law0, w ∈ lw_tbl := by
  show ∀ w ∈ (wsL_law0_r1 ++ (wsL_law0_r2 ++ (wsL_law0_r3 ++ (wsL_law0_r4 ++ (wsL_law0_r5 ++ (wsL_law0_r6 ++ (wsL_law0_r7 ++ (wsL_law0_r8 ++ (wsL_law0_r9 ++ (wsL_law0_r10 ++ (wsL_law0_r11 ++ (wsL_law0_r12 ++ (wsL_law0_r13))))))))))))) ++ wsX60 ++ wsX40 ++ wsX30 ++ wsX50 ++ wsX10 ++ wsX20 ++ wsX00 ++ ([] : List Cond), w ∈ lw_tbl
  exact List.forall_mem_append.mpr ⟨List.forall_mem_append.mpr ⟨List.forall_mem_append.mpr ⟨List.forall_mem_append.mpr ⟨List.forall_mem_append.mpr ⟨List.forall_mem_append.mpr ⟨List.forall_mem_append.mpr ⟨List.forall_mem_append.mpr ⟨List.forall_mem_append.mpr ⟨wsL_law0_r1_q, List.forall_mem_append.mpr ⟨wsL_law0_r2_q, List.forall_mem_append.mpr ⟨wsL_law0_r3_q, List.forall_mem_append.mpr ⟨wsL_law0_r4_q, List.forall_mem_append.mpr ⟨wsL_law0_r5_q, List.forall_mem_append.mpr ⟨wsL_law0_r6_q, List.forall_mem_append.mpr ⟨wsL_law0_r7_q, List.forall_mem_append.mpr ⟨wsL_law0_r8_q, List.forall_mem_append.mpr ⟨wsL_law0_r9_q, List.forall_mem_append.mpr ⟨wsL_law0_r10_q, List.forall_mem_append.mpr ⟨wsL_law0_r11_q, List.forall_mem_append.mpr ⟨wsL_law0_r12_q, wsL_law0_r13_q⟩⟩⟩⟩⟩⟩⟩⟩⟩⟩⟩⟩, wsX60_q⟩, wsX40_q⟩, wsX30_q⟩, wsX50_q⟩, wsX10_q⟩, wsX20_q⟩, wsX00_q⟩, fun _ h => absurd h List.not_mem_nil⟩
theorem wsL_law_x0 : ∀ w ∈ (vx_atS RX6 62 "java/lang/IllegalArgumentException" ["java/lang/RuntimeException", "java/lang/Exception"]).filter goodWord, w ∈ lw_tbl := by decide +kernel
theorem wsL_law_x1 : ∀ w ∈ (vx_atS RX6 99 "java/lang/IllegalStateException" ["java/lang/RuntimeException", "java/lang/Exception"]).filter goodWord, w ∈ lw_tbl := by decide +kernel
theorem wsL_law_x2 : ∀ w ∈ (vx_atS RX6 219 "java/lang/IndexOutOfBoundsException" ["java/lang/RuntimeException", "java/lang/Exception"]).filter goodWord, w ∈ lw_tbl := by decide +kernel
theorem wsL_law_in : ∀ w ∈ wsL_law, w ∈ lw_tbl := fun w h => (List.mem_append.mp h).elim (fun h => (List.mem_append.mp h).elim (fun h => (List.mem_append.mp h).elim (fun h => wsL_law_in0 w h) (fun h => wsL_law_x0 w h)) (fun h => wsL_law_x1 w h)) (fun h => wsL_law_x2 w h)
theorem inlX0 : ∀ w ∈ wsX00, w ∈ wsL_law := fun _ h => List.mem_append_left _ (List.mem_append_left _ (List.mem_append_left _ (List.mem_append_left _ (List.mem_append_right _ h))))
theorem inX0 : ∀ w ∈ wsX00, w ∈ lw_tbl := fun w h => wsL_law_in w (inlX0 w h)
theorem inlX1 : ∀ w ∈ wsX10, w ∈ wsL_law := fun _ h => List.mem_append_left _ (List.mem_append_left _ (List.mem_append_left _ (List.mem_append_left _ (List.mem_append_left _ (List.mem_append_left _ (List.mem_append_right _ h))))))
theorem inX1 : ∀ w ∈ wsX10, w ∈ lw_tbl := fun w h => wsL_law_in w (inlX1 w h)
theorem inlX2 : ∀ w ∈ wsX20, w ∈ wsL_law := fun _ h => List.mem_append_left _ (List.mem_append_left _ (List.mem_append_left _ (List.mem_append_left _ (List.mem_append_left _ (List.mem_append_right _ h)))))
theorem inX2 : ∀ w ∈ wsX20, w ∈ lw_tbl := fun w h => wsL_law_in w (inlX2 w h)
theorem inlX3 : ∀ w ∈ wsX30, w ∈ wsL_law := fun _ h => List.mem_append_left _ (List.mem_append_left _ (List.mem_append_left _ (List.mem_append_left _ (List.mem_append_left _ (List.mem_append_left _ (List.mem_append_left _ (List.mem_append_left _ (List.mem_append_right _ h))))))))
theorem inX3 : ∀ w ∈ wsX30, w ∈ lw_tbl := fun w h => wsL_law_in w (inlX3 w h)
theorem inlX4 : ∀ w ∈ wsX40, w ∈ wsL_law := fun _ h => List.mem_append_left _ (List.mem_append_left _ (List.mem_append_left _ (List.mem_append_left _ (List.mem_append_left _ (List.mem_append_left _ (List.mem_append_left _ (List.mem_append_left _ (List.mem_append_left _ (List.mem_append_right _ h)))))))))
theorem inX4 : ∀ w ∈ wsX40, w ∈ lw_tbl := fun w h => wsL_law_in w (inlX4 w h)
theorem inlX5 : ∀ w ∈ wsX50, w ∈ wsL_law := fun _ h => List.mem_append_left _ (List.mem_append_left _ (List.mem_append_left _ (List.mem_append_left _ (List.mem_append_left _ (List.mem_append_left _ (List.mem_append_left _ (List.mem_append_right _ h)))))))
theorem inX5 : ∀ w ∈ wsX50, w ∈ lw_tbl := fun w h => wsL_law_in w (inlX5 w h)
theorem inlX6 : ∀ w ∈ wsX60, w ∈ wsL_law := fun _ h => List.mem_append_left _ (List.mem_append_left _ (List.mem_append_left _ (List.mem_append_left _ (List.mem_append_left _ (List.mem_append_left _ (List.mem_append_left _ (List.mem_append_left _ (List.mem_append_left _ (List.mem_append_left _ (List.mem_append_right _ h))))))))))
theorem inX6 : ∀ w ∈ wsX60, w ∈ lw_tbl := fun w h => wsL_law_in w (inlX6 w h)
theorem inX7 : ∀ w ∈ wsX70, w ∈ lw_tbl := by decide +kernel
theorem inJ6 : ∀ w ∈ wsJ60, w ∈ lw_tbl := by decide +kernel
theorem inJ9 : ∀ w ∈ wsJ90, w ∈ lw_tbl := by decide +kernel
theorem inJ0 : ∀ w ∈ wsJ00, w ∈ lw_tbl := by decide +kernel
end
section
set_option maxRecDepth 20000 in
theorem ggX1_rankOf_X1_rankShift : GoodIn wsX1_rankOf wsX1_rankShift := goodIn_r _ [4] (by decide +kernel) (by decide +kernel)
set_option maxRecDepth 20000 in
theorem gX1_rankOf_X1_rankShift : GoodIn wsX1_rankOf (va_wsS RX1 21 yX1_rankShift wsX1_rankShift) := goodIn_app (goodIn_of _ (by decide +kernel)) ggX1_rankOf_X1_rankShift
set_option maxRecDepth 20000 in
theorem ggX1_offer_X1_rankShift : GoodIn wsX1_offer wsX1_rankShift := goodIn_r _ [11] (by decide +kernel) (by decide +kernel)
set_option maxRecDepth 20000 in
theorem gX1_offer_X1_rankShift : GoodIn wsX1_offer (va_wsS RX1 21 yX1_rankShift wsX1_rankShift) := goodIn_app (goodIn_of _ (by decide +kernel)) ggX1_offer_X1_rankShift
set_option maxRecDepth 20000 in
theorem ggX1_leastKey_J6_bitCount_0f7a4 : GoodIn wsX1_leastKey wsJ6_bitCount_0f7a4 := goodIn_r _ [6, 7, 8, 9] (by decide +kernel) (by decide +kernel)
set_option maxRecDepth 20000 in
theorem gX1_leastKey_J6_bitCount_0f7a4 : GoodIn wsX1_leastKey (va_wsS RX1 35 yJ6_bitCount_0f7a4 wsJ6_bitCount_0f7a4) := goodIn_app (goodIn_of _ (by decide +kernel)) ggX1_leastKey_J6_bitCount_0f7a4
set_option maxRecDepth 20000 in
theorem ggX1_leastKey_X1_castPart : GoodIn wsX1_leastKey wsX1_castPart := goodIn_r _ [14, 15, 16, 1, 17, 18, 19, 20, 21, 22, 23, 24, 25] (by decide +kernel) (by decide +kernel)
set_option maxRecDepth 20000 in
theorem gX1_leastKey_X1_castPart : GoodIn wsX1_leastKey (wsV RX1 40 RX1 yX1_castPart wsX1_castPart) := goodIn_app (goodIn_of _ (by decide +kernel)) ggX1_leastKey_X1_castPart
set_option maxRecDepth 20000 in
theorem ggX1_castPart_X6_has : GoodIn wsX1_castPart wsX6_has := goodIn_r _ [6] (by decide +kernel) (by decide +kernel)
set_option maxRecDepth 20000 in
theorem gX1_castPart_X6_has_n44 : GoodIn wsX1_castPart (wsX6_has) := ggX1_castPart_X6_has
set_option maxRecDepth 20000 in
theorem ggX1_castPart_X6_with : GoodIn wsX1_castPart wsX6_with := goodIn_r _ [8] (by decide +kernel) (by decide +kernel)
set_option maxRecDepth 20000 in
theorem gX1_castPart_X6_with_n48 : GoodIn wsX1_castPart (wsX6_with) := ggX1_castPart_X6_with
set_option maxRecDepth 20000 in
theorem ggX1_leastStrain_X1_leastFrom : GoodIn wsX1_leastStrain wsX1_leastFrom := goodIn_r _ [5, 6, 7, 8, 9, 10, 2, 3, 4] (by decide +kernel) (by decide +kernel)
set_option maxRecDepth 20000 in
theorem gX1_leastStrain_X1_leastFrom : GoodIn wsX1_leastStrain (va_wsS RX1 51 yX1_leastFrom wsX1_leastFrom) := goodIn_app (goodIn_of _ (by decide +kernel)) ggX1_leastStrain_X1_leastFrom
set_option maxRecDepth 20000 in
theorem ggX1_leastFrom_X6_has : GoodIn wsX1_leastFrom wsX6_has := goodIn_r _ [3] (by decide +kernel) (by decide +kernel)
set_option maxRecDepth 20000 in
theorem gX1_leastFrom_X6_has_n44 : GoodIn wsX1_leastFrom (wsX6_has) := ggX1_leastFrom_X6_has
set_option maxRecDepth 20000 in
theorem ggX1_leastFrom_X6_with : GoodIn wsX1_leastFrom wsX6_with := goodIn_r _ [5] (by decide +kernel) (by decide +kernel)
set_option maxRecDepth 20000 in
theorem gX1_leastFrom_X6_with_n48 : GoodIn wsX1_leastFrom (wsX6_with) := ggX1_leastFrom_X6_with
set_option maxRecDepth 20000 in
theorem ggX1_leastFrom_X1_leastFrom : GoodIn wsX1_leastFrom wsX1_leastFrom := goodIn_r _ [0, 1, 2, 3, 4, 5, 6, 7, 8] (by decide +kernel) (by decide +kernel)
set_option maxRecDepth 20000 in
theorem gX1_leastFrom_X1_leastFrom : GoodIn wsX1_leastFrom (va_wsS RX1 51 yX1_leastFrom wsX1_leastFrom) := goodIn_app (goodIn_of _ (by decide +kernel)) ggX1_leastFrom_X1_leastFrom
set_option maxRecDepth 20000 in
theorem ggX4_fallIll_X6_has : GoodIn wsX4_fallIll wsX6_has := goodIn_r _ [4] (by decide +kernel) (by decide +kernel)
set_option maxRecDepth 20000 in
theorem gX4_fallIll_X6_has_n21 : GoodIn wsX4_fallIll (wsX6_has) := ggX4_fallIll_X6_has
set_option maxRecDepth 20000 in
theorem ggX4_fallIll_X6_with : GoodIn wsX4_fallIll wsX6_with := goodIn_r _ [6] (by decide +kernel) (by decide +kernel)
set_option maxRecDepth 20000 in
theorem gX4_fallIll_X6_with_n25 : GoodIn wsX4_fallIll (wsX6_with) := ggX4_fallIll_X6_with
set_option maxRecDepth 20000 in
theorem ggX6_init_X4_init : GoodIn wsX6_init wsX4_init := goodIn_r _ [32, 33, 2, 3, 34, 35, 36, 37, 73, 74, 75] (by decide +kernel) (by decide +kernel)
set_option maxRecDepth 20000 in
theorem gX6_init_X4_init : GoodIn wsX6_init (wsX4_init) := ggX6_init_X4_init
set_option maxRecDepth 20000 in
theorem ggX6_init_X3_init : GoodIn wsX6_init wsX3_init := goodIn_r _ [39, 40, 2, 3, 34, 41, 42, 84, 85] (by decide +kernel) (by decide +kernel)
set_option maxRecDepth 20000 in
theorem gX6_init_X3_init_n18 : GoodIn wsX6_init (wsX3_init) := ggX6_init_X3_init
set_option maxRecDepth 20000 in
theorem ggX6_init_X5_init : GoodIn wsX6_init wsX5_init := goodIn_r _ [44, 45, 2, 3, 34, 46, 47, 48, 49, 86, 87, 88, 89] (by decide +kernel) (by decide +kernel)
set_option maxRecDepth 20000 in
theorem gX6_init_X5_init_n25 : GoodIn wsX6_init (wsX5_init) := ggX6_init_X5_init
set_option maxRecDepth 20000 in
theorem ggX6_init_X1_init : GoodIn wsX6_init wsX1_init := goodIn_r _ [52, 53, 2, 3, 34, 54, 55, 56, 90, 91, 92, 93] (by decide +kernel) (by decide +kernel)
set_option maxRecDepth 20000 in
theorem gX6_init_X1_init : GoodIn wsX6_init (wsX1_init) := ggX6_init_X1_init
set_option maxRecDepth 20000 in
theorem ggX6_init_X2_init : GoodIn wsX6_init wsX2_init := goodIn_r _ [59, 60, 2, 3, 34, 61, 62, 63, 94, 95, 96, 97] (by decide +kernel) (by decide +kernel)
set_option maxRecDepth 20000 in
theorem gX6_init_X2_init : GoodIn wsX6_init (wsX2_init) := ggX6_init_X2_init
set_option maxRecDepth 20000 in
theorem ggX6_init_X0_init : GoodIn wsX6_init wsX0_init := goodIn_r _ [65, 66, 2, 3, 34, 67, 68, 69, 70, 71, 72, 98, 99, 100, 101, 102, 103, 104, 105] (by decide +kernel) (by decide +kernel)
set_option maxRecDepth 20000 in
theorem gX6_init_X0_init_n46 : GoodIn wsX6_init (wsX0_init) := ggX6_init_X0_init
set_option maxRecDepth 20000 in
theorem ggX6_setSize_X6_needActor : GoodIn wsX6_setSize wsX6_needActor := goodIn_ca (goodIn_r _ [6, 7, 8] (by decide +kernel) (by decide +kernel)) (goodIn_sub (fun _ h => List.mem_cons_of_mem _ (List.mem_append_left _ (List.mem_append_right _ h))) (by decide +kernel))
set_option maxRecDepth 20000 in
theorem gX6_setSize_X6_needActor : GoodIn wsX6_setSize (va_wsS RX6 65 yX6_needActor wsX6_needActor) := goodIn_app (goodIn_of _ (by decide +kernel)) ggX6_setSize_X6_needActor
set_option maxRecDepth 20000 in
theorem ggX6_setSize_X6_needSize : GoodIn wsX6_setSize wsX6_needSize := goodIn_ca (goodIn_r _ [11, 12, 13] (by decide +kernel) (by decide +kernel)) (goodIn_sub (fun _ h => List.mem_cons_of_mem _ (List.mem_append_right _ h)) (by decide +kernel))
set_option maxRecDepth 20000 in
theorem gX6_setSize_X6_needSize : GoodIn wsX6_setSize (va_wsS RX6 69 yX6_needSize wsX6_needSize) := goodIn_app (goodIn_of _ (by decide +kernel)) ggX6_setSize_X6_needSize
set_option maxRecDepth 20000 in
theorem ggX6_learn_X6_needActor : GoodIn wsX6_learn wsX6_needActor := goodIn_ca (goodIn_r _ [8, 9, 10] (by decide +kernel) (by decide +kernel)) (goodIn_sub (fun _ h => List.mem_cons_of_mem _ (List.mem_append_right _ h)) (by decide +kernel))
set_option maxRecDepth 20000 in
theorem gX6_learn_X6_needActor : GoodIn wsX6_learn (va_wsS RX6 65 yX6_needActor wsX6_needActor) := goodIn_app (goodIn_of _ (by decide +kernel)) ggX6_learn_X6_needActor
set_option maxRecDepth 20000 in
theorem ggX6_learn_X6_needPart : GoodIn wsX6_learn wsX6_needPart := goodIn_ca (goodIn_r _ [13, 9, 10] (by decide +kernel) (by decide +kernel)) (goodIn_sub (fun _ h => List.mem_cons_of_mem _ (List.mem_append_right _ h)) (by decide +kernel))
set_option maxRecDepth 20000 in
theorem gX6_learn_X6_needPart : GoodIn wsX6_learn (va_wsS RX6 76 yX6_needPart wsX6_needPart) := goodIn_app (goodIn_of _ (by decide +kernel)) ggX6_learn_X6_needPart
set_option maxRecDepth 20000 in
theorem ggX6_learn_X6_with : GoodIn wsX6_learn wsX6_with := goodIn_r _ [16] (by decide +kernel) (by decide +kernel)
set_option maxRecDepth 20000 in
theorem gX6_learn_X6_with : GoodIn wsX6_learn (va_wsS RX6 82 yX6_with wsX6_with) := goodIn_app (goodIn_of _ (by decide +kernel)) ggX6_learn_X6_with
set_option maxRecDepth 20000 in
theorem ggX6_learn_X6_without : GoodIn wsX6_learn wsX6_without := goodIn_r _ [19] (by decide +kernel) (by decide +kernel)
set_option maxRecDepth 20000 in
theorem gX6_learn_X6_without : GoodIn wsX6_learn (va_wsS RX6 86 yX6_without wsX6_without) := goodIn_app (goodIn_of _ (by decide +kernel)) ggX6_learn_X6_without
set_option maxRecDepth 20000 in
theorem ggX6_learn_J6_bitCount_0f7a4 : GoodIn wsX6_learn wsJ6_bitCount_0f7a4 := goodIn_r _ [23, 24, 25, 26] (by decide +kernel) (by decide +kernel)
set_option maxRecDepth 20000 in
theorem gX6_learn_J6_bitCount_0f7a4 : GoodIn wsX6_learn (va_wsS RX6 89 yJ6_bitCount_0f7a4 wsJ6_bitCount_0f7a4) := goodIn_app (goodIn_of _ (by decide +kernel)) ggX6_learn_J6_bitCount_0f7a4
set_option maxRecDepth 20000 in
theorem ggX6_put_X6_needPart : GoodIn wsX6_put wsX6_needPart := goodIn_ca (goodIn_r _ [7, 8, 9] (by decide +kernel) (by decide +kernel)) (goodIn_sub (fun _ h => List.mem_cons_of_mem _ (List.mem_append_right _ h)) (by decide +kernel))
set_option maxRecDepth 20000 in
theorem gX6_put_X6_needPart : GoodIn wsX6_put (va_wsS RX6 76 yX6_needPart wsX6_needPart) := goodIn_app (goodIn_of _ (by decide +kernel)) ggX6_put_X6_needPart
set_option maxRecDepth 20000 in
theorem ggX6_put_X6_needActor : GoodIn wsX6_put wsX6_needActor := goodIn_ca (goodIn_r _ [12, 8, 9] (by decide +kernel) (by decide +kernel)) (goodIn_sub (fun _ h => List.mem_cons_of_mem _ (List.mem_append_right _ h)) (by decide +kernel))
set_option maxRecDepth 20000 in
theorem gX6_put_X6_needActor : GoodIn wsX6_put (va_wsS RX6 65 yX6_needActor wsX6_needActor) := goodIn_app (goodIn_of _ (by decide +kernel)) ggX6_put_X6_needActor
set_option maxRecDepth 20000 in
theorem ggX6_put_X3_rankIn : GoodIn wsX6_put wsX3_rankIn := goodIn_r _ [17, 18, 19, 36, 37] (by decide +kernel) (by decide +kernel)
set_option maxRecDepth 20000 in
theorem gX6_put_X3_rankIn : GoodIn wsX6_put (wsV RX6 100 RX3 yX3_rankIn wsX3_rankIn) := goodIn_app (goodIn_of _ (by decide +kernel)) ggX6_put_X3_rankIn
set_option maxRecDepth 20000 in
theorem ggX6_put_X3_isFull : GoodIn wsX6_put wsX3_isFull := goodIn_r _ [23, 18, 36, 37] (by decide +kernel) (by decide +kernel)
set_option maxRecDepth 20000 in
theorem gX6_put_X3_isFull : GoodIn wsX6_put (wsV RX6 105 RX3 yX3_isFull wsX3_isFull) := goodIn_app (goodIn_of _ (by decide +kernel)) ggX6_put_X3_isFull
set_option maxRecDepth 20000 in
theorem ggX6_put_X3_append : GoodIn wsX6_put wsX3_append := goodIn_r _ [27, 18, 19, 36, 37] (by decide +kernel) (by decide +kernel)
set_option maxRecDepth 20000 in
theorem gX6_put_X3_append : GoodIn wsX6_put (wsV RX6 111 RX3 yX3_append wsX3_append) := goodIn_app (goodIn_of _ (by decide +kernel)) ggX6_put_X3_append
set_option maxRecDepth 20000 in
theorem ggX6_take_X6_needPart : GoodIn wsX6_take wsX6_needPart := goodIn_ca (goodIn_r _ [7, 8, 9] (by decide +kernel) (by decide +kernel)) (goodIn_sub (fun _ h => List.mem_cons_of_mem _ (List.mem_append_right _ h)) (by decide +kernel))
set_option maxRecDepth 20000 in
theorem gX6_take_X6_needPart : GoodIn wsX6_take (va_wsS RX6 76 yX6_needPart wsX6_needPart) := goodIn_app (goodIn_of _ (by decide +kernel)) ggX6_take_X6_needPart
set_option maxRecDepth 20000 in
theorem ggX6_take_X6_needActor : GoodIn wsX6_take wsX6_needActor := goodIn_ca (goodIn_r _ [12, 8, 9] (by decide +kernel) (by decide +kernel)) (goodIn_sub (fun _ h => List.mem_cons_of_mem _ (List.mem_append_right _ h)) (by decide +kernel))
set_option maxRecDepth 20000 in
theorem gX6_take_X6_needActor : GoodIn wsX6_take (va_wsS RX6 65 yX6_needActor wsX6_needActor) := goodIn_app (goodIn_of _ (by decide +kernel)) ggX6_take_X6_needActor
set_option maxRecDepth 20000 in
theorem ggX6_take_X3_rankIn : GoodIn wsX6_take wsX3_rankIn := goodIn_r _ [17, 18, 19, 32, 33] (by decide +kernel) (by decide +kernel)
set_option maxRecDepth 20000 in
theorem gX6_take_X3_rankIn : GoodIn wsX6_take (wsV RX6 100 RX3 yX3_rankIn wsX3_rankIn) := goodIn_app (goodIn_of _ (by decide +kernel)) ggX6_take_X3_rankIn
set_option maxRecDepth 20000 in
theorem ggX6_take_X3_remove : GoodIn wsX6_take wsX3_remove := goodIn_r _ [23, 18, 19, 32, 33] (by decide +kernel) (by decide +kernel)
set_option maxRecDepth 20000 in
theorem gX6_take_X3_remove : GoodIn wsX6_take (wsV RX6 116 RX3 yX3_remove wsX3_remove) := goodIn_app (goodIn_of _ (by decide +kernel)) ggX6_take_X3_remove
set_option maxRecDepth 20000 in
theorem ggX6_costume_X6_needPart : GoodIn wsX6_costume wsX6_needPart := goodIn_ca (goodIn_r _ [8, 9, 10] (by decide +kernel) (by decide +kernel)) (goodIn_sub (fun _ h => List.mem_cons_of_mem _ (List.mem_append_left _ (List.mem_append_right _ h))) (by decide +kernel))
set_option maxRecDepth 20000 in
theorem gX6_costume_X6_needPart : GoodIn wsX6_costume (va_wsS RX6 76 yX6_needPart wsX6_needPart) := goodIn_app (goodIn_of _ (by decide +kernel)) ggX6_costume_X6_needPart
set_option maxRecDepth 20000 in
theorem ggX6_costume_X6_needSize : GoodIn wsX6_costume wsX6_needSize := goodIn_ca (goodIn_r _ [13, 14, 15] (by decide +kernel) (by decide +kernel)) (goodIn_sub (fun _ h => List.mem_cons_of_mem _ (List.mem_append_right _ h)) (by decide +kernel))
set_option maxRecDepth 20000 in
theorem gX6_costume_X6_needSize : GoodIn wsX6_costume (va_wsS RX6 69 yX6_needSize wsX6_needSize) := goodIn_app (goodIn_of _ (by decide +kernel)) ggX6_costume_X6_needSize
set_option maxRecDepth 20000 in
theorem ggX6_costume_X5_add : GoodIn wsX6_costume wsX5_add := goodIn_r _ [20, 21, 22, 23, 32, 33, 34, 35] (by decide +kernel) (by decide +kernel)
set_option maxRecDepth 20000 in
theorem gX6_costume_X5_add : GoodIn wsX6_costume (wsV RX6 125 RX5 yX5_add wsX5_add) := goodIn_app (goodIn_of _ (by decide +kernel)) ggX6_costume_X5_add
set_option maxRecDepth 20000 in
theorem ggX6_sizeOf_X6_needOneOf : GoodIn wsX6_sizeOf wsX6_needOneOf := goodIn_ca (goodIn_r _ [7, 8, 9] (by decide +kernel) (by decide +kernel)) (goodIn_sub (fun _ h => List.mem_cons_of_mem _ (List.mem_append_right _ h)) (by decide +kernel))
set_option maxRecDepth 20000 in
theorem gX6_sizeOf_X6_needOneOf : GoodIn wsX6_sizeOf (va_wsS RX6 128 yX6_needOneOf wsX6_needOneOf) := goodIn_app (goodIn_of _ (by decide +kernel)) ggX6_sizeOf_X6_needOneOf
set_option maxRecDepth 20000 in
theorem ggX6_cold_X6_needActor : GoodIn wsX6_cold wsX6_needActor := goodIn_ca (goodIn_r _ [6, 7, 8] (by decide +kernel) (by decide +kernel)) (goodIn_sub (fun _ h => List.mem_cons_of_mem _ (List.mem_append_left _ (List.mem_append_right _ h))) (by decide +kernel))
set_option maxRecDepth 20000 in
theorem gX6_cold_X6_needActor : GoodIn wsX6_cold (va_wsS RX6 65 yX6_needActor wsX6_needActor) := goodIn_app (goodIn_of _ (by decide +kernel)) ggX6_cold_X6_needActor
set_option maxRecDepth 20000 in
theorem ggX6_cold_X6_needDay : GoodIn wsX6_cold wsX6_needDay := goodIn_ca (goodIn_r _ [11, 12, 13] (by decide +kernel) (by decide +kernel)) (goodIn_sub (fun _ h => List.mem_cons_of_mem _ (List.mem_append_right _ h)) (by decide +kernel))
set_option maxRecDepth 20000 in
theorem gX6_cold_X6_needDay : GoodIn wsX6_cold (va_wsS RX6 132 yX6_needDay wsX6_needDay) := goodIn_app (goodIn_of _ (by decide +kernel)) ggX6_cold_X6_needDay
set_option maxRecDepth 20000 in
theorem ggX6_cold_X4_fallIll : GoodIn wsX6_cold wsX4_fallIll := goodIn_r _ [18, 19, 20, 5, 21, 22, 23, 32, 33, 34] (by decide +kernel) (by decide +kernel)
set_option maxRecDepth 20000 in
theorem gX6_cold_X4_fallIll : GoodIn wsX6_cold (wsV RX6 135 RX4 yX4_fallIll wsX4_fallIll) := goodIn_app (goodIn_of _ (by decide +kernel)) ggX6_cold_X4_fallIll
set_option maxRecDepth 20000 in
theorem ggX6_isIll_X6_needActor : GoodIn wsX6_isIll wsX6_needActor := goodIn_ca (goodIn_r _ [6, 7, 8] (by decide +kernel) (by decide +kernel)) (goodIn_sub (fun _ h => List.mem_cons_of_mem _ (List.mem_append_left _ (List.mem_append_right _ h))) (by decide +kernel))
set_option maxRecDepth 20000 in
theorem gX6_isIll_X6_needActor : GoodIn wsX6_isIll (va_wsS RX6 65 yX6_needActor wsX6_needActor) := goodIn_app (goodIn_of _ (by decide +kernel)) ggX6_isIll_X6_needActor
set_option maxRecDepth 20000 in
theorem ggX6_isIll_X6_needDay : GoodIn wsX6_isIll wsX6_needDay := goodIn_ca (goodIn_r _ [11, 12, 13] (by decide +kernel) (by decide +kernel)) (goodIn_sub (fun _ h => List.mem_cons_of_mem _ (List.mem_append_right _ h)) (by decide +kernel))
set_option maxRecDepth 20000 in
theorem gX6_isIll_X6_needDay : GoodIn wsX6_isIll (va_wsS RX6 132 yX6_needDay wsX6_needDay) := goodIn_app (goodIn_of _ (by decide +kernel)) ggX6_isIll_X6_needDay
set_option maxRecDepth 20000 in
theorem ggX6_isIll_X6_has : GoodIn wsX6_isIll wsX6_has := goodIn_r _ [16] (by decide +kernel) (by decide +kernel)
set_option maxRecDepth 20000 in
theorem gX6_isIll_X6_has : GoodIn wsX6_isIll (va_wsS RX6 142 yX6_has wsX6_has) := goodIn_app (goodIn_of _ (by decide +kernel)) ggX6_isIll_X6_has
set_option maxRecDepth 20000 in
theorem ggX6_canPlay_X6_needActor : GoodIn wsX6_canPlay wsX6_needActor := goodIn_ca (goodIn_r _ [7, 8, 9] (by decide +kernel) (by decide +kernel)) (goodIn_sub (fun _ h => List.mem_cons_of_mem _ (List.mem_append_left _ (List.mem_append_right _ h))) (by decide +kernel))
set_option maxRecDepth 20000 in
theorem gX6_canPlay_X6_needActor : GoodIn wsX6_canPlay (va_wsS RX6 65 yX6_needActor wsX6_needActor) := goodIn_app (goodIn_of _ (by decide +kernel)) ggX6_canPlay_X6_needActor
set_option maxRecDepth 20000 in
theorem ggX6_canPlay_X6_needPart : GoodIn wsX6_canPlay wsX6_needPart := goodIn_ca (goodIn_r _ [12, 8, 9] (by decide +kernel) (by decide +kernel)) (goodIn_sub (fun _ h => List.mem_cons_of_mem _ (List.mem_append_left _ (List.mem_append_right _ h))) (by decide +kernel))
set_option maxRecDepth 20000 in
theorem gX6_canPlay_X6_needPart : GoodIn wsX6_canPlay (va_wsS RX6 76 yX6_needPart wsX6_needPart) := goodIn_app (goodIn_of _ (by decide +kernel)) ggX6_canPlay_X6_needPart
set_option maxRecDepth 20000 in
theorem ggX6_canPlay_X6_needDay : GoodIn wsX6_canPlay wsX6_needDay := goodIn_ca (goodIn_r _ [15, 16, 17] (by decide +kernel) (by decide +kernel)) (goodIn_sub (fun _ h => List.mem_cons_of_mem _ (List.mem_append_right _ h)) (by decide +kernel))
set_option maxRecDepth 20000 in
theorem gX6_canPlay_X6_needDay : GoodIn wsX6_canPlay (va_wsS RX6 132 yX6_needDay wsX6_needDay) := goodIn_app (goodIn_of _ (by decide +kernel)) ggX6_canPlay_X6_needDay
set_option maxRecDepth 20000 in
theorem ggX6_canPlay_X3_rankIn : GoodIn wsX6_canPlay wsX3_rankIn := goodIn_r _ [22, 23, 24, 59, 60] (by decide +kernel) (by decide +kernel)
set_option maxRecDepth 20000 in
theorem gX6_canPlay_X3_rankIn : GoodIn wsX6_canPlay (wsV RX6 100 RX3 yX3_rankIn wsX3_rankIn) := goodIn_app (goodIn_of _ (by decide +kernel)) ggX6_canPlay_X3_rankIn
set_option maxRecDepth 20000 in
theorem ggX6_canPlay_X6_isReady : GoodIn wsX6_canPlay wsX6_isReady := goodIn_r _ [28, 2, 29, 30, 31, 32, 33, 6, 34, 35, 36, 37, 38, 39, 40, 41, 42, 43, 44, 45, 46, 47, 48, 49, 50, 51, 52, 53, 54, 55, 56, 57, 58, 61, 62, 63, 64] (by decide +kernel) (by decide +kernel)
set_option maxRecDepth 20000 in
theorem gX6_canPlay_X6_isReady : GoodIn wsX6_canPlay (wsV RX6 146 RX6 yX6_isReady wsX6_isReady) := goodIn_app (goodIn_of _ (by decide +kernel)) ggX6_canPlay_X6_isReady
set_option maxRecDepth 20000 in
theorem ggX6_strain_X6_needDay : GoodIn wsX6_strain wsX6_needDay := goodIn_ca (goodIn_r _ [6, 7, 8] (by decide +kernel) (by decide +kernel)) (goodIn_sub (fun _ h => List.mem_cons_of_mem _ (List.mem_append_right _ h)) (by decide +kernel))
set_option maxRecDepth 20000 in
theorem gX6_strain_X6_needDay : GoodIn wsX6_strain (va_wsS RX6 132 yX6_needDay wsX6_needDay) := goodIn_app (goodIn_of _ (by decide +kernel)) ggX6_strain_X6_needDay
set_option maxRecDepth 20000 in
theorem ggX6_strain_X6_bestCast : GoodIn wsX6_strain wsX6_bestCast := goodIn_r _ [12, 13, 14, 15, 16, 17, 5, 18, 19, 20, 1, 21, 22, 23, 24, 25, 26, 27, 28, 29, 30, 31, 32, 33, 34, 35, 36, 37, 38, 39, 40, 41, 42, 43, 44, 45, 46, 47, 48, 49, 50, 51, 52, 53, 54, 55, 56, 57, 58, 59, 60, 61, 62, 63, 64, 65, 66, 67, 68, 69, 70, 71, 72, 73, 74, 75, 76, 77, 78, 79, 80, 81, 82, 83, 84, 85, 86, 90, 91, 92, 93, 94, 95, 96, 97, 98, 99, 100, 101, 102, 103, 104, 105, 106, 107, 108, 109, 110] (by decide +kernel) (by decide +kernel)
set_option maxRecDepth 20000 in
theorem gX6_strain_X6_bestCast : GoodIn wsX6_strain (wsV RX6 150 RX6 yX6_bestCast wsX6_bestCast) := goodIn_app (goodIn_of _ (by decide +kernel)) ggX6_strain_X6_bestCast
set_option maxRecDepth 20000 in
theorem ggX6_strain_X1_strainOf : GoodIn wsX6_strain wsX1_strainOf := goodIn_r _ [89] (by decide +kernel) (by decide +kernel)
set_option maxRecDepth 20000 in
theorem gX6_strain_X1_strainOf : GoodIn wsX6_strain (va_wsS RX6 153 yX1_strainOf wsX1_strainOf) := goodIn_app (goodIn_of _ (by decide +kernel)) ggX6_strain_X1_strainOf
set_option maxRecDepth 20000 in
theorem ggX6_strainByAll_X6_needDay : GoodIn wsX6_strainByAll wsX6_needDay := goodIn_ca (goodIn_r _ [8, 9, 10] (by decide +kernel) (by decide +kernel)) (goodIn_sub (fun _ h => List.mem_cons_of_mem _ (List.mem_append_right _ h)) (by decide +kernel))
set_option maxRecDepth 20000 in
theorem gX6_strainByAll_X6_needDay : GoodIn wsX6_strainByAll (va_wsS RX6 132 yX6_needDay wsX6_needDay) := goodIn_app (goodIn_of _ (by decide +kernel)) ggX6_strainByAll_X6_needDay
set_option maxRecDepth 20000 in
theorem ggX6_strainByAll_X6_offerActors : GoodIn wsX6_strainByAll wsX6_offerActors := goodIn_r _ [14, 3, 4, 15, 16, 1, 17, 18, 19, 20, 21, 22, 23, 24, 25, 26, 27, 28, 29, 30, 31, 32, 33, 34, 7, 35, 36, 37, 38, 39, 40, 41, 42, 43, 44, 45, 46, 47, 48, 49, 50, 51, 52, 53, 54, 55, 56, 57, 58, 59, 60, 61, 62, 63, 64, 74, 75, 76, 77, 78, 79, 80, 81, 82, 83, 84, 85, 86, 87, 88, 89, 90, 91, 92, 93, 94] (by decide +kernel) (by decide +kernel)
set_option maxRecDepth 20000 in
theorem gX6_strainByAll_X6_offerActors : GoodIn wsX6_strainByAll (wsV RX6 156 RX6 yX6_offerActors wsX6_offerActors) := goodIn_app (goodIn_of _ (by decide +kernel)) ggX6_strainByAll_X6_offerActors
set_option maxRecDepth 20000 in
theorem ggX6_strainByAll_X1_leastStrain : GoodIn wsX6_strainByAll wsX1_leastStrain := goodIn_r _ [68, 23, 69, 70, 21, 71, 38, 7, 39, 72, 73, 85, 86, 87, 88] (by decide +kernel) (by decide +kernel)
set_option maxRecDepth 20000 in
theorem gX6_strainByAll_X1_leastStrain : GoodIn wsX6_strainByAll (wsV RX6 159 RX1 yX1_leastStrain wsX1_leastStrain) := goodIn_app (goodIn_of _ (by decide +kernel)) ggX6_strainByAll_X1_leastStrain
set_option maxRecDepth 20000 in
theorem ggX6_work_X6_needDay : GoodIn wsX6_work wsX6_needDay := goodIn_ca (goodIn_r _ [6, 7, 8] (by decide +kernel) (by decide +kernel)) (goodIn_sub (fun _ h => List.mem_cons_of_mem _ (List.mem_append_right _ h)) (by decide +kernel))
set_option maxRecDepth 20000 in
theorem gX6_work_X6_needDay : GoodIn wsX6_work (va_wsS RX6 132 yX6_needDay wsX6_needDay) := goodIn_app (goodIn_of _ (by decide +kernel)) ggX6_work_X6_needDay
set_option maxRecDepth 20000 in
theorem ggX6_work_X6_bestCast : GoodIn wsX6_work wsX6_bestCast := goodIn_r _ [12, 13, 14, 15, 16, 17, 5, 18, 19, 20, 1, 21, 22, 23, 24, 25, 26, 27, 28, 29, 30, 31, 32, 33, 34, 35, 36, 37, 38, 39, 40, 41, 42, 43, 44, 45, 46, 47, 48, 49, 50, 51, 52, 53, 54, 55, 56, 57, 58, 59, 60, 61, 62, 63, 64, 65, 66, 67, 68, 69, 70, 71, 72, 73, 74, 75, 76, 77, 78, 79, 80, 81, 82, 83, 84, 85, 86, 90, 91, 92, 93, 94, 95, 96, 97, 98, 99, 100, 101, 102, 103, 104, 105, 106, 107, 108, 109, 110] (by decide +kernel) (by decide +kernel)
set_option maxRecDepth 20000 in
theorem gX6_work_X6_bestCast : GoodIn wsX6_work (wsV RX6 150 RX6 yX6_bestCast wsX6_bestCast) := goodIn_app (goodIn_of _ (by decide +kernel)) ggX6_work_X6_bestCast
set_option maxRecDepth 20000 in
theorem ggX6_work_X1_workOf : GoodIn wsX6_work wsX1_workOf := goodIn_r _ [89] (by decide +kernel) (by decide +kernel)
set_option maxRecDepth 20000 in
theorem gX6_work_X1_workOf : GoodIn wsX6_work (va_wsS RX6 162 yX1_workOf wsX1_workOf) := goodIn_app (goodIn_of _ (by decide +kernel)) ggX6_work_X1_workOf
set_option maxRecDepth 20000 in
theorem ggX6_actorFor_X6_needPart : GoodIn wsX6_actorFor wsX6_needPart := goodIn_ca (goodIn_r _ [7, 8, 9] (by decide +kernel) (by decide +kernel)) (goodIn_sub (fun _ h => List.mem_cons_of_mem _ (List.mem_append_left _ (List.mem_append_right _ h))) (by decide +kernel))
set_option maxRecDepth 20000 in
theorem gX6_actorFor_X6_needPart : GoodIn wsX6_actorFor (va_wsS RX6 76 yX6_needPart wsX6_needPart) := goodIn_app (goodIn_of _ (by decide +kernel)) ggX6_actorFor_X6_needPart
set_option maxRecDepth 20000 in
theorem ggX6_actorFor_X6_needDay : GoodIn wsX6_actorFor wsX6_needDay := goodIn_ca (goodIn_r _ [12, 13, 14] (by decide +kernel) (by decide +kernel)) (goodIn_sub (fun _ h => List.mem_cons_of_mem _ (List.mem_append_right _ h)) (by decide +kernel))
set_option maxRecDepth 20000 in
theorem gX6_actorFor_X6_needDay : GoodIn wsX6_actorFor (va_wsS RX6 132 yX6_needDay wsX6_needDay) := goodIn_app (goodIn_of _ (by decide +kernel)) ggX6_actorFor_X6_needDay
set_option maxRecDepth 20000 in
theorem ggX6_actorFor_X6_bestCast : GoodIn wsX6_actorFor wsX6_bestCast := goodIn_r _ [18, 19, 3, 20, 21, 22, 6, 23, 24, 25, 1, 26, 27, 28, 29, 30, 31, 32, 33, 34, 35, 36, 37, 38, 39, 40, 41, 42, 43, 44, 45, 46, 47, 48, 49, 50, 51, 52, 53, 54, 55, 56, 57, 58, 59, 60, 61, 62, 63, 64, 65, 66, 67, 68, 69, 70, 71, 72, 73, 74, 75, 76, 77, 78, 79, 80, 81, 82, 83, 84, 85, 86, 87, 88, 89, 90, 91, 99, 100, 101, 102, 103, 104, 105, 106, 107, 108, 109, 110, 111, 112, 113, 114, 115, 116, 117, 118, 119] (by decide +kernel) (by decide +kernel)
set_option maxRecDepth 20000 in
theorem gX6_actorFor_X6_bestCast : GoodIn wsX6_actorFor (wsV RX6 150 RX6 yX6_bestCast wsX6_bestCast) := goodIn_app (goodIn_of _ (by decide +kernel)) ggX6_actorFor_X6_bestCast
set_option maxRecDepth 20000 in
theorem ggX6_actorFor_X6_actorIn : GoodIn wsX6_actorFor wsX6_actorIn := goodIn_r _ [95, 24, 96, 97, 30, 98, 71, 72, 73, 34, 35, 36, 37, 38, 39, 40, 99, 100, 101, 102, 103, 104, 105, 106, 114, 115] (by decide +kernel) (by decide +kernel)
set_option maxRecDepth 20000 in
theorem gX6_actorFor_X6_actorIn : GoodIn wsX6_actorFor (wsV RX6 165 RX6 yX6_actorIn wsX6_actorIn) := goodIn_app (goodIn_of _ (by decide +kernel)) ggX6_actorFor_X6_actorIn
set_option maxRecDepth 20000 in
theorem ggX6_chain_X6_needActor : GoodIn wsX6_chain wsX6_needActor := goodIn_ca (goodIn_r _ [6, 7, 8] (by decide +kernel) (by decide +kernel)) (goodIn_sub (fun _ h => List.mem_cons_of_mem _ (List.mem_append_left _ (List.mem_append_right _ h))) (by decide +kernel))
set_option maxRecDepth 20000 in
theorem gX6_chain_X6_needActor : GoodIn wsX6_chain (va_wsS RX6 65 yX6_needActor wsX6_needActor) := goodIn_app (goodIn_of _ (by decide +kernel)) ggX6_chain_X6_needActor
set_option maxRecDepth 20000 in
theorem ggX6_chain_X6_needDay : GoodIn wsX6_chain wsX6_needDay := goodIn_ca (goodIn_r _ [11, 12, 13] (by decide +kernel) (by decide +kernel)) (goodIn_sub (fun _ h => List.mem_cons_of_mem _ (List.mem_append_right _ h)) (by decide +kernel))
set_option maxRecDepth 20000 in
theorem gX6_chain_X6_needDay : GoodIn wsX6_chain (va_wsS RX6 132 yX6_needDay wsX6_needDay) := goodIn_app (goodIn_of _ (by decide +kernel)) ggX6_chain_X6_needDay
set_option maxRecDepth 20000 in
theorem ggX6_chain_X6_bestCast : GoodIn wsX6_chain wsX6_bestCast := goodIn_r _ [17, 18, 19, 20, 21, 22, 5, 23, 24, 25, 1, 26, 27, 28, 29, 30, 31, 32, 33, 34, 35, 36, 37, 38, 39, 40, 41, 42, 43, 44, 45, 46, 47, 48, 49, 50, 51, 52, 53, 54, 55, 56, 57, 58, 59, 60, 61, 62, 63, 64, 65, 66, 67, 68, 69, 70, 71, 72, 73, 74, 75, 76, 77, 78, 79, 80, 81, 82, 83, 84, 85, 86, 87, 88, 89, 90, 91, 104, 105, 106, 107, 108, 109, 110, 111, 112, 113, 114, 115, 116, 117, 118, 119, 120, 121, 122, 123, 124] (by decide +kernel) (by decide +kernel)
set_option maxRecDepth 20000 in
theorem gX6_chain_X6_bestCast : GoodIn wsX6_chain (wsV RX6 150 RX6 yX6_bestCast wsX6_bestCast) := goodIn_app (goodIn_of _ (by decide +kernel)) ggX6_chain_X6_bestCast
set_option maxRecDepth 20000 in
theorem ggX6_chain_X6_with : GoodIn wsX6_chain wsX6_with := goodIn_r _ [91] (by decide +kernel) (by decide +kernel)
set_option maxRecDepth 20000 in
theorem gX6_chain_X6_with : GoodIn wsX6_chain (va_wsS RX6 82 yX6_with wsX6_with) := goodIn_app (goodIn_of _ (by decide +kernel)) ggX6_chain_X6_with
set_option maxRecDepth 20000 in
theorem ggX6_chain_X6_countOthers : GoodIn wsX6_chain wsX6_countOthers := goodIn_r _ [96, 19, 97, 98, 99, 5, 100, 24, 101, 102, 30, 103, 71, 72, 73, 34, 35, 36, 37, 38, 39, 40, 104, 105, 106, 107, 108, 109, 110, 111, 119, 120] (by decide +kernel) (by decide +kernel)
set_option maxRecDepth 20000 in
theorem gX6_chain_X6_countOthers : GoodIn wsX6_chain (wsV RX6 168 RX6 yX6_countOthers wsX6_countOthers) := goodIn_app (goodIn_of _ (by decide +kernel)) ggX6_chain_X6_countOthers
set_option maxRecDepth 20000 in
theorem ggX6_isReady_X6_has : GoodIn wsX6_isReady wsX6_has := goodIn_r _ [8] (by decide +kernel) (by decide +kernel)
set_option maxRecDepth 20000 in
theorem gX6_isReady_X6_has : GoodIn wsX6_isReady (va_wsS RX6 142 yX6_has wsX6_has) := goodIn_app (goodIn_of _ (by decide +kernel)) ggX6_isReady_X6_has
set_option maxRecDepth 20000 in
theorem ggX6_isReady_X5_lowestFitting : GoodIn wsX6_isReady wsX5_lowestFitting := goodIn_r _ [13, 14, 15, 16, 33, 34, 35, 36] (by decide +kernel) (by decide +kernel)
set_option maxRecDepth 20000 in
theorem gX6_isReady_X5_lowestFitting : GoodIn wsX6_isReady (wsV RX6 228 RX5 yX5_lowestFitting wsX5_lowestFitting) := goodIn_app (goodIn_of _ (by decide +kernel)) ggX6_isReady_X5_lowestFitting
set_option maxRecDepth 20000 in
theorem ggX6_isReady_X5_lowestToLetOut : GoodIn wsX6_isReady wsX5_lowestToLetOut := goodIn_r _ [20, 14, 15, 16, 21, 33, 34, 35, 36] (by decide +kernel) (by decide +kernel)
set_option maxRecDepth 20000 in
theorem gX6_isReady_X5_lowestToLetOut : GoodIn wsX6_isReady (wsV RX6 231 RX5 yX5_lowestToLetOut wsX5_lowestToLetOut) := goodIn_app (goodIn_of _ (by decide +kernel)) ggX6_isReady_X5_lowestToLetOut
set_option maxRecDepth 20000 in
theorem ggX6_offerActors_X1_clear : GoodIn wsX6_offerActors wsX1_clear := goodIn_r _ [11, 12, 13, 66, 67, 68, 69] (by decide +kernel) (by decide +kernel)
set_option maxRecDepth 20000 in
theorem gX6_offerActors_X1_clear : GoodIn wsX6_offerActors (wsV RX6 234 RX1 yX1_clear wsX1_clear) := goodIn_app (goodIn_of _ (by decide +kernel)) ggX6_offerActors_X1_clear
set_option maxRecDepth 20000 in
theorem ggX6_offerActors_X3_actorAt : GoodIn wsX6_offerActors wsX3_actorAt := goodIn_r _ [18, 19, 20, 70, 71] (by decide +kernel) (by decide +kernel)
set_option maxRecDepth 20000 in
theorem gX6_offerActors_X3_actorAt : GoodIn wsX6_offerActors (wsV RX6 193 RX3 yX3_actorAt wsX3_actorAt) := goodIn_app (goodIn_of _ (by decide +kernel)) ggX6_offerActors_X3_actorAt
set_option maxRecDepth 20000 in
theorem ggX6_offerActors_X6_isReady : GoodIn wsX6_offerActors wsX6_isReady := goodIn_r _ [25, 5, 6, 26, 4, 27, 28, 24, 29, 30, 31, 32, 33, 34, 35, 36, 37, 38, 39, 40, 41, 42, 55, 56, 57, 58, 59, 60, 61, 62, 63, 64, 65, 72, 73, 74, 75] (by decide +kernel) (by decide +kernel)
set_option maxRecDepth 20000 in
theorem gX6_offerActors_X6_isReady : GoodIn wsX6_offerActors (wsV RX6 146 RX6 yX6_isReady wsX6_isReady) := goodIn_app (goodIn_of _ (by decide +kernel)) ggX6_offerActors_X6_isReady
set_option maxRecDepth 20000 in
theorem ggX6_offerActors_X5_lowestFitting : GoodIn wsX6_offerActors wsX5_lowestFitting := goodIn_r _ [34, 35, 36, 37, 72, 73, 74, 75] (by decide +kernel) (by decide +kernel)
set_option maxRecDepth 20000 in
theorem gX6_offerActors_X5_lowestFitting : GoodIn wsX6_offerActors (wsV RX6 228 RX5 yX5_lowestFitting wsX5_lowestFitting) := goodIn_app (goodIn_of _ (by decide +kernel)) ggX6_offerActors_X5_lowestFitting
set_option maxRecDepth 20000 in
theorem ggX6_offerActors_X1_offer : GoodIn wsX6_offerActors wsX1_offer := goodIn_r _ [46, 12, 47, 13, 48, 49, 50, 51, 52, 53, 10, 54, 66, 67, 68, 69] (by decide +kernel) (by decide +kernel)
set_option maxRecDepth 20000 in
theorem gX6_offerActors_X1_offer : GoodIn wsX6_offerActors (wsV RX6 237 RX1 yX1_offer wsX1_offer) := goodIn_app (goodIn_of _ (by decide +kernel)) ggX6_offerActors_X1_offer
end
section
set_option maxRecDepth 20000 in
theorem ggX6_bestCast_X6_offerActors : GoodIn wsX6_bestCast wsX6_offerActors := goodIn_r _ [7, 1, 2, 8, 9, 10, 11, 12, 13, 14, 15, 16, 17, 18, 19, 20, 21, 22, 23, 24, 25, 26, 27, 28, 6, 29, 30, 31, 32, 33, 34, 35, 36, 37, 38, 39, 40, 41, 42, 43, 44, 45, 46, 47, 48, 49, 50, 51, 52, 53, 54, 55, 56, 57, 58, 77, 78, 79, 80, 81, 82, 83, 84, 85, 86, 87, 88, 89, 90, 91, 92, 93, 94, 95, 96, 97] (by decide +kernel) (by decide +kernel)
set_option maxRecDepth 20000 in
theorem gX6_bestCast_X6_offerActors : GoodIn wsX6_bestCast (wsV RX6 156 RX6 yX6_offerActors wsX6_offerActors) := goodIn_app (goodIn_of _ (by decide +kernel)) ggX6_bestCast_X6_offerActors
set_option maxRecDepth 20000 in
theorem ggX6_bestCast_X1_leastKey : GoodIn wsX6_bestCast wsX1_leastKey := goodIn_r _ [62, 63, 18, 64, 65, 66, 67, 68, 69, 70, 71, 72, 73, 15, 74, 17, 51, 32, 6, 33, 75, 76, 88, 89, 90, 91] (by decide +kernel) (by decide +kernel)
set_option maxRecDepth 20000 in
theorem gX6_bestCast_X1_leastKey : GoodIn wsX6_bestCast (wsV RX6 241 RX1 yX1_leastKey wsX1_leastKey) := goodIn_app (goodIn_of _ (by decide +kernel)) ggX6_bestCast_X1_leastKey
set_option maxRecDepth 20000 in
theorem ggX6_actorIn_X1_rankOf : GoodIn wsX6_actorIn wsX1_rankOf := goodIn_r _ [5, 6, 7, 4, 8] (by decide +kernel) (by decide +kernel)
set_option maxRecDepth 20000 in
theorem gX6_actorIn_X1_rankOf : GoodIn wsX6_actorIn (va_wsS RX6 244 yX1_rankOf wsX1_rankOf) := goodIn_app (goodIn_of _ (by decide +kernel)) ggX6_actorIn_X1_rankOf
set_option maxRecDepth 20000 in
theorem ggX6_actorIn_X3_actorAt : GoodIn wsX6_actorIn wsX3_actorAt := goodIn_r _ [13, 14, 15, 24, 25] (by decide +kernel) (by decide +kernel)
set_option maxRecDepth 20000 in
theorem gX6_actorIn_X3_actorAt : GoodIn wsX6_actorIn (wsV RX6 193 RX3 yX3_actorAt wsX3_actorAt) := goodIn_app (goodIn_of _ (by decide +kernel)) ggX6_actorIn_X3_actorAt
set_option maxRecDepth 20000 in
theorem ggX6_countOthers_X6_actorIn : GoodIn wsX6_countOthers wsX6_actorIn := goodIn_r _ [6, 7, 8, 9, 10, 11, 12, 13, 14, 15, 16, 17, 18, 19, 20, 21, 22, 23, 24, 25, 26, 27, 28, 29, 30, 31] (by decide +kernel) (by decide +kernel)
set_option maxRecDepth 20000 in
theorem gX6_countOthers_X6_actorIn : GoodIn wsX6_countOthers (wsV RX6 165 RX6 yX6_actorIn wsX6_actorIn) := goodIn_app (goodIn_of _ (by decide +kernel)) ggX6_countOthers_X6_actorIn
end
section
set_option maxRecDepth 20000 in
theorem ggL_plays_X6_actorFor : GoodIn wsL_plays wsX6_actorFor := goodIn_ca (goodIn_ca (goodIn_r _ [5, 6, 7, 8, 9, 10, 4, 11, 12, 13, 14, 15, 16, 17, 18, 19, 20, 21, 22, 23, 24, 25, 26, 27, 28, 29, 30, 31, 32, 33, 34, 35, 36, 37, 38, 39, 40, 41, 42, 43, 44, 45, 46, 47, 48, 49, 50, 51, 52, 53, 54, 55, 56, 57, 58, 59, 60, 61, 62, 63, 64, 65, 66, 67, 68, 69, 70, 71, 72, 73, 74, 75, 76, 77, 78, 79, 80, 81, 82, 83, 84, 85, 86, 87, 88, 89, 90, 91, 92, 93, 94, 95, 96, 97, 98, 99, 100, 101, 102, 103, 104, 105, 106, 107, 108, 109, 110, 111, 112, 113, 114, 115, 116, 117, 118, 119, 120, 121, 122, 123] (by decide +kernel) (by decide +kernel)) (goodIn_sub (fun _ h => List.mem_cons_of_mem _ (List.mem_append_left _ (List.mem_append_right _ h))) (by decide +kernel))) (goodIn_sub (fun _ h => List.mem_cons_of_mem _ (List.mem_append_right _ h)) (by decide +kernel))
set_option maxRecDepth 20000 in
theorem gL_plays_X6_actorFor : GoodIn wsL_plays (wsV RL 8 RX6 yX6_actorFor wsX6_actorFor) := goodIn_app (goodIn_of _ (by decide +kernel)) ggL_plays_X6_actorFor
set_option maxRecDepth 20000 in
theorem ggL_good_X6_strain : GoodIn wsL_good wsX6_strain := goodIn_ca (goodIn_r _ [5, 6, 7, 8, 9, 4, 10, 11, 12, 13, 14, 15, 16, 17, 18, 19, 20, 21, 22, 23, 24, 25, 26, 27, 28, 29, 30, 31, 32, 33, 34, 35, 36, 37, 38, 39, 40, 41, 42, 43, 44, 45, 46, 47, 48, 49, 50, 51, 52, 53, 54, 55, 56, 57, 58, 59, 60, 61, 62, 63, 64, 65, 66, 67, 68, 69, 70, 71, 72, 73, 74, 75, 76, 77, 78, 79, 80, 81, 82, 83, 84, 85, 86, 87, 88, 89, 90, 91, 92, 93, 143, 144, 145, 146, 147, 148, 149, 150, 151, 152, 153, 154, 155, 156, 157, 158, 159, 160, 161, 162, 163] (by decide +kernel) (by decide +kernel)) (goodIn_sub (fun _ h => List.mem_cons_of_mem _ (List.mem_append_left _ (List.mem_append_right _ h))) (by decide +kernel))
set_option maxRecDepth 20000 in
theorem gL_good_X6_strain : GoodIn wsL_good (wsV RL 14 RX6 yX6_strain wsX6_strain) := goodIn_app (goodIn_of _ (by decide +kernel)) ggL_good_X6_strain
set_option maxRecDepth 20000 in
theorem ggL_good_X6_strainByAll : GoodIn wsL_good wsX6_strainByAll := goodIn_ca (goodIn_r _ [97, 6, 7, 17, 18, 8, 9, 4, 10, 11, 12, 19, 20, 21, 22, 23, 24, 25, 26, 27, 28, 29, 30, 31, 32, 33, 34, 35, 36, 37, 38, 39, 40, 41, 42, 43, 44, 45, 46, 47, 48, 49, 50, 51, 52, 53, 54, 55, 56, 57, 58, 59, 60, 61, 62, 63, 64, 65, 66, 67, 68, 69, 70, 71, 72, 98, 99, 100, 101, 102, 103, 104, 89, 90, 143, 144, 145, 146, 147, 148, 149, 150, 151, 152, 153, 154, 155, 156, 157, 158, 159, 160, 161, 162, 163] (by decide +kernel) (by decide +kernel)) (goodIn_sub (fun _ h => List.mem_cons_of_mem _ (List.mem_append_left _ (List.mem_append_right _ h))) (by decide +kernel))
set_option maxRecDepth 20000 in
theorem gL_good_X6_strainByAll : GoodIn wsL_good (wsV RL 18 RX6 yX6_strainByAll wsX6_strainByAll) := goodIn_app (goodIn_of _ (by decide +kernel)) ggL_good_X6_strainByAll
set_option maxRecDepth 20000 in
theorem ggL_good_X6_work : GoodIn wsL_good wsX6_work := goodIn_ca (goodIn_r _ [108, 6, 7, 8, 9, 4, 10, 11, 12, 13, 14, 15, 16, 17, 18, 19, 20, 21, 22, 23, 24, 25, 26, 27, 28, 29, 30, 31, 32, 33, 34, 35, 36, 37, 38, 39, 40, 41, 42, 43, 44, 45, 46, 47, 48, 49, 50, 51, 52, 53, 54, 55, 56, 57, 58, 59, 60, 61, 62, 63, 64, 65, 66, 67, 68, 69, 70, 71, 72, 73, 74, 75, 76, 77, 78, 79, 80, 81, 82, 83, 84, 85, 86, 87, 88, 89, 90, 109, 110, 111, 143, 144, 145, 146, 147, 148, 149, 150, 151, 152, 153, 154, 155, 156, 157, 158, 159, 160, 161, 162, 163] (by decide +kernel) (by decide +kernel)) (goodIn_sub (fun _ h => List.mem_cons_of_mem _ (List.mem_append_left _ (List.mem_append_right _ h))) (by decide +kernel))
set_option maxRecDepth 20000 in
theorem gL_good_X6_work : GoodIn wsL_good (wsV RL 21 RX6 yX6_work wsX6_work) := goodIn_app (goodIn_of _ (by decide +kernel)) ggL_good_X6_work
set_option maxRecDepth 20000 in
theorem ggL_good_X6_actorFor : GoodIn wsL_good wsX6_actorFor := goodIn_ca (goodIn_ca (goodIn_r _ [115, 6, 7, 18, 116, 117, 4, 118, 119, 120, 8, 9, 10, 11, 12, 13, 14, 15, 16, 17, 19, 20, 21, 22, 23, 24, 25, 26, 27, 28, 29, 30, 31, 32, 33, 34, 35, 36, 37, 38, 39, 40, 41, 42, 43, 44, 45, 46, 47, 48, 49, 50, 51, 52, 53, 54, 55, 56, 57, 58, 59, 60, 61, 62, 63, 64, 65, 66, 67, 68, 69, 70, 71, 72, 73, 74, 75, 76, 77, 78, 79, 80, 81, 82, 83, 84, 85, 86, 87, 88, 89, 90, 121, 122, 123, 124, 125, 126, 127, 143, 144, 145, 146, 147, 148, 149, 150, 151, 152, 153, 154, 155, 156, 157, 158, 159, 160, 161, 162, 163] (by decide +kernel) (by decide +kernel)) (goodIn_sub (fun _ h => List.mem_cons_of_mem _ (List.mem_append_right _ h)) (by decide +kernel))) (goodIn_sub (fun _ h => List.mem_cons_of_mem _ (List.mem_append_left _ (List.mem_append_right _ h))) (by decide +kernel))
set_option maxRecDepth 20000 in
theorem gL_good_X6_actorFor : GoodIn wsL_good (wsV RL 8 RX6 yX6_actorFor wsX6_actorFor) := goodIn_app (goodIn_of _ (by decide +kernel)) ggL_good_X6_actorFor
set_option maxRecDepth 20000 in
theorem ggL_good_X6_canPlay : GoodIn wsL_good wsX6_canPlay := goodIn_ca (goodIn_ca (goodIn_r _ [131, 23, 6, 7, 132, 133, 4, 134, 119, 120, 116, 117, 118, 8, 9, 10, 11, 12, 135, 136, 137, 36, 138, 38, 39, 40, 41, 42, 43, 25, 44, 24, 45, 46, 47, 48, 49, 50, 51, 52, 53, 54, 55, 56, 57, 58, 59, 60, 143, 144, 145, 146, 147, 148, 149, 150, 151, 152, 153, 158, 159, 160, 161, 162, 163] (by decide +kernel) (by decide +kernel)) (goodIn_sub (fun _ h => List.mem_cons_of_mem _ (List.mem_append_right _ h)) (by decide +kernel))) (goodIn_sub (fun _ h => List.mem_cons_of_mem _ (List.mem_append_left _ (List.mem_append_right _ h))) (by decide +kernel))
set_option maxRecDepth 20000 in
theorem gL_good_X6_canPlay : GoodIn wsL_good (wsV RL 24 RX6 yX6_canPlay wsX6_canPlay) := goodIn_app (goodIn_of _ (by decide +kernel)) ggL_good_X6_canPlay
set_option maxRecDepth 20000 in
theorem ggL_good_L_rank : GoodIn wsL_good wsL_rank := goodIn_r _ [142] (by decide +kernel) (by decide +kernel)
set_option maxRecDepth 20000 in
theorem gL_good_L_rank : GoodIn wsL_good (va_wsS RL 28 yL_rank wsL_rank) := goodIn_app (goodIn_of _ (by decide +kernel)) ggL_good_L_rank
set_option maxRecDepth 20000 in
theorem ggL_chained_X6_chain : GoodIn wsL_chained wsX6_chain := goodIn_ca (goodIn_ca (goodIn_r _ [5, 6, 7, 8, 9, 4, 10, 11, 12, 13, 14, 15, 16, 17, 18, 19, 20, 21, 22, 23, 24, 25, 26, 27, 28, 29, 30, 31, 32, 33, 34, 35, 36, 37, 38, 39, 40, 41, 42, 43, 44, 45, 46, 47, 48, 49, 50, 51, 52, 53, 54, 55, 56, 57, 58, 59, 60, 61, 62, 63, 64, 65, 66, 67, 68, 69, 70, 71, 72, 73, 74, 75, 76, 77, 78, 79, 80, 81, 82, 83, 84, 85, 86, 87, 88, 89, 90, 91, 92, 93, 94, 95, 96, 97, 98, 99, 100, 101, 102, 103, 104, 105, 106, 107, 126, 127, 128, 129, 130, 131, 132, 133, 134, 135, 136, 137, 138, 139, 140, 141, 142, 143, 144, 145, 146] (by decide +kernel) (by decide +kernel)) (goodIn_sub (fun _ h => List.mem_cons_of_mem _ (List.mem_append_left _ (List.mem_append_right _ h))) (by decide +kernel))) (goodIn_sub (fun _ h => List.mem_cons_of_mem _ (List.mem_append_right _ h)) (by decide +kernel))
set_option maxRecDepth 20000 in
theorem gL_chained_X6_chain : GoodIn wsL_chained (wsV RL 34 RX6 yX6_chain wsX6_chain) := goodIn_app (goodIn_of _ (by decide +kernel)) ggL_chained_X6_chain
set_option maxRecDepth 20000 in
theorem ggL_chained_X6_strain : GoodIn wsL_chained wsX6_strain := goodIn_ca (goodIn_r _ [111, 6, 7, 13, 14, 4, 15, 16, 17, 18, 19, 20, 21, 22, 23, 24, 25, 26, 27, 28, 29, 30, 31, 32, 33, 34, 35, 36, 37, 38, 39, 40, 41, 42, 43, 44, 45, 46, 47, 48, 49, 50, 51, 52, 53, 54, 55, 56, 57, 58, 59, 60, 61, 62, 63, 64, 65, 66, 67, 68, 69, 70, 71, 72, 73, 74, 75, 76, 77, 78, 79, 80, 81, 82, 83, 84, 85, 86, 87, 88, 89, 90, 91, 92, 93, 94, 95, 112, 113, 114, 126, 127, 128, 129, 130, 131, 132, 133, 134, 135, 136, 137, 138, 139, 140, 141, 142, 143, 144, 145, 146] (by decide +kernel) (by decide +kernel)) (goodIn_sub (fun _ h => List.mem_cons_of_mem _ (List.mem_append_right _ h)) (by decide +kernel))
set_option maxRecDepth 20000 in
theorem gL_chained_X6_strain : GoodIn wsL_chained (wsV RL 14 RX6 yX6_strain wsX6_strain) := goodIn_app (goodIn_of _ (by decide +kernel)) ggL_chained_X6_strain
set_option maxRecDepth 20000 in
theorem ggL_chained_L_plays : GoodIn wsL_chained wsL_plays := goodIn_ca (goodIn_ca (goodIn_r _ [118, 119, 120, 121, 4, 122, 6, 7, 23, 123, 124, 125, 11, 12, 13, 14, 15, 16, 17, 18, 19, 20, 21, 22, 24, 25, 26, 27, 28, 29, 30, 31, 32, 33, 34, 35, 36, 37, 38, 39, 40, 41, 42, 43, 44, 45, 46, 47, 48, 49, 50, 51, 52, 53, 54, 55, 56, 57, 58, 59, 60, 61, 62, 63, 64, 65, 66, 67, 68, 69, 70, 71, 72, 73, 74, 75, 76, 77, 78, 79, 80, 81, 82, 83, 84, 85, 86, 87, 88, 89, 90, 91, 92, 93, 94, 95, 101, 102, 103, 104, 105, 106, 107, 126, 127, 128, 129, 130, 131, 132, 133, 134, 135, 136, 137, 138, 139, 140, 141, 142, 143, 144, 145, 146] (by decide +kernel) (by decide +kernel)) (goodIn_sub (fun _ h => List.mem_cons_of_mem _ (List.mem_append_left _ (List.mem_append_right _ h))) (by decide +kernel))) (goodIn_sub (fun _ h => List.mem_cons_of_mem _ (List.mem_append_right _ h)) (by decide +kernel))
set_option maxRecDepth 20000 in
theorem gL_chained_L_plays : GoodIn wsL_chained (va_wsS RL 37 yL_plays wsL_plays) := goodIn_app (goodIn_of _ (by decide +kernel)) ggL_chained_L_plays
set_option maxRecDepth 20000 in
theorem ggL_cold_X6_chain : GoodIn wsL_cold wsX6_chain := goodIn_ca (goodIn_ca (goodIn_r _ [5, 6, 7, 8, 9, 4, 10, 11, 12, 13, 14, 15, 16, 17, 18, 19, 20, 21, 22, 23, 24, 25, 26, 27, 28, 29, 30, 31, 32, 33, 34, 35, 36, 37, 38, 39, 40, 41, 42, 43, 44, 45, 46, 47, 48, 49, 50, 51, 52, 53, 54, 55, 56, 57, 58, 59, 60, 61, 62, 63, 64, 65, 66, 67, 68, 69, 70, 71, 72, 73, 74, 75, 76, 77, 78, 79, 80, 81, 82, 83, 84, 85, 86, 87, 88, 89, 90, 91, 92, 93, 94, 95, 96, 97, 98, 99, 100, 101, 102, 103, 104, 105, 106, 107, 141, 142, 143, 144, 145, 146, 147, 148, 149, 150, 151, 152, 153, 154, 155, 156, 157, 158, 159, 160, 161] (by decide +kernel) (by decide +kernel)) (goodIn_sub (fun _ h => List.mem_cons_of_mem _ (List.mem_append_left _ (List.mem_append_right _ h))) (by decide +kernel))) (goodIn_sub (fun _ h => List.mem_cons_of_mem _ (List.mem_append_right _ h)) (by decide +kernel))
set_option maxRecDepth 20000 in
theorem gL_cold_X6_chain : GoodIn wsL_cold (wsV RL 34 RX6 yX6_chain wsX6_chain) := goodIn_app (goodIn_of _ (by decide +kernel)) ggL_cold_X6_chain
set_option maxRecDepth 20000 in
theorem ggL_cold_X6_strain : GoodIn wsL_cold wsX6_strain := goodIn_ca (goodIn_r _ [111, 6, 7, 13, 14, 4, 15, 16, 17, 18, 19, 20, 21, 22, 23, 24, 25, 26, 27, 28, 29, 30, 31, 32, 33, 34, 35, 36, 37, 38, 39, 40, 41, 42, 43, 44, 45, 46, 47, 48, 49, 50, 51, 52, 53, 54, 55, 56, 57, 58, 59, 60, 61, 62, 63, 64, 65, 66, 67, 68, 69, 70, 71, 72, 73, 74, 75, 76, 77, 78, 79, 80, 81, 82, 83, 84, 85, 86, 87, 88, 89, 90, 91, 92, 93, 94, 95, 112, 113, 114, 141, 142, 143, 144, 145, 146, 147, 148, 149, 150, 151, 152, 153, 154, 155, 156, 157, 158, 159, 160, 161] (by decide +kernel) (by decide +kernel)) (goodIn_sub (fun _ h => List.mem_cons_of_mem _ (List.mem_append_right _ h)) (by decide +kernel))
set_option maxRecDepth 20000 in
theorem gL_cold_X6_strain : GoodIn wsL_cold (wsV RL 14 RX6 yX6_strain wsX6_strain) := goodIn_app (goodIn_of _ (by decide +kernel)) ggL_cold_X6_strain
set_option maxRecDepth 20000 in
theorem ggL_cold_X6_actorFor : GoodIn wsL_cold wsX6_actorFor := goodIn_ca (goodIn_ca (goodIn_r _ [118, 6, 7, 23, 119, 120, 4, 121, 11, 12, 13, 14, 15, 16, 17, 18, 19, 20, 21, 22, 24, 25, 26, 27, 28, 29, 30, 31, 32, 33, 34, 35, 36, 37, 38, 39, 40, 41, 42, 43, 44, 45, 46, 47, 48, 49, 50, 51, 52, 53, 54, 55, 56, 57, 58, 59, 60, 61, 62, 63, 64, 65, 66, 67, 68, 69, 70, 71, 72, 73, 74, 75, 76, 77, 78, 79, 80, 81, 82, 83, 84, 85, 86, 87, 88, 89, 90, 91, 92, 93, 94, 95, 101, 102, 103, 104, 105, 106, 107, 141, 142, 143, 144, 145, 146, 147, 148, 149, 150, 151, 152, 153, 154, 155, 156, 157, 158, 159, 160, 161] (by decide +kernel) (by decide +kernel)) (goodIn_sub (fun _ h => List.mem_cons_of_mem _ (List.mem_append_left _ (List.mem_append_right _ h))) (by decide +kernel))) (goodIn_sub (fun _ h => List.mem_cons_of_mem _ (List.mem_append_right _ h)) (by decide +kernel))
set_option maxRecDepth 20000 in
theorem gL_cold_X6_actorFor : GoodIn wsL_cold (wsV RL 8 RX6 yX6_actorFor wsX6_actorFor) := goodIn_app (goodIn_of _ (by decide +kernel)) ggL_cold_X6_actorFor
set_option maxRecDepth 20000 in
theorem ggL_cold_X6_isIll : GoodIn wsL_cold wsX6_isIll := goodIn_ca (goodIn_ca (goodIn_r _ [125, 6, 7, 8, 9, 4, 10, 11, 12, 13, 14, 15, 16, 17, 50, 51, 52, 141, 142, 143, 144, 145, 146, 147, 148, 149, 150, 151] (by decide +kernel) (by decide +kernel)) (goodIn_sub (fun _ h => List.mem_cons_of_mem _ (List.mem_append_left _ (List.mem_append_right _ h))) (by decide +kernel))) (goodIn_sub (fun _ h => List.mem_cons_of_mem _ (List.mem_append_right _ h)) (by decide +kernel))
set_option maxRecDepth 20000 in
theorem gL_cold_X6_isIll : GoodIn wsL_cold (wsV RL 41 RX6 yX6_isIll wsX6_isIll) := goodIn_app (goodIn_of _ (by decide +kernel)) ggL_cold_X6_isIll
set_option maxRecDepth 20000 in
theorem ggL_cold_X6_cold : GoodIn wsL_cold wsX6_cold := goodIn_ca (goodIn_ca (goodIn_r _ [129, 130, 6, 8, 9, 4, 10, 11, 12, 13, 14, 15, 16, 17, 131, 132, 133, 134, 135, 136, 51, 52, 94, 95, 141, 142, 143, 144, 145, 146, 147, 148, 149, 150, 151] (by decide +kernel) (by decide +kernel)) (goodIn_sub (fun _ h => List.mem_cons_of_mem _ (List.mem_append_left _ (List.mem_append_right _ h))) (by decide +kernel))) (goodIn_sub (fun _ h => List.mem_cons_of_mem _ (List.mem_append_right _ h)) (by decide +kernel))
set_option maxRecDepth 20000 in
theorem gL_cold_X6_cold : GoodIn wsL_cold (wsV RL 45 RX6 yX6_cold wsX6_cold) := goodIn_app (goodIn_of _ (by decide +kernel)) ggL_cold_X6_cold
set_option maxRecDepth 20000 in
theorem ggL_cold_L_plays : GoodIn wsL_cold wsL_plays := goodIn_ca (goodIn_ca (goodIn_r _ [140, 115, 116, 117, 4, 118, 6, 7, 23, 119, 120, 121, 11, 12, 13, 14, 15, 16, 17, 18, 19, 20, 21, 22, 24, 25, 26, 27, 28, 29, 30, 31, 32, 33, 34, 35, 36, 37, 38, 39, 40, 41, 42, 43, 44, 45, 46, 47, 48, 49, 50, 51, 52, 53, 54, 55, 56, 57, 58, 59, 60, 61, 62, 63, 64, 65, 66, 67, 68, 69, 70, 71, 72, 73, 74, 75, 76, 77, 78, 79, 80, 81, 82, 83, 84, 85, 86, 87, 88, 89, 90, 91, 92, 93, 94, 95, 101, 102, 103, 104, 105, 106, 107, 141, 142, 143, 144, 145, 146, 147, 148, 149, 150, 151, 152, 153, 154, 155, 156, 157, 158, 159, 160, 161] (by decide +kernel) (by decide +kernel)) (goodIn_sub (fun _ h => List.mem_cons_of_mem _ (List.mem_append_left _ (List.mem_append_right _ h))) (by decide +kernel))) (goodIn_sub (fun _ h => List.mem_cons_of_mem _ (List.mem_append_right _ h)) (by decide +kernel))
set_option maxRecDepth 20000 in
theorem gL_cold_L_plays : GoodIn wsL_cold (va_wsS RL 37 yL_plays wsL_plays) := goodIn_app (goodIn_of _ (by decide +kernel)) ggL_cold_L_plays
set_option maxRecDepth 20000 in
theorem ggL_act_L_at : GoodIn wsL_act wsL_at := goodIn_r _ [4] (by decide +kernel) (by decide +kernel)
set_option maxRecDepth 20000 in
theorem gL_act_L_at : GoodIn wsL_act (va_wsS RL 49 yL_at wsL_at) := goodIn_app (goodIn_of _ (by decide +kernel)) ggL_act_L_at
set_option maxRecDepth 20000 in
theorem ggL_act_L_rank : GoodIn wsL_act wsL_rank := goodIn_r _ [7] (by decide +kernel) (by decide +kernel)
set_option maxRecDepth 20000 in
theorem gL_act_L_rank : GoodIn wsL_act (va_wsS RL 28 yL_rank wsL_rank) := goodIn_app (goodIn_of _ (by decide +kernel)) ggL_act_L_rank
set_option maxRecDepth 20000 in
theorem ggL_act_X6_put : GoodIn wsL_act wsX6_put := goodIn_ca (goodIn_ca (goodIn_r _ [12, 13, 14, 15, 16, 17, 11, 18, 19, 20, 21, 22, 23, 24, 25, 26, 27, 28, 29, 30, 31, 32, 33, 34, 35, 36, 37, 38, 236, 237, 238, 239, 240, 241, 242, 243, 244, 245] (by decide +kernel) (by decide +kernel)) (goodIn_sub (fun _ h => List.mem_cons_of_mem _ (List.mem_append_left _ (List.mem_append_left _ (List.mem_append_right _ h)))) (by decide +kernel))) (goodIn_sub (fun _ h => List.mem_cons_of_mem _ (List.mem_append_left _ (List.mem_append_right _ h))) (by decide +kernel))
set_option maxRecDepth 20000 in
theorem gL_act_X6_put : GoodIn wsL_act (wsV RL 52 RX6 yX6_put wsX6_put) := goodIn_app (goodIn_of _ (by decide +kernel)) ggL_act_X6_put
set_option maxRecDepth 20000 in
theorem ggL_act_X6_take : GoodIn wsL_act wsX6_take := goodIn_ca (goodIn_ca (goodIn_r _ [42, 13, 14, 15, 16, 17, 11, 18, 19, 20, 21, 22, 23, 24, 25, 26, 27, 28, 29, 30, 43, 44, 45, 46, 236, 237, 238, 239, 240, 241, 242, 243, 244, 245] (by decide +kernel) (by decide +kernel)) (goodIn_sub (fun _ h => List.mem_cons_of_mem _ (List.mem_append_left _ (List.mem_append_left _ (List.mem_append_right _ h)))) (by decide +kernel))) (goodIn_sub (fun _ h => List.mem_cons_of_mem _ (List.mem_append_left _ (List.mem_append_right _ h))) (by decide +kernel))
set_option maxRecDepth 20000 in
theorem gL_act_X6_take : GoodIn wsL_act (wsV RL 55 RX6 yX6_take wsX6_take) := goodIn_app (goodIn_of _ (by decide +kernel)) ggL_act_X6_take
set_option maxRecDepth 20000 in
theorem ggL_act_X6_learn : GoodIn wsL_act wsX6_learn := goodIn_ca (goodIn_ca (goodIn_r _ [50, 13, 14, 51, 52, 21, 22, 11, 23, 19, 20, 16, 17, 18, 53, 54, 55, 56, 57, 58, 59, 60, 61, 62, 63, 64, 65, 236, 237, 238, 239, 240, 241, 242, 243, 246, 247, 248] (by decide +kernel) (by decide +kernel)) (goodIn_sub (fun _ h => List.mem_cons_of_mem _ (List.mem_append_left _ (List.mem_append_left _ (List.mem_append_right _ h)))) (by decide +kernel))) (goodIn_sub (fun _ h => List.mem_cons_of_mem _ (List.mem_append_left _ (List.mem_append_right _ h))) (by decide +kernel))
set_option maxRecDepth 20000 in
theorem gL_act_X6_learn : GoodIn wsL_act (wsV RL 58 RX6 yX6_learn wsX6_learn) := goodIn_app (goodIn_of _ (by decide +kernel)) ggL_act_X6_learn
set_option maxRecDepth 20000 in
theorem ggL_act_X6_costume : GoodIn wsL_act wsX6_costume := goodIn_ca (goodIn_ca (goodIn_ca (goodIn_r _ [69, 13, 14, 70, 71, 16, 17, 11, 18, 19, 20, 72, 73, 74, 75, 76, 77, 78, 79, 80, 81, 82, 83, 84, 236, 237, 238, 239, 240, 241, 242, 243, 249, 250, 251, 252] (by decide +kernel) (by decide +kernel)) (goodIn_sub (fun _ h => List.mem_cons_of_mem _ (List.mem_append_left _ (List.mem_append_left _ (List.mem_append_right _ h)))) (by decide +kernel))) (goodIn_sub (fun _ h => List.mem_cons_of_mem _ (List.mem_append_left _ (List.mem_append_right _ h))) (by decide +kernel))) (goodIn_sub (fun _ h => List.mem_cons_of_mem _ (List.mem_append_right _ h)) (by decide +kernel))
set_option maxRecDepth 20000 in
theorem gL_act_X6_costume : GoodIn wsL_act (wsV RL 62 RX6 yX6_costume wsX6_costume) := goodIn_app (goodIn_of _ (by decide +kernel)) ggL_act_X6_costume
set_option maxRecDepth 20000 in
theorem ggL_act_X6_sizeOf : GoodIn wsL_act wsX6_sizeOf := goodIn_ca (goodIn_r _ [88, 70, 71, 89, 90, 91, 11, 92, 19, 20, 236, 237, 238, 239, 240, 241, 242, 243, 249, 250, 251, 252] (by decide +kernel) (by decide +kernel)) (goodIn_sub (fun _ h => List.mem_cons_of_mem _ (List.mem_append_left _ (List.mem_append_right _ h))) (by decide +kernel))
set_option maxRecDepth 20000 in
theorem gL_act_X6_sizeOf : GoodIn wsL_act (wsV RL 65 RX6 yX6_sizeOf wsX6_sizeOf) := goodIn_app (goodIn_of _ (by decide +kernel)) ggL_act_X6_sizeOf
set_option maxRecDepth 20000 in
theorem ggL_act_X6_setSize : GoodIn wsL_act wsX6_setSize := goodIn_ca (goodIn_ca (goodIn_r _ [96, 51, 97, 21, 22, 11, 23, 19, 20, 72, 73, 74, 75, 76, 236, 237, 238, 239, 240, 241, 242, 243, 246, 247, 248] (by decide +kernel) (by decide +kernel)) (goodIn_sub (fun _ h => List.mem_cons_of_mem _ (List.mem_append_left _ (List.mem_append_right _ h))) (by decide +kernel))) (goodIn_sub (fun _ h => List.mem_cons_of_mem _ (List.mem_append_right _ h)) (by decide +kernel))
set_option maxRecDepth 20000 in
theorem gL_act_X6_setSize : GoodIn wsL_act (wsV RL 68 RX6 yX6_setSize wsX6_setSize) := goodIn_app (goodIn_of _ (by decide +kernel)) ggL_act_X6_setSize
set_option maxRecDepth 20000 in
theorem ggL_act_L_cold : GoodIn wsL_act wsL_cold := goodIn_ca (goodIn_ca (goodIn_r _ [100, 101, 102, 103, 11, 104, 51, 105, 21, 22, 23, 19, 20, 106, 107, 108, 75, 76, 109, 110, 111, 112, 113, 114, 115, 116, 117, 118, 15, 70, 97, 119, 120, 121, 122, 123, 124, 125, 126, 127, 128, 27, 129, 29, 30, 130, 131, 132, 133, 52, 134, 135, 136, 137, 138, 139, 80, 140, 83, 82, 84, 141, 142, 143, 144, 145, 146, 147, 148, 149, 150, 151, 152, 153, 154, 155, 156, 157, 158, 159, 160, 161, 162, 163, 60, 61, 62, 63, 64, 65, 164, 165, 166, 167, 54, 55, 53, 168, 169, 170, 171, 172, 173, 174, 175, 176, 177, 178, 179, 180, 181, 182, 183, 184, 185, 186, 187, 188, 189, 16, 17, 18, 190, 191, 192, 193, 194, 195, 196, 197, 198, 199, 200, 201, 202, 203, 204, 205, 206, 3, 207, 236, 237, 238, 239, 240, 241, 242, 243, 246, 247, 248, 253, 254, 255, 256, 244, 245, 249, 250, 251, 252] (by decide +kernel) (by decide +kernel)) (goodIn_sub (fun _ h => List.mem_cons_of_mem _ (List.mem_append_left _ (List.mem_append_right _ h))) (by decide +kernel))) (goodIn_sub (fun _ h => List.mem_cons_of_mem _ (List.mem_append_right _ h)) (by decide +kernel))
set_option maxRecDepth 20000 in
theorem gL_act_L_cold : GoodIn wsL_act (va_wsS RL 71 yL_cold wsL_cold) := goodIn_app (goodIn_of _ (by decide +kernel)) ggL_act_L_cold
set_option maxRecDepth 20000 in
theorem ggL_act_L_good : GoodIn wsL_act wsL_good := goodIn_ca (goodIn_ca (goodIn_r _ [210, 179, 180, 181, 11, 182, 51, 105, 106, 107, 108, 75, 76, 109, 110, 111, 112, 113, 114, 115, 116, 117, 118, 15, 70, 97, 119, 120, 121, 122, 123, 124, 125, 126, 127, 128, 27, 129, 29, 30, 130, 131, 132, 133, 52, 134, 135, 136, 137, 138, 139, 80, 140, 83, 82, 84, 141, 142, 143, 144, 145, 146, 147, 148, 149, 150, 151, 152, 153, 154, 155, 156, 157, 158, 159, 160, 161, 162, 163, 60, 61, 62, 63, 64, 65, 164, 165, 166, 167, 54, 55, 183, 184, 185, 211, 212, 213, 214, 215, 216, 217, 218, 219, 220, 221, 222, 223, 224, 225, 226, 227, 228, 186, 187, 188, 189, 16, 17, 18, 19, 20, 172, 173, 174, 175, 176, 177, 178, 229, 230, 231, 232, 21, 22, 23, 24, 25, 26, 28, 5, 6, 3, 7, 236, 237, 238, 239, 240, 241, 242, 243, 246, 247, 248, 253, 254, 255, 256, 244, 245, 249, 250, 251, 252] (by decide +kernel) (by decide +kernel)) (goodIn_sub (fun _ h => List.mem_cons_of_mem _ (List.mem_append_right _ h)) (by decide +kernel))) (goodIn_sub (fun _ h => List.mem_cons_of_mem _ (List.mem_append_left _ (List.mem_append_right _ h))) (by decide +kernel))
set_option maxRecDepth 20000 in
theorem gL_act_L_good : GoodIn wsL_act (va_wsS RL 74 yL_good wsL_good) := goodIn_app (goodIn_of _ (by decide +kernel)) ggL_act_L_good
set_option maxRecDepth 20000 in
theorem ggL_act_L_chained : GoodIn wsL_act wsL_chained := goodIn_ca (goodIn_ca (goodIn_r _ [235, 101, 102, 103, 11, 104, 51, 105, 21, 22, 23, 19, 20, 106, 107, 108, 75, 76, 109, 110, 111, 112, 113, 114, 115, 116, 117, 118, 15, 70, 97, 119, 120, 121, 122, 123, 124, 125, 126, 127, 128, 27, 129, 29, 30, 130, 131, 132, 133, 52, 134, 135, 136, 137, 138, 139, 80, 140, 83, 82, 84, 141, 142, 143, 144, 145, 146, 147, 148, 149, 150, 151, 152, 153, 154, 155, 156, 157, 158, 159, 160, 161, 162, 163, 60, 61, 62, 63, 64, 65, 164, 165, 166, 167, 54, 55, 53, 168, 169, 170, 171, 172, 173, 174, 175, 176, 177, 178, 179, 180, 181, 182, 183, 184, 185, 205, 206, 3, 207, 186, 187, 188, 189, 16, 17, 18, 236, 237, 238, 239, 240, 241, 242, 243, 246, 247, 248, 253, 254, 255, 256, 244, 245, 249, 250, 251, 252] (by decide +kernel) (by decide +kernel)) (goodIn_sub (fun _ h => List.mem_cons_of_mem _ (List.mem_append_left _ (List.mem_append_right _ h))) (by decide +kernel))) (goodIn_sub (fun _ h => List.mem_cons_of_mem _ (List.mem_append_right _ h)) (by decide +kernel))
set_option maxRecDepth 20000 in
theorem gL_act_L_chained : GoodIn wsL_act (va_wsS RL 78 yL_chained wsL_chained) := goodIn_app (goodIn_of _ (by decide +kernel)) ggL_act_L_chained
end
section
set_option maxRecDepth 20000 in
theorem ggL_law_X6_init : GoodIn wsL_law wsX6_init := goodIn_r _ [7, 8, 9, 10, 11, 12, 13, 14, 15, 16, 17, 18, 19, 20, 21, 22, 23, 24, 25, 26, 27, 28, 29, 30, 31, 32, 33, 34, 35, 36, 37, 38, 39, 40, 3, 41, 42, 43, 44, 45, 46, 47, 48, 49, 50, 51, 52, 53, 54, 55, 56, 57, 58, 59, 60, 61, 62, 63, 64, 65, 66, 67, 68, 69, 70, 71, 72, 73, 74, 75, 76, 77, 78, 313, 314, 315, 305, 306, 307, 308, 309, 310, 311, 312, 316, 317, 318, 319, 320, 321, 322, 323, 324, 325, 326, 327, 328, 329, 330, 331, 332, 333, 334, 335, 336, 337] (by decide +kernel) (by decide +kernel)
set_option maxRecDepth 20000 in
theorem gL_law_X6_init : GoodIn wsL_law (wsX6_init) := ggL_law_X6_init
set_option maxRecDepth 20000 in
theorem ggL_law_L_cell : GoodIn wsL_law wsL_cell := goodIn_r _ [82, 83] (by decide +kernel) (by decide +kernel)
set_option maxRecDepth 20000 in
theorem gL_law_L_cell : GoodIn wsL_law (va_wsS RL 82 yL_cell wsL_cell) := goodIn_app (goodIn_of _ (by decide +kernel)) ggL_law_L_cell
set_option maxRecDepth 20000 in
theorem ggL_law_L_at : GoodIn wsL_law wsL_at := goodIn_r _ [86] (by decide +kernel) (by decide +kernel)
set_option maxRecDepth 20000 in
theorem gL_law_L_at : GoodIn wsL_law (va_wsS RL 49 yL_at wsL_at) := goodIn_app (goodIn_of _ (by decide +kernel)) ggL_law_L_at
set_option maxRecDepth 20000 in
theorem ggL_law_X6_setParts : GoodIn wsL_law wsX6_setParts := goodIn_ca (goodIn_r _ [90, 91, 92, 35, 305, 306, 307, 308, 309, 310, 311, 312] (by decide +kernel) (by decide +kernel)) (goodIn_sub (fun _ h => List.mem_append_left _ (List.mem_append_left _ (List.mem_append_right _ h))) (by decide +kernel))
set_option maxRecDepth 20000 in
theorem gL_law_X6_setParts : GoodIn wsL_law (wsV RL 87 RX6 yX6_setParts wsX6_setParts) := goodIn_app (goodIn_of _ (by decide +kernel)) ggL_law_X6_setParts
set_option maxRecDepth 20000 in
theorem ggL_law_L_rank : GoodIn wsL_law wsL_rank := goodIn_r _ [95] (by decide +kernel) (by decide +kernel)
set_option maxRecDepth 20000 in
theorem gL_law_L_rank : GoodIn wsL_law (va_wsS RL 28 yL_rank wsL_rank) := goodIn_app (goodIn_of _ (by decide +kernel)) ggL_law_L_rank
set_option maxRecDepth 20000 in
theorem ggL_law_X6_put : GoodIn wsL_law wsX6_put := goodIn_ca (goodIn_ca (goodIn_r _ [99, 100, 101, 18, 102, 103, 2, 104, 105, 106, 107, 108, 109, 110, 111, 112, 17, 113, 48, 47, 114, 115, 116, 117, 118, 119, 120, 121, 305, 306, 307, 308, 309, 310, 311, 312, 316, 317] (by decide +kernel) (by decide +kernel)) (goodIn_sub (fun _ h => List.mem_append_left _ (List.mem_append_right _ h)) (by decide +kernel))) (goodIn_sub (fun _ h => List.mem_append_right _ h) (by decide +kernel))
set_option maxRecDepth 20000 in
theorem gL_law_X6_put : GoodIn wsL_law (wsV RL 52 RX6 yX6_put wsX6_put) := goodIn_app (goodIn_of _ (by decide +kernel)) ggL_law_X6_put
set_option maxRecDepth 20000 in
theorem ggL_law_X6_learn : GoodIn wsL_law wsX6_learn := goodIn_ca (goodIn_ca (goodIn_r _ [125, 100, 101, 14, 126, 107, 108, 2, 109, 105, 106, 102, 103, 104, 127, 128, 129, 130, 131, 132, 133, 134, 135, 136, 137, 138, 139, 305, 306, 307, 308, 309, 310, 311, 312, 313, 314, 315] (by decide +kernel) (by decide +kernel)) (goodIn_sub (fun _ h => List.mem_append_left _ (List.mem_append_right _ h)) (by decide +kernel))) (goodIn_sub (fun _ h => List.mem_append_right _ h) (by decide +kernel))
set_option maxRecDepth 20000 in
theorem gL_law_X6_learn : GoodIn wsL_law (wsV RL 58 RX6 yX6_learn wsX6_learn) := goodIn_app (goodIn_of _ (by decide +kernel)) ggL_law_X6_learn
set_option maxRecDepth 20000 in
theorem ggL_law_X6_costume : GoodIn wsL_law wsX6_costume := goodIn_ca (goodIn_ca (goodIn_ca (goodIn_r _ [143, 100, 101, 22, 144, 102, 103, 2, 104, 105, 106, 145, 146, 147, 91, 92, 148, 149, 150, 21, 151, 53, 152, 52, 305, 306, 307, 308, 309, 310, 311, 312, 318, 319, 320, 321] (by decide +kernel) (by decide +kernel)) (goodIn_sub (fun _ h => List.mem_append_left _ (List.mem_append_right _ h)) (by decide +kernel))) (goodIn_sub (fun _ h => List.mem_append_right _ h) (by decide +kernel))) (goodIn_sub (fun _ h => List.mem_append_left _ (List.mem_append_left _ (List.mem_append_right _ h))) (by decide +kernel))
set_option maxRecDepth 20000 in
theorem gL_law_X6_costume : GoodIn wsL_law (wsV RL 62 RX6 yX6_costume wsX6_costume) := goodIn_app (goodIn_of _ (by decide +kernel)) ggL_law_X6_costume
end
section
set_option maxRecDepth 20000 in
theorem wsL_act_qc : GoodIn wsL_law [.code yL_act cL_act 13 (some .boolean)] := goodIn_r _ [155] (by decide +kernel) (by decide +kernel)
set_option maxRecDepth 20000 in
theorem wsL_act_r1_g : GoodIn wsL_law wsL_act_r1 := goodIn_r _ [84, 85, 81, 86, 93, 94, 95, 96, 97, 98, 2, 99, 100, 101, 18, 102, 103, 104, 105, 106, 107, 108, 109, 110] (by decide +kernel) (by decide +kernel)
set_option maxRecDepth 20000 in
theorem wsL_act_r2_g : GoodIn wsL_law wsL_act_r2 := goodIn_r _ [111, 112, 17, 113, 48, 47, 114, 115, 116, 117, 118, 119, 120, 121, 156, 157, 158, 159, 160, 161, 162, 163, 122, 123] (by decide +kernel) (by decide +kernel)
set_option maxRecDepth 20000 in
theorem wsL_act_r3_g : GoodIn wsL_law wsL_act_r3 := goodIn_r _ [124, 125, 14, 126, 127, 128, 129, 130, 131, 132, 133, 134, 135, 136, 137, 138, 139, 140, 141, 142, 143, 22, 144, 145] (by decide +kernel) (by decide +kernel)
set_option maxRecDepth 20000 in
theorem wsL_act_r4_g : GoodIn wsL_law wsL_act_r4 := goodIn_r _ [146, 147, 91, 92, 148, 149, 150, 21, 151, 53, 152, 52, 164, 165, 166, 167, 168, 169, 170, 171, 172, 173, 174, 175] (by decide +kernel) (by decide +kernel)
set_option maxRecDepth 20000 in
theorem wsL_act_r5_g : GoodIn wsL_law wsL_act_r5 := goodIn_r _ [176, 177, 178, 179, 180, 181, 182, 183, 184, 185, 186, 187, 188, 189, 190, 191, 26, 35, 192, 193, 194, 195, 196, 197] (by decide +kernel) (by decide +kernel)
set_option maxRecDepth 20000 in
theorem wsL_act_r6_g : GoodIn wsL_law wsL_act_r6 := goodIn_r _ [198, 25, 199, 60, 200, 201, 202, 203, 204, 205, 206, 207, 208, 209, 210, 211, 212, 213, 214, 215, 216, 217, 218, 219] (by decide +kernel) (by decide +kernel)
set_option maxRecDepth 20000 in
theorem wsL_act_r7_g : GoodIn wsL_law wsL_act_r7 := goodIn_r _ [55, 220, 221, 222, 223, 61, 224, 225, 226, 227, 228, 229, 230, 231, 232, 233, 234, 62, 235, 236, 237, 238, 239, 240] (by decide +kernel) (by decide +kernel)
set_option maxRecDepth 20000 in
theorem wsL_act_r8_g : GoodIn wsL_law wsL_act_r8 := goodIn_r _ [241, 242, 243, 244, 245, 246, 247, 248, 249, 250, 251, 252, 253, 254, 255, 256, 257, 258, 259, 260, 261, 262, 263, 264] (by decide +kernel) (by decide +kernel)
set_option maxRecDepth 20000 in
theorem wsL_act_r9_g : GoodIn wsL_law wsL_act_r9 := goodIn_r _ [265, 266, 267, 268, 269, 36, 270, 271, 272, 13, 273, 43, 274, 275, 276, 277, 278, 279, 280, 281, 282, 283, 284, 285] (by decide +kernel) (by decide +kernel)
set_option maxRecDepth 20000 in
theorem wsL_act_r10_g : GoodIn wsL_law wsL_act_r10 := goodIn_r _ [286, 287, 288, 289, 290, 291, 292, 293, 294, 295, 296, 297, 298, 299, 300, 301, 302, 303, 304] (by decide +kernel) (by decide +kernel)
theorem ggL_law_L_act : GoodIn wsL_law wsL_act := goodIn_ca (a := []) wsL_act_qc (goodIn_app (goodIn_app (goodIn_app (goodIn_app (goodIn_app (goodIn_app (goodIn_app (goodIn_app (goodIn_app wsL_act_r1_g (goodIn_app wsL_act_r2_g (goodIn_app wsL_act_r3_g (goodIn_app wsL_act_r4_g (goodIn_app wsL_act_r5_g (goodIn_app wsL_act_r6_g (goodIn_app wsL_act_r7_g (goodIn_app wsL_act_r8_g (goodIn_app wsL_act_r9_g wsL_act_r10_g))))))))) (goodIn_sub inlX6 (by decide +kernel))) (goodIn_sub inlX3 (by decide +kernel))) (goodIn_sub inlX4 (by decide +kernel))) (goodIn_sub inlX5 (by decide +kernel))) (goodIn_sub inlX1 (by decide +kernel))) (goodIn_sub (fun _ h => List.mem_append_left _ (List.mem_append_right _ h)) (by decide +kernel))) (goodIn_sub (fun _ h => List.mem_append_right _ h) (by decide +kernel))) (goodIn_sub (fun _ h => List.mem_append_left _ (List.mem_append_left _ (List.mem_append_right _ h))) (by decide +kernel)))
set_option maxRecDepth 20000 in
theorem gL_law_L_act : GoodIn wsL_law (va_wsS RL 90 yL_act wsL_act) := goodIn_app (goodIn_of _ (by decide +kernel)) ggL_law_L_act
set_option maxRecDepth 20000 in
theorem ggL_law_L_good : GoodIn wsL_law wsL_good := goodIn_ca (goodIn_ca (goodIn_r _ [279, 251, 252, 253, 2, 254, 14, 184, 185, 186, 187, 91, 92, 188, 189, 190, 191, 26, 35, 192, 193, 194, 195, 18, 22, 176, 196, 197, 198, 25, 199, 60, 200, 201, 202, 203, 17, 204, 48, 47, 205, 206, 207, 208, 126, 209, 210, 211, 212, 213, 214, 21, 215, 152, 53, 52, 216, 217, 218, 219, 55, 220, 221, 222, 223, 61, 224, 225, 226, 227, 228, 229, 230, 231, 232, 233, 234, 62, 235, 134, 135, 136, 137, 138, 139, 236, 237, 238, 239, 128, 129, 255, 256, 257, 280, 281, 282, 283, 284, 285, 286, 287, 288, 289, 290, 291, 292, 293, 294, 295, 296, 297, 258, 259, 260, 261, 102, 103, 104, 105, 106, 244, 245, 246, 247, 248, 249, 250, 298, 299, 300, 301, 107, 108, 109, 110, 111, 112, 113, 93, 94, 81, 95, 305, 306, 307, 308, 309, 310, 311, 312, 313, 314, 315, 322, 323, 324, 325, 316, 317, 318, 319, 320, 321] (by decide +kernel) (by decide +kernel)) (goodIn_sub (fun _ h => List.mem_append_left _ (List.mem_append_left _ (List.mem_append_right _ h))) (by decide +kernel))) (goodIn_sub (fun _ h => List.mem_append_right _ h) (by decide +kernel))
set_option maxRecDepth 20000 in
theorem gL_law_L_good : GoodIn wsL_law (va_wsS RL 74 yL_good wsL_good) := goodIn_app (goodIn_of _ (by decide +kernel)) ggL_law_L_good
end
section
abbrev vwCl : List vw_C := [(RX0, TX0, 8), (RX1, TX1, 4), (RX2, TX2, 4), (RX3, TX3, 2), (RX4, TX4, 3), (RX5, TX5, 4), (RX6, TX6, 8)]
end
section
theorem dX0_init_0 : decode cX0_init 0 = .ok (.aload_n 0, 1) := by decide +kernel
theorem dX0_init_1 : decode cX0_init 1 = .ok (.invokespecial 3, 3) := by decide +kernel
theorem dX0_init_4 : decode cX0_init 4 = .ok (.aload_n 0, 1) := by decide +kernel
theorem dX0_init_5 : decode cX0_init 5 = .ok (.bipush 100, 2) := by decide +kernel
theorem dX0_init_7 : decode cX0_init 7 = .ok (.newarray .int, 2) := by decide +kernel
theorem dX0_init_9 : decode cX0_init 9 = .ok (.putfield 9, 3) := by decide +kernel
theorem dX0_init_12 : decode cX0_init 12 = .ok (.aload_n 0, 1) := by decide +kernel
theorem dX0_init_13 : decode cX0_init 13 = .ok (.bipush 100, 2) := by decide +kernel
theorem dX0_init_15 : decode cX0_init 15 = .ok (.newarray .int, 2) := by decide +kernel
theorem dX0_init_17 : decode cX0_init 17 = .ok (.putfield 15, 3) := by decide +kernel
theorem dX0_init_20 : decode cX0_init 20 = .ok (.aload_n 0, 1) := by decide +kernel
theorem dX0_init_21 : decode cX0_init 21 = .ok (.bipush 100, 2) := by decide +kernel
theorem dX0_init_23 : decode cX0_init 23 = .ok (.newarray .int, 2) := by decide +kernel
theorem dX0_init_25 : decode cX0_init 25 = .ok (.putfield 18, 3) := by decide +kernel
theorem dX0_init_28 : decode cX0_init 28 = .ok (.aload_n 0, 1) := by decide +kernel
theorem dX0_init_29 : decode cX0_init 29 = .ok (.bipush 100, 2) := by decide +kernel
theorem dX0_init_31 : decode cX0_init 31 = .ok (.newarray .int, 2) := by decide +kernel
theorem dX0_init_33 : decode cX0_init 33 = .ok (.putfield 21, 3) := by decide +kernel
theorem dX0_init_36 : decode cX0_init 36 = .ok (.aload_n 0, 1) := by decide +kernel
theorem dX0_init_37 : decode cX0_init 37 = .ok (.bipush 100, 2) := by decide +kernel
theorem dX0_init_39 : decode cX0_init 39 = .ok (.newarray .int, 2) := by decide +kernel
theorem dX0_init_41 : decode cX0_init 41 = .ok (.putfield 24, 3) := by decide +kernel
theorem dX0_init_44 : decode cX0_init 44 = .ok (.aload_n 0, 1) := by decide +kernel
theorem dX0_init_45 : decode cX0_init 45 = .ok (.bipush 100, 2) := by decide +kernel
theorem dX0_init_47 : decode cX0_init 47 = .ok (.newarray .int, 2) := by decide +kernel
theorem dX0_init_49 : decode cX0_init 49 = .ok (.putfield 27, 3) := by decide +kernel
theorem dX0_init_52 : decode cX0_init 52 = .ok (.return_, 1) := by decide +kernel
theorem dX1_init_0 : decode cX1_init 0 = .ok (.aload_n 0, 1) := by decide +kernel
theorem dX1_init_1 : decode cX1_init 1 = .ok (.invokespecial 5, 3) := by decide +kernel
theorem dX1_init_4 : decode cX1_init 4 = .ok (.aload_n 0, 1) := by decide +kernel
theorem dX1_init_5 : decode cX1_init 5 = .ok (.bipush 32, 2) := by decide +kernel
theorem dX1_init_7 : decode cX1_init 7 = .ok (.newarray .int, 2) := by decide +kernel
theorem dX1_init_9 : decode cX1_init 9 = .ok (.putfield 11, 3) := by decide +kernel
theorem dX1_init_12 : decode cX1_init 12 = .ok (.aload_n 0, 1) := by decide +kernel
theorem dX1_init_13 : decode cX1_init 13 = .ok (.bipush 32, 2) := by decide +kernel
theorem dX1_init_15 : decode cX1_init 15 = .ok (.newarray .int, 2) := by decide +kernel
theorem dX1_init_17 : decode cX1_init 17 = .ok (.putfield 15, 3) := by decide +kernel
theorem dX1_init_20 : decode cX1_init 20 = .ok (.aload_n 0, 1) := by decide +kernel
theorem dX1_init_21 : decode cX1_init 21 = .ok (.sipush 4096, 3) := by decide +kernel
theorem dX1_init_24 : decode cX1_init 24 = .ok (.newarray .int, 2) := by decide +kernel
theorem dX1_init_26 : decode cX1_init 26 = .ok (.putfield 18, 3) := by decide +kernel
theorem dX1_init_29 : decode cX1_init 29 = .ok (.iconst 0, 1) := by decide +kernel
theorem dX1_init_30 : decode cX1_init 30 = .ok (.istore_n 1, 1) := by decide +kernel
theorem dX1_init_31 : decode cX1_init 31 = .ok (.iload_n 1, 1) := by decide +kernel
theorem dX1_init_32 : decode cX1_init 32 = .ok (.aload_n 0, 1) := by decide +kernel
theorem dX1_init_33 : decode cX1_init 33 = .ok (.getfield 18, 3) := by decide +kernel
theorem dX1_init_36 : decode cX1_init 36 = .ok (.arraylength, 1) := by decide +kernel
theorem dX1_init_37 : decode cX1_init 37 = .ok (.if_icmp .ge 16, 3) := by decide +kernel
theorem dX1_init_40 : decode cX1_init 40 = .ok (.aload_n 0, 1) := by decide +kernel
theorem dX1_init_41 : decode cX1_init 41 = .ok (.getfield 18, 3) := by decide +kernel
theorem dX1_init_44 : decode cX1_init 44 = .ok (.iload_n 1, 1) := by decide +kernel
theorem dX1_init_45 : decode cX1_init 45 = .ok (.iconst (-1), 1) := by decide +kernel
theorem dX1_init_46 : decode cX1_init 46 = .ok (.iastore, 1) := by decide +kernel
theorem dX1_init_47 : decode cX1_init 47 = .ok (.iinc 1 1, 3) := by decide +kernel
theorem dX1_init_50 : decode cX1_init 50 = .ok (.goto (-19), 3) := by decide +kernel
theorem dX1_init_53 : decode cX1_init 53 = .ok (.return_, 1) := by decide +kernel
theorem dX1_strainOf_0 : decode cX1_strainOf 0 = .ok (.iload_n 0, 1) := by decide +kernel
theorem dX1_strainOf_1 : decode cX1_strainOf 1 = .ok (.bipush 20, 2) := by decide +kernel
theorem dX1_strainOf_3 : decode cX1_strainOf 3 = .ok (.ishr, 1) := by decide +kernel
theorem dX1_strainOf_4 : decode cX1_strainOf 4 = .ok (.ireturn, 1) := by decide +kernel
theorem dX1_workOf_0 : decode cX1_workOf 0 = .ok (.iload_n 0, 1) := by decide +kernel
theorem dX1_workOf_1 : decode cX1_workOf 1 = .ok (.bipush 16, 2) := by decide +kernel
theorem dX1_workOf_3 : decode cX1_workOf 3 = .ok (.ishr, 1) := by decide +kernel
theorem dX1_workOf_4 : decode cX1_workOf 4 = .ok (.bipush 15, 2) := by decide +kernel
theorem dX1_workOf_6 : decode cX1_workOf 6 = .ok (.iand, 1) := by decide +kernel
theorem dX1_workOf_7 : decode cX1_workOf 7 = .ok (.ireturn, 1) := by decide +kernel
theorem dX1_rankOf_0 : decode cX1_rankOf 0 = .ok (.iload_n 0, 1) := by decide +kernel
theorem dX1_rankOf_1 : decode cX1_rankOf 1 = .ok (.iload_n 1, 1) := by decide +kernel
theorem dX1_rankOf_2 : decode cX1_rankOf 2 = .ok (.invokestatic 21, 3) := by decide +kernel
theorem dX1_rankOf_5 : decode cX1_rankOf 5 = .ok (.ishr, 1) := by decide +kernel
theorem dX1_rankOf_6 : decode cX1_rankOf 6 = .ok (.iconst 3, 1) := by decide +kernel
theorem dX1_rankOf_7 : decode cX1_rankOf 7 = .ok (.iand, 1) := by decide +kernel
theorem dX1_rankOf_8 : decode cX1_rankOf 8 = .ok (.ireturn, 1) := by decide +kernel
theorem dX1_rankShift_0 : decode cX1_rankShift 0 = .ok (.bipush 7, 2) := by decide +kernel
theorem dX1_rankShift_2 : decode cX1_rankShift 2 = .ok (.iload_n 0, 1) := by decide +kernel
theorem dX1_rankShift_3 : decode cX1_rankShift 3 = .ok (.isub, 1) := by decide +kernel
theorem dX1_rankShift_4 : decode cX1_rankShift 4 = .ok (.iconst 2, 1) := by decide +kernel
theorem dX1_rankShift_5 : decode cX1_rankShift 5 = .ok (.imul, 1) := by decide +kernel
theorem dX1_rankShift_6 : decode cX1_rankShift 6 = .ok (.ireturn, 1) := by decide +kernel
theorem dX1_clear_0 : decode cX1_clear 0 = .ok (.iconst 0, 1) := by decide +kernel
theorem dX1_clear_1 : decode cX1_clear 1 = .ok (.istore_n 1, 1) := by decide +kernel
theorem dX1_clear_2 : decode cX1_clear 2 = .ok (.iload_n 1, 1) := by decide +kernel
theorem dX1_clear_3 : decode cX1_clear 3 = .ok (.aload_n 0, 1) := by decide +kernel
theorem dX1_clear_4 : decode cX1_clear 4 = .ok (.getfield 11, 3) := by decide +kernel
theorem dX1_clear_7 : decode cX1_clear 7 = .ok (.arraylength, 1) := by decide +kernel
theorem dX1_clear_8 : decode cX1_clear 8 = .ok (.if_icmp .ge 16, 3) := by decide +kernel
theorem dX1_clear_11 : decode cX1_clear 11 = .ok (.aload_n 0, 1) := by decide +kernel
theorem dX1_clear_12 : decode cX1_clear 12 = .ok (.getfield 11, 3) := by decide +kernel
theorem dX1_clear_15 : decode cX1_clear 15 = .ok (.iload_n 1, 1) := by decide +kernel
theorem dX1_clear_16 : decode cX1_clear 16 = .ok (.iconst (-1), 1) := by decide +kernel
theorem dX1_clear_17 : decode cX1_clear 17 = .ok (.iastore, 1) := by decide +kernel
theorem dX1_clear_18 : decode cX1_clear 18 = .ok (.iinc 1 1, 3) := by decide +kernel
theorem dX1_clear_21 : decode cX1_clear 21 = .ok (.goto (-19), 3) := by decide +kernel
theorem dX1_clear_24 : decode cX1_clear 24 = .ok (.aload_n 0, 1) := by decide +kernel
theorem dX1_clear_25 : decode cX1_clear 25 = .ok (.iconst 1, 1) := by decide +kernel
theorem dX1_clear_26 : decode cX1_clear 26 = .ok (.putfield 25, 3) := by decide +kernel
theorem dX1_clear_29 : decode cX1_clear 29 = .ok (.return_, 1) := by decide +kernel
theorem dX1_offer_0 : decode cX1_offer 0 = .ok (.iload_n 1, 1) := by decide +kernel
theorem dX1_offer_1 : decode cX1_offer 1 = .ok (.iconst 4, 1) := by decide +kernel
theorem dX1_offer_2 : decode cX1_offer 2 = .ok (.imul, 1) := by decide +kernel
theorem dX1_offer_3 : decode cX1_offer 3 = .ok (.iload_n 2, 1) := by decide +kernel
theorem dX1_offer_4 : decode cX1_offer 4 = .ok (.iadd, 1) := by decide +kernel
theorem dX1_offer_5 : decode cX1_offer 5 = .ok (.istore 5, 2) := by decide +kernel
theorem dX1_offer_7 : decode cX1_offer 7 = .ok (.aload_n 0, 1) := by decide +kernel
theorem dX1_offer_8 : decode cX1_offer 8 = .ok (.getfield 11, 3) := by decide +kernel
theorem dX1_offer_11 : decode cX1_offer 11 = .ok (.iload 5, 2) := by decide +kernel
theorem dX1_offer_13 : decode cX1_offer 13 = .ok (.iload_n 3, 1) := by decide +kernel
theorem dX1_offer_14 : decode cX1_offer 14 = .ok (.iastore, 1) := by decide +kernel
theorem dX1_offer_15 : decode cX1_offer 15 = .ok (.aload_n 0, 1) := by decide +kernel
theorem dX1_offer_16 : decode cX1_offer 16 = .ok (.getfield 15, 3) := by decide +kernel
theorem dX1_offer_19 : decode cX1_offer 19 = .ok (.iload 5, 2) := by decide +kernel
theorem dX1_offer_21 : decode cX1_offer 21 = .ok (.iload_n 2, 1) := by decide +kernel
theorem dX1_offer_22 : decode cX1_offer 22 = .ok (.bipush 20, 2) := by decide +kernel
theorem dX1_offer_24 : decode cX1_offer 24 = .ok (.ishl, 1) := by decide +kernel
theorem dX1_offer_25 : decode cX1_offer 25 = .ok (.iload 4, 2) := by decide +kernel
theorem dX1_offer_27 : decode cX1_offer 27 = .ok (.bipush 16, 2) := by decide +kernel
theorem dX1_offer_29 : decode cX1_offer 29 = .ok (.ishl, 1) := by decide +kernel
theorem dX1_offer_30 : decode cX1_offer 30 = .ok (.iadd, 1) := by decide +kernel
theorem dX1_offer_31 : decode cX1_offer 31 = .ok (.iload_n 2, 1) := by decide +kernel
theorem dX1_offer_32 : decode cX1_offer 32 = .ok (.iload_n 1, 1) := by decide +kernel
theorem dX1_offer_33 : decode cX1_offer 33 = .ok (.invokestatic 21, 3) := by decide +kernel
theorem dX1_offer_36 : decode cX1_offer 36 = .ok (.ishl, 1) := by decide +kernel
theorem dX1_offer_37 : decode cX1_offer 37 = .ok (.iadd, 1) := by decide +kernel
theorem dX1_offer_38 : decode cX1_offer 38 = .ok (.iastore, 1) := by decide +kernel
theorem dX1_offer_39 : decode cX1_offer 39 = .ok (.aload_n 0, 1) := by decide +kernel
theorem dX1_offer_40 : decode cX1_offer 40 = .ok (.aload_n 0, 1) := by decide +kernel
theorem dX1_offer_41 : decode cX1_offer 41 = .ok (.getfield 25, 3) := by decide +kernel
theorem dX1_offer_44 : decode cX1_offer 44 = .ok (.iconst 2, 1) := by decide +kernel
theorem dX1_offer_45 : decode cX1_offer 45 = .ok (.iload_n 3, 1) := by decide +kernel
theorem dX1_offer_46 : decode cX1_offer 46 = .ok (.ishl, 1) := by decide +kernel
theorem dX1_offer_47 : decode cX1_offer 47 = .ok (.invokestatic 29, 3) := by decide +kernel
theorem dX1_offer_50 : decode cX1_offer 50 = .ok (.putfield 25, 3) := by decide +kernel
theorem dX1_offer_53 : decode cX1_offer 53 = .ok (.return_, 1) := by decide +kernel
theorem dX1_leastKey_0 : decode cX1_leastKey 0 = .ok (.iconst (-1), 1) := by decide +kernel
theorem dX1_leastKey_1 : decode cX1_leastKey 1 = .ok (.istore_n 2, 1) := by decide +kernel
theorem dX1_leastKey_2 : decode cX1_leastKey 2 = .ok (.aload_n 0, 1) := by decide +kernel
theorem dX1_leastKey_3 : decode cX1_leastKey 3 = .ok (.getfield 18, 3) := by decide +kernel
theorem dX1_leastKey_6 : decode cX1_leastKey 6 = .ok (.iconst 0, 1) := by decide +kernel
theorem dX1_leastKey_7 : decode cX1_leastKey 7 = .ok (.iconst 0, 1) := by decide +kernel
theorem dX1_leastKey_8 : decode cX1_leastKey 8 = .ok (.iastore, 1) := by decide +kernel
theorem dX1_leastKey_9 : decode cX1_leastKey 9 = .ok (.iconst 0, 1) := by decide +kernel
theorem dX1_leastKey_10 : decode cX1_leastKey 10 = .ok (.istore_n 3, 1) := by decide +kernel
theorem dX1_leastKey_11 : decode cX1_leastKey 11 = .ok (.iload_n 3, 1) := by decide +kernel
theorem dX1_leastKey_12 : decode cX1_leastKey 12 = .ok (.aload_n 0, 1) := by decide +kernel
theorem dX1_leastKey_13 : decode cX1_leastKey 13 = .ok (.getfield 25, 3) := by decide +kernel
theorem dX1_leastKey_16 : decode cX1_leastKey 16 = .ok (.if_icmp .ge 71, 3) := by decide +kernel
theorem dX1_leastKey_19 : decode cX1_leastKey 19 = .ok (.aload_n 0, 1) := by decide +kernel
theorem dX1_leastKey_20 : decode cX1_leastKey 20 = .ok (.getfield 18, 3) := by decide +kernel
theorem dX1_leastKey_23 : decode cX1_leastKey 23 = .ok (.iload_n 3, 1) := by decide +kernel
theorem dX1_leastKey_24 : decode cX1_leastKey 24 = .ok (.iaload, 1) := by decide +kernel
theorem dX1_leastKey_25 : decode cX1_leastKey 25 = .ok (.istore 4, 2) := by decide +kernel
theorem dX1_leastKey_27 : decode cX1_leastKey 27 = .ok (.aload_n 0, 1) := by decide +kernel
theorem dX1_leastKey_28 : decode cX1_leastKey 28 = .ok (.getfield 18, 3) := by decide +kernel
theorem dX1_leastKey_31 : decode cX1_leastKey 31 = .ok (.iload_n 3, 1) := by decide +kernel
theorem dX1_leastKey_32 : decode cX1_leastKey 32 = .ok (.iconst (-1), 1) := by decide +kernel
theorem dX1_leastKey_33 : decode cX1_leastKey 33 = .ok (.iastore, 1) := by decide +kernel
theorem dX1_leastKey_34 : decode cX1_leastKey 34 = .ok (.iload 4, 2) := by decide +kernel
theorem dX1_leastKey_36 : decode cX1_leastKey 36 = .ok (.iconst (-1), 1) := by decide +kernel
theorem dX1_leastKey_37 : decode cX1_leastKey 37 = .ok (.if_icmp .ne 6, 3) := by decide +kernel
theorem dX1_leastKey_40 : decode cX1_leastKey 40 = .ok (.goto 41, 3) := by decide +kernel
theorem dX1_leastKey_43 : decode cX1_leastKey 43 = .ok (.iload_n 3, 1) := by decide +kernel
theorem dX1_leastKey_44 : decode cX1_leastKey 44 = .ok (.invokestatic 35, 3) := by decide +kernel
theorem dX1_leastKey_47 : decode cX1_leastKey 47 = .ok (.istore 5, 2) := by decide +kernel
theorem dX1_leastKey_49 : decode cX1_leastKey 49 = .ok (.iload 5, 2) := by decide +kernel
theorem dX1_leastKey_51 : decode cX1_leastKey 51 = .ok (.iload_n 1, 1) := by decide +kernel
theorem dX1_leastKey_52 : decode cX1_leastKey 52 = .ok (.if_icmp .ge 15, 3) := by decide +kernel
theorem dX1_leastKey_55 : decode cX1_leastKey 55 = .ok (.aload_n 0, 1) := by decide +kernel
theorem dX1_leastKey_56 : decode cX1_leastKey 56 = .ok (.iload 5, 2) := by decide +kernel
theorem dX1_leastKey_58 : decode cX1_leastKey 58 = .ok (.iload_n 3, 1) := by decide +kernel
theorem dX1_leastKey_59 : decode cX1_leastKey 59 = .ok (.iload 4, 2) := by decide +kernel
theorem dX1_leastKey_61 : decode cX1_leastKey 61 = .ok (.invokevirtual 40, 3) := by decide +kernel
theorem dX1_leastKey_64 : decode cX1_leastKey 64 = .ok (.goto 17, 3) := by decide +kernel
theorem dX1_leastKey_67 : decode cX1_leastKey 67 = .ok (.iload_n 2, 1) := by decide +kernel
theorem dX1_leastKey_68 : decode cX1_leastKey 68 = .ok (.iconst (-1), 1) := by decide +kernel
theorem dX1_leastKey_69 : decode cX1_leastKey 69 = .ok (.if_icmp .eq 9, 3) := by decide +kernel
theorem dX1_leastKey_72 : decode cX1_leastKey 72 = .ok (.iload 4, 2) := by decide +kernel
theorem dX1_leastKey_74 : decode cX1_leastKey 74 = .ok (.iload_n 2, 1) := by decide +kernel
theorem dX1_leastKey_75 : decode cX1_leastKey 75 = .ok (.if_icmp .ge 6, 3) := by decide +kernel
theorem dX1_leastKey_78 : decode cX1_leastKey 78 = .ok (.iload 4, 2) := by decide +kernel
theorem dX1_leastKey_80 : decode cX1_leastKey 80 = .ok (.istore_n 2, 1) := by decide +kernel
theorem dX1_leastKey_81 : decode cX1_leastKey 81 = .ok (.iinc 3 1, 3) := by decide +kernel
theorem dX1_leastKey_84 : decode cX1_leastKey 84 = .ok (.goto (-73), 3) := by decide +kernel
theorem dX1_leastKey_87 : decode cX1_leastKey 87 = .ok (.iload_n 2, 1) := by decide +kernel
theorem dX1_leastKey_88 : decode cX1_leastKey 88 = .ok (.ireturn, 1) := by decide +kernel
theorem dX1_castPart_0 : decode cX1_castPart 0 = .ok (.iconst 0, 1) := by decide +kernel
theorem dX1_castPart_1 : decode cX1_castPart 1 = .ok (.istore 4, 2) := by decide +kernel
theorem dX1_castPart_3 : decode cX1_castPart 3 = .ok (.iload 4, 2) := by decide +kernel
theorem dX1_castPart_5 : decode cX1_castPart 5 = .ok (.iconst 4, 1) := by decide +kernel
theorem dX1_castPart_6 : decode cX1_castPart 6 = .ok (.if_icmp .ge 92, 3) := by decide +kernel
theorem dX1_castPart_9 : decode cX1_castPart 9 = .ok (.iload_n 1, 1) := by decide +kernel
theorem dX1_castPart_10 : decode cX1_castPart 10 = .ok (.iconst 4, 1) := by decide +kernel
theorem dX1_castPart_11 : decode cX1_castPart 11 = .ok (.imul, 1) := by decide +kernel
theorem dX1_castPart_12 : decode cX1_castPart 12 = .ok (.iload 4, 2) := by decide +kernel
theorem dX1_castPart_14 : decode cX1_castPart 14 = .ok (.iadd, 1) := by decide +kernel
theorem dX1_castPart_15 : decode cX1_castPart 15 = .ok (.istore 5, 2) := by decide +kernel
theorem dX1_castPart_17 : decode cX1_castPart 17 = .ok (.aload_n 0, 1) := by decide +kernel
theorem dX1_castPart_18 : decode cX1_castPart 18 = .ok (.getfield 11, 3) := by decide +kernel
theorem dX1_castPart_21 : decode cX1_castPart 21 = .ok (.iload 5, 2) := by decide +kernel
theorem dX1_castPart_23 : decode cX1_castPart 23 = .ok (.iaload, 1) := by decide +kernel
theorem dX1_castPart_24 : decode cX1_castPart 24 = .ok (.istore 6, 2) := by decide +kernel
theorem dX1_castPart_26 : decode cX1_castPart 26 = .ok (.iload 6, 2) := by decide +kernel
theorem dX1_castPart_28 : decode cX1_castPart 28 = .ok (.iconst (-1), 1) := by decide +kernel
theorem dX1_castPart_29 : decode cX1_castPart 29 = .ok (.if_icmp .eq 63, 3) := by decide +kernel
theorem dX1_castPart_32 : decode cX1_castPart 32 = .ok (.iload_n 2, 1) := by decide +kernel
theorem dX1_castPart_33 : decode cX1_castPart 33 = .ok (.iload 6, 2) := by decide +kernel
theorem dX1_castPart_35 : decode cX1_castPart 35 = .ok (.invokestatic 44, 3) := by decide +kernel
theorem dX1_castPart_38 : decode cX1_castPart 38 = .ok (.ifCond .ne 54, 3) := by decide +kernel
theorem dX1_castPart_41 : decode cX1_castPart 41 = .ok (.iload_n 2, 1) := by decide +kernel
theorem dX1_castPart_42 : decode cX1_castPart 42 = .ok (.iload 6, 2) := by decide +kernel
theorem dX1_castPart_44 : decode cX1_castPart 44 = .ok (.invokestatic 48, 3) := by decide +kernel
theorem dX1_castPart_47 : decode cX1_castPart 47 = .ok (.istore 7, 2) := by decide +kernel
theorem dX1_castPart_49 : decode cX1_castPart 49 = .ok (.iload_n 3, 1) := by decide +kernel
theorem dX1_castPart_50 : decode cX1_castPart 50 = .ok (.aload_n 0, 1) := by decide +kernel
theorem dX1_castPart_51 : decode cX1_castPart 51 = .ok (.getfield 15, 3) := by decide +kernel
theorem dX1_castPart_54 : decode cX1_castPart 54 = .ok (.iload 5, 2) := by decide +kernel
theorem dX1_castPart_56 : decode cX1_castPart 56 = .ok (.iaload, 1) := by decide +kernel
theorem dX1_castPart_57 : decode cX1_castPart 57 = .ok (.iadd, 1) := by decide +kernel
theorem dX1_castPart_58 : decode cX1_castPart 58 = .ok (.istore 8, 2) := by decide +kernel
theorem dX1_castPart_60 : decode cX1_castPart 60 = .ok (.aload_n 0, 1) := by decide +kernel
theorem dX1_castPart_61 : decode cX1_castPart 61 = .ok (.getfield 18, 3) := by decide +kernel
theorem dX1_castPart_64 : decode cX1_castPart 64 = .ok (.iload 7, 2) := by decide +kernel
theorem dX1_castPart_66 : decode cX1_castPart 66 = .ok (.iaload, 1) := by decide +kernel
theorem dX1_castPart_67 : decode cX1_castPart 67 = .ok (.iconst (-1), 1) := by decide +kernel
theorem dX1_castPart_68 : decode cX1_castPart 68 = .ok (.if_icmp .eq 15, 3) := by decide +kernel
theorem dX1_castPart_71 : decode cX1_castPart 71 = .ok (.iload 8, 2) := by decide +kernel
theorem dX1_castPart_73 : decode cX1_castPart 73 = .ok (.aload_n 0, 1) := by decide +kernel
theorem dX1_castPart_74 : decode cX1_castPart 74 = .ok (.getfield 18, 3) := by decide +kernel
theorem dX1_castPart_77 : decode cX1_castPart 77 = .ok (.iload 7, 2) := by decide +kernel
theorem dX1_castPart_79 : decode cX1_castPart 79 = .ok (.iaload, 1) := by decide +kernel
theorem dX1_castPart_80 : decode cX1_castPart 80 = .ok (.if_icmp .ge 12, 3) := by decide +kernel
theorem dX1_castPart_83 : decode cX1_castPart 83 = .ok (.aload_n 0, 1) := by decide +kernel
theorem dX1_castPart_84 : decode cX1_castPart 84 = .ok (.getfield 18, 3) := by decide +kernel
theorem dX1_castPart_87 : decode cX1_castPart 87 = .ok (.iload 7, 2) := by decide +kernel
theorem dX1_castPart_89 : decode cX1_castPart 89 = .ok (.iload 8, 2) := by decide +kernel
theorem dX1_castPart_91 : decode cX1_castPart 91 = .ok (.iastore, 1) := by decide +kernel
theorem dX1_castPart_92 : decode cX1_castPart 92 = .ok (.iinc 4 1, 3) := by decide +kernel
theorem dX1_castPart_95 : decode cX1_castPart 95 = .ok (.goto (-92), 3) := by decide +kernel
theorem dX1_castPart_98 : decode cX1_castPart 98 = .ok (.return_, 1) := by decide +kernel
theorem dX1_leastStrain_0 : decode cX1_leastStrain 0 = .ok (.aload_n 0, 1) := by decide +kernel
theorem dX1_leastStrain_1 : decode cX1_leastStrain 1 = .ok (.getfield 11, 3) := by decide +kernel
theorem dX1_leastStrain_4 : decode cX1_leastStrain 4 = .ok (.iload_n 1, 1) := by decide +kernel
theorem dX1_leastStrain_5 : decode cX1_leastStrain 5 = .ok (.iconst 0, 1) := by decide +kernel
theorem dX1_leastStrain_6 : decode cX1_leastStrain 6 = .ok (.iconst 0, 1) := by decide +kernel
theorem dX1_leastStrain_7 : decode cX1_leastStrain 7 = .ok (.invokestatic 51, 3) := by decide +kernel
theorem dX1_leastStrain_10 : decode cX1_leastStrain 10 = .ok (.ireturn, 1) := by decide +kernel
theorem dX1_leastFrom_0 : decode cX1_leastFrom 0 = .ok (.iload_n 2, 1) := by decide +kernel
theorem dX1_leastFrom_1 : decode cX1_leastFrom 1 = .ok (.iload_n 1, 1) := by decide +kernel
theorem dX1_leastFrom_2 : decode cX1_leastFrom 2 = .ok (.if_icmp .ge 9, 3) := by decide +kernel
theorem dX1_leastFrom_5 : decode cX1_leastFrom 5 = .ok (.iload_n 2, 1) := by decide +kernel
theorem dX1_leastFrom_6 : decode cX1_leastFrom 6 = .ok (.bipush 8, 2) := by decide +kernel
theorem dX1_leastFrom_8 : decode cX1_leastFrom 8 = .ok (.if_icmp .lt 5, 3) := by decide +kernel
theorem dX1_leastFrom_11 : decode cX1_leastFrom 11 = .ok (.iconst 0, 1) := by decide +kernel
theorem dX1_leastFrom_12 : decode cX1_leastFrom 12 = .ok (.ireturn, 1) := by decide +kernel
theorem dX1_leastFrom_13 : decode cX1_leastFrom 13 = .ok (.iconst (-1), 1) := by decide +kernel
theorem dX1_leastFrom_14 : decode cX1_leastFrom 14 = .ok (.istore 4, 2) := by decide +kernel
theorem dX1_leastFrom_16 : decode cX1_leastFrom 16 = .ok (.iconst 0, 1) := by decide +kernel
theorem dX1_leastFrom_17 : decode cX1_leastFrom 17 = .ok (.istore 5, 2) := by decide +kernel
theorem dX1_leastFrom_19 : decode cX1_leastFrom 19 = .ok (.iload 5, 2) := by decide +kernel
theorem dX1_leastFrom_21 : decode cX1_leastFrom 21 = .ok (.iconst 4, 1) := by decide +kernel
theorem dX1_leastFrom_22 : decode cX1_leastFrom 22 = .ok (.if_icmp .ge 82, 3) := by decide +kernel
theorem dX1_leastFrom_25 : decode cX1_leastFrom 25 = .ok (.aload_n 0, 1) := by decide +kernel
theorem dX1_leastFrom_26 : decode cX1_leastFrom 26 = .ok (.iload_n 2, 1) := by decide +kernel
theorem dX1_leastFrom_27 : decode cX1_leastFrom 27 = .ok (.iconst 4, 1) := by decide +kernel
theorem dX1_leastFrom_28 : decode cX1_leastFrom 28 = .ok (.imul, 1) := by decide +kernel
theorem dX1_leastFrom_29 : decode cX1_leastFrom 29 = .ok (.iload 5, 2) := by decide +kernel
theorem dX1_leastFrom_31 : decode cX1_leastFrom 31 = .ok (.iadd, 1) := by decide +kernel
theorem dX1_leastFrom_32 : decode cX1_leastFrom 32 = .ok (.iaload, 1) := by decide +kernel
theorem dX1_leastFrom_33 : decode cX1_leastFrom 33 = .ok (.istore 6, 2) := by decide +kernel
theorem dX1_leastFrom_35 : decode cX1_leastFrom 35 = .ok (.iload 6, 2) := by decide +kernel
theorem dX1_leastFrom_37 : decode cX1_leastFrom 37 = .ok (.iconst (-1), 1) := by decide +kernel
theorem dX1_leastFrom_38 : decode cX1_leastFrom 38 = .ok (.if_icmp .eq 60, 3) := by decide +kernel
theorem dX1_leastFrom_41 : decode cX1_leastFrom 41 = .ok (.iload_n 3, 1) := by decide +kernel
theorem dX1_leastFrom_42 : decode cX1_leastFrom 42 = .ok (.iload 6, 2) := by decide +kernel
theorem dX1_leastFrom_44 : decode cX1_leastFrom 44 = .ok (.invokestatic 44, 3) := by decide +kernel
theorem dX1_leastFrom_47 : decode cX1_leastFrom 47 = .ok (.ifCond .eq 6, 3) := by decide +kernel
theorem dX1_leastFrom_50 : decode cX1_leastFrom 50 = .ok (.goto 48, 3) := by decide +kernel
theorem dX1_leastFrom_53 : decode cX1_leastFrom 53 = .ok (.aload_n 0, 1) := by decide +kernel
theorem dX1_leastFrom_54 : decode cX1_leastFrom 54 = .ok (.iload_n 1, 1) := by decide +kernel
theorem dX1_leastFrom_55 : decode cX1_leastFrom 55 = .ok (.iload_n 2, 1) := by decide +kernel
theorem dX1_leastFrom_56 : decode cX1_leastFrom 56 = .ok (.iconst 1, 1) := by decide +kernel
theorem dX1_leastFrom_57 : decode cX1_leastFrom 57 = .ok (.iadd, 1) := by decide +kernel
theorem dX1_leastFrom_58 : decode cX1_leastFrom 58 = .ok (.iload_n 3, 1) := by decide +kernel
theorem dX1_leastFrom_59 : decode cX1_leastFrom 59 = .ok (.iload 6, 2) := by decide +kernel
theorem dX1_leastFrom_61 : decode cX1_leastFrom 61 = .ok (.invokestatic 48, 3) := by decide +kernel
theorem dX1_leastFrom_64 : decode cX1_leastFrom 64 = .ok (.invokestatic 51, 3) := by decide +kernel
theorem dX1_leastFrom_67 : decode cX1_leastFrom 67 = .ok (.istore 7, 2) := by decide +kernel
theorem dX1_leastFrom_69 : decode cX1_leastFrom 69 = .ok (.iload 7, 2) := by decide +kernel
theorem dX1_leastFrom_71 : decode cX1_leastFrom 71 = .ok (.iconst (-1), 1) := by decide +kernel
theorem dX1_leastFrom_72 : decode cX1_leastFrom 72 = .ok (.if_icmp .eq 26, 3) := by decide +kernel
theorem dX1_leastFrom_75 : decode cX1_leastFrom 75 = .ok (.iload 4, 2) := by decide +kernel
theorem dX1_leastFrom_77 : decode cX1_leastFrom 77 = .ok (.iconst (-1), 1) := by decide +kernel
theorem dX1_leastFrom_78 : decode cX1_leastFrom 78 = .ok (.if_icmp .eq 13, 3) := by decide +kernel
theorem dX1_leastFrom_81 : decode cX1_leastFrom 81 = .ok (.iload 5, 2) := by decide +kernel
theorem dX1_leastFrom_83 : decode cX1_leastFrom 83 = .ok (.iload 7, 2) := by decide +kernel
theorem dX1_leastFrom_85 : decode cX1_leastFrom 85 = .ok (.iadd, 1) := by decide +kernel
theorem dX1_leastFrom_86 : decode cX1_leastFrom 86 = .ok (.iload 4, 2) := by decide +kernel
theorem dX1_leastFrom_88 : decode cX1_leastFrom 88 = .ok (.if_icmp .ge 10, 3) := by decide +kernel
theorem dX1_leastFrom_91 : decode cX1_leastFrom 91 = .ok (.iload 5, 2) := by decide +kernel
theorem dX1_leastFrom_93 : decode cX1_leastFrom 93 = .ok (.iload 7, 2) := by decide +kernel
theorem dX1_leastFrom_95 : decode cX1_leastFrom 95 = .ok (.iadd, 1) := by decide +kernel
theorem dX1_leastFrom_96 : decode cX1_leastFrom 96 = .ok (.istore 4, 2) := by decide +kernel
theorem dX1_leastFrom_98 : decode cX1_leastFrom 98 = .ok (.iinc 5 1, 3) := by decide +kernel
theorem dX1_leastFrom_101 : decode cX1_leastFrom 101 = .ok (.goto (-82), 3) := by decide +kernel
theorem dX1_leastFrom_104 : decode cX1_leastFrom 104 = .ok (.iload 4, 2) := by decide +kernel
theorem dX1_leastFrom_106 : decode cX1_leastFrom 106 = .ok (.ireturn, 1) := by decide +kernel
theorem dX2_init_0 : decode cX2_init 0 = .ok (.aload_n 0, 1) := by decide +kernel
theorem dX2_init_1 : decode cX2_init 1 = .ok (.invokespecial 3, 3) := by decide +kernel
theorem dX2_init_4 : decode cX2_init 4 = .ok (.aload_n 0, 1) := by decide +kernel
theorem dX2_init_5 : decode cX2_init 5 = .ok (.bipush 40, 2) := by decide +kernel
theorem dX2_init_7 : decode cX2_init 7 = .ok (.newarray .int, 2) := by decide +kernel
theorem dX2_init_9 : decode cX2_init 9 = .ok (.putfield 9, 3) := by decide +kernel
theorem dX2_init_12 : decode cX2_init 12 = .ok (.aload_n 0, 1) := by decide +kernel
theorem dX2_init_13 : decode cX2_init 13 = .ok (.sipush 320, 3) := by decide +kernel
theorem dX2_init_16 : decode cX2_init 16 = .ok (.newarray .int, 2) := by decide +kernel
theorem dX2_init_18 : decode cX2_init 18 = .ok (.putfield 15, 3) := by decide +kernel
theorem dX2_init_21 : decode cX2_init 21 = .ok (.aload_n 0, 1) := by decide +kernel
theorem dX2_init_22 : decode cX2_init 22 = .ok (.bipush 40, 2) := by decide +kernel
theorem dX2_init_24 : decode cX2_init 24 = .ok (.newarray .int, 2) := by decide +kernel
theorem dX2_init_26 : decode cX2_init 26 = .ok (.putfield 18, 3) := by decide +kernel
theorem dX2_init_29 : decode cX2_init 29 = .ok (.iconst 0, 1) := by decide +kernel
theorem dX2_init_30 : decode cX2_init 30 = .ok (.istore_n 1, 1) := by decide +kernel
theorem dX2_init_31 : decode cX2_init 31 = .ok (.iload_n 1, 1) := by decide +kernel
theorem dX2_init_32 : decode cX2_init 32 = .ok (.aload_n 0, 1) := by decide +kernel
theorem dX2_init_33 : decode cX2_init 33 = .ok (.getfield 15, 3) := by decide +kernel
theorem dX2_init_36 : decode cX2_init 36 = .ok (.arraylength, 1) := by decide +kernel
theorem dX2_init_37 : decode cX2_init 37 = .ok (.if_icmp .ge 16, 3) := by decide +kernel
theorem dX2_init_40 : decode cX2_init 40 = .ok (.aload_n 0, 1) := by decide +kernel
theorem dX2_init_41 : decode cX2_init 41 = .ok (.getfield 15, 3) := by decide +kernel
theorem dX2_init_44 : decode cX2_init 44 = .ok (.iload_n 1, 1) := by decide +kernel
theorem dX2_init_45 : decode cX2_init 45 = .ok (.iconst (-1), 1) := by decide +kernel
theorem dX2_init_46 : decode cX2_init 46 = .ok (.iastore, 1) := by decide +kernel
theorem dX2_init_47 : decode cX2_init 47 = .ok (.iinc 1 1, 3) := by decide +kernel
theorem dX2_init_50 : decode cX2_init 50 = .ok (.goto (-19), 3) := by decide +kernel
theorem dX2_init_53 : decode cX2_init 53 = .ok (.return_, 1) := by decide +kernel
theorem dX3_init_0 : decode cX3_init 0 = .ok (.aload_n 0, 1) := by decide +kernel
theorem dX3_init_1 : decode cX3_init 1 = .ok (.invokespecial 3, 3) := by decide +kernel
theorem dX3_init_4 : decode cX3_init 4 = .ok (.aload_n 0, 1) := by decide +kernel
theorem dX3_init_5 : decode cX3_init 5 = .ok (.bipush 32, 2) := by decide +kernel
theorem dX3_init_7 : decode cX3_init 7 = .ok (.newarray .int, 2) := by decide +kernel
theorem dX3_init_9 : decode cX3_init 9 = .ok (.putfield 9, 3) := by decide +kernel
theorem dX3_init_12 : decode cX3_init 12 = .ok (.aload_n 0, 1) := by decide +kernel
theorem dX3_init_13 : decode cX3_init 13 = .ok (.bipush 8, 2) := by decide +kernel
theorem dX3_init_15 : decode cX3_init 15 = .ok (.newarray .int, 2) := by decide +kernel
theorem dX3_init_17 : decode cX3_init 17 = .ok (.putfield 15, 3) := by decide +kernel
theorem dX3_init_20 : decode cX3_init 20 = .ok (.return_, 1) := by decide +kernel
theorem dX3_actorAt_0 : decode cX3_actorAt 0 = .ok (.iload_n 2, 1) := by decide +kernel
theorem dX3_actorAt_1 : decode cX3_actorAt 1 = .ok (.aload_n 0, 1) := by decide +kernel
theorem dX3_actorAt_2 : decode cX3_actorAt 2 = .ok (.getfield 15, 3) := by decide +kernel
theorem dX3_actorAt_5 : decode cX3_actorAt 5 = .ok (.iload_n 1, 1) := by decide +kernel
theorem dX3_actorAt_6 : decode cX3_actorAt 6 = .ok (.iaload, 1) := by decide +kernel
theorem dX3_actorAt_7 : decode cX3_actorAt 7 = .ok (.if_icmp .ge 16, 3) := by decide +kernel
theorem dX3_actorAt_10 : decode cX3_actorAt 10 = .ok (.aload_n 0, 1) := by decide +kernel
theorem dX3_actorAt_11 : decode cX3_actorAt 11 = .ok (.getfield 9, 3) := by decide +kernel
theorem dX3_actorAt_14 : decode cX3_actorAt 14 = .ok (.iload_n 1, 1) := by decide +kernel
theorem dX3_actorAt_15 : decode cX3_actorAt 15 = .ok (.iconst 4, 1) := by decide +kernel
theorem dX3_actorAt_16 : decode cX3_actorAt 16 = .ok (.imul, 1) := by decide +kernel
theorem dX3_actorAt_17 : decode cX3_actorAt 17 = .ok (.iload_n 2, 1) := by decide +kernel
theorem dX3_actorAt_18 : decode cX3_actorAt 18 = .ok (.iadd, 1) := by decide +kernel
theorem dX3_actorAt_19 : decode cX3_actorAt 19 = .ok (.iaload, 1) := by decide +kernel
theorem dX3_actorAt_20 : decode cX3_actorAt 20 = .ok (.goto 4, 3) := by decide +kernel
theorem dX3_actorAt_23 : decode cX3_actorAt 23 = .ok (.iconst (-1), 1) := by decide +kernel
theorem dX3_actorAt_24 : decode cX3_actorAt 24 = .ok (.ireturn, 1) := by decide +kernel
theorem dX3_rankIn_0 : decode cX3_rankIn 0 = .ok (.iconst 0, 1) := by decide +kernel
theorem dX3_rankIn_1 : decode cX3_rankIn 1 = .ok (.istore_n 3, 1) := by decide +kernel
theorem dX3_rankIn_2 : decode cX3_rankIn 2 = .ok (.iload_n 3, 1) := by decide +kernel
theorem dX3_rankIn_3 : decode cX3_rankIn 3 = .ok (.aload_n 0, 1) := by decide +kernel
theorem dX3_rankIn_4 : decode cX3_rankIn 4 = .ok (.getfield 15, 3) := by decide +kernel
theorem dX3_rankIn_7 : decode cX3_rankIn 7 = .ok (.iload_n 1, 1) := by decide +kernel
theorem dX3_rankIn_8 : decode cX3_rankIn 8 = .ok (.iaload, 1) := by decide +kernel
theorem dX3_rankIn_9 : decode cX3_rankIn 9 = .ok (.if_icmp .ge 25, 3) := by decide +kernel
theorem dX3_rankIn_12 : decode cX3_rankIn 12 = .ok (.aload_n 0, 1) := by decide +kernel
theorem dX3_rankIn_13 : decode cX3_rankIn 13 = .ok (.getfield 9, 3) := by decide +kernel
theorem dX3_rankIn_16 : decode cX3_rankIn 16 = .ok (.iload_n 1, 1) := by decide +kernel
theorem dX3_rankIn_17 : decode cX3_rankIn 17 = .ok (.iconst 4, 1) := by decide +kernel
theorem dX3_rankIn_18 : decode cX3_rankIn 18 = .ok (.imul, 1) := by decide +kernel
theorem dX3_rankIn_19 : decode cX3_rankIn 19 = .ok (.iload_n 3, 1) := by decide +kernel
theorem dX3_rankIn_20 : decode cX3_rankIn 20 = .ok (.iadd, 1) := by decide +kernel
theorem dX3_rankIn_21 : decode cX3_rankIn 21 = .ok (.iaload, 1) := by decide +kernel
theorem dX3_rankIn_22 : decode cX3_rankIn 22 = .ok (.iload_n 2, 1) := by decide +kernel
theorem dX3_rankIn_23 : decode cX3_rankIn 23 = .ok (.if_icmp .ne 5, 3) := by decide +kernel
theorem dX3_rankIn_26 : decode cX3_rankIn 26 = .ok (.iload_n 3, 1) := by decide +kernel
theorem dX3_rankIn_27 : decode cX3_rankIn 27 = .ok (.ireturn, 1) := by decide +kernel
theorem dX3_rankIn_28 : decode cX3_rankIn 28 = .ok (.iinc 3 1, 3) := by decide +kernel
theorem dX3_rankIn_31 : decode cX3_rankIn 31 = .ok (.goto (-29), 3) := by decide +kernel
theorem dX3_rankIn_34 : decode cX3_rankIn 34 = .ok (.iconst (-1), 1) := by decide +kernel
theorem dX3_rankIn_35 : decode cX3_rankIn 35 = .ok (.ireturn, 1) := by decide +kernel
theorem dX3_isFull_0 : decode cX3_isFull 0 = .ok (.aload_n 0, 1) := by decide +kernel
theorem dX3_isFull_1 : decode cX3_isFull 1 = .ok (.getfield 15, 3) := by decide +kernel
theorem dX3_isFull_4 : decode cX3_isFull 4 = .ok (.iload_n 1, 1) := by decide +kernel
theorem dX3_isFull_5 : decode cX3_isFull 5 = .ok (.iaload, 1) := by decide +kernel
theorem dX3_isFull_6 : decode cX3_isFull 6 = .ok (.iconst 4, 1) := by decide +kernel
theorem dX3_isFull_7 : decode cX3_isFull 7 = .ok (.if_icmp .lt 7, 3) := by decide +kernel
theorem dX3_isFull_10 : decode cX3_isFull 10 = .ok (.iconst 1, 1) := by decide +kernel
theorem dX3_isFull_11 : decode cX3_isFull 11 = .ok (.goto 4, 3) := by decide +kernel
theorem dX3_isFull_14 : decode cX3_isFull 14 = .ok (.iconst 0, 1) := by decide +kernel
theorem dX3_isFull_15 : decode cX3_isFull 15 = .ok (.ireturn, 1) := by decide +kernel
theorem dX3_append_0 : decode cX3_append 0 = .ok (.aload_n 0, 1) := by decide +kernel
theorem dX3_append_1 : decode cX3_append 1 = .ok (.getfield 15, 3) := by decide +kernel
theorem dX3_append_4 : decode cX3_append 4 = .ok (.iload_n 1, 1) := by decide +kernel
theorem dX3_append_5 : decode cX3_append 5 = .ok (.iaload, 1) := by decide +kernel
theorem dX3_append_6 : decode cX3_append 6 = .ok (.istore_n 3, 1) := by decide +kernel
theorem dX3_append_7 : decode cX3_append 7 = .ok (.aload_n 0, 1) := by decide +kernel
theorem dX3_append_8 : decode cX3_append 8 = .ok (.getfield 9, 3) := by decide +kernel
theorem dX3_append_11 : decode cX3_append 11 = .ok (.iload_n 1, 1) := by decide +kernel
theorem dX3_append_12 : decode cX3_append 12 = .ok (.iconst 4, 1) := by decide +kernel
theorem dX3_append_13 : decode cX3_append 13 = .ok (.imul, 1) := by decide +kernel
theorem dX3_append_14 : decode cX3_append 14 = .ok (.iload_n 3, 1) := by decide +kernel
theorem dX3_append_15 : decode cX3_append 15 = .ok (.iadd, 1) := by decide +kernel
theorem dX3_append_16 : decode cX3_append 16 = .ok (.iload_n 2, 1) := by decide +kernel
theorem dX3_append_17 : decode cX3_append 17 = .ok (.iastore, 1) := by decide +kernel
theorem dX3_append_18 : decode cX3_append 18 = .ok (.aload_n 0, 1) := by decide +kernel
theorem dX3_append_19 : decode cX3_append 19 = .ok (.getfield 15, 3) := by decide +kernel
theorem dX3_append_22 : decode cX3_append 22 = .ok (.iload_n 1, 1) := by decide +kernel
theorem dX3_append_23 : decode cX3_append 23 = .ok (.iload_n 3, 1) := by decide +kernel
theorem dX3_append_24 : decode cX3_append 24 = .ok (.iconst 1, 1) := by decide +kernel
theorem dX3_append_25 : decode cX3_append 25 = .ok (.iadd, 1) := by decide +kernel
theorem dX3_append_26 : decode cX3_append 26 = .ok (.iastore, 1) := by decide +kernel
theorem dX3_append_27 : decode cX3_append 27 = .ok (.iload_n 3, 1) := by decide +kernel
theorem dX3_append_28 : decode cX3_append 28 = .ok (.ireturn, 1) := by decide +kernel
theorem dX3_remove_0 : decode cX3_remove 0 = .ok (.iload_n 2, 1) := by decide +kernel
theorem dX3_remove_1 : decode cX3_remove 1 = .ok (.iconst 1, 1) := by decide +kernel
theorem dX3_remove_2 : decode cX3_remove 2 = .ok (.iadd, 1) := by decide +kernel
theorem dX3_remove_3 : decode cX3_remove 3 = .ok (.istore_n 3, 1) := by decide +kernel
theorem dX3_remove_4 : decode cX3_remove 4 = .ok (.iload_n 3, 1) := by decide +kernel
theorem dX3_remove_5 : decode cX3_remove 5 = .ok (.aload_n 0, 1) := by decide +kernel
theorem dX3_remove_6 : decode cX3_remove 6 = .ok (.getfield 15, 3) := by decide +kernel
theorem dX3_remove_9 : decode cX3_remove 9 = .ok (.iload_n 1, 1) := by decide +kernel
theorem dX3_remove_10 : decode cX3_remove 10 = .ok (.iaload, 1) := by decide +kernel
theorem dX3_remove_11 : decode cX3_remove 11 = .ok (.if_icmp .ge 31, 3) := by decide +kernel
theorem dX3_remove_14 : decode cX3_remove 14 = .ok (.aload_n 0, 1) := by decide +kernel
theorem dX3_remove_15 : decode cX3_remove 15 = .ok (.getfield 9, 3) := by decide +kernel
theorem dX3_remove_18 : decode cX3_remove 18 = .ok (.iload_n 1, 1) := by decide +kernel
theorem dX3_remove_19 : decode cX3_remove 19 = .ok (.iconst 4, 1) := by decide +kernel
theorem dX3_remove_20 : decode cX3_remove 20 = .ok (.imul, 1) := by decide +kernel
theorem dX3_remove_21 : decode cX3_remove 21 = .ok (.iload_n 3, 1) := by decide +kernel
theorem dX3_remove_22 : decode cX3_remove 22 = .ok (.iadd, 1) := by decide +kernel
theorem dX3_remove_23 : decode cX3_remove 23 = .ok (.iconst 1, 1) := by decide +kernel
theorem dX3_remove_24 : decode cX3_remove 24 = .ok (.isub, 1) := by decide +kernel
theorem dX3_remove_25 : decode cX3_remove 25 = .ok (.aload_n 0, 1) := by decide +kernel
theorem dX3_remove_26 : decode cX3_remove 26 = .ok (.getfield 9, 3) := by decide +kernel
theorem dX3_remove_29 : decode cX3_remove 29 = .ok (.iload_n 1, 1) := by decide +kernel
theorem dX3_remove_30 : decode cX3_remove 30 = .ok (.iconst 4, 1) := by decide +kernel
theorem dX3_remove_31 : decode cX3_remove 31 = .ok (.imul, 1) := by decide +kernel
theorem dX3_remove_32 : decode cX3_remove 32 = .ok (.iload_n 3, 1) := by decide +kernel
theorem dX3_remove_33 : decode cX3_remove 33 = .ok (.iadd, 1) := by decide +kernel
theorem dX3_remove_34 : decode cX3_remove 34 = .ok (.iaload, 1) := by decide +kernel
theorem dX3_remove_35 : decode cX3_remove 35 = .ok (.iastore, 1) := by decide +kernel
theorem dX3_remove_36 : decode cX3_remove 36 = .ok (.iinc 3 1, 3) := by decide +kernel
theorem dX3_remove_39 : decode cX3_remove 39 = .ok (.goto (-35), 3) := by decide +kernel
theorem dX3_remove_42 : decode cX3_remove 42 = .ok (.aload_n 0, 1) := by decide +kernel
theorem dX3_remove_43 : decode cX3_remove 43 = .ok (.getfield 15, 3) := by decide +kernel
theorem dX3_remove_46 : decode cX3_remove 46 = .ok (.iload_n 1, 1) := by decide +kernel
theorem dX3_remove_47 : decode cX3_remove 47 = .ok (.dup2, 1) := by decide +kernel
theorem dX3_remove_48 : decode cX3_remove 48 = .ok (.iaload, 1) := by decide +kernel
theorem dX3_remove_49 : decode cX3_remove 49 = .ok (.iconst 1, 1) := by decide +kernel
theorem dX3_remove_50 : decode cX3_remove 50 = .ok (.isub, 1) := by decide +kernel
theorem dX3_remove_51 : decode cX3_remove 51 = .ok (.iastore, 1) := by decide +kernel
theorem dX3_remove_52 : decode cX3_remove 52 = .ok (.return_, 1) := by decide +kernel
theorem dX4_init_0 : decode cX4_init 0 = .ok (.aload_n 0, 1) := by decide +kernel
theorem dX4_init_1 : decode cX4_init 1 = .ok (.invokespecial 3, 3) := by decide +kernel
theorem dX4_init_4 : decode cX4_init 4 = .ok (.aload_n 0, 1) := by decide +kernel
theorem dX4_init_5 : decode cX4_init 5 = .ok (.bipush 12, 2) := by decide +kernel
theorem dX4_init_7 : decode cX4_init 7 = .ok (.newarray .int, 2) := by decide +kernel
theorem dX4_init_9 : decode cX4_init 9 = .ok (.putfield 9, 3) := by decide +kernel
theorem dX4_init_12 : decode cX4_init 12 = .ok (.aload_n 0, 1) := by decide +kernel
theorem dX4_init_13 : decode cX4_init 13 = .ok (.bipush 12, 2) := by decide +kernel
theorem dX4_init_15 : decode cX4_init 15 = .ok (.newarray .int, 2) := by decide +kernel
theorem dX4_init_17 : decode cX4_init 17 = .ok (.putfield 15, 3) := by decide +kernel
theorem dX4_init_20 : decode cX4_init 20 = .ok (.aload_n 0, 1) := by decide +kernel
theorem dX4_init_21 : decode cX4_init 21 = .ok (.sipush 1001, 3) := by decide +kernel
theorem dX4_init_24 : decode cX4_init 24 = .ok (.newarray .int, 2) := by decide +kernel
theorem dX4_init_26 : decode cX4_init 26 = .ok (.putfield 18, 3) := by decide +kernel
theorem dX4_init_29 : decode cX4_init 29 = .ok (.iconst 0, 1) := by decide +kernel
theorem dX4_init_30 : decode cX4_init 30 = .ok (.istore_n 1, 1) := by decide +kernel
theorem dX4_init_31 : decode cX4_init 31 = .ok (.iload_n 1, 1) := by decide +kernel
theorem dX4_init_32 : decode cX4_init 32 = .ok (.bipush 12, 2) := by decide +kernel
theorem dX4_init_34 : decode cX4_init 34 = .ok (.if_icmp .ge 16, 3) := by decide +kernel
theorem dX4_init_37 : decode cX4_init 37 = .ok (.aload_n 0, 1) := by decide +kernel
theorem dX4_init_38 : decode cX4_init 38 = .ok (.getfield 9, 3) := by decide +kernel
theorem dX4_init_41 : decode cX4_init 41 = .ok (.iload_n 1, 1) := by decide +kernel
theorem dX4_init_42 : decode cX4_init 42 = .ok (.iconst 5, 1) := by decide +kernel
theorem dX4_init_43 : decode cX4_init 43 = .ok (.iastore, 1) := by decide +kernel
theorem dX4_init_44 : decode cX4_init 44 = .ok (.iinc 1 1, 3) := by decide +kernel
theorem dX4_init_47 : decode cX4_init 47 = .ok (.goto (-16), 3) := by decide +kernel
theorem dX4_init_50 : decode cX4_init 50 = .ok (.return_, 1) := by decide +kernel
theorem dX4_fallIll_0 : decode cX4_fallIll 0 = .ok (.iconst 0, 1) := by decide +kernel
theorem dX4_fallIll_1 : decode cX4_fallIll 1 = .ok (.istore 4, 2) := by decide +kernel
theorem dX4_fallIll_3 : decode cX4_fallIll 3 = .ok (.iload_n 2, 1) := by decide +kernel
theorem dX4_fallIll_4 : decode cX4_fallIll 4 = .ok (.istore 5, 2) := by decide +kernel
theorem dX4_fallIll_6 : decode cX4_fallIll 6 = .ok (.iload 5, 2) := by decide +kernel
theorem dX4_fallIll_8 : decode cX4_fallIll 8 = .ok (.iload_n 3, 1) := by decide +kernel
theorem dX4_fallIll_9 : decode cX4_fallIll 9 = .ok (.if_icmp .gt 44, 3) := by decide +kernel
theorem dX4_fallIll_12 : decode cX4_fallIll 12 = .ok (.aload_n 0, 1) := by decide +kernel
theorem dX4_fallIll_13 : decode cX4_fallIll 13 = .ok (.getfield 18, 3) := by decide +kernel
theorem dX4_fallIll_16 : decode cX4_fallIll 16 = .ok (.iload 5, 2) := by decide +kernel
theorem dX4_fallIll_18 : decode cX4_fallIll 18 = .ok (.iaload, 1) := by decide +kernel
theorem dX4_fallIll_19 : decode cX4_fallIll 19 = .ok (.iload_n 1, 1) := by decide +kernel
theorem dX4_fallIll_20 : decode cX4_fallIll 20 = .ok (.invokestatic 21, 3) := by decide +kernel
theorem dX4_fallIll_23 : decode cX4_fallIll 23 = .ok (.ifCond .ne 24, 3) := by decide +kernel
theorem dX4_fallIll_26 : decode cX4_fallIll 26 = .ok (.aload_n 0, 1) := by decide +kernel
theorem dX4_fallIll_27 : decode cX4_fallIll 27 = .ok (.getfield 18, 3) := by decide +kernel
theorem dX4_fallIll_30 : decode cX4_fallIll 30 = .ok (.iload 5, 2) := by decide +kernel
theorem dX4_fallIll_32 : decode cX4_fallIll 32 = .ok (.aload_n 0, 1) := by decide +kernel
theorem dX4_fallIll_33 : decode cX4_fallIll 33 = .ok (.getfield 18, 3) := by decide +kernel
theorem dX4_fallIll_36 : decode cX4_fallIll 36 = .ok (.iload 5, 2) := by decide +kernel
theorem dX4_fallIll_38 : decode cX4_fallIll 38 = .ok (.iaload, 1) := by decide +kernel
theorem dX4_fallIll_39 : decode cX4_fallIll 39 = .ok (.iload_n 1, 1) := by decide +kernel
theorem dX4_fallIll_40 : decode cX4_fallIll 40 = .ok (.invokestatic 25, 3) := by decide +kernel
theorem dX4_fallIll_43 : decode cX4_fallIll 43 = .ok (.iastore, 1) := by decide +kernel
theorem dX4_fallIll_44 : decode cX4_fallIll 44 = .ok (.iinc 4 1, 3) := by decide +kernel
theorem dX4_fallIll_47 : decode cX4_fallIll 47 = .ok (.iinc 5 1, 3) := by decide +kernel
theorem dX4_fallIll_50 : decode cX4_fallIll 50 = .ok (.goto (-44), 3) := by decide +kernel
theorem dX4_fallIll_53 : decode cX4_fallIll 53 = .ok (.iload 4, 2) := by decide +kernel
theorem dX4_fallIll_55 : decode cX4_fallIll 55 = .ok (.ireturn, 1) := by decide +kernel
theorem dX5_init_0 : decode cX5_init 0 = .ok (.aload_n 0, 1) := by decide +kernel
theorem dX5_init_1 : decode cX5_init 1 = .ok (.invokespecial 3, 3) := by decide +kernel
theorem dX5_init_4 : decode cX5_init 4 = .ok (.aload_n 0, 1) := by decide +kernel
theorem dX5_init_5 : decode cX5_init 5 = .ok (.bipush 40, 2) := by decide +kernel
theorem dX5_init_7 : decode cX5_init 7 = .ok (.newarray .int, 2) := by decide +kernel
theorem dX5_init_9 : decode cX5_init 9 = .ok (.putfield 9, 3) := by decide +kernel
theorem dX5_init_12 : decode cX5_init 12 = .ok (.aload_n 0, 1) := by decide +kernel
theorem dX5_init_13 : decode cX5_init 13 = .ok (.bipush 40, 2) := by decide +kernel
theorem dX5_init_15 : decode cX5_init 15 = .ok (.newarray .int, 2) := by decide +kernel
theorem dX5_init_17 : decode cX5_init 17 = .ok (.putfield 15, 3) := by decide +kernel
theorem dX5_init_20 : decode cX5_init 20 = .ok (.aload_n 0, 1) := by decide +kernel
theorem dX5_init_21 : decode cX5_init 21 = .ok (.bipush 40, 2) := by decide +kernel
theorem dX5_init_23 : decode cX5_init 23 = .ok (.newarray .boolean, 2) := by decide +kernel
theorem dX5_init_25 : decode cX5_init 25 = .ok (.putfield 18, 3) := by decide +kernel
theorem dX5_init_28 : decode cX5_init 28 = .ok (.return_, 1) := by decide +kernel
theorem dX5_add_0 : decode cX5_add 0 = .ok (.aload_n 0, 1) := by decide +kernel
theorem dX5_add_1 : decode cX5_add 1 = .ok (.getfield 15, 3) := by decide +kernel
theorem dX5_add_4 : decode cX5_add 4 = .ok (.aload_n 0, 1) := by decide +kernel
theorem dX5_add_5 : decode cX5_add 5 = .ok (.getfield 22, 3) := by decide +kernel
theorem dX5_add_8 : decode cX5_add 8 = .ok (.iload_n 1, 1) := by decide +kernel
theorem dX5_add_9 : decode cX5_add 9 = .ok (.iastore, 1) := by decide +kernel
theorem dX5_add_10 : decode cX5_add 10 = .ok (.aload_n 0, 1) := by decide +kernel
theorem dX5_add_11 : decode cX5_add 11 = .ok (.getfield 9, 3) := by decide +kernel
theorem dX5_add_14 : decode cX5_add 14 = .ok (.aload_n 0, 1) := by decide +kernel
theorem dX5_add_15 : decode cX5_add 15 = .ok (.getfield 22, 3) := by decide +kernel
theorem dX5_add_18 : decode cX5_add 18 = .ok (.iload_n 2, 1) := by decide +kernel
theorem dX5_add_19 : decode cX5_add 19 = .ok (.iastore, 1) := by decide +kernel
theorem dX5_add_20 : decode cX5_add 20 = .ok (.aload_n 0, 1) := by decide +kernel
theorem dX5_add_21 : decode cX5_add 21 = .ok (.dup, 1) := by decide +kernel
theorem dX5_add_22 : decode cX5_add 22 = .ok (.getfield 22, 3) := by decide +kernel
theorem dX5_add_25 : decode cX5_add 25 = .ok (.iconst 1, 1) := by decide +kernel
theorem dX5_add_26 : decode cX5_add 26 = .ok (.iadd, 1) := by decide +kernel
theorem dX5_add_27 : decode cX5_add 27 = .ok (.putfield 22, 3) := by decide +kernel
theorem dX5_add_30 : decode cX5_add 30 = .ok (.aload_n 0, 1) := by decide +kernel
theorem dX5_add_31 : decode cX5_add 31 = .ok (.getfield 22, 3) := by decide +kernel
theorem dX5_add_34 : decode cX5_add 34 = .ok (.iconst 1, 1) := by decide +kernel
theorem dX5_add_35 : decode cX5_add 35 = .ok (.isub, 1) := by decide +kernel
theorem dX5_add_36 : decode cX5_add 36 = .ok (.ireturn, 1) := by decide +kernel
theorem dX5_lowestFitting_0 : decode cX5_lowestFitting 0 = .ok (.iconst 0, 1) := by decide +kernel
theorem dX5_lowestFitting_1 : decode cX5_lowestFitting 1 = .ok (.istore_n 3, 1) := by decide +kernel
theorem dX5_lowestFitting_2 : decode cX5_lowestFitting 2 = .ok (.iload_n 3, 1) := by decide +kernel
theorem dX5_lowestFitting_3 : decode cX5_lowestFitting 3 = .ok (.aload_n 0, 1) := by decide +kernel
theorem dX5_lowestFitting_4 : decode cX5_lowestFitting 4 = .ok (.getfield 22, 3) := by decide +kernel
theorem dX5_lowestFitting_7 : decode cX5_lowestFitting 7 = .ok (.if_icmp .ge 31, 3) := by decide +kernel
theorem dX5_lowestFitting_10 : decode cX5_lowestFitting 10 = .ok (.aload_n 0, 1) := by decide +kernel
theorem dX5_lowestFitting_11 : decode cX5_lowestFitting 11 = .ok (.getfield 15, 3) := by decide +kernel
theorem dX5_lowestFitting_14 : decode cX5_lowestFitting 14 = .ok (.iload_n 3, 1) := by decide +kernel
theorem dX5_lowestFitting_15 : decode cX5_lowestFitting 15 = .ok (.iaload, 1) := by decide +kernel
theorem dX5_lowestFitting_16 : decode cX5_lowestFitting 16 = .ok (.iload_n 1, 1) := by decide +kernel
theorem dX5_lowestFitting_17 : decode cX5_lowestFitting 17 = .ok (.if_icmp .ne 15, 3) := by decide +kernel
theorem dX5_lowestFitting_20 : decode cX5_lowestFitting 20 = .ok (.aload_n 0, 1) := by decide +kernel
theorem dX5_lowestFitting_21 : decode cX5_lowestFitting 21 = .ok (.getfield 9, 3) := by decide +kernel
theorem dX5_lowestFitting_24 : decode cX5_lowestFitting 24 = .ok (.iload_n 3, 1) := by decide +kernel
theorem dX5_lowestFitting_25 : decode cX5_lowestFitting 25 = .ok (.iaload, 1) := by decide +kernel
theorem dX5_lowestFitting_26 : decode cX5_lowestFitting 26 = .ok (.iload_n 2, 1) := by decide +kernel
theorem dX5_lowestFitting_27 : decode cX5_lowestFitting 27 = .ok (.if_icmp .ne 5, 3) := by decide +kernel
theorem dX5_lowestFitting_30 : decode cX5_lowestFitting 30 = .ok (.iload_n 3, 1) := by decide +kernel
theorem dX5_lowestFitting_31 : decode cX5_lowestFitting 31 = .ok (.ireturn, 1) := by decide +kernel
theorem dX5_lowestFitting_32 : decode cX5_lowestFitting 32 = .ok (.iinc 3 1, 3) := by decide +kernel
theorem dX5_lowestFitting_35 : decode cX5_lowestFitting 35 = .ok (.goto (-33), 3) := by decide +kernel
theorem dX5_lowestFitting_38 : decode cX5_lowestFitting 38 = .ok (.iconst (-1), 1) := by decide +kernel
theorem dX5_lowestFitting_39 : decode cX5_lowestFitting 39 = .ok (.ireturn, 1) := by decide +kernel
theorem dX5_lowestToLetOut_0 : decode cX5_lowestToLetOut 0 = .ok (.iconst 0, 1) := by decide +kernel
theorem dX5_lowestToLetOut_1 : decode cX5_lowestToLetOut 1 = .ok (.istore_n 3, 1) := by decide +kernel
theorem dX5_lowestToLetOut_2 : decode cX5_lowestToLetOut 2 = .ok (.iload_n 3, 1) := by decide +kernel
theorem dX5_lowestToLetOut_3 : decode cX5_lowestToLetOut 3 = .ok (.aload_n 0, 1) := by decide +kernel
theorem dX5_lowestToLetOut_4 : decode cX5_lowestToLetOut 4 = .ok (.getfield 22, 3) := by decide +kernel
theorem dX5_lowestToLetOut_7 : decode cX5_lowestToLetOut 7 = .ok (.if_icmp .ge 42, 3) := by decide +kernel
theorem dX5_lowestToLetOut_10 : decode cX5_lowestToLetOut 10 = .ok (.aload_n 0, 1) := by decide +kernel
theorem dX5_lowestToLetOut_11 : decode cX5_lowestToLetOut 11 = .ok (.getfield 15, 3) := by decide +kernel
theorem dX5_lowestToLetOut_14 : decode cX5_lowestToLetOut 14 = .ok (.iload_n 3, 1) := by decide +kernel
theorem dX5_lowestToLetOut_15 : decode cX5_lowestToLetOut 15 = .ok (.iaload, 1) := by decide +kernel
theorem dX5_lowestToLetOut_16 : decode cX5_lowestToLetOut 16 = .ok (.iload_n 1, 1) := by decide +kernel
theorem dX5_lowestToLetOut_17 : decode cX5_lowestToLetOut 17 = .ok (.if_icmp .ne 26, 3) := by decide +kernel
theorem dX5_lowestToLetOut_20 : decode cX5_lowestToLetOut 20 = .ok (.aload_n 0, 1) := by decide +kernel
theorem dX5_lowestToLetOut_21 : decode cX5_lowestToLetOut 21 = .ok (.getfield 9, 3) := by decide +kernel
theorem dX5_lowestToLetOut_24 : decode cX5_lowestToLetOut 24 = .ok (.iload_n 3, 1) := by decide +kernel
theorem dX5_lowestToLetOut_25 : decode cX5_lowestToLetOut 25 = .ok (.iaload, 1) := by decide +kernel
theorem dX5_lowestToLetOut_26 : decode cX5_lowestToLetOut 26 = .ok (.iconst 1, 1) := by decide +kernel
theorem dX5_lowestToLetOut_27 : decode cX5_lowestToLetOut 27 = .ok (.iadd, 1) := by decide +kernel
theorem dX5_lowestToLetOut_28 : decode cX5_lowestToLetOut 28 = .ok (.iload_n 2, 1) := by decide +kernel
theorem dX5_lowestToLetOut_29 : decode cX5_lowestToLetOut 29 = .ok (.if_icmp .ne 14, 3) := by decide +kernel
theorem dX5_lowestToLetOut_32 : decode cX5_lowestToLetOut 32 = .ok (.aload_n 0, 1) := by decide +kernel
theorem dX5_lowestToLetOut_33 : decode cX5_lowestToLetOut 33 = .ok (.getfield 18, 3) := by decide +kernel
theorem dX5_lowestToLetOut_36 : decode cX5_lowestToLetOut 36 = .ok (.iload_n 3, 1) := by decide +kernel
theorem dX5_lowestToLetOut_37 : decode cX5_lowestToLetOut 37 = .ok (.baload, 1) := by decide +kernel
theorem dX5_lowestToLetOut_38 : decode cX5_lowestToLetOut 38 = .ok (.ifCond .ne 5, 3) := by decide +kernel
theorem dX5_lowestToLetOut_41 : decode cX5_lowestToLetOut 41 = .ok (.iload_n 3, 1) := by decide +kernel
theorem dX5_lowestToLetOut_42 : decode cX5_lowestToLetOut 42 = .ok (.ireturn, 1) := by decide +kernel
theorem dX5_lowestToLetOut_43 : decode cX5_lowestToLetOut 43 = .ok (.iinc 3 1, 3) := by decide +kernel
theorem dX5_lowestToLetOut_46 : decode cX5_lowestToLetOut 46 = .ok (.goto (-44), 3) := by decide +kernel
theorem dX5_lowestToLetOut_49 : decode cX5_lowestToLetOut 49 = .ok (.iconst (-1), 1) := by decide +kernel
theorem dX5_lowestToLetOut_50 : decode cX5_lowestToLetOut 50 = .ok (.ireturn, 1) := by decide +kernel
theorem dX6_init_0 : decode cX6_init 0 = .ok (.aload_n 0, 1) := by decide +kernel
theorem dX6_init_1 : decode cX6_init 1 = .ok (.invokespecial 1, 3) := by decide +kernel
theorem dX6_init_4 : decode cX6_init 4 = .ok (.aload_n 0, 1) := by decide +kernel
theorem dX6_init_5 : decode cX6_init 5 = .ok (.new 7, 3) := by decide +kernel
theorem dX6_init_8 : decode cX6_init 8 = .ok (.dup, 1) := by decide +kernel
theorem dX6_init_9 : decode cX6_init 9 = .ok (.invokespecial 9, 3) := by decide +kernel
theorem dX6_init_12 : decode cX6_init 12 = .ok (.putfield 10, 3) := by decide +kernel
theorem dX6_init_15 : decode cX6_init 15 = .ok (.aload_n 0, 1) := by decide +kernel
theorem dX6_init_16 : decode cX6_init 16 = .ok (.new 16, 3) := by decide +kernel
theorem dX6_init_19 : decode cX6_init 19 = .ok (.dup, 1) := by decide +kernel
theorem dX6_init_20 : decode cX6_init 20 = .ok (.invokespecial 18, 3) := by decide +kernel
theorem dX6_init_23 : decode cX6_init 23 = .ok (.putfield 19, 3) := by decide +kernel
theorem dX6_init_26 : decode cX6_init 26 = .ok (.aload_n 0, 1) := by decide +kernel
theorem dX6_init_27 : decode cX6_init 27 = .ok (.new 23, 3) := by decide +kernel
theorem dX6_init_30 : decode cX6_init 30 = .ok (.dup, 1) := by decide +kernel
theorem dX6_init_31 : decode cX6_init 31 = .ok (.invokespecial 25, 3) := by decide +kernel
theorem dX6_init_34 : decode cX6_init 34 = .ok (.putfield 26, 3) := by decide +kernel
theorem dX6_init_37 : decode cX6_init 37 = .ok (.aload_n 0, 1) := by decide +kernel
theorem dX6_init_38 : decode cX6_init 38 = .ok (.new 30, 3) := by decide +kernel
theorem dX6_init_41 : decode cX6_init 41 = .ok (.dup, 1) := by decide +kernel
theorem dX6_init_42 : decode cX6_init 42 = .ok (.invokespecial 32, 3) := by decide +kernel
theorem dX6_init_45 : decode cX6_init 45 = .ok (.putfield 33, 3) := by decide +kernel
theorem dX6_init_48 : decode cX6_init 48 = .ok (.aload_n 0, 1) := by decide +kernel
theorem dX6_init_49 : decode cX6_init 49 = .ok (.new 37, 3) := by decide +kernel
theorem dX6_init_52 : decode cX6_init 52 = .ok (.dup, 1) := by decide +kernel
theorem dX6_init_53 : decode cX6_init 53 = .ok (.invokespecial 39, 3) := by decide +kernel
theorem dX6_init_56 : decode cX6_init 56 = .ok (.putfield 40, 3) := by decide +kernel
theorem dX6_init_59 : decode cX6_init 59 = .ok (.aload_n 0, 1) := by decide +kernel
theorem dX6_init_60 : decode cX6_init 60 = .ok (.new 44, 3) := by decide +kernel
theorem dX6_init_63 : decode cX6_init 63 = .ok (.dup, 1) := by decide +kernel
theorem dX6_init_64 : decode cX6_init 64 = .ok (.invokespecial 46, 3) := by decide +kernel
theorem dX6_init_67 : decode cX6_init 67 = .ok (.putfield 47, 3) := by decide +kernel
theorem dX6_init_70 : decode cX6_init 70 = .ok (.aload_n 0, 1) := by decide +kernel
theorem dX6_init_71 : decode cX6_init 71 = .ok (.iconst 1, 1) := by decide +kernel
theorem dX6_init_72 : decode cX6_init 72 = .ok (.putfield 51, 3) := by decide +kernel
theorem dX6_init_75 : decode cX6_init 75 = .ok (.aload_n 0, 1) := by decide +kernel
theorem dX6_init_76 : decode cX6_init 76 = .ok (.iconst 0, 1) := by decide +kernel
theorem dX6_init_77 : decode cX6_init 77 = .ok (.putfield 55, 3) := by decide +kernel
theorem dX6_init_80 : decode cX6_init 80 = .ok (.return_, 1) := by decide +kernel
theorem dX6_setParts_0 : decode cX6_setParts 0 = .ok (.iload_n 1, 1) := by decide +kernel
theorem dX6_setParts_1 : decode cX6_setParts 1 = .ok (.iconst 1, 1) := by decide +kernel
theorem dX6_setParts_2 : decode cX6_setParts 2 = .ok (.if_icmp .lt 9, 3) := by decide +kernel
theorem dX6_setParts_5 : decode cX6_setParts 5 = .ok (.iload_n 1, 1) := by decide +kernel
theorem dX6_setParts_6 : decode cX6_setParts 6 = .ok (.bipush 8, 2) := by decide +kernel
theorem dX6_setParts_8 : decode cX6_setParts 8 = .ok (.if_icmp .le 13, 3) := by decide +kernel
theorem dX6_setParts_11 : decode cX6_setParts 11 = .ok (.new 58, 3) := by decide +kernel
theorem dX6_setParts_14 : decode cX6_setParts 14 = .ok (.dup, 1) := by decide +kernel
theorem dX6_setParts_15 : decode cX6_setParts 15 = .ok (.ldc 60, 2) := by decide +kernel
theorem dX6_setParts_17 : decode cX6_setParts 17 = .ok (.invokespecial 62, 3) := by decide +kernel
theorem dX6_setParts_20 : decode cX6_setParts 20 = .ok (.athrow, 1) := by decide +kernel
theorem dX6_setParts_21 : decode cX6_setParts 21 = .ok (.aload_n 0, 1) := by decide +kernel
theorem dX6_setParts_22 : decode cX6_setParts 22 = .ok (.getfield 51, 3) := by decide +kernel
theorem dX6_setParts_25 : decode cX6_setParts 25 = .ok (.istore_n 2, 1) := by decide +kernel
theorem dX6_setParts_26 : decode cX6_setParts 26 = .ok (.aload_n 0, 1) := by decide +kernel
theorem dX6_setParts_27 : decode cX6_setParts 27 = .ok (.iload_n 1, 1) := by decide +kernel
theorem dX6_setParts_28 : decode cX6_setParts 28 = .ok (.putfield 51, 3) := by decide +kernel
theorem dX6_setParts_31 : decode cX6_setParts 31 = .ok (.iload_n 2, 1) := by decide +kernel
theorem dX6_setParts_32 : decode cX6_setParts 32 = .ok (.ireturn, 1) := by decide +kernel
theorem dX6_setSize_0 : decode cX6_setSize 0 = .ok (.iload_n 1, 1) := by decide +kernel
theorem dX6_setSize_1 : decode cX6_setSize 1 = .ok (.invokestatic 65, 3) := by decide +kernel
theorem dX6_setSize_4 : decode cX6_setSize 4 = .ok (.iload_n 2, 1) := by decide +kernel
theorem dX6_setSize_5 : decode cX6_setSize 5 = .ok (.invokestatic 69, 3) := by decide +kernel
theorem dX6_setSize_8 : decode cX6_setSize 8 = .ok (.aload_n 0, 1) := by decide +kernel
theorem dX6_setSize_9 : decode cX6_setSize 9 = .ok (.getfield 10, 3) := by decide +kernel
theorem dX6_setSize_12 : decode cX6_setSize 12 = .ok (.getfield 72, 3) := by decide +kernel
theorem dX6_setSize_15 : decode cX6_setSize 15 = .ok (.iload_n 1, 1) := by decide +kernel
theorem dX6_setSize_16 : decode cX6_setSize 16 = .ok (.iaload, 1) := by decide +kernel
theorem dX6_setSize_17 : decode cX6_setSize 17 = .ok (.istore_n 3, 1) := by decide +kernel
theorem dX6_setSize_18 : decode cX6_setSize 18 = .ok (.aload_n 0, 1) := by decide +kernel
theorem dX6_setSize_19 : decode cX6_setSize 19 = .ok (.getfield 10, 3) := by decide +kernel
theorem dX6_setSize_22 : decode cX6_setSize 22 = .ok (.getfield 72, 3) := by decide +kernel
theorem dX6_setSize_25 : decode cX6_setSize 25 = .ok (.iload_n 1, 1) := by decide +kernel
theorem dX6_setSize_26 : decode cX6_setSize 26 = .ok (.iload_n 2, 1) := by decide +kernel
theorem dX6_setSize_27 : decode cX6_setSize 27 = .ok (.iastore, 1) := by decide +kernel
theorem dX6_setSize_28 : decode cX6_setSize 28 = .ok (.iload_n 3, 1) := by decide +kernel
theorem dX6_setSize_29 : decode cX6_setSize 29 = .ok (.ireturn, 1) := by decide +kernel
theorem dX6_learn_0 : decode cX6_learn 0 = .ok (.iload_n 1, 1) := by decide +kernel
theorem dX6_learn_1 : decode cX6_learn 1 = .ok (.invokestatic 65, 3) := by decide +kernel
theorem dX6_learn_4 : decode cX6_learn 4 = .ok (.iload_n 2, 1) := by decide +kernel
theorem dX6_learn_5 : decode cX6_learn 5 = .ok (.invokestatic 76, 3) := by decide +kernel
theorem dX6_learn_8 : decode cX6_learn 8 = .ok (.iload_n 3, 1) := by decide +kernel
theorem dX6_learn_9 : decode cX6_learn 9 = .ok (.ifCond .eq 19, 3) := by decide +kernel
theorem dX6_learn_12 : decode cX6_learn 12 = .ok (.aload_n 0, 1) := by decide +kernel
theorem dX6_learn_13 : decode cX6_learn 13 = .ok (.getfield 10, 3) := by decide +kernel
theorem dX6_learn_16 : decode cX6_learn 16 = .ok (.getfield 79, 3) := by decide +kernel
theorem dX6_learn_19 : decode cX6_learn 19 = .ok (.iload_n 1, 1) := by decide +kernel
theorem dX6_learn_20 : decode cX6_learn 20 = .ok (.iaload, 1) := by decide +kernel
theorem dX6_learn_21 : decode cX6_learn 21 = .ok (.iload_n 2, 1) := by decide +kernel
theorem dX6_learn_22 : decode cX6_learn 22 = .ok (.invokestatic 82, 3) := by decide +kernel
theorem dX6_learn_25 : decode cX6_learn 25 = .ok (.goto 16, 3) := by decide +kernel
theorem dX6_learn_28 : decode cX6_learn 28 = .ok (.aload_n 0, 1) := by decide +kernel
theorem dX6_learn_29 : decode cX6_learn 29 = .ok (.getfield 10, 3) := by decide +kernel
theorem dX6_learn_32 : decode cX6_learn 32 = .ok (.getfield 79, 3) := by decide +kernel
theorem dX6_learn_35 : decode cX6_learn 35 = .ok (.iload_n 1, 1) := by decide +kernel
theorem dX6_learn_36 : decode cX6_learn 36 = .ok (.iaload, 1) := by decide +kernel
theorem dX6_learn_37 : decode cX6_learn 37 = .ok (.iload_n 2, 1) := by decide +kernel
theorem dX6_learn_38 : decode cX6_learn 38 = .ok (.invokestatic 86, 3) := by decide +kernel
theorem dX6_learn_41 : decode cX6_learn 41 = .ok (.istore 4, 2) := by decide +kernel
theorem dX6_learn_43 : decode cX6_learn 43 = .ok (.iload 4, 2) := by decide +kernel
theorem dX6_learn_45 : decode cX6_learn 45 = .ok (.invokestatic 89, 3) := by decide +kernel
theorem dX6_learn_48 : decode cX6_learn 48 = .ok (.istore 5, 2) := by decide +kernel
theorem dX6_learn_50 : decode cX6_learn 50 = .ok (.iload 5, 2) := by decide +kernel
theorem dX6_learn_52 : decode cX6_learn 52 = .ok (.iconst 4, 1) := by decide +kernel
theorem dX6_learn_53 : decode cX6_learn 53 = .ok (.if_icmp .le 13, 3) := by decide +kernel
theorem dX6_learn_56 : decode cX6_learn 56 = .ok (.new 95, 3) := by decide +kernel
theorem dX6_learn_59 : decode cX6_learn 59 = .ok (.dup, 1) := by decide +kernel
theorem dX6_learn_60 : decode cX6_learn 60 = .ok (.ldc 97, 2) := by decide +kernel
theorem dX6_learn_62 : decode cX6_learn 62 = .ok (.invokespecial 99, 3) := by decide +kernel
theorem dX6_learn_65 : decode cX6_learn 65 = .ok (.athrow, 1) := by decide +kernel
theorem dX6_learn_66 : decode cX6_learn 66 = .ok (.aload_n 0, 1) := by decide +kernel
theorem dX6_learn_67 : decode cX6_learn 67 = .ok (.getfield 10, 3) := by decide +kernel
theorem dX6_learn_70 : decode cX6_learn 70 = .ok (.getfield 79, 3) := by decide +kernel
theorem dX6_learn_73 : decode cX6_learn 73 = .ok (.iload_n 1, 1) := by decide +kernel
theorem dX6_learn_74 : decode cX6_learn 74 = .ok (.iload 4, 2) := by decide +kernel
theorem dX6_learn_76 : decode cX6_learn 76 = .ok (.iastore, 1) := by decide +kernel
theorem dX6_learn_77 : decode cX6_learn 77 = .ok (.iload 5, 2) := by decide +kernel
theorem dX6_learn_79 : decode cX6_learn 79 = .ok (.ireturn, 1) := by decide +kernel
theorem dX6_put_0 : decode cX6_put 0 = .ok (.iload_n 1, 1) := by decide +kernel
theorem dX6_put_1 : decode cX6_put 1 = .ok (.invokestatic 76, 3) := by decide +kernel
theorem dX6_put_4 : decode cX6_put 4 = .ok (.iload_n 2, 1) := by decide +kernel
theorem dX6_put_5 : decode cX6_put 5 = .ok (.invokestatic 65, 3) := by decide +kernel
theorem dX6_put_8 : decode cX6_put 8 = .ok (.aload_n 0, 1) := by decide +kernel
theorem dX6_put_9 : decode cX6_put 9 = .ok (.getfield 19, 3) := by decide +kernel
theorem dX6_put_12 : decode cX6_put 12 = .ok (.iload_n 1, 1) := by decide +kernel
theorem dX6_put_13 : decode cX6_put 13 = .ok (.iload_n 2, 1) := by decide +kernel
theorem dX6_put_14 : decode cX6_put 14 = .ok (.invokevirtual 100, 3) := by decide +kernel
theorem dX6_put_17 : decode cX6_put 17 = .ok (.iconst (-1), 1) := by decide +kernel
theorem dX6_put_18 : decode cX6_put 18 = .ok (.if_icmp .eq 13, 3) := by decide +kernel
theorem dX6_put_21 : decode cX6_put 21 = .ok (.new 95, 3) := by decide +kernel
theorem dX6_put_24 : decode cX6_put 24 = .ok (.dup, 1) := by decide +kernel
theorem dX6_put_25 : decode cX6_put 25 = .ok (.ldc 103, 2) := by decide +kernel
theorem dX6_put_27 : decode cX6_put 27 = .ok (.invokespecial 99, 3) := by decide +kernel
theorem dX6_put_30 : decode cX6_put 30 = .ok (.athrow, 1) := by decide +kernel
theorem dX6_put_31 : decode cX6_put 31 = .ok (.aload_n 0, 1) := by decide +kernel
theorem dX6_put_32 : decode cX6_put 32 = .ok (.getfield 19, 3) := by decide +kernel
theorem dX6_put_35 : decode cX6_put 35 = .ok (.iload_n 1, 1) := by decide +kernel
theorem dX6_put_36 : decode cX6_put 36 = .ok (.invokevirtual 105, 3) := by decide +kernel
theorem dX6_put_39 : decode cX6_put 39 = .ok (.ifCond .eq 13, 3) := by decide +kernel
theorem dX6_put_42 : decode cX6_put 42 = .ok (.new 95, 3) := by decide +kernel
theorem dX6_put_45 : decode cX6_put 45 = .ok (.dup, 1) := by decide +kernel
theorem dX6_put_46 : decode cX6_put 46 = .ok (.ldc 109, 2) := by decide +kernel
theorem dX6_put_48 : decode cX6_put 48 = .ok (.invokespecial 99, 3) := by decide +kernel
theorem dX6_put_51 : decode cX6_put 51 = .ok (.athrow, 1) := by decide +kernel
theorem dX6_put_52 : decode cX6_put 52 = .ok (.aload_n 0, 1) := by decide +kernel
theorem dX6_put_53 : decode cX6_put 53 = .ok (.getfield 19, 3) := by decide +kernel
theorem dX6_put_56 : decode cX6_put 56 = .ok (.iload_n 1, 1) := by decide +kernel
theorem dX6_put_57 : decode cX6_put 57 = .ok (.iload_n 2, 1) := by decide +kernel
theorem dX6_put_58 : decode cX6_put 58 = .ok (.invokevirtual 111, 3) := by decide +kernel
theorem dX6_put_61 : decode cX6_put 61 = .ok (.ireturn, 1) := by decide +kernel
theorem dX6_take_0 : decode cX6_take 0 = .ok (.iload_n 1, 1) := by decide +kernel
theorem dX6_take_1 : decode cX6_take 1 = .ok (.invokestatic 76, 3) := by decide +kernel
theorem dX6_take_4 : decode cX6_take 4 = .ok (.iload_n 2, 1) := by decide +kernel
theorem dX6_take_5 : decode cX6_take 5 = .ok (.invokestatic 65, 3) := by decide +kernel
theorem dX6_take_8 : decode cX6_take 8 = .ok (.aload_n 0, 1) := by decide +kernel
theorem dX6_take_9 : decode cX6_take 9 = .ok (.getfield 19, 3) := by decide +kernel
theorem dX6_take_12 : decode cX6_take 12 = .ok (.iload_n 1, 1) := by decide +kernel
theorem dX6_take_13 : decode cX6_take 13 = .ok (.iload_n 2, 1) := by decide +kernel
theorem dX6_take_14 : decode cX6_take 14 = .ok (.invokevirtual 100, 3) := by decide +kernel
theorem dX6_take_17 : decode cX6_take 17 = .ok (.istore_n 3, 1) := by decide +kernel
theorem dX6_take_18 : decode cX6_take 18 = .ok (.iload_n 3, 1) := by decide +kernel
theorem dX6_take_19 : decode cX6_take 19 = .ok (.iconst (-1), 1) := by decide +kernel
theorem dX6_take_20 : decode cX6_take 20 = .ok (.if_icmp .ne 13, 3) := by decide +kernel
theorem dX6_take_23 : decode cX6_take 23 = .ok (.new 95, 3) := by decide +kernel
theorem dX6_take_26 : decode cX6_take 26 = .ok (.dup, 1) := by decide +kernel
theorem dX6_take_27 : decode cX6_take 27 = .ok (.ldc 114, 2) := by decide +kernel
theorem dX6_take_29 : decode cX6_take 29 = .ok (.invokespecial 99, 3) := by decide +kernel
theorem dX6_take_32 : decode cX6_take 32 = .ok (.athrow, 1) := by decide +kernel
theorem dX6_take_33 : decode cX6_take 33 = .ok (.aload_n 0, 1) := by decide +kernel
theorem dX6_take_34 : decode cX6_take 34 = .ok (.getfield 19, 3) := by decide +kernel
theorem dX6_take_37 : decode cX6_take 37 = .ok (.iload_n 1, 1) := by decide +kernel
theorem dX6_take_38 : decode cX6_take 38 = .ok (.iload_n 3, 1) := by decide +kernel
theorem dX6_take_39 : decode cX6_take 39 = .ok (.invokevirtual 116, 3) := by decide +kernel
theorem dX6_take_42 : decode cX6_take 42 = .ok (.iload_n 3, 1) := by decide +kernel
theorem dX6_take_43 : decode cX6_take 43 = .ok (.ireturn, 1) := by decide +kernel
theorem dX6_costume_0 : decode cX6_costume 0 = .ok (.iload_n 1, 1) := by decide +kernel
theorem dX6_costume_1 : decode cX6_costume 1 = .ok (.invokestatic 76, 3) := by decide +kernel
theorem dX6_costume_4 : decode cX6_costume 4 = .ok (.iload_n 2, 1) := by decide +kernel
theorem dX6_costume_5 : decode cX6_costume 5 = .ok (.invokestatic 69, 3) := by decide +kernel
theorem dX6_costume_8 : decode cX6_costume 8 = .ok (.aload_n 0, 1) := by decide +kernel
theorem dX6_costume_9 : decode cX6_costume 9 = .ok (.getfield 26, 3) := by decide +kernel
theorem dX6_costume_12 : decode cX6_costume 12 = .ok (.getfield 120, 3) := by decide +kernel
theorem dX6_costume_15 : decode cX6_costume 15 = .ok (.bipush 40, 2) := by decide +kernel
theorem dX6_costume_17 : decode cX6_costume 17 = .ok (.if_icmp .lt 13, 3) := by decide +kernel
theorem dX6_costume_20 : decode cX6_costume 20 = .ok (.new 95, 3) := by decide +kernel
theorem dX6_costume_23 : decode cX6_costume 23 = .ok (.dup, 1) := by decide +kernel
theorem dX6_costume_24 : decode cX6_costume 24 = .ok (.ldc 123, 2) := by decide +kernel
theorem dX6_costume_26 : decode cX6_costume 26 = .ok (.invokespecial 99, 3) := by decide +kernel
theorem dX6_costume_29 : decode cX6_costume 29 = .ok (.athrow, 1) := by decide +kernel
theorem dX6_costume_30 : decode cX6_costume 30 = .ok (.aload_n 0, 1) := by decide +kernel
theorem dX6_costume_31 : decode cX6_costume 31 = .ok (.getfield 26, 3) := by decide +kernel
theorem dX6_costume_34 : decode cX6_costume 34 = .ok (.iload_n 1, 1) := by decide +kernel
theorem dX6_costume_35 : decode cX6_costume 35 = .ok (.iload_n 2, 1) := by decide +kernel
theorem dX6_costume_36 : decode cX6_costume 36 = .ok (.invokevirtual 125, 3) := by decide +kernel
theorem dX6_costume_39 : decode cX6_costume 39 = .ok (.ireturn, 1) := by decide +kernel
theorem dX6_sizeOf_0 : decode cX6_sizeOf 0 = .ok (.iload_n 1, 1) := by decide +kernel
theorem dX6_sizeOf_1 : decode cX6_sizeOf 1 = .ok (.aload_n 0, 1) := by decide +kernel
theorem dX6_sizeOf_2 : decode cX6_sizeOf 2 = .ok (.getfield 26, 3) := by decide +kernel
theorem dX6_sizeOf_5 : decode cX6_sizeOf 5 = .ok (.getfield 120, 3) := by decide +kernel
theorem dX6_sizeOf_8 : decode cX6_sizeOf 8 = .ok (.invokestatic 128, 3) := by decide +kernel
theorem dX6_sizeOf_11 : decode cX6_sizeOf 11 = .ok (.aload_n 0, 1) := by decide +kernel
theorem dX6_sizeOf_12 : decode cX6_sizeOf 12 = .ok (.getfield 26, 3) := by decide +kernel
theorem dX6_sizeOf_15 : decode cX6_sizeOf 15 = .ok (.getfield 131, 3) := by decide +kernel
theorem dX6_sizeOf_18 : decode cX6_sizeOf 18 = .ok (.iload_n 1, 1) := by decide +kernel
theorem dX6_sizeOf_19 : decode cX6_sizeOf 19 = .ok (.iaload, 1) := by decide +kernel
theorem dX6_sizeOf_20 : decode cX6_sizeOf 20 = .ok (.ireturn, 1) := by decide +kernel
theorem dX6_cold_0 : decode cX6_cold 0 = .ok (.iload_n 1, 1) := by decide +kernel
theorem dX6_cold_1 : decode cX6_cold 1 = .ok (.invokestatic 65, 3) := by decide +kernel
theorem dX6_cold_4 : decode cX6_cold 4 = .ok (.iload_n 2, 1) := by decide +kernel
theorem dX6_cold_5 : decode cX6_cold 5 = .ok (.aload_n 0, 1) := by decide +kernel
theorem dX6_cold_6 : decode cX6_cold 6 = .ok (.getfield 55, 3) := by decide +kernel
theorem dX6_cold_9 : decode cX6_cold 9 = .ok (.invokestatic 132, 3) := by decide +kernel
theorem dX6_cold_12 : decode cX6_cold 12 = .ok (.iload_n 3, 1) := by decide +kernel
theorem dX6_cold_13 : decode cX6_cold 13 = .ok (.iload_n 2, 1) := by decide +kernel
theorem dX6_cold_14 : decode cX6_cold 14 = .ok (.invokestatic 132, 3) := by decide +kernel
theorem dX6_cold_17 : decode cX6_cold 17 = .ok (.aload_n 0, 1) := by decide +kernel
theorem dX6_cold_18 : decode cX6_cold 18 = .ok (.getfield 10, 3) := by decide +kernel
theorem dX6_cold_21 : decode cX6_cold 21 = .ok (.iload_n 1, 1) := by decide +kernel
theorem dX6_cold_22 : decode cX6_cold 22 = .ok (.iload_n 2, 1) := by decide +kernel
theorem dX6_cold_23 : decode cX6_cold 23 = .ok (.iload_n 3, 1) := by decide +kernel
theorem dX6_cold_24 : decode cX6_cold 24 = .ok (.invokevirtual 135, 3) := by decide +kernel
theorem dX6_cold_27 : decode cX6_cold 27 = .ok (.ireturn, 1) := by decide +kernel
theorem dX6_isIll_0 : decode cX6_isIll 0 = .ok (.iload_n 1, 1) := by decide +kernel
theorem dX6_isIll_1 : decode cX6_isIll 1 = .ok (.invokestatic 65, 3) := by decide +kernel
theorem dX6_isIll_4 : decode cX6_isIll 4 = .ok (.iload_n 2, 1) := by decide +kernel
theorem dX6_isIll_5 : decode cX6_isIll 5 = .ok (.iconst 0, 1) := by decide +kernel
theorem dX6_isIll_6 : decode cX6_isIll 6 = .ok (.invokestatic 132, 3) := by decide +kernel
theorem dX6_isIll_9 : decode cX6_isIll 9 = .ok (.aload_n 0, 1) := by decide +kernel
theorem dX6_isIll_10 : decode cX6_isIll 10 = .ok (.getfield 10, 3) := by decide +kernel
theorem dX6_isIll_13 : decode cX6_isIll 13 = .ok (.getfield 139, 3) := by decide +kernel
theorem dX6_isIll_16 : decode cX6_isIll 16 = .ok (.iload_n 2, 1) := by decide +kernel
theorem dX6_isIll_17 : decode cX6_isIll 17 = .ok (.iaload, 1) := by decide +kernel
theorem dX6_isIll_18 : decode cX6_isIll 18 = .ok (.iload_n 1, 1) := by decide +kernel
theorem dX6_isIll_19 : decode cX6_isIll 19 = .ok (.invokestatic 142, 3) := by decide +kernel
theorem dX6_isIll_22 : decode cX6_isIll 22 = .ok (.ireturn, 1) := by decide +kernel
theorem dX6_canPlay_0 : decode cX6_canPlay 0 = .ok (.iload_n 1, 1) := by decide +kernel
theorem dX6_canPlay_1 : decode cX6_canPlay 1 = .ok (.invokestatic 65, 3) := by decide +kernel
theorem dX6_canPlay_4 : decode cX6_canPlay 4 = .ok (.iload_n 2, 1) := by decide +kernel
theorem dX6_canPlay_5 : decode cX6_canPlay 5 = .ok (.invokestatic 76, 3) := by decide +kernel
theorem dX6_canPlay_8 : decode cX6_canPlay 8 = .ok (.iload_n 3, 1) := by decide +kernel
theorem dX6_canPlay_9 : decode cX6_canPlay 9 = .ok (.iconst 0, 1) := by decide +kernel
theorem dX6_canPlay_10 : decode cX6_canPlay 10 = .ok (.invokestatic 132, 3) := by decide +kernel
theorem dX6_canPlay_13 : decode cX6_canPlay 13 = .ok (.aload_n 0, 1) := by decide +kernel
theorem dX6_canPlay_14 : decode cX6_canPlay 14 = .ok (.getfield 19, 3) := by decide +kernel
theorem dX6_canPlay_17 : decode cX6_canPlay 17 = .ok (.iload_n 2, 1) := by decide +kernel
theorem dX6_canPlay_18 : decode cX6_canPlay 18 = .ok (.iload_n 1, 1) := by decide +kernel
theorem dX6_canPlay_19 : decode cX6_canPlay 19 = .ok (.invokevirtual 100, 3) := by decide +kernel
theorem dX6_canPlay_22 : decode cX6_canPlay 22 = .ok (.iconst (-1), 1) := by decide +kernel
theorem dX6_canPlay_23 : decode cX6_canPlay 23 = .ok (.if_icmp .eq 25, 3) := by decide +kernel
theorem dX6_canPlay_26 : decode cX6_canPlay 26 = .ok (.aload_n 0, 1) := by decide +kernel
theorem dX6_canPlay_27 : decode cX6_canPlay 27 = .ok (.iload_n 1, 1) := by decide +kernel
theorem dX6_canPlay_28 : decode cX6_canPlay 28 = .ok (.iload_n 2, 1) := by decide +kernel
theorem dX6_canPlay_29 : decode cX6_canPlay 29 = .ok (.aload_n 0, 1) := by decide +kernel
theorem dX6_canPlay_30 : decode cX6_canPlay 30 = .ok (.getfield 10, 3) := by decide +kernel
theorem dX6_canPlay_33 : decode cX6_canPlay 33 = .ok (.getfield 139, 3) := by decide +kernel
theorem dX6_canPlay_36 : decode cX6_canPlay 36 = .ok (.iload_n 3, 1) := by decide +kernel
theorem dX6_canPlay_37 : decode cX6_canPlay 37 = .ok (.iaload, 1) := by decide +kernel
theorem dX6_canPlay_38 : decode cX6_canPlay 38 = .ok (.invokevirtual 146, 3) := by decide +kernel
theorem dX6_canPlay_41 : decode cX6_canPlay 41 = .ok (.ifCond .eq 7, 3) := by decide +kernel
theorem dX6_canPlay_44 : decode cX6_canPlay 44 = .ok (.iconst 1, 1) := by decide +kernel
theorem dX6_canPlay_45 : decode cX6_canPlay 45 = .ok (.goto 4, 3) := by decide +kernel
theorem dX6_canPlay_48 : decode cX6_canPlay 48 = .ok (.iconst 0, 1) := by decide +kernel
theorem dX6_canPlay_49 : decode cX6_canPlay 49 = .ok (.ireturn, 1) := by decide +kernel
theorem dX6_strain_0 : decode cX6_strain 0 = .ok (.iload_n 1, 1) := by decide +kernel
theorem dX6_strain_1 : decode cX6_strain 1 = .ok (.iconst 0, 1) := by decide +kernel
theorem dX6_strain_2 : decode cX6_strain 2 = .ok (.invokestatic 132, 3) := by decide +kernel
theorem dX6_strain_5 : decode cX6_strain 5 = .ok (.aload_n 0, 1) := by decide +kernel
theorem dX6_strain_6 : decode cX6_strain 6 = .ok (.aload_n 0, 1) := by decide +kernel
theorem dX6_strain_7 : decode cX6_strain 7 = .ok (.getfield 10, 3) := by decide +kernel
theorem dX6_strain_10 : decode cX6_strain 10 = .ok (.getfield 139, 3) := by decide +kernel
theorem dX6_strain_13 : decode cX6_strain 13 = .ok (.iload_n 1, 1) := by decide +kernel
theorem dX6_strain_14 : decode cX6_strain 14 = .ok (.iaload, 1) := by decide +kernel
theorem dX6_strain_15 : decode cX6_strain 15 = .ok (.invokevirtual 150, 3) := by decide +kernel
theorem dX6_strain_18 : decode cX6_strain 18 = .ok (.istore_n 2, 1) := by decide +kernel
theorem dX6_strain_19 : decode cX6_strain 19 = .ok (.iload_n 2, 1) := by decide +kernel
theorem dX6_strain_20 : decode cX6_strain 20 = .ok (.iconst (-1), 1) := by decide +kernel
theorem dX6_strain_21 : decode cX6_strain 21 = .ok (.if_icmp .ne 7, 3) := by decide +kernel
theorem dX6_strain_24 : decode cX6_strain 24 = .ok (.iconst (-1), 1) := by decide +kernel
theorem dX6_strain_25 : decode cX6_strain 25 = .ok (.goto 7, 3) := by decide +kernel
theorem dX6_strain_28 : decode cX6_strain 28 = .ok (.iload_n 2, 1) := by decide +kernel
theorem dX6_strain_29 : decode cX6_strain 29 = .ok (.invokestatic 153, 3) := by decide +kernel
theorem dX6_strain_32 : decode cX6_strain 32 = .ok (.ireturn, 1) := by decide +kernel
theorem dX6_strainByAll_0 : decode cX6_strainByAll 0 = .ok (.iload_n 1, 1) := by decide +kernel
theorem dX6_strainByAll_1 : decode cX6_strainByAll 1 = .ok (.iconst 0, 1) := by decide +kernel
theorem dX6_strainByAll_2 : decode cX6_strainByAll 2 = .ok (.invokestatic 132, 3) := by decide +kernel
theorem dX6_strainByAll_5 : decode cX6_strainByAll 5 = .ok (.aload_n 0, 1) := by decide +kernel
theorem dX6_strainByAll_6 : decode cX6_strainByAll 6 = .ok (.aload_n 0, 1) := by decide +kernel
theorem dX6_strainByAll_7 : decode cX6_strainByAll 7 = .ok (.getfield 10, 3) := by decide +kernel
theorem dX6_strainByAll_10 : decode cX6_strainByAll 10 = .ok (.getfield 139, 3) := by decide +kernel
theorem dX6_strainByAll_13 : decode cX6_strainByAll 13 = .ok (.iload_n 1, 1) := by decide +kernel
theorem dX6_strainByAll_14 : decode cX6_strainByAll 14 = .ok (.iaload, 1) := by decide +kernel
theorem dX6_strainByAll_15 : decode cX6_strainByAll 15 = .ok (.invokevirtual 156, 3) := by decide +kernel
theorem dX6_strainByAll_18 : decode cX6_strainByAll 18 = .ok (.aload_n 0, 1) := by decide +kernel
theorem dX6_strainByAll_19 : decode cX6_strainByAll 19 = .ok (.getfield 33, 3) := by decide +kernel
theorem dX6_strainByAll_22 : decode cX6_strainByAll 22 = .ok (.aload_n 0, 1) := by decide +kernel
theorem dX6_strainByAll_23 : decode cX6_strainByAll 23 = .ok (.getfield 51, 3) := by decide +kernel
theorem dX6_strainByAll_26 : decode cX6_strainByAll 26 = .ok (.invokevirtual 159, 3) := by decide +kernel
theorem dX6_strainByAll_29 : decode cX6_strainByAll 29 = .ok (.ireturn, 1) := by decide +kernel
theorem dX6_work_0 : decode cX6_work 0 = .ok (.iload_n 1, 1) := by decide +kernel
theorem dX6_work_1 : decode cX6_work 1 = .ok (.iconst 0, 1) := by decide +kernel
theorem dX6_work_2 : decode cX6_work 2 = .ok (.invokestatic 132, 3) := by decide +kernel
theorem dX6_work_5 : decode cX6_work 5 = .ok (.aload_n 0, 1) := by decide +kernel
theorem dX6_work_6 : decode cX6_work 6 = .ok (.aload_n 0, 1) := by decide +kernel
theorem dX6_work_7 : decode cX6_work 7 = .ok (.getfield 10, 3) := by decide +kernel
theorem dX6_work_10 : decode cX6_work 10 = .ok (.getfield 139, 3) := by decide +kernel
theorem dX6_work_13 : decode cX6_work 13 = .ok (.iload_n 1, 1) := by decide +kernel
theorem dX6_work_14 : decode cX6_work 14 = .ok (.iaload, 1) := by decide +kernel
theorem dX6_work_15 : decode cX6_work 15 = .ok (.invokevirtual 150, 3) := by decide +kernel
theorem dX6_work_18 : decode cX6_work 18 = .ok (.istore_n 2, 1) := by decide +kernel
theorem dX6_work_19 : decode cX6_work 19 = .ok (.iload_n 2, 1) := by decide +kernel
theorem dX6_work_20 : decode cX6_work 20 = .ok (.iconst (-1), 1) := by decide +kernel
theorem dX6_work_21 : decode cX6_work 21 = .ok (.if_icmp .ne 7, 3) := by decide +kernel
theorem dX6_work_24 : decode cX6_work 24 = .ok (.iconst (-1), 1) := by decide +kernel
theorem dX6_work_25 : decode cX6_work 25 = .ok (.goto 7, 3) := by decide +kernel
theorem dX6_work_28 : decode cX6_work 28 = .ok (.iload_n 2, 1) := by decide +kernel
theorem dX6_work_29 : decode cX6_work 29 = .ok (.invokestatic 162, 3) := by decide +kernel
theorem dX6_work_32 : decode cX6_work 32 = .ok (.ireturn, 1) := by decide +kernel
theorem dX6_actorFor_0 : decode cX6_actorFor 0 = .ok (.iload_n 2, 1) := by decide +kernel
theorem dX6_actorFor_1 : decode cX6_actorFor 1 = .ok (.invokestatic 76, 3) := by decide +kernel
theorem dX6_actorFor_4 : decode cX6_actorFor 4 = .ok (.iload_n 1, 1) := by decide +kernel
theorem dX6_actorFor_5 : decode cX6_actorFor 5 = .ok (.iconst 0, 1) := by decide +kernel
theorem dX6_actorFor_6 : decode cX6_actorFor 6 = .ok (.invokestatic 132, 3) := by decide +kernel
theorem dX6_actorFor_9 : decode cX6_actorFor 9 = .ok (.aload_n 0, 1) := by decide +kernel
theorem dX6_actorFor_10 : decode cX6_actorFor 10 = .ok (.aload_n 0, 1) := by decide +kernel
theorem dX6_actorFor_11 : decode cX6_actorFor 11 = .ok (.getfield 10, 3) := by decide +kernel
theorem dX6_actorFor_14 : decode cX6_actorFor 14 = .ok (.getfield 139, 3) := by decide +kernel
theorem dX6_actorFor_17 : decode cX6_actorFor 17 = .ok (.iload_n 1, 1) := by decide +kernel
theorem dX6_actorFor_18 : decode cX6_actorFor 18 = .ok (.iaload, 1) := by decide +kernel
theorem dX6_actorFor_19 : decode cX6_actorFor 19 = .ok (.invokevirtual 150, 3) := by decide +kernel
theorem dX6_actorFor_22 : decode cX6_actorFor 22 = .ok (.istore_n 3, 1) := by decide +kernel
theorem dX6_actorFor_23 : decode cX6_actorFor 23 = .ok (.iload_n 3, 1) := by decide +kernel
theorem dX6_actorFor_24 : decode cX6_actorFor 24 = .ok (.iconst (-1), 1) := by decide +kernel
theorem dX6_actorFor_25 : decode cX6_actorFor 25 = .ok (.if_icmp .eq 11, 3) := by decide +kernel
theorem dX6_actorFor_28 : decode cX6_actorFor 28 = .ok (.iload_n 2, 1) := by decide +kernel
theorem dX6_actorFor_29 : decode cX6_actorFor 29 = .ok (.aload_n 0, 1) := by decide +kernel
theorem dX6_actorFor_30 : decode cX6_actorFor 30 = .ok (.getfield 51, 3) := by decide +kernel
theorem dX6_actorFor_33 : decode cX6_actorFor 33 = .ok (.if_icmp .lt 7, 3) := by decide +kernel
theorem dX6_actorFor_36 : decode cX6_actorFor 36 = .ok (.iconst (-1), 1) := by decide +kernel
theorem dX6_actorFor_37 : decode cX6_actorFor 37 = .ok (.goto 9, 3) := by decide +kernel
theorem dX6_actorFor_40 : decode cX6_actorFor 40 = .ok (.aload_n 0, 1) := by decide +kernel
theorem dX6_actorFor_41 : decode cX6_actorFor 41 = .ok (.iload_n 3, 1) := by decide +kernel
theorem dX6_actorFor_42 : decode cX6_actorFor 42 = .ok (.iload_n 2, 1) := by decide +kernel
theorem dX6_actorFor_43 : decode cX6_actorFor 43 = .ok (.invokevirtual 165, 3) := by decide +kernel
theorem dX6_actorFor_46 : decode cX6_actorFor 46 = .ok (.ireturn, 1) := by decide +kernel
theorem dX6_chain_0 : decode cX6_chain 0 = .ok (.iload_n 1, 1) := by decide +kernel
theorem dX6_chain_1 : decode cX6_chain 1 = .ok (.invokestatic 65, 3) := by decide +kernel
theorem dX6_chain_4 : decode cX6_chain 4 = .ok (.iload_n 2, 1) := by decide +kernel
theorem dX6_chain_5 : decode cX6_chain 5 = .ok (.iconst 0, 1) := by decide +kernel
theorem dX6_chain_6 : decode cX6_chain 6 = .ok (.invokestatic 132, 3) := by decide +kernel
theorem dX6_chain_9 : decode cX6_chain 9 = .ok (.aload_n 0, 1) := by decide +kernel
theorem dX6_chain_10 : decode cX6_chain 10 = .ok (.aload_n 0, 1) := by decide +kernel
theorem dX6_chain_11 : decode cX6_chain 11 = .ok (.getfield 10, 3) := by decide +kernel
theorem dX6_chain_14 : decode cX6_chain 14 = .ok (.getfield 139, 3) := by decide +kernel
theorem dX6_chain_17 : decode cX6_chain 17 = .ok (.iload_n 2, 1) := by decide +kernel
theorem dX6_chain_18 : decode cX6_chain 18 = .ok (.iaload, 1) := by decide +kernel
theorem dX6_chain_19 : decode cX6_chain 19 = .ok (.invokevirtual 150, 3) := by decide +kernel
theorem dX6_chain_22 : decode cX6_chain 22 = .ok (.istore_n 3, 1) := by decide +kernel
theorem dX6_chain_23 : decode cX6_chain 23 = .ok (.aload_n 0, 1) := by decide +kernel
theorem dX6_chain_24 : decode cX6_chain 24 = .ok (.aload_n 0, 1) := by decide +kernel
theorem dX6_chain_25 : decode cX6_chain 25 = .ok (.getfield 10, 3) := by decide +kernel
theorem dX6_chain_28 : decode cX6_chain 28 = .ok (.getfield 139, 3) := by decide +kernel
theorem dX6_chain_31 : decode cX6_chain 31 = .ok (.iload_n 2, 1) := by decide +kernel
theorem dX6_chain_32 : decode cX6_chain 32 = .ok (.iaload, 1) := by decide +kernel
theorem dX6_chain_33 : decode cX6_chain 33 = .ok (.iload_n 1, 1) := by decide +kernel
theorem dX6_chain_34 : decode cX6_chain 34 = .ok (.invokestatic 82, 3) := by decide +kernel
theorem dX6_chain_37 : decode cX6_chain 37 = .ok (.invokevirtual 150, 3) := by decide +kernel
theorem dX6_chain_40 : decode cX6_chain 40 = .ok (.istore 4, 2) := by decide +kernel
theorem dX6_chain_42 : decode cX6_chain 42 = .ok (.iload_n 3, 1) := by decide +kernel
theorem dX6_chain_43 : decode cX6_chain 43 = .ok (.iconst (-1), 1) := by decide +kernel
theorem dX6_chain_44 : decode cX6_chain 44 = .ok (.if_icmp .eq 9, 3) := by decide +kernel
theorem dX6_chain_47 : decode cX6_chain 47 = .ok (.iload 4, 2) := by decide +kernel
theorem dX6_chain_49 : decode cX6_chain 49 = .ok (.iconst (-1), 1) := by decide +kernel
theorem dX6_chain_50 : decode cX6_chain 50 = .ok (.if_icmp .ne 7, 3) := by decide +kernel
theorem dX6_chain_53 : decode cX6_chain 53 = .ok (.iconst (-1), 1) := by decide +kernel
theorem dX6_chain_54 : decode cX6_chain 54 = .ok (.goto 10, 3) := by decide +kernel
theorem dX6_chain_57 : decode cX6_chain 57 = .ok (.aload_n 0, 1) := by decide +kernel
theorem dX6_chain_58 : decode cX6_chain 58 = .ok (.iload_n 3, 1) := by decide +kernel
theorem dX6_chain_59 : decode cX6_chain 59 = .ok (.iload 4, 2) := by decide +kernel
theorem dX6_chain_61 : decode cX6_chain 61 = .ok (.invokevirtual 168, 3) := by decide +kernel
theorem dX6_chain_64 : decode cX6_chain 64 = .ok (.ireturn, 1) := by decide +kernel
theorem dX6_needActor_0 : decode cX6_needActor 0 = .ok (.iload_n 0, 1) := by decide +kernel
theorem dX6_needActor_1 : decode cX6_needActor 1 = .ok (.ifCond .lt 9, 3) := by decide +kernel
theorem dX6_needActor_4 : decode cX6_needActor 4 = .ok (.iload_n 0, 1) := by decide +kernel
theorem dX6_needActor_5 : decode cX6_needActor 5 = .ok (.bipush 12, 2) := by decide +kernel
theorem dX6_needActor_7 : decode cX6_needActor 7 = .ok (.if_icmp .lt 13, 3) := by decide +kernel
theorem dX6_needActor_10 : decode cX6_needActor 10 = .ok (.new 215, 3) := by decide +kernel
theorem dX6_needActor_13 : decode cX6_needActor 13 = .ok (.dup, 1) := by decide +kernel
theorem dX6_needActor_14 : decode cX6_needActor 14 = .ok (.ldc 217, 2) := by decide +kernel
theorem dX6_needActor_16 : decode cX6_needActor 16 = .ok (.invokespecial 219, 3) := by decide +kernel
theorem dX6_needActor_19 : decode cX6_needActor 19 = .ok (.athrow, 1) := by decide +kernel
theorem dX6_needActor_20 : decode cX6_needActor 20 = .ok (.return_, 1) := by decide +kernel
theorem dX6_needPart_0 : decode cX6_needPart 0 = .ok (.iload_n 0, 1) := by decide +kernel
theorem dX6_needPart_1 : decode cX6_needPart 1 = .ok (.ifCond .lt 9, 3) := by decide +kernel
theorem dX6_needPart_4 : decode cX6_needPart 4 = .ok (.iload_n 0, 1) := by decide +kernel
theorem dX6_needPart_5 : decode cX6_needPart 5 = .ok (.bipush 8, 2) := by decide +kernel
theorem dX6_needPart_7 : decode cX6_needPart 7 = .ok (.if_icmp .lt 13, 3) := by decide +kernel
theorem dX6_needPart_10 : decode cX6_needPart 10 = .ok (.new 215, 3) := by decide +kernel
theorem dX6_needPart_13 : decode cX6_needPart 13 = .ok (.dup, 1) := by decide +kernel
theorem dX6_needPart_14 : decode cX6_needPart 14 = .ok (.ldc 220, 2) := by decide +kernel
theorem dX6_needPart_16 : decode cX6_needPart 16 = .ok (.invokespecial 219, 3) := by decide +kernel
theorem dX6_needPart_19 : decode cX6_needPart 19 = .ok (.athrow, 1) := by decide +kernel
theorem dX6_needPart_20 : decode cX6_needPart 20 = .ok (.return_, 1) := by decide +kernel
theorem dX6_needOneOf_0 : decode cX6_needOneOf 0 = .ok (.iload_n 0, 1) := by decide +kernel
theorem dX6_needOneOf_1 : decode cX6_needOneOf 1 = .ok (.ifCond .lt 8, 3) := by decide +kernel
theorem dX6_needOneOf_4 : decode cX6_needOneOf 4 = .ok (.iload_n 0, 1) := by decide +kernel
theorem dX6_needOneOf_5 : decode cX6_needOneOf 5 = .ok (.iload_n 1, 1) := by decide +kernel
theorem dX6_needOneOf_6 : decode cX6_needOneOf 6 = .ok (.if_icmp .lt 13, 3) := by decide +kernel
theorem dX6_needOneOf_9 : decode cX6_needOneOf 9 = .ok (.new 215, 3) := by decide +kernel
theorem dX6_needOneOf_12 : decode cX6_needOneOf 12 = .ok (.dup, 1) := by decide +kernel
theorem dX6_needOneOf_13 : decode cX6_needOneOf 13 = .ok (.ldc 222, 2) := by decide +kernel
theorem dX6_needOneOf_15 : decode cX6_needOneOf 15 = .ok (.invokespecial 219, 3) := by decide +kernel
theorem dX6_needOneOf_18 : decode cX6_needOneOf 18 = .ok (.athrow, 1) := by decide +kernel
theorem dX6_needOneOf_19 : decode cX6_needOneOf 19 = .ok (.return_, 1) := by decide +kernel
theorem dX6_needSize_0 : decode cX6_needSize 0 = .ok (.iload_n 0, 1) := by decide +kernel
theorem dX6_needSize_1 : decode cX6_needSize 1 = .ok (.ifCond .lt 9, 3) := by decide +kernel
theorem dX6_needSize_4 : decode cX6_needSize 4 = .ok (.iload_n 0, 1) := by decide +kernel
theorem dX6_needSize_5 : decode cX6_needSize 5 = .ok (.bipush 9, 2) := by decide +kernel
theorem dX6_needSize_7 : decode cX6_needSize 7 = .ok (.if_icmp .le 13, 3) := by decide +kernel
theorem dX6_needSize_10 : decode cX6_needSize 10 = .ok (.new 58, 3) := by decide +kernel
theorem dX6_needSize_13 : decode cX6_needSize 13 = .ok (.dup, 1) := by decide +kernel
theorem dX6_needSize_14 : decode cX6_needSize 14 = .ok (.ldc 224, 2) := by decide +kernel
theorem dX6_needSize_16 : decode cX6_needSize 16 = .ok (.invokespecial 62, 3) := by decide +kernel
theorem dX6_needSize_19 : decode cX6_needSize 19 = .ok (.athrow, 1) := by decide +kernel
theorem dX6_needSize_20 : decode cX6_needSize 20 = .ok (.return_, 1) := by decide +kernel
theorem dX6_needDay_0 : decode cX6_needDay 0 = .ok (.iload_n 0, 1) := by decide +kernel
theorem dX6_needDay_1 : decode cX6_needDay 1 = .ok (.iload_n 1, 1) := by decide +kernel
theorem dX6_needDay_2 : decode cX6_needDay 2 = .ok (.if_icmp .lt 10, 3) := by decide +kernel
theorem dX6_needDay_5 : decode cX6_needDay 5 = .ok (.iload_n 0, 1) := by decide +kernel
theorem dX6_needDay_6 : decode cX6_needDay 6 = .ok (.sipush 1000, 3) := by decide +kernel
theorem dX6_needDay_9 : decode cX6_needDay 9 = .ok (.if_icmp .le 13, 3) := by decide +kernel
theorem dX6_needDay_12 : decode cX6_needDay 12 = .ok (.new 58, 3) := by decide +kernel
theorem dX6_needDay_15 : decode cX6_needDay 15 = .ok (.dup, 1) := by decide +kernel
theorem dX6_needDay_16 : decode cX6_needDay 16 = .ok (.ldc 226, 2) := by decide +kernel
theorem dX6_needDay_18 : decode cX6_needDay 18 = .ok (.invokespecial 62, 3) := by decide +kernel
theorem dX6_needDay_21 : decode cX6_needDay 21 = .ok (.athrow, 1) := by decide +kernel
theorem dX6_needDay_22 : decode cX6_needDay 22 = .ok (.return_, 1) := by decide +kernel
theorem dX6_has_0 : decode cX6_has 0 = .ok (.iload_n 0, 1) := by decide +kernel
theorem dX6_has_1 : decode cX6_has 1 = .ok (.iload_n 1, 1) := by decide +kernel
theorem dX6_has_2 : decode cX6_has 2 = .ok (.ishr, 1) := by decide +kernel
theorem dX6_has_3 : decode cX6_has 3 = .ok (.iconst 1, 1) := by decide +kernel
theorem dX6_has_4 : decode cX6_has 4 = .ok (.iand, 1) := by decide +kernel
theorem dX6_has_5 : decode cX6_has 5 = .ok (.ifCond .eq 7, 3) := by decide +kernel
theorem dX6_has_8 : decode cX6_has 8 = .ok (.iconst 1, 1) := by decide +kernel
theorem dX6_has_9 : decode cX6_has 9 = .ok (.goto 4, 3) := by decide +kernel
theorem dX6_has_12 : decode cX6_has 12 = .ok (.iconst 0, 1) := by decide +kernel
theorem dX6_has_13 : decode cX6_has 13 = .ok (.ireturn, 1) := by decide +kernel
theorem dX6_with_0 : decode cX6_with 0 = .ok (.iload_n 0, 1) := by decide +kernel
theorem dX6_with_1 : decode cX6_with 1 = .ok (.iconst 1, 1) := by decide +kernel
theorem dX6_with_2 : decode cX6_with 2 = .ok (.iload_n 1, 1) := by decide +kernel
theorem dX6_with_3 : decode cX6_with 3 = .ok (.ishl, 1) := by decide +kernel
theorem dX6_with_4 : decode cX6_with 4 = .ok (.ior, 1) := by decide +kernel
theorem dX6_with_5 : decode cX6_with 5 = .ok (.ireturn, 1) := by decide +kernel
theorem dX6_without_0 : decode cX6_without 0 = .ok (.iload_n 0, 1) := by decide +kernel
theorem dX6_without_1 : decode cX6_without 1 = .ok (.iconst 1, 1) := by decide +kernel
theorem dX6_without_2 : decode cX6_without 2 = .ok (.iload_n 1, 1) := by decide +kernel
theorem dX6_without_3 : decode cX6_without 3 = .ok (.ishl, 1) := by decide +kernel
theorem dX6_without_4 : decode cX6_without 4 = .ok (.iconst (-1), 1) := by decide +kernel
theorem dX6_without_5 : decode cX6_without 5 = .ok (.ixor, 1) := by decide +kernel
theorem dX6_without_6 : decode cX6_without 6 = .ok (.iand, 1) := by decide +kernel
theorem dX6_without_7 : decode cX6_without 7 = .ok (.ireturn, 1) := by decide +kernel
theorem dX6_isReady_0 : decode cX6_isReady 0 = .ok (.aload_n 0, 1) := by decide +kernel
theorem dX6_isReady_1 : decode cX6_isReady 1 = .ok (.getfield 10, 3) := by decide +kernel
theorem dX6_isReady_4 : decode cX6_isReady 4 = .ok (.getfield 72, 3) := by decide +kernel
theorem dX6_isReady_7 : decode cX6_isReady 7 = .ok (.iload_n 1, 1) := by decide +kernel
theorem dX6_isReady_8 : decode cX6_isReady 8 = .ok (.iaload, 1) := by decide +kernel
theorem dX6_isReady_9 : decode cX6_isReady 9 = .ok (.istore 4, 2) := by decide +kernel
theorem dX6_isReady_11 : decode cX6_isReady 11 = .ok (.aload_n 0, 1) := by decide +kernel
theorem dX6_isReady_12 : decode cX6_isReady 12 = .ok (.getfield 10, 3) := by decide +kernel
theorem dX6_isReady_15 : decode cX6_isReady 15 = .ok (.getfield 79, 3) := by decide +kernel
theorem dX6_isReady_18 : decode cX6_isReady 18 = .ok (.iload_n 1, 1) := by decide +kernel
theorem dX6_isReady_19 : decode cX6_isReady 19 = .ok (.iaload, 1) := by decide +kernel
theorem dX6_isReady_20 : decode cX6_isReady 20 = .ok (.iload_n 2, 1) := by decide +kernel
theorem dX6_isReady_21 : decode cX6_isReady 21 = .ok (.invokestatic 142, 3) := by decide +kernel
theorem dX6_isReady_24 : decode cX6_isReady 24 = .ok (.ifCond .eq 43, 3) := by decide +kernel
theorem dX6_isReady_27 : decode cX6_isReady 27 = .ok (.iload_n 3, 1) := by decide +kernel
theorem dX6_isReady_28 : decode cX6_isReady 28 = .ok (.iload_n 1, 1) := by decide +kernel
theorem dX6_isReady_29 : decode cX6_isReady 29 = .ok (.invokestatic 142, 3) := by decide +kernel
theorem dX6_isReady_32 : decode cX6_isReady 32 = .ok (.ifCond .ne 35, 3) := by decide +kernel
theorem dX6_isReady_35 : decode cX6_isReady 35 = .ok (.aload_n 0, 1) := by decide +kernel
theorem dX6_isReady_36 : decode cX6_isReady 36 = .ok (.getfield 26, 3) := by decide +kernel
theorem dX6_isReady_39 : decode cX6_isReady 39 = .ok (.iload_n 2, 1) := by decide +kernel
theorem dX6_isReady_40 : decode cX6_isReady 40 = .ok (.iload 4, 2) := by decide +kernel
theorem dX6_isReady_42 : decode cX6_isReady 42 = .ok (.invokevirtual 228, 3) := by decide +kernel
theorem dX6_isReady_45 : decode cX6_isReady 45 = .ok (.iconst (-1), 1) := by decide +kernel
theorem dX6_isReady_46 : decode cX6_isReady 46 = .ok (.if_icmp .ne 17, 3) := by decide +kernel
theorem dX6_isReady_49 : decode cX6_isReady 49 = .ok (.aload_n 0, 1) := by decide +kernel
theorem dX6_isReady_50 : decode cX6_isReady 50 = .ok (.getfield 26, 3) := by decide +kernel
theorem dX6_isReady_53 : decode cX6_isReady 53 = .ok (.iload_n 2, 1) := by decide +kernel
theorem dX6_isReady_54 : decode cX6_isReady 54 = .ok (.iload 4, 2) := by decide +kernel
theorem dX6_isReady_56 : decode cX6_isReady 56 = .ok (.invokevirtual 231, 3) := by decide +kernel
theorem dX6_isReady_59 : decode cX6_isReady 59 = .ok (.iconst (-1), 1) := by decide +kernel
theorem dX6_isReady_60 : decode cX6_isReady 60 = .ok (.if_icmp .eq 7, 3) := by decide +kernel
theorem dX6_isReady_63 : decode cX6_isReady 63 = .ok (.iconst 1, 1) := by decide +kernel
theorem dX6_isReady_64 : decode cX6_isReady 64 = .ok (.goto 4, 3) := by decide +kernel
theorem dX6_isReady_67 : decode cX6_isReady 67 = .ok (.iconst 0, 1) := by decide +kernel
theorem dX6_isReady_68 : decode cX6_isReady 68 = .ok (.ireturn, 1) := by decide +kernel
theorem dX6_offerActors_0 : decode cX6_offerActors 0 = .ok (.aload_n 0, 1) := by decide +kernel
theorem dX6_offerActors_1 : decode cX6_offerActors 1 = .ok (.getfield 33, 3) := by decide +kernel
theorem dX6_offerActors_4 : decode cX6_offerActors 4 = .ok (.invokevirtual 234, 3) := by decide +kernel
theorem dX6_offerActors_7 : decode cX6_offerActors 7 = .ok (.iconst 0, 1) := by decide +kernel
theorem dX6_offerActors_8 : decode cX6_offerActors 8 = .ok (.istore_n 2, 1) := by decide +kernel
theorem dX6_offerActors_9 : decode cX6_offerActors 9 = .ok (.iload_n 2, 1) := by decide +kernel
theorem dX6_offerActors_10 : decode cX6_offerActors 10 = .ok (.aload_n 0, 1) := by decide +kernel
theorem dX6_offerActors_11 : decode cX6_offerActors 11 = .ok (.getfield 51, 3) := by decide +kernel
theorem dX6_offerActors_14 : decode cX6_offerActors 14 = .ok (.if_icmp .ge 100, 3) := by decide +kernel
theorem dX6_offerActors_17 : decode cX6_offerActors 17 = .ok (.iconst 0, 1) := by decide +kernel
theorem dX6_offerActors_18 : decode cX6_offerActors 18 = .ok (.istore_n 3, 1) := by decide +kernel
theorem dX6_offerActors_19 : decode cX6_offerActors 19 = .ok (.iload_n 3, 1) := by decide +kernel
theorem dX6_offerActors_20 : decode cX6_offerActors 20 = .ok (.iconst 4, 1) := by decide +kernel
theorem dX6_offerActors_21 : decode cX6_offerActors 21 = .ok (.if_icmp .ge 87, 3) := by decide +kernel
theorem dX6_offerActors_24 : decode cX6_offerActors 24 = .ok (.aload_n 0, 1) := by decide +kernel
theorem dX6_offerActors_25 : decode cX6_offerActors 25 = .ok (.getfield 19, 3) := by decide +kernel
theorem dX6_offerActors_28 : decode cX6_offerActors 28 = .ok (.iload_n 2, 1) := by decide +kernel
theorem dX6_offerActors_29 : decode cX6_offerActors 29 = .ok (.iload_n 3, 1) := by decide +kernel
theorem dX6_offerActors_30 : decode cX6_offerActors 30 = .ok (.invokevirtual 193, 3) := by decide +kernel
theorem dX6_offerActors_33 : decode cX6_offerActors 33 = .ok (.istore 4, 2) := by decide +kernel
theorem dX6_offerActors_35 : decode cX6_offerActors 35 = .ok (.iload 4, 2) := by decide +kernel
theorem dX6_offerActors_37 : decode cX6_offerActors 37 = .ok (.iconst (-1), 1) := by decide +kernel
theorem dX6_offerActors_38 : decode cX6_offerActors 38 = .ok (.if_icmp .eq 64, 3) := by decide +kernel
theorem dX6_offerActors_41 : decode cX6_offerActors 41 = .ok (.aload_n 0, 1) := by decide +kernel
theorem dX6_offerActors_42 : decode cX6_offerActors 42 = .ok (.iload 4, 2) := by decide +kernel
theorem dX6_offerActors_44 : decode cX6_offerActors 44 = .ok (.iload_n 2, 1) := by decide +kernel
theorem dX6_offerActors_45 : decode cX6_offerActors 45 = .ok (.iload_n 1, 1) := by decide +kernel
theorem dX6_offerActors_46 : decode cX6_offerActors 46 = .ok (.invokevirtual 146, 3) := by decide +kernel
theorem dX6_offerActors_49 : decode cX6_offerActors 49 = .ok (.ifCond .eq 53, 3) := by decide +kernel
theorem dX6_offerActors_52 : decode cX6_offerActors 52 = .ok (.aload_n 0, 1) := by decide +kernel
theorem dX6_offerActors_53 : decode cX6_offerActors 53 = .ok (.getfield 26, 3) := by decide +kernel
theorem dX6_offerActors_56 : decode cX6_offerActors 56 = .ok (.iload_n 2, 1) := by decide +kernel
theorem dX6_offerActors_57 : decode cX6_offerActors 57 = .ok (.aload_n 0, 1) := by decide +kernel
theorem dX6_offerActors_58 : decode cX6_offerActors 58 = .ok (.getfield 10, 3) := by decide +kernel
theorem dX6_offerActors_61 : decode cX6_offerActors 61 = .ok (.getfield 72, 3) := by decide +kernel
theorem dX6_offerActors_64 : decode cX6_offerActors 64 = .ok (.iload 4, 2) := by decide +kernel
theorem dX6_offerActors_66 : decode cX6_offerActors 66 = .ok (.iaload, 1) := by decide +kernel
theorem dX6_offerActors_67 : decode cX6_offerActors 67 = .ok (.invokevirtual 228, 3) := by decide +kernel
theorem dX6_offerActors_70 : decode cX6_offerActors 70 = .ok (.iconst (-1), 1) := by decide +kernel
theorem dX6_offerActors_71 : decode cX6_offerActors 71 = .ok (.if_icmp .ne 7, 3) := by decide +kernel
theorem dX6_offerActors_74 : decode cX6_offerActors 74 = .ok (.iconst 1, 1) := by decide +kernel
theorem dX6_offerActors_75 : decode cX6_offerActors 75 = .ok (.goto 4, 3) := by decide +kernel
theorem dX6_offerActors_78 : decode cX6_offerActors 78 = .ok (.iconst 0, 1) := by decide +kernel
theorem dX6_offerActors_79 : decode cX6_offerActors 79 = .ok (.istore 5, 2) := by decide +kernel
theorem dX6_offerActors_81 : decode cX6_offerActors 81 = .ok (.aload_n 0, 1) := by decide +kernel
theorem dX6_offerActors_82 : decode cX6_offerActors 82 = .ok (.getfield 33, 3) := by decide +kernel
theorem dX6_offerActors_85 : decode cX6_offerActors 85 = .ok (.iload_n 2, 1) := by decide +kernel
theorem dX6_offerActors_86 : decode cX6_offerActors 86 = .ok (.iload_n 3, 1) := by decide +kernel
theorem dX6_offerActors_87 : decode cX6_offerActors 87 = .ok (.iload 4, 2) := by decide +kernel
theorem dX6_offerActors_89 : decode cX6_offerActors 89 = .ok (.iload 5, 2) := by decide +kernel
theorem dX6_offerActors_91 : decode cX6_offerActors 91 = .ok (.ifCond .eq 7, 3) := by decide +kernel
theorem dX6_offerActors_94 : decode cX6_offerActors 94 = .ok (.iconst 1, 1) := by decide +kernel
theorem dX6_offerActors_95 : decode cX6_offerActors 95 = .ok (.goto 4, 3) := by decide +kernel
theorem dX6_offerActors_98 : decode cX6_offerActors 98 = .ok (.iconst 0, 1) := by decide +kernel
theorem dX6_offerActors_99 : decode cX6_offerActors 99 = .ok (.invokevirtual 237, 3) := by decide +kernel
theorem dX6_offerActors_102 : decode cX6_offerActors 102 = .ok (.iinc 3 1, 3) := by decide +kernel
theorem dX6_offerActors_105 : decode cX6_offerActors 105 = .ok (.goto (-86), 3) := by decide +kernel
theorem dX6_offerActors_108 : decode cX6_offerActors 108 = .ok (.iinc 2 1, 3) := by decide +kernel
theorem dX6_offerActors_111 : decode cX6_offerActors 111 = .ok (.goto (-102), 3) := by decide +kernel
theorem dX6_offerActors_114 : decode cX6_offerActors 114 = .ok (.return_, 1) := by decide +kernel
theorem dX6_bestCast_0 : decode cX6_bestCast 0 = .ok (.aload_n 0, 1) := by decide +kernel
theorem dX6_bestCast_1 : decode cX6_bestCast 1 = .ok (.iload_n 1, 1) := by decide +kernel
theorem dX6_bestCast_2 : decode cX6_bestCast 2 = .ok (.invokevirtual 156, 3) := by decide +kernel
theorem dX6_bestCast_5 : decode cX6_bestCast 5 = .ok (.aload_n 0, 1) := by decide +kernel
theorem dX6_bestCast_6 : decode cX6_bestCast 6 = .ok (.getfield 33, 3) := by decide +kernel
theorem dX6_bestCast_9 : decode cX6_bestCast 9 = .ok (.aload_n 0, 1) := by decide +kernel
theorem dX6_bestCast_10 : decode cX6_bestCast 10 = .ok (.getfield 51, 3) := by decide +kernel
theorem dX6_bestCast_13 : decode cX6_bestCast 13 = .ok (.invokevirtual 241, 3) := by decide +kernel
theorem dX6_bestCast_16 : decode cX6_bestCast 16 = .ok (.ireturn, 1) := by decide +kernel
theorem dX6_actorIn_0 : decode cX6_actorIn 0 = .ok (.aload_n 0, 1) := by decide +kernel
theorem dX6_actorIn_1 : decode cX6_actorIn 1 = .ok (.getfield 19, 3) := by decide +kernel
theorem dX6_actorIn_4 : decode cX6_actorIn 4 = .ok (.iload_n 2, 1) := by decide +kernel
theorem dX6_actorIn_5 : decode cX6_actorIn 5 = .ok (.iload_n 1, 1) := by decide +kernel
theorem dX6_actorIn_6 : decode cX6_actorIn 6 = .ok (.iload_n 2, 1) := by decide +kernel
theorem dX6_actorIn_7 : decode cX6_actorIn 7 = .ok (.invokestatic 244, 3) := by decide +kernel
theorem dX6_actorIn_10 : decode cX6_actorIn 10 = .ok (.invokevirtual 193, 3) := by decide +kernel
theorem dX6_actorIn_13 : decode cX6_actorIn 13 = .ok (.ireturn, 1) := by decide +kernel
theorem dX6_countOthers_0 : decode cX6_countOthers 0 = .ok (.iconst 0, 1) := by decide +kernel
theorem dX6_countOthers_1 : decode cX6_countOthers 1 = .ok (.istore_n 3, 1) := by decide +kernel
theorem dX6_countOthers_2 : decode cX6_countOthers 2 = .ok (.iconst 0, 1) := by decide +kernel
theorem dX6_countOthers_3 : decode cX6_countOthers 3 = .ok (.istore 4, 2) := by decide +kernel
theorem dX6_countOthers_5 : decode cX6_countOthers 5 = .ok (.iload 4, 2) := by decide +kernel
theorem dX6_countOthers_7 : decode cX6_countOthers 7 = .ok (.aload_n 0, 1) := by decide +kernel
theorem dX6_countOthers_8 : decode cX6_countOthers 8 = .ok (.getfield 51, 3) := by decide +kernel
theorem dX6_countOthers_11 : decode cX6_countOthers 11 = .ok (.if_icmp .ge 29, 3) := by decide +kernel
theorem dX6_countOthers_14 : decode cX6_countOthers 14 = .ok (.aload_n 0, 1) := by decide +kernel
theorem dX6_countOthers_15 : decode cX6_countOthers 15 = .ok (.iload_n 1, 1) := by decide +kernel
theorem dX6_countOthers_16 : decode cX6_countOthers 16 = .ok (.iload 4, 2) := by decide +kernel
theorem dX6_countOthers_18 : decode cX6_countOthers 18 = .ok (.invokevirtual 165, 3) := by decide +kernel
theorem dX6_countOthers_21 : decode cX6_countOthers 21 = .ok (.aload_n 0, 1) := by decide +kernel
theorem dX6_countOthers_22 : decode cX6_countOthers 22 = .ok (.iload_n 2, 1) := by decide +kernel
theorem dX6_countOthers_23 : decode cX6_countOthers 23 = .ok (.iload 4, 2) := by decide +kernel
theorem dX6_countOthers_25 : decode cX6_countOthers 25 = .ok (.invokevirtual 165, 3) := by decide +kernel
theorem dX6_countOthers_28 : decode cX6_countOthers 28 = .ok (.if_icmp .eq 6, 3) := by decide +kernel
theorem dX6_countOthers_31 : decode cX6_countOthers 31 = .ok (.iinc 3 1, 3) := by decide +kernel
theorem dX6_countOthers_34 : decode cX6_countOthers 34 = .ok (.iinc 4 1, 3) := by decide +kernel
theorem dX6_countOthers_37 : decode cX6_countOthers 37 = .ok (.goto (-32), 3) := by decide +kernel
theorem dX6_countOthers_40 : decode cX6_countOthers 40 = .ok (.iload_n 3, 1) := by decide +kernel
theorem dX6_countOthers_41 : decode cX6_countOthers 41 = .ok (.ireturn, 1) := by decide +kernel
theorem dJ6_bitCount_0f7a4_0 : decode cJ6_bitCount_0f7a4 0 = .ok (.iload_n 0, 1) := by decide +kernel
theorem dJ6_bitCount_0f7a4_1 : decode cJ6_bitCount_0f7a4 1 = .ok (.iload_n 0, 1) := by decide +kernel
theorem dJ6_bitCount_0f7a4_2 : decode cJ6_bitCount_0f7a4 2 = .ok (.iconst 1, 1) := by decide +kernel
theorem dJ6_bitCount_0f7a4_3 : decode cJ6_bitCount_0f7a4 3 = .ok (.iushr, 1) := by decide +kernel
theorem dJ6_bitCount_0f7a4_4 : decode cJ6_bitCount_0f7a4 4 = .ok (.ldc_w 265, 3) := by decide +kernel
theorem dJ6_bitCount_0f7a4_7 : decode cJ6_bitCount_0f7a4 7 = .ok (.iand, 1) := by decide +kernel
theorem dJ6_bitCount_0f7a4_8 : decode cJ6_bitCount_0f7a4 8 = .ok (.isub, 1) := by decide +kernel
theorem dJ6_bitCount_0f7a4_9 : decode cJ6_bitCount_0f7a4 9 = .ok (.istore_n 0, 1) := by decide +kernel
theorem dJ6_bitCount_0f7a4_10 : decode cJ6_bitCount_0f7a4 10 = .ok (.iload_n 0, 1) := by decide +kernel
theorem dJ6_bitCount_0f7a4_11 : decode cJ6_bitCount_0f7a4 11 = .ok (.ldc_w 266, 3) := by decide +kernel
theorem dJ6_bitCount_0f7a4_14 : decode cJ6_bitCount_0f7a4 14 = .ok (.iand, 1) := by decide +kernel
theorem dJ6_bitCount_0f7a4_15 : decode cJ6_bitCount_0f7a4 15 = .ok (.iload_n 0, 1) := by decide +kernel
theorem dJ6_bitCount_0f7a4_16 : decode cJ6_bitCount_0f7a4 16 = .ok (.iconst 2, 1) := by decide +kernel
theorem dJ6_bitCount_0f7a4_17 : decode cJ6_bitCount_0f7a4 17 = .ok (.iushr, 1) := by decide +kernel
theorem dJ6_bitCount_0f7a4_18 : decode cJ6_bitCount_0f7a4 18 = .ok (.ldc_w 266, 3) := by decide +kernel
theorem dJ6_bitCount_0f7a4_21 : decode cJ6_bitCount_0f7a4 21 = .ok (.iand, 1) := by decide +kernel
theorem dJ6_bitCount_0f7a4_22 : decode cJ6_bitCount_0f7a4 22 = .ok (.iadd, 1) := by decide +kernel
theorem dJ6_bitCount_0f7a4_23 : decode cJ6_bitCount_0f7a4 23 = .ok (.istore_n 0, 1) := by decide +kernel
theorem dJ6_bitCount_0f7a4_24 : decode cJ6_bitCount_0f7a4 24 = .ok (.iload_n 0, 1) := by decide +kernel
theorem dJ6_bitCount_0f7a4_25 : decode cJ6_bitCount_0f7a4 25 = .ok (.iload_n 0, 1) := by decide +kernel
theorem dJ6_bitCount_0f7a4_26 : decode cJ6_bitCount_0f7a4 26 = .ok (.iconst 4, 1) := by decide +kernel
theorem dJ6_bitCount_0f7a4_27 : decode cJ6_bitCount_0f7a4 27 = .ok (.iushr, 1) := by decide +kernel
theorem dJ6_bitCount_0f7a4_28 : decode cJ6_bitCount_0f7a4 28 = .ok (.iadd, 1) := by decide +kernel
theorem dJ6_bitCount_0f7a4_29 : decode cJ6_bitCount_0f7a4 29 = .ok (.ldc_w 267, 3) := by decide +kernel
theorem dJ6_bitCount_0f7a4_32 : decode cJ6_bitCount_0f7a4 32 = .ok (.iand, 1) := by decide +kernel
theorem dJ6_bitCount_0f7a4_33 : decode cJ6_bitCount_0f7a4 33 = .ok (.istore_n 0, 1) := by decide +kernel
theorem dJ6_bitCount_0f7a4_34 : decode cJ6_bitCount_0f7a4 34 = .ok (.iload_n 0, 1) := by decide +kernel
theorem dJ6_bitCount_0f7a4_35 : decode cJ6_bitCount_0f7a4 35 = .ok (.iload_n 0, 1) := by decide +kernel
theorem dJ6_bitCount_0f7a4_36 : decode cJ6_bitCount_0f7a4 36 = .ok (.bipush 8, 2) := by decide +kernel
theorem dJ6_bitCount_0f7a4_38 : decode cJ6_bitCount_0f7a4 38 = .ok (.iushr, 1) := by decide +kernel
theorem dJ6_bitCount_0f7a4_39 : decode cJ6_bitCount_0f7a4 39 = .ok (.iadd, 1) := by decide +kernel
theorem dJ6_bitCount_0f7a4_40 : decode cJ6_bitCount_0f7a4 40 = .ok (.istore_n 0, 1) := by decide +kernel
theorem dJ6_bitCount_0f7a4_41 : decode cJ6_bitCount_0f7a4 41 = .ok (.iload_n 0, 1) := by decide +kernel
theorem dJ6_bitCount_0f7a4_42 : decode cJ6_bitCount_0f7a4 42 = .ok (.iload_n 0, 1) := by decide +kernel
theorem dJ6_bitCount_0f7a4_43 : decode cJ6_bitCount_0f7a4 43 = .ok (.bipush 16, 2) := by decide +kernel
theorem dJ6_bitCount_0f7a4_45 : decode cJ6_bitCount_0f7a4 45 = .ok (.iushr, 1) := by decide +kernel
theorem dJ6_bitCount_0f7a4_46 : decode cJ6_bitCount_0f7a4 46 = .ok (.iadd, 1) := by decide +kernel
theorem dJ6_bitCount_0f7a4_47 : decode cJ6_bitCount_0f7a4 47 = .ok (.istore_n 0, 1) := by decide +kernel
theorem dJ6_bitCount_0f7a4_48 : decode cJ6_bitCount_0f7a4 48 = .ok (.iload_n 0, 1) := by decide +kernel
theorem dJ6_bitCount_0f7a4_49 : decode cJ6_bitCount_0f7a4 49 = .ok (.bipush 63, 2) := by decide +kernel
theorem dJ6_bitCount_0f7a4_51 : decode cJ6_bitCount_0f7a4 51 = .ok (.iand, 1) := by decide +kernel
theorem dJ6_bitCount_0f7a4_52 : decode cJ6_bitCount_0f7a4 52 = .ok (.ireturn, 1) := by decide +kernel
theorem dJ9_max_7cf53_0 : decode cJ9_max_7cf53 0 = .ok (.iload_n 0, 1) := by decide +kernel
theorem dJ9_max_7cf53_1 : decode cJ9_max_7cf53 1 = .ok (.iload_n 1, 1) := by decide +kernel
theorem dJ9_max_7cf53_2 : decode cJ9_max_7cf53 2 = .ok (.if_icmp .lt 7, 3) := by decide +kernel
theorem dJ9_max_7cf53_5 : decode cJ9_max_7cf53 5 = .ok (.iload_n 0, 1) := by decide +kernel
theorem dJ9_max_7cf53_6 : decode cJ9_max_7cf53 6 = .ok (.goto 4, 3) := by decide +kernel
theorem dJ9_max_7cf53_9 : decode cJ9_max_7cf53 9 = .ok (.iload_n 1, 1) := by decide +kernel
theorem dJ9_max_7cf53_10 : decode cJ9_max_7cf53 10 = .ok (.ireturn, 1) := by decide +kernel
theorem dL_cell_0 : decode cL_cell 0 = .ok (.iload_n 1, 1) := by decide +kernel
theorem dL_cell_1 : decode cL_cell 1 = .ok (.aload_n 0, 1) := by decide +kernel
theorem dL_cell_2 : decode cL_cell 2 = .ok (.arraylength, 1) := by decide +kernel
theorem dL_cell_3 : decode cL_cell 3 = .ok (.if_icmp .ge 9, 3) := by decide +kernel
theorem dL_cell_6 : decode cL_cell 6 = .ok (.aload_n 0, 1) := by decide +kernel
theorem dL_cell_7 : decode cL_cell 7 = .ok (.iload_n 1, 1) := by decide +kernel
theorem dL_cell_8 : decode cL_cell 8 = .ok (.iaload, 1) := by decide +kernel
theorem dL_cell_9 : decode cL_cell 9 = .ok (.goto 9, 3) := by decide +kernel
theorem dL_cell_12 : decode cL_cell 12 = .ok (.ldc 7, 2) := by decide +kernel
theorem dL_cell_14 : decode cL_cell 14 = .ok (.iload_n 1, 1) := by decide +kernel
theorem dL_cell_15 : decode cL_cell 15 = .ok (.iconst 1, 1) := by decide +kernel
theorem dL_cell_16 : decode cL_cell 16 = .ok (.iadd, 1) := by decide +kernel
theorem dL_cell_17 : decode cL_cell 17 = .ok (.imul, 1) := by decide +kernel
theorem dL_cell_18 : decode cL_cell 18 = .ok (.ireturn, 1) := by decide +kernel
theorem dL_at_0 : decode cL_at 0 = .ok (.iload_n 0, 1) := by decide +kernel
theorem dL_at_1 : decode cL_at 1 = .ok (.iconst 1, 1) := by decide +kernel
theorem dL_at_2 : decode cL_at 2 = .ok (.iushr, 1) := by decide +kernel
theorem dL_at_3 : decode cL_at 3 = .ok (.iload_n 1, 1) := by decide +kernel
theorem dL_at_4 : decode cL_at 4 = .ok (.irem, 1) := by decide +kernel
theorem dL_at_5 : decode cL_at 5 = .ok (.ireturn, 1) := by decide +kernel
theorem dL_rank_0 : decode cL_rank 0 = .ok (.iconst 0, 1) := by decide +kernel
theorem dL_rank_1 : decode cL_rank 1 = .ok (.istore 4, 2) := by decide +kernel
theorem dL_rank_3 : decode cL_rank 3 = .ok (.iload 4, 2) := by decide +kernel
theorem dL_rank_5 : decode cL_rank 5 = .ok (.aload_n 3, 1) := by decide +kernel
theorem dL_rank_6 : decode cL_rank 6 = .ok (.iload_n 0, 1) := by decide +kernel
theorem dL_rank_7 : decode cL_rank 7 = .ok (.iaload, 1) := by decide +kernel
theorem dL_rank_8 : decode cL_rank 8 = .ok (.if_icmp .ge 24, 3) := by decide +kernel
theorem dL_rank_11 : decode cL_rank 11 = .ok (.aload_n 2, 1) := by decide +kernel
theorem dL_rank_12 : decode cL_rank 12 = .ok (.iconst 4, 1) := by decide +kernel
theorem dL_rank_13 : decode cL_rank 13 = .ok (.iload_n 0, 1) := by decide +kernel
theorem dL_rank_14 : decode cL_rank 14 = .ok (.imul, 1) := by decide +kernel
theorem dL_rank_15 : decode cL_rank 15 = .ok (.iload 4, 2) := by decide +kernel
theorem dL_rank_17 : decode cL_rank 17 = .ok (.iadd, 1) := by decide +kernel
theorem dL_rank_18 : decode cL_rank 18 = .ok (.iaload, 1) := by decide +kernel
theorem dL_rank_19 : decode cL_rank 19 = .ok (.iload_n 1, 1) := by decide +kernel
theorem dL_rank_20 : decode cL_rank 20 = .ok (.if_icmp .ne 6, 3) := by decide +kernel
theorem dL_rank_23 : decode cL_rank 23 = .ok (.iload 4, 2) := by decide +kernel
theorem dL_rank_25 : decode cL_rank 25 = .ok (.ireturn, 1) := by decide +kernel
theorem dL_rank_26 : decode cL_rank 26 = .ok (.iinc 4 1, 3) := by decide +kernel
theorem dL_rank_29 : decode cL_rank 29 = .ok (.goto (-26), 3) := by decide +kernel
theorem dL_rank_32 : decode cL_rank 32 = .ok (.iconst (-1), 1) := by decide +kernel
theorem dL_rank_33 : decode cL_rank 33 = .ok (.ireturn, 1) := by decide +kernel
theorem dL_plays_0 : decode cL_plays 0 = .ok (.iconst 0, 1) := by decide +kernel
theorem dL_plays_1 : decode cL_plays 1 = .ok (.istore 4, 2) := by decide +kernel
theorem dL_plays_3 : decode cL_plays 3 = .ok (.iload 4, 2) := by decide +kernel
theorem dL_plays_5 : decode cL_plays 5 = .ok (.aload_n 3, 1) := by decide +kernel
theorem dL_plays_6 : decode cL_plays 6 = .ok (.iconst 0, 1) := by decide +kernel
theorem dL_plays_7 : decode cL_plays 7 = .ok (.iaload, 1) := by decide +kernel
theorem dL_plays_8 : decode cL_plays 8 = .ok (.if_icmp .ge 22, 3) := by decide +kernel
theorem dL_plays_11 : decode cL_plays 11 = .ok (.aload_n 0, 1) := by decide +kernel
theorem dL_plays_12 : decode cL_plays 12 = .ok (.iload_n 1, 1) := by decide +kernel
theorem dL_plays_13 : decode cL_plays 13 = .ok (.iload 4, 2) := by decide +kernel
theorem dL_plays_15 : decode cL_plays 15 = .ok (.invokevirtual 8, 3) := by decide +kernel
theorem dL_plays_18 : decode cL_plays 18 = .ok (.iload_n 2, 1) := by decide +kernel
theorem dL_plays_19 : decode cL_plays 19 = .ok (.if_icmp .ne 5, 3) := by decide +kernel
theorem dL_plays_22 : decode cL_plays 22 = .ok (.iconst 1, 1) := by decide +kernel
theorem dL_plays_23 : decode cL_plays 23 = .ok (.ireturn, 1) := by decide +kernel
theorem dL_plays_24 : decode cL_plays 24 = .ok (.iinc 4 1, 3) := by decide +kernel
theorem dL_plays_27 : decode cL_plays 27 = .ok (.goto (-24), 3) := by decide +kernel
theorem dL_plays_30 : decode cL_plays 30 = .ok (.iconst 0, 1) := by decide +kernel
theorem dL_plays_31 : decode cL_plays 31 = .ok (.ireturn, 1) := by decide +kernel
theorem dL_good_0 : decode cL_good 0 = .ok (.aload_n 0, 1) := by decide +kernel
theorem dL_good_1 : decode cL_good 1 = .ok (.iload_n 1, 1) := by decide +kernel
theorem dL_good_2 : decode cL_good 2 = .ok (.invokevirtual 14, 3) := by decide +kernel
theorem dL_good_5 : decode cL_good 5 = .ok (.istore 5, 2) := by decide +kernel
theorem dL_good_7 : decode cL_good 7 = .ok (.iload 5, 2) := by decide +kernel
theorem dL_good_9 : decode cL_good 9 = .ok (.aload_n 0, 1) := by decide +kernel
theorem dL_good_10 : decode cL_good 10 = .ok (.iload_n 1, 1) := by decide +kernel
theorem dL_good_11 : decode cL_good 11 = .ok (.invokevirtual 18, 3) := by decide +kernel
theorem dL_good_14 : decode cL_good 14 = .ok (.if_icmp .eq 5, 3) := by decide +kernel
theorem dL_good_17 : decode cL_good 17 = .ok (.iconst 0, 1) := by decide +kernel
theorem dL_good_18 : decode cL_good 18 = .ok (.ireturn, 1) := by decide +kernel
theorem dL_good_19 : decode cL_good 19 = .ok (.iload 5, 2) := by decide +kernel
theorem dL_good_21 : decode cL_good 21 = .ok (.ifCond .ge 34, 3) := by decide +kernel
theorem dL_good_24 : decode cL_good 24 = .ok (.iload 5, 2) := by decide +kernel
theorem dL_good_26 : decode cL_good 26 = .ok (.iconst (-1), 1) := by decide +kernel
theorem dL_good_27 : decode cL_good 27 = .ok (.if_icmp .ne 26, 3) := by decide +kernel
theorem dL_good_30 : decode cL_good 30 = .ok (.aload_n 0, 1) := by decide +kernel
theorem dL_good_31 : decode cL_good 31 = .ok (.iload_n 1, 1) := by decide +kernel
theorem dL_good_32 : decode cL_good 32 = .ok (.invokevirtual 21, 3) := by decide +kernel
theorem dL_good_35 : decode cL_good 35 = .ok (.iconst (-1), 1) := by decide +kernel
theorem dL_good_36 : decode cL_good 36 = .ok (.if_icmp .ne 17, 3) := by decide +kernel
theorem dL_good_39 : decode cL_good 39 = .ok (.aload_n 0, 1) := by decide +kernel
theorem dL_good_40 : decode cL_good 40 = .ok (.iload_n 1, 1) := by decide +kernel
theorem dL_good_41 : decode cL_good 41 = .ok (.iconst 0, 1) := by decide +kernel
theorem dL_good_42 : decode cL_good 42 = .ok (.invokevirtual 8, 3) := by decide +kernel
theorem dL_good_45 : decode cL_good 45 = .ok (.iconst (-1), 1) := by decide +kernel
theorem dL_good_46 : decode cL_good 46 = .ok (.if_icmp .ne 7, 3) := by decide +kernel
theorem dL_good_49 : decode cL_good 49 = .ok (.iconst 1, 1) := by decide +kernel
theorem dL_good_50 : decode cL_good 50 = .ok (.goto 4, 3) := by decide +kernel
theorem dL_good_53 : decode cL_good 53 = .ok (.iconst 0, 1) := by decide +kernel
theorem dL_good_54 : decode cL_good 54 = .ok (.ireturn, 1) := by decide +kernel
theorem dL_good_55 : decode cL_good 55 = .ok (.iconst 0, 1) := by decide +kernel
theorem dL_good_56 : decode cL_good 56 = .ok (.istore 6, 2) := by decide +kernel
theorem dL_good_58 : decode cL_good 58 = .ok (.iconst 0, 1) := by decide +kernel
theorem dL_good_59 : decode cL_good 59 = .ok (.istore 7, 2) := by decide +kernel
theorem dL_good_61 : decode cL_good 61 = .ok (.iconst 0, 1) := by decide +kernel
theorem dL_good_62 : decode cL_good 62 = .ok (.istore 8, 2) := by decide +kernel
theorem dL_good_64 : decode cL_good 64 = .ok (.iload 8, 2) := by decide +kernel
theorem dL_good_66 : decode cL_good 66 = .ok (.aload 4, 2) := by decide +kernel
theorem dL_good_68 : decode cL_good 68 = .ok (.iconst 0, 1) := by decide +kernel
theorem dL_good_69 : decode cL_good 69 = .ok (.iaload, 1) := by decide +kernel
theorem dL_good_70 : decode cL_good 70 = .ok (.if_icmp .ge 71, 3) := by decide +kernel
theorem dL_good_73 : decode cL_good 73 = .ok (.aload_n 0, 1) := by decide +kernel
theorem dL_good_74 : decode cL_good 74 = .ok (.iload_n 1, 1) := by decide +kernel
theorem dL_good_75 : decode cL_good 75 = .ok (.iload 8, 2) := by decide +kernel
theorem dL_good_77 : decode cL_good 77 = .ok (.invokevirtual 8, 3) := by decide +kernel
theorem dL_good_80 : decode cL_good 80 = .ok (.istore 9, 2) := by decide +kernel
theorem dL_good_82 : decode cL_good 82 = .ok (.iload 9, 2) := by decide +kernel
theorem dL_good_84 : decode cL_good 84 = .ok (.ifCond .lt 26, 3) := by decide +kernel
theorem dL_good_87 : decode cL_good 87 = .ok (.aload_n 0, 1) := by decide +kernel
theorem dL_good_88 : decode cL_good 88 = .ok (.iload 9, 2) := by decide +kernel
theorem dL_good_90 : decode cL_good 90 = .ok (.iload 8, 2) := by decide +kernel
theorem dL_good_92 : decode cL_good 92 = .ok (.iload_n 1, 1) := by decide +kernel
theorem dL_good_93 : decode cL_good 93 = .ok (.invokevirtual 24, 3) := by decide +kernel
theorem dL_good_96 : decode cL_good 96 = .ok (.ifCond .eq 14, 3) := by decide +kernel
theorem dL_good_99 : decode cL_good 99 = .ok (.iload 7, 2) := by decide +kernel
theorem dL_good_101 : decode cL_good 101 = .ok (.iload 9, 2) := by decide +kernel
theorem dL_good_103 : decode cL_good 103 = .ok (.ishr, 1) := by decide +kernel
theorem dL_good_104 : decode cL_good 104 = .ok (.iconst 1, 1) := by decide +kernel
theorem dL_good_105 : decode cL_good 105 = .ok (.iand, 1) := by decide +kernel
theorem dL_good_106 : decode cL_good 106 = .ok (.iconst 1, 1) := by decide +kernel
theorem dL_good_107 : decode cL_good 107 = .ok (.if_icmp .ne 5, 3) := by decide +kernel
theorem dL_good_110 : decode cL_good 110 = .ok (.iconst 0, 1) := by decide +kernel
theorem dL_good_111 : decode cL_good 111 = .ok (.ireturn, 1) := by decide +kernel
theorem dL_good_112 : decode cL_good 112 = .ok (.iload 7, 2) := by decide +kernel
theorem dL_good_114 : decode cL_good 114 = .ok (.iconst 1, 1) := by decide +kernel
theorem dL_good_115 : decode cL_good 115 = .ok (.iload 9, 2) := by decide +kernel
theorem dL_good_117 : decode cL_good 117 = .ok (.ishl, 1) := by decide +kernel
theorem dL_good_118 : decode cL_good 118 = .ok (.ior, 1) := by decide +kernel
theorem dL_good_119 : decode cL_good 119 = .ok (.istore 7, 2) := by decide +kernel
theorem dL_good_121 : decode cL_good 121 = .ok (.iload 6, 2) := by decide +kernel
theorem dL_good_123 : decode cL_good 123 = .ok (.iload 8, 2) := by decide +kernel
theorem dL_good_125 : decode cL_good 125 = .ok (.iload 9, 2) := by decide +kernel
theorem dL_good_127 : decode cL_good 127 = .ok (.aload_n 2, 1) := by decide +kernel
theorem dL_good_128 : decode cL_good 128 = .ok (.aload_n 3, 1) := by decide +kernel
theorem dL_good_129 : decode cL_good 129 = .ok (.invokestatic 28, 3) := by decide +kernel
theorem dL_good_132 : decode cL_good 132 = .ok (.iadd, 1) := by decide +kernel
theorem dL_good_133 : decode cL_good 133 = .ok (.istore 6, 2) := by decide +kernel
theorem dL_good_135 : decode cL_good 135 = .ok (.iinc 8 1, 3) := by decide +kernel
theorem dL_good_138 : decode cL_good 138 = .ok (.goto (-74), 3) := by decide +kernel
theorem dL_good_141 : decode cL_good 141 = .ok (.iconst 0, 1) := by decide +kernel
theorem dL_good_142 : decode cL_good 142 = .ok (.istore 8, 2) := by decide +kernel
theorem dL_good_144 : decode cL_good 144 = .ok (.iload 8, 2) := by decide +kernel
theorem dL_good_146 : decode cL_good 146 = .ok (.aload 4, 2) := by decide +kernel
theorem dL_good_148 : decode cL_good 148 = .ok (.iconst 0, 1) := by decide +kernel
theorem dL_good_149 : decode cL_good 149 = .ok (.iaload, 1) := by decide +kernel
theorem dL_good_150 : decode cL_good 150 = .ok (.if_icmp .ge 79, 3) := by decide +kernel
theorem dL_good_153 : decode cL_good 153 = .ok (.iload 8, 2) := by decide +kernel
theorem dL_good_155 : decode cL_good 155 = .ok (.aload_n 0, 1) := by decide +kernel
theorem dL_good_156 : decode cL_good 156 = .ok (.iload_n 1, 1) := by decide +kernel
theorem dL_good_157 : decode cL_good 157 = .ok (.iload 8, 2) := by decide +kernel
theorem dL_good_159 : decode cL_good 159 = .ok (.invokevirtual 8, 3) := by decide +kernel
theorem dL_good_162 : decode cL_good 162 = .ok (.aload_n 2, 1) := by decide +kernel
theorem dL_good_163 : decode cL_good 163 = .ok (.aload_n 3, 1) := by decide +kernel
theorem dL_good_164 : decode cL_good 164 = .ok (.invokestatic 28, 3) := by decide +kernel
theorem dL_good_167 : decode cL_good 167 = .ok (.istore 9, 2) := by decide +kernel
theorem dL_good_169 : decode cL_good 169 = .ok (.iconst 0, 1) := by decide +kernel
theorem dL_good_170 : decode cL_good 170 = .ok (.istore 10, 2) := by decide +kernel
theorem dL_good_172 : decode cL_good 172 = .ok (.iload 10, 2) := by decide +kernel
theorem dL_good_174 : decode cL_good 174 = .ok (.iload 9, 2) := by decide +kernel
theorem dL_good_176 : decode cL_good 176 = .ok (.if_icmp .ge 47, 3) := by decide +kernel
theorem dL_good_179 : decode cL_good 179 = .ok (.aload_n 0, 1) := by decide +kernel
theorem dL_good_180 : decode cL_good 180 = .ok (.aload_n 2, 1) := by decide +kernel
theorem dL_good_181 : decode cL_good 181 = .ok (.iconst 4, 1) := by decide +kernel
theorem dL_good_182 : decode cL_good 182 = .ok (.iload 8, 2) := by decide +kernel
theorem dL_good_184 : decode cL_good 184 = .ok (.imul, 1) := by decide +kernel
theorem dL_good_185 : decode cL_good 185 = .ok (.iload 10, 2) := by decide +kernel
theorem dL_good_187 : decode cL_good 187 = .ok (.iadd, 1) := by decide +kernel
theorem dL_good_188 : decode cL_good 188 = .ok (.iaload, 1) := by decide +kernel
theorem dL_good_189 : decode cL_good 189 = .ok (.iload 8, 2) := by decide +kernel
theorem dL_good_191 : decode cL_good 191 = .ok (.iload_n 1, 1) := by decide +kernel
theorem dL_good_192 : decode cL_good 192 = .ok (.invokevirtual 24, 3) := by decide +kernel
theorem dL_good_195 : decode cL_good 195 = .ok (.ifCond .eq 22, 3) := by decide +kernel
theorem dL_good_198 : decode cL_good 198 = .ok (.iload 7, 2) := by decide +kernel
theorem dL_good_200 : decode cL_good 200 = .ok (.aload_n 2, 1) := by decide +kernel
theorem dL_good_201 : decode cL_good 201 = .ok (.iconst 4, 1) := by decide +kernel
theorem dL_good_202 : decode cL_good 202 = .ok (.iload 8, 2) := by decide +kernel
theorem dL_good_204 : decode cL_good 204 = .ok (.imul, 1) := by decide +kernel
theorem dL_good_205 : decode cL_good 205 = .ok (.iload 10, 2) := by decide +kernel
theorem dL_good_207 : decode cL_good 207 = .ok (.iadd, 1) := by decide +kernel
theorem dL_good_208 : decode cL_good 208 = .ok (.iaload, 1) := by decide +kernel
theorem dL_good_209 : decode cL_good 209 = .ok (.ishr, 1) := by decide +kernel
theorem dL_good_210 : decode cL_good 210 = .ok (.iconst 1, 1) := by decide +kernel
theorem dL_good_211 : decode cL_good 211 = .ok (.iand, 1) := by decide +kernel
theorem dL_good_212 : decode cL_good 212 = .ok (.ifCond .ne 5, 3) := by decide +kernel
theorem dL_good_215 : decode cL_good 215 = .ok (.iconst 0, 1) := by decide +kernel
theorem dL_good_216 : decode cL_good 216 = .ok (.ireturn, 1) := by decide +kernel
theorem dL_good_217 : decode cL_good 217 = .ok (.iinc 10 1, 3) := by decide +kernel
theorem dL_good_220 : decode cL_good 220 = .ok (.goto (-48), 3) := by decide +kernel
theorem dL_good_223 : decode cL_good 223 = .ok (.iinc 8 1, 3) := by decide +kernel
theorem dL_good_226 : decode cL_good 226 = .ok (.goto (-82), 3) := by decide +kernel
theorem dL_good_229 : decode cL_good 229 = .ok (.iload 6, 2) := by decide +kernel
theorem dL_good_231 : decode cL_good 231 = .ok (.iload 5, 2) := by decide +kernel
theorem dL_good_233 : decode cL_good 233 = .ok (.if_icmp .ne 47, 3) := by decide +kernel
theorem dL_good_236 : decode cL_good 236 = .ok (.aload_n 0, 1) := by decide +kernel
theorem dL_good_237 : decode cL_good 237 = .ok (.iload_n 1, 1) := by decide +kernel
theorem dL_good_238 : decode cL_good 238 = .ok (.invokevirtual 21, 3) := by decide +kernel
theorem dL_good_241 : decode cL_good 241 = .ok (.ifCond .lt 39, 3) := by decide +kernel
theorem dL_good_244 : decode cL_good 244 = .ok (.aload_n 0, 1) := by decide +kernel
theorem dL_good_245 : decode cL_good 245 = .ok (.iload_n 1, 1) := by decide +kernel
theorem dL_good_246 : decode cL_good 246 = .ok (.invokevirtual 21, 3) := by decide +kernel
theorem dL_good_249 : decode cL_good 249 = .ok (.aload 4, 2) := by decide +kernel
theorem dL_good_251 : decode cL_good 251 = .ok (.iconst 0, 1) := by decide +kernel
theorem dL_good_252 : decode cL_good 252 = .ok (.iaload, 1) := by decide +kernel
theorem dL_good_253 : decode cL_good 253 = .ok (.if_icmp .gt 27, 3) := by decide +kernel
theorem dL_good_256 : decode cL_good 256 = .ok (.aload 4, 2) := by decide +kernel
theorem dL_good_258 : decode cL_good 258 = .ok (.iconst 0, 1) := by decide +kernel
theorem dL_good_259 : decode cL_good 259 = .ok (.iaload, 1) := by decide +kernel
theorem dL_good_260 : decode cL_good 260 = .ok (.bipush 8, 2) := by decide +kernel
theorem dL_good_262 : decode cL_good 262 = .ok (.if_icmp .eq 14, 3) := by decide +kernel
theorem dL_good_265 : decode cL_good 265 = .ok (.aload_n 0, 1) := by decide +kernel
theorem dL_good_266 : decode cL_good 266 = .ok (.iload_n 1, 1) := by decide +kernel
theorem dL_good_267 : decode cL_good 267 = .ok (.bipush 7, 2) := by decide +kernel
theorem dL_good_269 : decode cL_good 269 = .ok (.invokevirtual 8, 3) := by decide +kernel
theorem dL_good_272 : decode cL_good 272 = .ok (.iconst (-1), 1) := by decide +kernel
theorem dL_good_273 : decode cL_good 273 = .ok (.if_icmp .ne 7, 3) := by decide +kernel
theorem dL_good_276 : decode cL_good 276 = .ok (.iconst 1, 1) := by decide +kernel
theorem dL_good_277 : decode cL_good 277 = .ok (.goto 4, 3) := by decide +kernel
theorem dL_good_280 : decode cL_good 280 = .ok (.iconst 0, 1) := by decide +kernel
theorem dL_good_281 : decode cL_good 281 = .ok (.ireturn, 1) := by decide +kernel
theorem dL_chained_0 : decode cL_chained 0 = .ok (.aload_n 0, 1) := by decide +kernel
theorem dL_chained_1 : decode cL_chained 1 = .ok (.iload_n 2, 1) := by decide +kernel
theorem dL_chained_2 : decode cL_chained 2 = .ok (.iload_n 1, 1) := by decide +kernel
theorem dL_chained_3 : decode cL_chained 3 = .ok (.invokevirtual 34, 3) := by decide +kernel
theorem dL_chained_6 : decode cL_chained 6 = .ok (.istore 4, 2) := by decide +kernel
theorem dL_chained_8 : decode cL_chained 8 = .ok (.aload_n 0, 1) := by decide +kernel
theorem dL_chained_9 : decode cL_chained 9 = .ok (.iload_n 1, 1) := by decide +kernel
theorem dL_chained_10 : decode cL_chained 10 = .ok (.invokevirtual 14, 3) := by decide +kernel
theorem dL_chained_13 : decode cL_chained 13 = .ok (.ifCond .lt 7, 3) := by decide +kernel
theorem dL_chained_16 : decode cL_chained 16 = .ok (.iconst 1, 1) := by decide +kernel
theorem dL_chained_17 : decode cL_chained 17 = .ok (.goto 4, 3) := by decide +kernel
theorem dL_chained_20 : decode cL_chained 20 = .ok (.iconst 0, 1) := by decide +kernel
theorem dL_chained_21 : decode cL_chained 21 = .ok (.istore 5, 2) := by decide +kernel
theorem dL_chained_23 : decode cL_chained 23 = .ok (.iload 5, 2) := by decide +kernel
theorem dL_chained_25 : decode cL_chained 25 = .ok (.ifCond .ne 15, 3) := by decide +kernel
theorem dL_chained_28 : decode cL_chained 28 = .ok (.iload 4, 2) := by decide +kernel
theorem dL_chained_30 : decode cL_chained 30 = .ok (.iconst (-1), 1) := by decide +kernel
theorem dL_chained_31 : decode cL_chained 31 = .ok (.if_icmp .ne 7, 3) := by decide +kernel
theorem dL_chained_34 : decode cL_chained 34 = .ok (.iconst 1, 1) := by decide +kernel
theorem dL_chained_35 : decode cL_chained 35 = .ok (.goto 4, 3) := by decide +kernel
theorem dL_chained_38 : decode cL_chained 38 = .ok (.iconst 0, 1) := by decide +kernel
theorem dL_chained_39 : decode cL_chained 39 = .ok (.ireturn, 1) := by decide +kernel
theorem dL_chained_40 : decode cL_chained 40 = .ok (.aload_n 0, 1) := by decide +kernel
theorem dL_chained_41 : decode cL_chained 41 = .ok (.iload_n 1, 1) := by decide +kernel
theorem dL_chained_42 : decode cL_chained 42 = .ok (.iload_n 2, 1) := by decide +kernel
theorem dL_chained_43 : decode cL_chained 43 = .ok (.aload_n 3, 1) := by decide +kernel
theorem dL_chained_44 : decode cL_chained 44 = .ok (.invokestatic 37, 3) := by decide +kernel
theorem dL_chained_47 : decode cL_chained 47 = .ok (.ifCond .ne 14, 3) := by decide +kernel
theorem dL_chained_50 : decode cL_chained 50 = .ok (.iload 4, 2) := by decide +kernel
theorem dL_chained_52 : decode cL_chained 52 = .ok (.ifCond .ne 7, 3) := by decide +kernel
theorem dL_chained_55 : decode cL_chained 55 = .ok (.iconst 1, 1) := by decide +kernel
theorem dL_chained_56 : decode cL_chained 56 = .ok (.goto 4, 3) := by decide +kernel
theorem dL_chained_59 : decode cL_chained 59 = .ok (.iconst 0, 1) := by decide +kernel
theorem dL_chained_60 : decode cL_chained 60 = .ok (.ireturn, 1) := by decide +kernel
theorem dL_chained_61 : decode cL_chained 61 = .ok (.iload 4, 2) := by decide +kernel
theorem dL_chained_63 : decode cL_chained 63 = .ok (.iconst (-1), 1) := by decide +kernel
theorem dL_chained_64 : decode cL_chained 64 = .ok (.if_icmp .eq 17, 3) := by decide +kernel
theorem dL_chained_67 : decode cL_chained 67 = .ok (.iload 4, 2) := by decide +kernel
theorem dL_chained_69 : decode cL_chained 69 = .ok (.iconst 1, 1) := by decide +kernel
theorem dL_chained_70 : decode cL_chained 70 = .ok (.if_icmp .lt 15, 3) := by decide +kernel
theorem dL_chained_73 : decode cL_chained 73 = .ok (.iload 4, 2) := by decide +kernel
theorem dL_chained_75 : decode cL_chained 75 = .ok (.aload_n 3, 1) := by decide +kernel
theorem dL_chained_76 : decode cL_chained 76 = .ok (.iconst 0, 1) := by decide +kernel
theorem dL_chained_77 : decode cL_chained 77 = .ok (.iaload, 1) := by decide +kernel
theorem dL_chained_78 : decode cL_chained 78 = .ok (.if_icmp .gt 7, 3) := by decide +kernel
theorem dL_chained_81 : decode cL_chained 81 = .ok (.iconst 1, 1) := by decide +kernel
theorem dL_chained_82 : decode cL_chained 82 = .ok (.goto 4, 3) := by decide +kernel
theorem dL_chained_85 : decode cL_chained 85 = .ok (.iconst 0, 1) := by decide +kernel
theorem dL_chained_86 : decode cL_chained 86 = .ok (.ireturn, 1) := by decide +kernel
theorem dL_cold_0 : decode cL_cold 0 = .ok (.aload_n 0, 1) := by decide +kernel
theorem dL_cold_1 : decode cL_cold 1 = .ok (.iload_n 2, 1) := by decide +kernel
theorem dL_cold_2 : decode cL_cold 2 = .ok (.iload_n 1, 1) := by decide +kernel
theorem dL_cold_3 : decode cL_cold 3 = .ok (.invokevirtual 34, 3) := by decide +kernel
theorem dL_cold_6 : decode cL_cold 6 = .ok (.istore 5, 2) := by decide +kernel
theorem dL_cold_8 : decode cL_cold 8 = .ok (.aload_n 0, 1) := by decide +kernel
theorem dL_cold_9 : decode cL_cold 9 = .ok (.iload_n 1, 1) := by decide +kernel
theorem dL_cold_10 : decode cL_cold 10 = .ok (.invokevirtual 14, 3) := by decide +kernel
theorem dL_cold_13 : decode cL_cold 13 = .ok (.istore 6, 2) := by decide +kernel
theorem dL_cold_15 : decode cL_cold 15 = .ok (.iconst 0, 1) := by decide +kernel
theorem dL_cold_16 : decode cL_cold 16 = .ok (.istore 7, 2) := by decide +kernel
theorem dL_cold_18 : decode cL_cold 18 = .ok (.iload 7, 2) := by decide +kernel
theorem dL_cold_20 : decode cL_cold 20 = .ok (.bipush 8, 2) := by decide +kernel
theorem dL_cold_22 : decode cL_cold 22 = .ok (.if_icmp .ge 21, 3) := by decide +kernel
theorem dL_cold_25 : decode cL_cold 25 = .ok (.aload 4, 2) := by decide +kernel
theorem dL_cold_27 : decode cL_cold 27 = .ok (.iload 7, 2) := by decide +kernel
theorem dL_cold_29 : decode cL_cold 29 = .ok (.aload_n 0, 1) := by decide +kernel
theorem dL_cold_30 : decode cL_cold 30 = .ok (.iload_n 1, 1) := by decide +kernel
theorem dL_cold_31 : decode cL_cold 31 = .ok (.iload 7, 2) := by decide +kernel
theorem dL_cold_33 : decode cL_cold 33 = .ok (.invokevirtual 8, 3) := by decide +kernel
theorem dL_cold_36 : decode cL_cold 36 = .ok (.iastore, 1) := by decide +kernel
theorem dL_cold_37 : decode cL_cold 37 = .ok (.iinc 7 1, 3) := by decide +kernel
theorem dL_cold_40 : decode cL_cold 40 = .ok (.goto (-22), 3) := by decide +kernel
theorem dL_cold_43 : decode cL_cold 43 = .ok (.aload_n 0, 1) := by decide +kernel
theorem dL_cold_44 : decode cL_cold 44 = .ok (.iload_n 2, 1) := by decide +kernel
theorem dL_cold_45 : decode cL_cold 45 = .ok (.iload_n 1, 1) := by decide +kernel
theorem dL_cold_46 : decode cL_cold 46 = .ok (.invokevirtual 41, 3) := by decide +kernel
theorem dL_cold_49 : decode cL_cold 49 = .ok (.istore 7, 2) := by decide +kernel
theorem dL_cold_51 : decode cL_cold 51 = .ok (.aload_n 0, 1) := by decide +kernel
theorem dL_cold_52 : decode cL_cold 52 = .ok (.iload_n 2, 1) := by decide +kernel
theorem dL_cold_53 : decode cL_cold 53 = .ok (.iload_n 1, 1) := by decide +kernel
theorem dL_cold_54 : decode cL_cold 54 = .ok (.iload_n 1, 1) := by decide +kernel
theorem dL_cold_55 : decode cL_cold 55 = .ok (.invokevirtual 45, 3) := by decide +kernel
theorem dL_cold_58 : decode cL_cold 58 = .ok (.iload 7, 2) := by decide +kernel
theorem dL_cold_60 : decode cL_cold 60 = .ok (.ifCond .eq 7, 3) := by decide +kernel
theorem dL_cold_63 : decode cL_cold 63 = .ok (.iconst 0, 1) := by decide +kernel
theorem dL_cold_64 : decode cL_cold 64 = .ok (.goto 4, 3) := by decide +kernel
theorem dL_cold_67 : decode cL_cold 67 = .ok (.iconst 1, 1) := by decide +kernel
theorem dL_cold_68 : decode cL_cold 68 = .ok (.if_icmp .ne 12, 3) := by decide +kernel
theorem dL_cold_71 : decode cL_cold 71 = .ok (.aload_n 0, 1) := by decide +kernel
theorem dL_cold_72 : decode cL_cold 72 = .ok (.iload_n 2, 1) := by decide +kernel
theorem dL_cold_73 : decode cL_cold 73 = .ok (.iload_n 1, 1) := by decide +kernel
theorem dL_cold_74 : decode cL_cold 74 = .ok (.invokevirtual 41, 3) := by decide +kernel
theorem dL_cold_77 : decode cL_cold 77 = .ok (.ifCond .ne 5, 3) := by decide +kernel
theorem dL_cold_80 : decode cL_cold 80 = .ok (.iconst 0, 1) := by decide +kernel
theorem dL_cold_81 : decode cL_cold 81 = .ok (.ireturn, 1) := by decide +kernel
theorem dL_cold_82 : decode cL_cold 82 = .ok (.iload 5, 2) := by decide +kernel
theorem dL_cold_84 : decode cL_cold 84 = .ok (.iconst (-1), 1) := by decide +kernel
theorem dL_cold_85 : decode cL_cold 85 = .ok (.if_icmp .ne 23, 3) := by decide +kernel
theorem dL_cold_88 : decode cL_cold 88 = .ok (.iload 6, 2) := by decide +kernel
theorem dL_cold_90 : decode cL_cold 90 = .ok (.ifCond .lt 12, 3) := by decide +kernel
theorem dL_cold_93 : decode cL_cold 93 = .ok (.aload_n 0, 1) := by decide +kernel
theorem dL_cold_94 : decode cL_cold 94 = .ok (.iload_n 1, 1) := by decide +kernel
theorem dL_cold_95 : decode cL_cold 95 = .ok (.invokevirtual 14, 3) := by decide +kernel
theorem dL_cold_98 : decode cL_cold 98 = .ok (.iconst (-1), 1) := by decide +kernel
theorem dL_cold_99 : decode cL_cold 99 = .ok (.if_icmp .ne 7, 3) := by decide +kernel
theorem dL_cold_102 : decode cL_cold 102 = .ok (.iconst 1, 1) := by decide +kernel
theorem dL_cold_103 : decode cL_cold 103 = .ok (.goto 4, 3) := by decide +kernel
theorem dL_cold_106 : decode cL_cold 106 = .ok (.iconst 0, 1) := by decide +kernel
theorem dL_cold_107 : decode cL_cold 107 = .ok (.ireturn, 1) := by decide +kernel
theorem dL_cold_108 : decode cL_cold 108 = .ok (.iconst 0, 1) := by decide +kernel
theorem dL_cold_109 : decode cL_cold 109 = .ok (.istore 8, 2) := by decide +kernel
theorem dL_cold_111 : decode cL_cold 111 = .ok (.iconst 0, 1) := by decide +kernel
theorem dL_cold_112 : decode cL_cold 112 = .ok (.istore 9, 2) := by decide +kernel
theorem dL_cold_114 : decode cL_cold 114 = .ok (.iload 9, 2) := by decide +kernel
theorem dL_cold_116 : decode cL_cold 116 = .ok (.aload_n 3, 1) := by decide +kernel
theorem dL_cold_117 : decode cL_cold 117 = .ok (.iconst 0, 1) := by decide +kernel
theorem dL_cold_118 : decode cL_cold 118 = .ok (.iaload, 1) := by decide +kernel
theorem dL_cold_119 : decode cL_cold 119 = .ok (.if_icmp .ge 34, 3) := by decide +kernel
theorem dL_cold_122 : decode cL_cold 122 = .ok (.iload 8, 2) := by decide +kernel
theorem dL_cold_124 : decode cL_cold 124 = .ok (.aload_n 0, 1) := by decide +kernel
theorem dL_cold_125 : decode cL_cold 125 = .ok (.iload_n 1, 1) := by decide +kernel
theorem dL_cold_126 : decode cL_cold 126 = .ok (.iload 9, 2) := by decide +kernel
theorem dL_cold_128 : decode cL_cold 128 = .ok (.invokevirtual 8, 3) := by decide +kernel
theorem dL_cold_131 : decode cL_cold 131 = .ok (.aload 4, 2) := by decide +kernel
theorem dL_cold_133 : decode cL_cold 133 = .ok (.iload 9, 2) := by decide +kernel
theorem dL_cold_135 : decode cL_cold 135 = .ok (.iaload, 1) := by decide +kernel
theorem dL_cold_136 : decode cL_cold 136 = .ok (.if_icmp .ne 7, 3) := by decide +kernel
theorem dL_cold_139 : decode cL_cold 139 = .ok (.iconst 0, 1) := by decide +kernel
theorem dL_cold_140 : decode cL_cold 140 = .ok (.goto 4, 3) := by decide +kernel
theorem dL_cold_143 : decode cL_cold 143 = .ok (.iconst 1, 1) := by decide +kernel
theorem dL_cold_144 : decode cL_cold 144 = .ok (.iadd, 1) := by decide +kernel
theorem dL_cold_145 : decode cL_cold 145 = .ok (.istore 8, 2) := by decide +kernel
theorem dL_cold_147 : decode cL_cold 147 = .ok (.iinc 9 1, 3) := by decide +kernel
theorem dL_cold_150 : decode cL_cold 150 = .ok (.goto (-36), 3) := by decide +kernel
theorem dL_cold_153 : decode cL_cold 153 = .ok (.iload 8, 2) := by decide +kernel
theorem dL_cold_155 : decode cL_cold 155 = .ok (.iload 5, 2) := by decide +kernel
theorem dL_cold_157 : decode cL_cold 157 = .ok (.if_icmp .ne 27, 3) := by decide +kernel
theorem dL_cold_160 : decode cL_cold 160 = .ok (.aload_n 0, 1) := by decide +kernel
theorem dL_cold_161 : decode cL_cold 161 = .ok (.iload_n 1, 1) := by decide +kernel
theorem dL_cold_162 : decode cL_cold 162 = .ok (.invokevirtual 14, 3) := by decide +kernel
theorem dL_cold_165 : decode cL_cold 165 = .ok (.iload 6, 2) := by decide +kernel
theorem dL_cold_167 : decode cL_cold 167 = .ok (.if_icmp .lt 17, 3) := by decide +kernel
theorem dL_cold_170 : decode cL_cold 170 = .ok (.aload_n 0, 1) := by decide +kernel
theorem dL_cold_171 : decode cL_cold 171 = .ok (.iload_n 1, 1) := by decide +kernel
theorem dL_cold_172 : decode cL_cold 172 = .ok (.iload_n 2, 1) := by decide +kernel
theorem dL_cold_173 : decode cL_cold 173 = .ok (.aload_n 3, 1) := by decide +kernel
theorem dL_cold_174 : decode cL_cold 174 = .ok (.invokestatic 37, 3) := by decide +kernel
theorem dL_cold_177 : decode cL_cold 177 = .ok (.ifCond .ne 7, 3) := by decide +kernel
theorem dL_cold_180 : decode cL_cold 180 = .ok (.iconst 1, 1) := by decide +kernel
theorem dL_cold_181 : decode cL_cold 181 = .ok (.goto 4, 3) := by decide +kernel
theorem dL_cold_184 : decode cL_cold 184 = .ok (.iconst 0, 1) := by decide +kernel
theorem dL_cold_185 : decode cL_cold 185 = .ok (.ireturn, 1) := by decide +kernel
theorem dL_act_0 : decode cL_act 0 = .ok (.iload_n 1, 1) := by decide +kernel
theorem dL_act_1 : decode cL_act 1 = .ok (.bipush 12, 2) := by decide +kernel
theorem dL_act_3 : decode cL_act 3 = .ok (.invokestatic 49, 3) := by decide +kernel
theorem dL_act_6 : decode cL_act 6 = .ok (.istore 8, 2) := by decide +kernel
theorem dL_act_8 : decode cL_act 8 = .ok (.iload_n 2, 1) := by decide +kernel
theorem dL_act_9 : decode cL_act 9 = .ok (.bipush 12, 2) := by decide +kernel
theorem dL_act_11 : decode cL_act 11 = .ok (.invokestatic 49, 3) := by decide +kernel
theorem dL_act_14 : decode cL_act 14 = .ok (.istore 9, 2) := by decide +kernel
theorem dL_act_16 : decode cL_act 16 = .ok (.iload_n 2, 1) := by decide +kernel
theorem dL_act_17 : decode cL_act 17 = .ok (.iconst 5, 1) := by decide +kernel
theorem dL_act_18 : decode cL_act 18 = .ok (.ishr, 1) := by decide +kernel
theorem dL_act_19 : decode cL_act 19 = .ok (.aload 6, 2) := by decide +kernel
theorem dL_act_21 : decode cL_act 21 = .ok (.iconst 0, 1) := by decide +kernel
theorem dL_act_22 : decode cL_act 22 = .ok (.iaload, 1) := by decide +kernel
theorem dL_act_23 : decode cL_act 23 = .ok (.invokestatic 49, 3) := by decide +kernel
theorem dL_act_26 : decode cL_act 26 = .ok (.istore 10, 2) := by decide +kernel
theorem dL_act_28 : decode cL_act 28 = .ok (.iload 8, 2) := by decide +kernel
theorem dL_act_30 : decode cL_act 30 = .ok (.iconst 3, 1) := by decide +kernel
theorem dL_act_31 : decode cL_act 31 = .ok (.if_icmp .ge 74, 3) := by decide +kernel
theorem dL_act_34 : decode cL_act 34 = .ok (.iload 10, 2) := by decide +kernel
theorem dL_act_36 : decode cL_act 36 = .ok (.iload 9, 2) := by decide +kernel
theorem dL_act_38 : decode cL_act 38 = .ok (.aload_n 3, 1) := by decide +kernel
theorem dL_act_39 : decode cL_act 39 = .ok (.aload 4, 2) := by decide +kernel
theorem dL_act_41 : decode cL_act 41 = .ok (.invokestatic 28, 3) := by decide +kernel
theorem dL_act_44 : decode cL_act 44 = .ok (.ifCond .ge 12, 3) := by decide +kernel
theorem dL_act_47 : decode cL_act 47 = .ok (.aload 4, 2) := by decide +kernel
theorem dL_act_49 : decode cL_act 49 = .ok (.iload 10, 2) := by decide +kernel
theorem dL_act_51 : decode cL_act 51 = .ok (.iaload, 1) := by decide +kernel
theorem dL_act_52 : decode cL_act 52 = .ok (.iconst 4, 1) := by decide +kernel
theorem dL_act_53 : decode cL_act 53 = .ok (.if_icmp .ne 5, 3) := by decide +kernel
theorem dL_act_56 : decode cL_act 56 = .ok (.iconst 1, 1) := by decide +kernel
theorem dL_act_57 : decode cL_act 57 = .ok (.ireturn, 1) := by decide +kernel
theorem dL_act_58 : decode cL_act 58 = .ok (.aload_n 3, 1) := by decide +kernel
theorem dL_act_59 : decode cL_act 59 = .ok (.iconst 4, 1) := by decide +kernel
theorem dL_act_60 : decode cL_act 60 = .ok (.iload 10, 2) := by decide +kernel
theorem dL_act_62 : decode cL_act 62 = .ok (.imul, 1) := by decide +kernel
theorem dL_act_63 : decode cL_act 63 = .ok (.aload 4, 2) := by decide +kernel
theorem dL_act_65 : decode cL_act 65 = .ok (.iload 10, 2) := by decide +kernel
theorem dL_act_67 : decode cL_act 67 = .ok (.iaload, 1) := by decide +kernel
theorem dL_act_68 : decode cL_act 68 = .ok (.iadd, 1) := by decide +kernel
theorem dL_act_69 : decode cL_act 69 = .ok (.iload 9, 2) := by decide +kernel
theorem dL_act_71 : decode cL_act 71 = .ok (.iastore, 1) := by decide +kernel
theorem dL_act_72 : decode cL_act 72 = .ok (.aload 4, 2) := by decide +kernel
theorem dL_act_74 : decode cL_act 74 = .ok (.iload 10, 2) := by decide +kernel
theorem dL_act_76 : decode cL_act 76 = .ok (.dup2, 1) := by decide +kernel
theorem dL_act_77 : decode cL_act 77 = .ok (.iaload, 1) := by decide +kernel
theorem dL_act_78 : decode cL_act 78 = .ok (.iconst 1, 1) := by decide +kernel
theorem dL_act_79 : decode cL_act 79 = .ok (.iadd, 1) := by decide +kernel
theorem dL_act_80 : decode cL_act 80 = .ok (.iastore, 1) := by decide +kernel
theorem dL_act_81 : decode cL_act 81 = .ok (.aload_n 0, 1) := by decide +kernel
theorem dL_act_82 : decode cL_act 82 = .ok (.iload 10, 2) := by decide +kernel
theorem dL_act_84 : decode cL_act 84 = .ok (.iload 9, 2) := by decide +kernel
theorem dL_act_86 : decode cL_act 86 = .ok (.invokevirtual 52, 3) := by decide +kernel
theorem dL_act_89 : decode cL_act 89 = .ok (.aload 4, 2) := by decide +kernel
theorem dL_act_91 : decode cL_act 91 = .ok (.iload 10, 2) := by decide +kernel
theorem dL_act_93 : decode cL_act 93 = .ok (.iaload, 1) := by decide +kernel
theorem dL_act_94 : decode cL_act 94 = .ok (.iconst 1, 1) := by decide +kernel
theorem dL_act_95 : decode cL_act 95 = .ok (.isub, 1) := by decide +kernel
theorem dL_act_96 : decode cL_act 96 = .ok (.if_icmp .ne 7, 3) := by decide +kernel
theorem dL_act_99 : decode cL_act 99 = .ok (.iconst 1, 1) := by decide +kernel
theorem dL_act_100 : decode cL_act 100 = .ok (.goto 4, 3) := by decide +kernel
theorem dL_act_103 : decode cL_act 103 = .ok (.iconst 0, 1) := by decide +kernel
theorem dL_act_104 : decode cL_act 104 = .ok (.ireturn, 1) := by decide +kernel
theorem dL_act_105 : decode cL_act 105 = .ok (.iload 8, 2) := by decide +kernel
theorem dL_act_107 : decode cL_act 107 = .ok (.iconst 3, 1) := by decide +kernel
theorem dL_act_108 : decode cL_act 108 = .ok (.if_icmp .ne 90, 3) := by decide +kernel
theorem dL_act_111 : decode cL_act 111 = .ok (.iload 10, 2) := by decide +kernel
theorem dL_act_113 : decode cL_act 113 = .ok (.iload 9, 2) := by decide +kernel
theorem dL_act_115 : decode cL_act 115 = .ok (.aload_n 3, 1) := by decide +kernel
theorem dL_act_116 : decode cL_act 116 = .ok (.aload 4, 2) := by decide +kernel
theorem dL_act_118 : decode cL_act 118 = .ok (.invokestatic 28, 3) := by decide +kernel
theorem dL_act_121 : decode cL_act 121 = .ok (.istore 11, 2) := by decide +kernel
theorem dL_act_123 : decode cL_act 123 = .ok (.iload 11, 2) := by decide +kernel
theorem dL_act_125 : decode cL_act 125 = .ok (.ifCond .ge 5, 3) := by decide +kernel
theorem dL_act_128 : decode cL_act 128 = .ok (.iconst 1, 1) := by decide +kernel
theorem dL_act_129 : decode cL_act 129 = .ok (.ireturn, 1) := by decide +kernel
theorem dL_act_130 : decode cL_act 130 = .ok (.aload 4, 2) := by decide +kernel
theorem dL_act_132 : decode cL_act 132 = .ok (.iload 10, 2) := by decide +kernel
theorem dL_act_134 : decode cL_act 134 = .ok (.dup2, 1) := by decide +kernel
theorem dL_act_135 : decode cL_act 135 = .ok (.iaload, 1) := by decide +kernel
theorem dL_act_136 : decode cL_act 136 = .ok (.iconst 1, 1) := by decide +kernel
theorem dL_act_137 : decode cL_act 137 = .ok (.isub, 1) := by decide +kernel
theorem dL_act_138 : decode cL_act 138 = .ok (.iastore, 1) := by decide +kernel
theorem dL_act_139 : decode cL_act 139 = .ok (.iload 11, 2) := by decide +kernel
theorem dL_act_141 : decode cL_act 141 = .ok (.istore 12, 2) := by decide +kernel
theorem dL_act_143 : decode cL_act 143 = .ok (.iload 12, 2) := by decide +kernel
theorem dL_act_145 : decode cL_act 145 = .ok (.aload 4, 2) := by decide +kernel
theorem dL_act_147 : decode cL_act 147 = .ok (.iload 10, 2) := by decide +kernel
theorem dL_act_149 : decode cL_act 149 = .ok (.iaload, 1) := by decide +kernel
theorem dL_act_150 : decode cL_act 150 = .ok (.if_icmp .ge 29, 3) := by decide +kernel
theorem dL_act_153 : decode cL_act 153 = .ok (.aload_n 3, 1) := by decide +kernel
theorem dL_act_154 : decode cL_act 154 = .ok (.iconst 4, 1) := by decide +kernel
theorem dL_act_155 : decode cL_act 155 = .ok (.iload 10, 2) := by decide +kernel
theorem dL_act_157 : decode cL_act 157 = .ok (.imul, 1) := by decide +kernel
theorem dL_act_158 : decode cL_act 158 = .ok (.iload 12, 2) := by decide +kernel
theorem dL_act_160 : decode cL_act 160 = .ok (.iadd, 1) := by decide +kernel
theorem dL_act_161 : decode cL_act 161 = .ok (.aload_n 3, 1) := by decide +kernel
theorem dL_act_162 : decode cL_act 162 = .ok (.iconst 4, 1) := by decide +kernel
theorem dL_act_163 : decode cL_act 163 = .ok (.iload 10, 2) := by decide +kernel
theorem dL_act_165 : decode cL_act 165 = .ok (.imul, 1) := by decide +kernel
theorem dL_act_166 : decode cL_act 166 = .ok (.iload 12, 2) := by decide +kernel
theorem dL_act_168 : decode cL_act 168 = .ok (.iadd, 1) := by decide +kernel
theorem dL_act_169 : decode cL_act 169 = .ok (.iconst 1, 1) := by decide +kernel
theorem dL_act_170 : decode cL_act 170 = .ok (.iadd, 1) := by decide +kernel
theorem dL_act_171 : decode cL_act 171 = .ok (.iaload, 1) := by decide +kernel
theorem dL_act_172 : decode cL_act 172 = .ok (.iastore, 1) := by decide +kernel
theorem dL_act_173 : decode cL_act 173 = .ok (.iinc 12 1, 3) := by decide +kernel
theorem dL_act_176 : decode cL_act 176 = .ok (.goto (-33), 3) := by decide +kernel
theorem dL_act_179 : decode cL_act 179 = .ok (.aload_n 0, 1) := by decide +kernel
theorem dL_act_180 : decode cL_act 180 = .ok (.iload 10, 2) := by decide +kernel
theorem dL_act_182 : decode cL_act 182 = .ok (.iload 9, 2) := by decide +kernel
theorem dL_act_184 : decode cL_act 184 = .ok (.invokevirtual 55, 3) := by decide +kernel
theorem dL_act_187 : decode cL_act 187 = .ok (.iload 11, 2) := by decide +kernel
theorem dL_act_189 : decode cL_act 189 = .ok (.if_icmp .ne 7, 3) := by decide +kernel
theorem dL_act_192 : decode cL_act 192 = .ok (.iconst 1, 1) := by decide +kernel
theorem dL_act_193 : decode cL_act 193 = .ok (.goto 4, 3) := by decide +kernel
theorem dL_act_196 : decode cL_act 196 = .ok (.iconst 0, 1) := by decide +kernel
theorem dL_act_197 : decode cL_act 197 = .ok (.ireturn, 1) := by decide +kernel
theorem dL_act_198 : decode cL_act 198 = .ok (.iload 8, 2) := by decide +kernel
theorem dL_act_200 : decode cL_act 200 = .ok (.bipush 6, 2) := by decide +kernel
theorem dL_act_202 : decode cL_act 202 = .ok (.if_icmp .ge 52, 3) := by decide +kernel
theorem dL_act_205 : decode cL_act 205 = .ok (.aload 5, 2) := by decide +kernel
theorem dL_act_207 : decode cL_act 207 = .ok (.iload 9, 2) := by decide +kernel
theorem dL_act_209 : decode cL_act 209 = .ok (.iaload, 1) := by decide +kernel
theorem dL_act_210 : decode cL_act 210 = .ok (.iconst 4, 1) := by decide +kernel
theorem dL_act_211 : decode cL_act 211 = .ok (.if_icmp .lt 5, 3) := by decide +kernel
theorem dL_act_214 : decode cL_act 214 = .ok (.iconst 1, 1) := by decide +kernel
theorem dL_act_215 : decode cL_act 215 = .ok (.ireturn, 1) := by decide +kernel
theorem dL_act_216 : decode cL_act 216 = .ok (.aload 5, 2) := by decide +kernel
theorem dL_act_218 : decode cL_act 218 = .ok (.iload 9, 2) := by decide +kernel
theorem dL_act_220 : decode cL_act 220 = .ok (.aload_n 0, 1) := by decide +kernel
theorem dL_act_221 : decode cL_act 221 = .ok (.iload 9, 2) := by decide +kernel
theorem dL_act_223 : decode cL_act 223 = .ok (.iload 10, 2) := by decide +kernel
theorem dL_act_225 : decode cL_act 225 = .ok (.iconst 1, 1) := by decide +kernel
theorem dL_act_226 : decode cL_act 226 = .ok (.invokevirtual 58, 3) := by decide +kernel
theorem dL_act_229 : decode cL_act 229 = .ok (.iastore, 1) := by decide +kernel
theorem dL_act_230 : decode cL_act 230 = .ok (.aload 5, 2) := by decide +kernel
theorem dL_act_232 : decode cL_act 232 = .ok (.iload 9, 2) := by decide +kernel
theorem dL_act_234 : decode cL_act 234 = .ok (.iaload, 1) := by decide +kernel
theorem dL_act_235 : decode cL_act 235 = .ok (.iconst 1, 1) := by decide +kernel
theorem dL_act_236 : decode cL_act 236 = .ok (.if_icmp .lt 16, 3) := by decide +kernel
theorem dL_act_239 : decode cL_act 239 = .ok (.aload 5, 2) := by decide +kernel
theorem dL_act_241 : decode cL_act 241 = .ok (.iload 9, 2) := by decide +kernel
theorem dL_act_243 : decode cL_act 243 = .ok (.iaload, 1) := by decide +kernel
theorem dL_act_244 : decode cL_act 244 = .ok (.iconst 4, 1) := by decide +kernel
theorem dL_act_245 : decode cL_act 245 = .ok (.if_icmp .gt 7, 3) := by decide +kernel
theorem dL_act_248 : decode cL_act 248 = .ok (.iconst 1, 1) := by decide +kernel
theorem dL_act_249 : decode cL_act 249 = .ok (.goto 4, 3) := by decide +kernel
theorem dL_act_252 : decode cL_act 252 = .ok (.iconst 0, 1) := by decide +kernel
theorem dL_act_253 : decode cL_act 253 = .ok (.ireturn, 1) := by decide +kernel
theorem dL_act_254 : decode cL_act 254 = .ok (.iload 8, 2) := by decide +kernel
theorem dL_act_256 : decode cL_act 256 = .ok (.bipush 8, 2) := by decide +kernel
theorem dL_act_258 : decode cL_act 258 = .ok (.if_icmp .ge 72, 3) := by decide +kernel
theorem dL_act_261 : decode cL_act 261 = .ok (.aload 6, 2) := by decide +kernel
theorem dL_act_263 : decode cL_act 263 = .ok (.iconst 1, 1) := by decide +kernel
theorem dL_act_264 : decode cL_act 264 = .ok (.iaload, 1) := by decide +kernel
theorem dL_act_265 : decode cL_act 265 = .ok (.bipush 40, 2) := by decide +kernel
theorem dL_act_267 : decode cL_act 267 = .ok (.if_icmp .ne 5, 3) := by decide +kernel
theorem dL_act_270 : decode cL_act 270 = .ok (.iconst 1, 1) := by decide +kernel
theorem dL_act_271 : decode cL_act 271 = .ok (.ireturn, 1) := by decide +kernel
theorem dL_act_272 : decode cL_act 272 = .ok (.iconst 4, 1) := by decide +kernel
theorem dL_act_273 : decode cL_act 273 = .ok (.iload_n 2, 1) := by decide +kernel
theorem dL_act_274 : decode cL_act 274 = .ok (.bipush 10, 2) := by decide +kernel
theorem dL_act_276 : decode cL_act 276 = .ok (.ishr, 1) := by decide +kernel
theorem dL_act_277 : decode cL_act 277 = .ok (.iconst 3, 1) := by decide +kernel
theorem dL_act_278 : decode cL_act 278 = .ok (.invokestatic 49, 3) := by decide +kernel
theorem dL_act_281 : decode cL_act 281 = .ok (.iadd, 1) := by decide +kernel
theorem dL_act_282 : decode cL_act 282 = .ok (.istore 11, 2) := by decide +kernel
theorem dL_act_284 : decode cL_act 284 = .ok (.aload 6, 2) := by decide +kernel
theorem dL_act_286 : decode cL_act 286 = .ok (.iconst 1, 1) := by decide +kernel
theorem dL_act_287 : decode cL_act 287 = .ok (.dup2, 1) := by decide +kernel
theorem dL_act_288 : decode cL_act 288 = .ok (.iaload, 1) := by decide +kernel
theorem dL_act_289 : decode cL_act 289 = .ok (.iconst 1, 1) := by decide +kernel
theorem dL_act_290 : decode cL_act 290 = .ok (.iadd, 1) := by decide +kernel
theorem dL_act_291 : decode cL_act 291 = .ok (.iastore, 1) := by decide +kernel
theorem dL_act_292 : decode cL_act 292 = .ok (.aload_n 0, 1) := by decide +kernel
theorem dL_act_293 : decode cL_act 293 = .ok (.iload 10, 2) := by decide +kernel
theorem dL_act_295 : decode cL_act 295 = .ok (.iload 11, 2) := by decide +kernel
theorem dL_act_297 : decode cL_act 297 = .ok (.invokevirtual 62, 3) := by decide +kernel
theorem dL_act_300 : decode cL_act 300 = .ok (.aload 6, 2) := by decide +kernel
theorem dL_act_302 : decode cL_act 302 = .ok (.iconst 1, 1) := by decide +kernel
theorem dL_act_303 : decode cL_act 303 = .ok (.iaload, 1) := by decide +kernel
theorem dL_act_304 : decode cL_act 304 = .ok (.iconst 1, 1) := by decide +kernel
theorem dL_act_305 : decode cL_act 305 = .ok (.isub, 1) := by decide +kernel
theorem dL_act_306 : decode cL_act 306 = .ok (.if_icmp .ne 22, 3) := by decide +kernel
theorem dL_act_309 : decode cL_act 309 = .ok (.aload_n 0, 1) := by decide +kernel
theorem dL_act_310 : decode cL_act 310 = .ok (.aload 6, 2) := by decide +kernel
theorem dL_act_312 : decode cL_act 312 = .ok (.iconst 1, 1) := by decide +kernel
theorem dL_act_313 : decode cL_act 313 = .ok (.iaload, 1) := by decide +kernel
theorem dL_act_314 : decode cL_act 314 = .ok (.iconst 1, 1) := by decide +kernel
theorem dL_act_315 : decode cL_act 315 = .ok (.isub, 1) := by decide +kernel
theorem dL_act_316 : decode cL_act 316 = .ok (.invokevirtual 65, 3) := by decide +kernel
theorem dL_act_319 : decode cL_act 319 = .ok (.iload 11, 2) := by decide +kernel
theorem dL_act_321 : decode cL_act 321 = .ok (.if_icmp .ne 7, 3) := by decide +kernel
theorem dL_act_324 : decode cL_act 324 = .ok (.iconst 1, 1) := by decide +kernel
theorem dL_act_325 : decode cL_act 325 = .ok (.goto 4, 3) := by decide +kernel
theorem dL_act_328 : decode cL_act 328 = .ok (.iconst 0, 1) := by decide +kernel
theorem dL_act_329 : decode cL_act 329 = .ok (.ireturn, 1) := by decide +kernel
theorem dL_act_330 : decode cL_act 330 = .ok (.iload 8, 2) := by decide +kernel
theorem dL_act_332 : decode cL_act 332 = .ok (.bipush 8, 2) := by decide +kernel
theorem dL_act_334 : decode cL_act 334 = .ok (.if_icmp .ne 30, 3) := by decide +kernel
theorem dL_act_337 : decode cL_act 337 = .ok (.aload_n 0, 1) := by decide +kernel
theorem dL_act_338 : decode cL_act 338 = .ok (.iload 9, 2) := by decide +kernel
theorem dL_act_340 : decode cL_act 340 = .ok (.iconst 4, 1) := by decide +kernel
theorem dL_act_341 : decode cL_act 341 = .ok (.iload_n 2, 1) := by decide +kernel
theorem dL_act_342 : decode cL_act 342 = .ok (.bipush 10, 2) := by decide +kernel
theorem dL_act_344 : decode cL_act 344 = .ok (.ishr, 1) := by decide +kernel
theorem dL_act_345 : decode cL_act 345 = .ok (.iconst 3, 1) := by decide +kernel
theorem dL_act_346 : decode cL_act 346 = .ok (.invokestatic 49, 3) := by decide +kernel
theorem dL_act_349 : decode cL_act 349 = .ok (.iadd, 1) := by decide +kernel
theorem dL_act_350 : decode cL_act 350 = .ok (.invokevirtual 68, 3) := by decide +kernel
theorem dL_act_353 : decode cL_act 353 = .ok (.bipush 9, 2) := by decide +kernel
theorem dL_act_355 : decode cL_act 355 = .ok (.if_icmp .gt 7, 3) := by decide +kernel
theorem dL_act_358 : decode cL_act 358 = .ok (.iconst 1, 1) := by decide +kernel
theorem dL_act_359 : decode cL_act 359 = .ok (.goto 4, 3) := by decide +kernel
theorem dL_act_362 : decode cL_act 362 = .ok (.iconst 0, 1) := by decide +kernel
theorem dL_act_363 : decode cL_act 363 = .ok (.ireturn, 1) := by decide +kernel
theorem dL_act_364 : decode cL_act 364 = .ok (.iload 8, 2) := by decide +kernel
theorem dL_act_366 : decode cL_act 366 = .ok (.bipush 9, 2) := by decide +kernel
theorem dL_act_368 : decode cL_act 368 = .ok (.if_icmp .ne 22, 3) := by decide +kernel
theorem dL_act_371 : decode cL_act 371 = .ok (.aload_n 0, 1) := by decide +kernel
theorem dL_act_372 : decode cL_act 372 = .ok (.iload_n 2, 1) := by decide +kernel
theorem dL_act_373 : decode cL_act 373 = .ok (.bipush 10, 2) := by decide +kernel
theorem dL_act_375 : decode cL_act 375 = .ok (.ishr, 1) := by decide +kernel
theorem dL_act_376 : decode cL_act 376 = .ok (.iconst 3, 1) := by decide +kernel
theorem dL_act_377 : decode cL_act 377 = .ok (.invokestatic 49, 3) := by decide +kernel
theorem dL_act_380 : decode cL_act 380 = .ok (.iload 9, 2) := by decide +kernel
theorem dL_act_382 : decode cL_act 382 = .ok (.aload 6, 2) := by decide +kernel
theorem dL_act_384 : decode cL_act 384 = .ok (.aload 7, 2) := by decide +kernel
theorem dL_act_386 : decode cL_act 386 = .ok (.invokestatic 71, 3) := by decide +kernel
theorem dL_act_389 : decode cL_act 389 = .ok (.ireturn, 1) := by decide +kernel
theorem dL_act_390 : decode cL_act 390 = .ok (.aload_n 0, 1) := by decide +kernel
theorem dL_act_391 : decode cL_act 391 = .ok (.iload_n 2, 1) := by decide +kernel
theorem dL_act_392 : decode cL_act 392 = .ok (.bipush 10, 2) := by decide +kernel
theorem dL_act_394 : decode cL_act 394 = .ok (.ishr, 1) := by decide +kernel
theorem dL_act_395 : decode cL_act 395 = .ok (.iconst 3, 1) := by decide +kernel
theorem dL_act_396 : decode cL_act 396 = .ok (.invokestatic 49, 3) := by decide +kernel
theorem dL_act_399 : decode cL_act 399 = .ok (.aload_n 3, 1) := by decide +kernel
theorem dL_act_400 : decode cL_act 400 = .ok (.aload 4, 2) := by decide +kernel
theorem dL_act_402 : decode cL_act 402 = .ok (.aload 6, 2) := by decide +kernel
theorem dL_act_404 : decode cL_act 404 = .ok (.invokestatic 74, 3) := by decide +kernel
theorem dL_act_407 : decode cL_act 407 = .ok (.ifCond .eq 26, 3) := by decide +kernel
theorem dL_act_410 : decode cL_act 410 = .ok (.aload_n 0, 1) := by decide +kernel
theorem dL_act_411 : decode cL_act 411 = .ok (.iload_n 2, 1) := by decide +kernel
theorem dL_act_412 : decode cL_act 412 = .ok (.bipush 10, 2) := by decide +kernel
theorem dL_act_414 : decode cL_act 414 = .ok (.ishr, 1) := by decide +kernel
theorem dL_act_415 : decode cL_act 415 = .ok (.iconst 3, 1) := by decide +kernel
theorem dL_act_416 : decode cL_act 416 = .ok (.invokestatic 49, 3) := by decide +kernel
theorem dL_act_419 : decode cL_act 419 = .ok (.iload 9, 2) := by decide +kernel
theorem dL_act_421 : decode cL_act 421 = .ok (.aload 6, 2) := by decide +kernel
theorem dL_act_423 : decode cL_act 423 = .ok (.invokestatic 78, 3) := by decide +kernel
theorem dL_act_426 : decode cL_act 426 = .ok (.ifCond .eq 7, 3) := by decide +kernel
theorem dL_act_429 : decode cL_act 429 = .ok (.iconst 1, 1) := by decide +kernel
theorem dL_act_430 : decode cL_act 430 = .ok (.goto 4, 3) := by decide +kernel
theorem dL_act_433 : decode cL_act 433 = .ok (.iconst 0, 1) := by decide +kernel
theorem dL_act_434 : decode cL_act 434 = .ok (.ireturn, 1) := by decide +kernel
theorem dL_law_0 : decode cL_law 0 = .ok (.new 9, 3) := by decide +kernel
theorem dL_law_3 : decode cL_law 3 = .ok (.dup, 1) := by decide +kernel
theorem dL_law_4 : decode cL_law 4 = .ok (.invokespecial 81, 3) := by decide +kernel
theorem dL_law_7 : decode cL_law 7 = .ok (.astore_n 1, 1) := by decide +kernel
theorem dL_law_8 : decode cL_law 8 = .ok (.bipush 32, 2) := by decide +kernel
theorem dL_law_10 : decode cL_law 10 = .ok (.newarray .int, 2) := by decide +kernel
theorem dL_law_12 : decode cL_law 12 = .ok (.astore_n 2, 1) := by decide +kernel
theorem dL_law_13 : decode cL_law 13 = .ok (.bipush 8, 2) := by decide +kernel
theorem dL_law_15 : decode cL_law 15 = .ok (.newarray .int, 2) := by decide +kernel
theorem dL_law_17 : decode cL_law 17 = .ok (.astore_n 3, 1) := by decide +kernel
theorem dL_law_18 : decode cL_law 18 = .ok (.bipush 12, 2) := by decide +kernel
theorem dL_law_20 : decode cL_law 20 = .ok (.newarray .int, 2) := by decide +kernel
theorem dL_law_22 : decode cL_law 22 = .ok (.astore 4, 2) := by decide +kernel
theorem dL_law_24 : decode cL_law 24 = .ok (.iconst 2, 1) := by decide +kernel
theorem dL_law_25 : decode cL_law 25 = .ok (.newarray .int, 2) := by decide +kernel
theorem dL_law_27 : decode cL_law 27 = .ok (.astore 5, 2) := by decide +kernel
theorem dL_law_29 : decode cL_law 29 = .ok (.bipush 8, 2) := by decide +kernel
theorem dL_law_31 : decode cL_law 31 = .ok (.newarray .int, 2) := by decide +kernel
theorem dL_law_33 : decode cL_law 33 = .ok (.astore 6, 2) := by decide +kernel
theorem dL_law_35 : decode cL_law 35 = .ok (.aload 5, 2) := by decide +kernel
theorem dL_law_37 : decode cL_law 37 = .ok (.iconst 0, 1) := by decide +kernel
theorem dL_law_38 : decode cL_law 38 = .ok (.iconst 2, 1) := by decide +kernel
theorem dL_law_39 : decode cL_law 39 = .ok (.aload_n 0, 1) := by decide +kernel
theorem dL_law_40 : decode cL_law 40 = .ok (.iconst 0, 1) := by decide +kernel
theorem dL_law_41 : decode cL_law 41 = .ok (.invokestatic 82, 3) := by decide +kernel
theorem dL_law_44 : decode cL_law 44 = .ok (.ldc 86, 2) := by decide +kernel
theorem dL_law_46 : decode cL_law 46 = .ok (.iand, 1) := by decide +kernel
theorem dL_law_47 : decode cL_law 47 = .ok (.iconst 4, 1) := by decide +kernel
theorem dL_law_48 : decode cL_law 48 = .ok (.invokestatic 49, 3) := by decide +kernel
theorem dL_law_51 : decode cL_law 51 = .ok (.iadd, 1) := by decide +kernel
theorem dL_law_52 : decode cL_law 52 = .ok (.iastore, 1) := by decide +kernel
theorem dL_law_53 : decode cL_law 53 = .ok (.aload_n 1, 1) := by decide +kernel
theorem dL_law_54 : decode cL_law 54 = .ok (.aload 5, 2) := by decide +kernel
theorem dL_law_56 : decode cL_law 56 = .ok (.iconst 0, 1) := by decide +kernel
theorem dL_law_57 : decode cL_law 57 = .ok (.iaload, 1) := by decide +kernel
theorem dL_law_58 : decode cL_law 58 = .ok (.invokevirtual 87, 3) := by decide +kernel
theorem dL_law_61 : decode cL_law 61 = .ok (.iconst 1, 1) := by decide +kernel
theorem dL_law_62 : decode cL_law 62 = .ok (.if_icmp .eq 5, 3) := by decide +kernel
theorem dL_law_65 : decode cL_law 65 = .ok (.iconst 0, 1) := by decide +kernel
theorem dL_law_66 : decode cL_law 66 = .ok (.ireturn, 1) := by decide +kernel
theorem dL_law_67 : decode cL_law 67 = .ok (.iconst 0, 1) := by decide +kernel
theorem dL_law_68 : decode cL_law 68 = .ok (.istore 7, 2) := by decide +kernel
theorem dL_law_70 : decode cL_law 70 = .ok (.iload 7, 2) := by decide +kernel
theorem dL_law_72 : decode cL_law 72 = .ok (.aload 5, 2) := by decide +kernel
theorem dL_law_74 : decode cL_law 74 = .ok (.iconst 0, 1) := by decide +kernel
theorem dL_law_75 : decode cL_law 75 = .ok (.iaload, 1) := by decide +kernel
theorem dL_law_76 : decode cL_law 76 = .ok (.if_icmp .ge 129, 3) := by decide +kernel
theorem dL_law_79 : decode cL_law 79 = .ok (.iconst 0, 1) := by decide +kernel
theorem dL_law_80 : decode cL_law 80 = .ok (.istore 8, 2) := by decide +kernel
theorem dL_law_82 : decode cL_law 82 = .ok (.iload 8, 2) := by decide +kernel
theorem dL_law_84 : decode cL_law 84 = .ok (.iconst 2, 1) := by decide +kernel
theorem dL_law_85 : decode cL_law 85 = .ok (.if_icmp .ge 92, 3) := by decide +kernel
theorem dL_law_88 : decode cL_law 88 = .ok (.iconst 2, 1) := by decide +kernel
theorem dL_law_89 : decode cL_law 89 = .ok (.iload 7, 2) := by decide +kernel
theorem dL_law_91 : decode cL_law 91 = .ok (.imul, 1) := by decide +kernel
theorem dL_law_92 : decode cL_law 92 = .ok (.iconst 3, 1) := by decide +kernel
theorem dL_law_93 : decode cL_law 93 = .ok (.iload 8, 2) := by decide +kernel
theorem dL_law_95 : decode cL_law 95 = .ok (.imul, 1) := by decide +kernel
theorem dL_law_96 : decode cL_law 96 = .ok (.iadd, 1) := by decide +kernel
theorem dL_law_97 : decode cL_law 97 = .ok (.bipush 12, 2) := by decide +kernel
theorem dL_law_99 : decode cL_law 99 = .ok (.irem, 1) := by decide +kernel
theorem dL_law_100 : decode cL_law 100 = .ok (.istore 9, 2) := by decide +kernel
theorem dL_law_102 : decode cL_law 102 = .ok (.iload 7, 2) := by decide +kernel
theorem dL_law_104 : decode cL_law 104 = .ok (.iload 9, 2) := by decide +kernel
theorem dL_law_106 : decode cL_law 106 = .ok (.aload_n 2, 1) := by decide +kernel
theorem dL_law_107 : decode cL_law 107 = .ok (.aload_n 3, 1) := by decide +kernel
theorem dL_law_108 : decode cL_law 108 = .ok (.invokestatic 28, 3) := by decide +kernel
theorem dL_law_111 : decode cL_law 111 = .ok (.ifCond .lt 6, 3) := by decide +kernel
theorem dL_law_114 : decode cL_law 114 = .ok (.goto 57, 3) := by decide +kernel
theorem dL_law_117 : decode cL_law 117 = .ok (.aload_n 2, 1) := by decide +kernel
theorem dL_law_118 : decode cL_law 118 = .ok (.iconst 4, 1) := by decide +kernel
theorem dL_law_119 : decode cL_law 119 = .ok (.iload 7, 2) := by decide +kernel
theorem dL_law_121 : decode cL_law 121 = .ok (.imul, 1) := by decide +kernel
theorem dL_law_122 : decode cL_law 122 = .ok (.aload_n 3, 1) := by decide +kernel
theorem dL_law_123 : decode cL_law 123 = .ok (.iload 7, 2) := by decide +kernel
theorem dL_law_125 : decode cL_law 125 = .ok (.iaload, 1) := by decide +kernel
theorem dL_law_126 : decode cL_law 126 = .ok (.iadd, 1) := by decide +kernel
theorem dL_law_127 : decode cL_law 127 = .ok (.iload 9, 2) := by decide +kernel
theorem dL_law_129 : decode cL_law 129 = .ok (.iastore, 1) := by decide +kernel
theorem dL_law_130 : decode cL_law 130 = .ok (.aload_n 3, 1) := by decide +kernel
theorem dL_law_131 : decode cL_law 131 = .ok (.iload 7, 2) := by decide +kernel
theorem dL_law_133 : decode cL_law 133 = .ok (.dup2, 1) := by decide +kernel
theorem dL_law_134 : decode cL_law 134 = .ok (.iaload, 1) := by decide +kernel
theorem dL_law_135 : decode cL_law 135 = .ok (.iconst 1, 1) := by decide +kernel
theorem dL_law_136 : decode cL_law 136 = .ok (.iadd, 1) := by decide +kernel
theorem dL_law_137 : decode cL_law 137 = .ok (.iastore, 1) := by decide +kernel
theorem dL_law_138 : decode cL_law 138 = .ok (.aload_n 1, 1) := by decide +kernel
theorem dL_law_139 : decode cL_law 139 = .ok (.iload 7, 2) := by decide +kernel
theorem dL_law_141 : decode cL_law 141 = .ok (.iload 9, 2) := by decide +kernel
theorem dL_law_143 : decode cL_law 143 = .ok (.invokevirtual 52, 3) := by decide +kernel
theorem dL_law_146 : decode cL_law 146 = .ok (.aload_n 3, 1) := by decide +kernel
theorem dL_law_147 : decode cL_law 147 = .ok (.iload 7, 2) := by decide +kernel
theorem dL_law_149 : decode cL_law 149 = .ok (.iaload, 1) := by decide +kernel
theorem dL_law_150 : decode cL_law 150 = .ok (.iconst 1, 1) := by decide +kernel
theorem dL_law_151 : decode cL_law 151 = .ok (.isub, 1) := by decide +kernel
theorem dL_law_152 : decode cL_law 152 = .ok (.if_icmp .eq 5, 3) := by decide +kernel
theorem dL_law_155 : decode cL_law 155 = .ok (.iconst 0, 1) := by decide +kernel
theorem dL_law_156 : decode cL_law 156 = .ok (.ireturn, 1) := by decide +kernel
theorem dL_law_157 : decode cL_law 157 = .ok (.aload 4, 2) := by decide +kernel
theorem dL_law_159 : decode cL_law 159 = .ok (.iload 9, 2) := by decide +kernel
theorem dL_law_161 : decode cL_law 161 = .ok (.aload_n 1, 1) := by decide +kernel
theorem dL_law_162 : decode cL_law 162 = .ok (.iload 9, 2) := by decide +kernel
theorem dL_law_164 : decode cL_law 164 = .ok (.iload 7, 2) := by decide +kernel
theorem dL_law_166 : decode cL_law 166 = .ok (.iconst 1, 1) := by decide +kernel
theorem dL_law_167 : decode cL_law 167 = .ok (.invokevirtual 58, 3) := by decide +kernel
theorem dL_law_170 : decode cL_law 170 = .ok (.iastore, 1) := by decide +kernel
theorem dL_law_171 : decode cL_law 171 = .ok (.iinc 8 1, 3) := by decide +kernel
theorem dL_law_174 : decode cL_law 174 = .ok (.goto (-92), 3) := by decide +kernel
theorem dL_law_177 : decode cL_law 177 = .ok (.aload 5, 2) := by decide +kernel
theorem dL_law_179 : decode cL_law 179 = .ok (.iconst 1, 1) := by decide +kernel
theorem dL_law_180 : decode cL_law 180 = .ok (.dup2, 1) := by decide +kernel
theorem dL_law_181 : decode cL_law 181 = .ok (.iaload, 1) := by decide +kernel
theorem dL_law_182 : decode cL_law 182 = .ok (.iconst 1, 1) := by decide +kernel
theorem dL_law_183 : decode cL_law 183 = .ok (.iadd, 1) := by decide +kernel
theorem dL_law_184 : decode cL_law 184 = .ok (.iastore, 1) := by decide +kernel
theorem dL_law_185 : decode cL_law 185 = .ok (.aload_n 1, 1) := by decide +kernel
theorem dL_law_186 : decode cL_law 186 = .ok (.iload 7, 2) := by decide +kernel
theorem dL_law_188 : decode cL_law 188 = .ok (.iconst 5, 1) := by decide +kernel
theorem dL_law_189 : decode cL_law 189 = .ok (.invokevirtual 62, 3) := by decide +kernel
theorem dL_law_192 : decode cL_law 192 = .ok (.iload 7, 2) := by decide +kernel
theorem dL_law_194 : decode cL_law 194 = .ok (.if_icmp .eq 5, 3) := by decide +kernel
theorem dL_law_197 : decode cL_law 197 = .ok (.iconst 0, 1) := by decide +kernel
theorem dL_law_198 : decode cL_law 198 = .ok (.ireturn, 1) := by decide +kernel
theorem dL_law_199 : decode cL_law 199 = .ok (.iinc 7 1, 3) := by decide +kernel
theorem dL_law_202 : decode cL_law 202 = .ok (.goto (-132), 3) := by decide +kernel
theorem dL_law_205 : decode cL_law 205 = .ok (.iconst 0, 1) := by decide +kernel
theorem dL_law_206 : decode cL_law 206 = .ok (.istore 7, 2) := by decide +kernel
theorem dL_law_208 : decode cL_law 208 = .ok (.iload 7, 2) := by decide +kernel
theorem dL_law_210 : decode cL_law 210 = .ok (.bipush 60, 2) := by decide +kernel
theorem dL_law_212 : decode cL_law 212 = .ok (.if_icmp .ge 60, 3) := by decide +kernel
theorem dL_law_215 : decode cL_law 215 = .ok (.aload_n 0, 1) := by decide +kernel
theorem dL_law_216 : decode cL_law 216 = .ok (.iconst 2, 1) := by decide +kernel
theorem dL_law_217 : decode cL_law 217 = .ok (.iload 7, 2) := by decide +kernel
theorem dL_law_219 : decode cL_law 219 = .ok (.imul, 1) := by decide +kernel
theorem dL_law_220 : decode cL_law 220 = .ok (.iconst 1, 1) := by decide +kernel
theorem dL_law_221 : decode cL_law 221 = .ok (.iadd, 1) := by decide +kernel
theorem dL_law_222 : decode cL_law 222 = .ok (.invokestatic 82, 3) := by decide +kernel
theorem dL_law_225 : decode cL_law 225 = .ok (.ldc 86, 2) := by decide +kernel
theorem dL_law_227 : decode cL_law 227 = .ok (.iand, 1) := by decide +kernel
theorem dL_law_228 : decode cL_law 228 = .ok (.istore 8, 2) := by decide +kernel
theorem dL_law_230 : decode cL_law 230 = .ok (.aload_n 0, 1) := by decide +kernel
theorem dL_law_231 : decode cL_law 231 = .ok (.iconst 2, 1) := by decide +kernel
theorem dL_law_232 : decode cL_law 232 = .ok (.iload 7, 2) := by decide +kernel
theorem dL_law_234 : decode cL_law 234 = .ok (.imul, 1) := by decide +kernel
theorem dL_law_235 : decode cL_law 235 = .ok (.iconst 2, 1) := by decide +kernel
theorem dL_law_236 : decode cL_law 236 = .ok (.iadd, 1) := by decide +kernel
theorem dL_law_237 : decode cL_law 237 = .ok (.invokestatic 82, 3) := by decide +kernel
theorem dL_law_240 : decode cL_law 240 = .ok (.ldc 86, 2) := by decide +kernel
theorem dL_law_242 : decode cL_law 242 = .ok (.iand, 1) := by decide +kernel
theorem dL_law_243 : decode cL_law 243 = .ok (.istore 9, 2) := by decide +kernel
theorem dL_law_245 : decode cL_law 245 = .ok (.aload_n 1, 1) := by decide +kernel
theorem dL_law_246 : decode cL_law 246 = .ok (.iload 8, 2) := by decide +kernel
theorem dL_law_248 : decode cL_law 248 = .ok (.iload 9, 2) := by decide +kernel
theorem dL_law_250 : decode cL_law 250 = .ok (.aload_n 2, 1) := by decide +kernel
theorem dL_law_251 : decode cL_law 251 = .ok (.aload_n 3, 1) := by decide +kernel
theorem dL_law_252 : decode cL_law 252 = .ok (.aload 4, 2) := by decide +kernel
theorem dL_law_254 : decode cL_law 254 = .ok (.aload 5, 2) := by decide +kernel
theorem dL_law_256 : decode cL_law 256 = .ok (.aload 6, 2) := by decide +kernel
theorem dL_law_258 : decode cL_law 258 = .ok (.invokestatic 90, 3) := by decide +kernel
theorem dL_law_261 : decode cL_law 261 = .ok (.ifCond .ne 5, 3) := by decide +kernel
theorem dL_law_264 : decode cL_law 264 = .ok (.iconst 0, 1) := by decide +kernel
theorem dL_law_265 : decode cL_law 265 = .ok (.ireturn, 1) := by decide +kernel
theorem dL_law_266 : decode cL_law 266 = .ok (.iinc 7 1, 3) := by decide +kernel
theorem dL_law_269 : decode cL_law 269 = .ok (.goto (-61), 3) := by decide +kernel
theorem dL_law_272 : decode cL_law 272 = .ok (.aload_n 1, 1) := by decide +kernel
theorem dL_law_273 : decode cL_law 273 = .ok (.iconst 0, 1) := by decide +kernel
theorem dL_law_274 : decode cL_law 274 = .ok (.aload_n 2, 1) := by decide +kernel
theorem dL_law_275 : decode cL_law 275 = .ok (.aload_n 3, 1) := by decide +kernel
theorem dL_law_276 : decode cL_law 276 = .ok (.aload 5, 2) := by decide +kernel
theorem dL_law_278 : decode cL_law 278 = .ok (.invokestatic 74, 3) := by decide +kernel
theorem dL_law_281 : decode cL_law 281 = .ok (.ifCond .eq 19, 3) := by decide +kernel
theorem dL_law_284 : decode cL_law 284 = .ok (.aload_n 1, 1) := by decide +kernel
theorem dL_law_285 : decode cL_law 285 = .ok (.iconst 1, 1) := by decide +kernel
theorem dL_law_286 : decode cL_law 286 = .ok (.aload_n 2, 1) := by decide +kernel
theorem dL_law_287 : decode cL_law 287 = .ok (.aload_n 3, 1) := by decide +kernel
theorem dL_law_288 : decode cL_law 288 = .ok (.aload 5, 2) := by decide +kernel
theorem dL_law_290 : decode cL_law 290 = .ok (.invokestatic 74, 3) := by decide +kernel
theorem dL_law_293 : decode cL_law 293 = .ok (.ifCond .eq 7, 3) := by decide +kernel
theorem dL_law_296 : decode cL_law 296 = .ok (.iconst 1, 1) := by decide +kernel
theorem dL_law_297 : decode cL_law 297 = .ok (.goto 4, 3) := by decide +kernel
theorem dL_law_300 : decode cL_law 300 = .ok (.iconst 0, 1) := by decide +kernel
theorem dL_law_301 : decode cL_law 301 = .ok (.ireturn, 1) := by decide +kernel
end
section
abbrev qS : Type := Nat → Nat → Int32
abbrev qT : Type := ClassId × ClassId × ClassId
abbrev TY (cy : qT) : List (ClassId × FieldType) := [(cy.1, .int), (cy.2.1, .boolean), (cy.2.2, .long)]
abbrev aI (cy : qT) (n : Nat) (f : Nat → Int32) : va_E := .inl (cy.1, n, .inl f)
abbrev aZ (cy : qT) (n : Nat) (f : Nat → Int32) : va_E := .inl (cy.2.1, n, .inl f)
abbrev aL (cy : qT) (n : Nat) (f : Nat → Int64) : va_E := .inl (cy.2.2, n, .inr (.inl f))
/-- a state of the class: h the places of its cells, S what they hold, J what its search holds -/
abbrev wX0 (cy : qT) (h : Nat → Nat) (S : qS) : va_W := [(h 20, .inr (0, [.ref (h 21), .ref (h 22), .ref (h 23), .ref (h 24), .ref (h 25), .ref (h 26), .int (S 31 0), .int (S 32 0)])), (h 21, aI cy 100 (S 21)), (h 22, aI cy 100 (S 22)), (h 23, aI cy 100 (S 23)), (h 24, aI cy 100 (S 24)), (h 25, aI cy 100 (S 25)), (h 26, aI cy 100 (S 26))]
abbrev wX1 (cy : qT) (h : Nat → Nat) (J : qS) : va_W := [(h 12, .inr (1, [.ref (h 13), .ref (h 14), .ref (h 15), .int (J 12 0)])), (h 13, aI cy 32 (J 13)), (h 14, aI cy 32 (J 14)), (h 15, aI cy 4096 (J 15))]
abbrev wX2 (cy : qT) (h : Nat → Nat) (S : qS) : va_W := [(h 16, .inr (2, [.ref (h 17), .ref (h 18), .ref (h 19), .int (S 30 0)])), (h 17, aI cy 40 (S 17)), (h 18, aI cy 320 (S 18)), (h 19, aI cy 40 (S 19))]
abbrev wX3 (cy : qT) (h : Nat → Nat) (S : qS) : va_W := [(h 5, .inr (3, [.ref (h 6), .ref (h 7)])), (h 6, aI cy 32 (S 6)), (h 7, aI cy 8 (S 7))]
abbrev wX4 (cy : qT) (h : Nat → Nat) (S : qS) : va_W := [(h 1, .inr (4, [.ref (h 2), .ref (h 3), .ref (h 4)])), (h 2, aI cy 12 (S 2)), (h 3, aI cy 12 (S 3)), (h 4, aI cy 1001 (S 4))]
abbrev wX5 (cy : qT) (h : Nat → Nat) (S : qS) : va_W := [(h 8, .inr (5, [.ref (h 9), .ref (h 10), .ref (h 11), .int (S 29 0)])), (h 9, aI cy 40 (S 9)), (h 10, aI cy 40 (S 10)), (h 11, aZ cy 40 (S 11))]
abbrev wXO (h : Nat → Nat) (S : qS) : Nat × va_E := (h 0, .inr (6, [.ref (h 1), .ref (h 5), .ref (h 8), .ref (h 12), .ref (h 16), .ref (h 20), .int (S 27 0), .int (S 28 0)]))
abbrev wC (cy : qT) (h : Nat → Nat) (S J : qS) : va_W := [(h 0, .inr (6, [.ref (h 1), .ref (h 5), .ref (h 8), .ref (h 12), .ref (h 16), .ref (h 20), .int (S 27 0), .int (S 28 0)])),
  (h 1, .inr (4, [.ref (h 2), .ref (h 3), .ref (h 4)])), (h 2, aI cy 12 (S 2)), (h 3, aI cy 12 (S 3)), (h 4, aI cy 1001 (S 4)),
  (h 5, .inr (3, [.ref (h 6), .ref (h 7)])), (h 6, aI cy 32 (S 6)), (h 7, aI cy 8 (S 7)),
  (h 8, .inr (5, [.ref (h 9), .ref (h 10), .ref (h 11), .int (S 29 0)])), (h 9, aI cy 40 (S 9)), (h 10, aI cy 40 (S 10)), (h 11, aZ cy 40 (S 11)),
  (h 12, .inr (1, [.ref (h 13), .ref (h 14), .ref (h 15), .int (J 12 0)])), (h 13, aI cy 32 (J 13)), (h 14, aI cy 32 (J 14)), (h 15, aI cy 4096 (J 15)),
  (h 16, .inr (2, [.ref (h 17), .ref (h 18), .ref (h 19), .int (S 30 0)])), (h 17, aI cy 40 (S 17)), (h 18, aI cy 320 (S 18)), (h 19, aI cy 40 (S 19)),
  (h 20, .inr (0, [.ref (h 21), .ref (h 22), .ref (h 23), .ref (h 24), .ref (h 25), .ref (h 26), .int (S 31 0), .int (S 32 0)])), (h 21, aI cy 100 (S 21)), (h 22, aI cy 100 (S 22)), (h 23, aI cy 100 (S 23)), (h 24, aI cy 100 (S 24)), (h 25, aI cy 100 (S 25)), (h 26, aI cy 100 (S 26))]
/-- what holds of the machine's tables wherever the law is: classes, nest mates, texts, classes apart -/
def xIO : String := "java/lang/IndexOutOfBoundsException"
def xIA : String := "java/lang/IllegalArgumentException"
def xIS : String := "java/lang/IllegalStateException"
def Gn (U : State) : Prop := va_Nw (.methodLinkNest RX6 18 yX3_init RX6) U ∧ va_Nw (.methodLinkNest RX6 25 yX5_init RX6) U ∧ va_Nw (.methodLinkNest RX6 46 yX0_init RX6) U ∧ va_Nw (.methodLinkNest RX4 21 yX6_has RX6) U ∧ va_Nw (.methodLinkNest RX4 25 yX6_with RX6) U ∧ va_Nw (.methodLinkNest RX1 44 yX6_has RX6) U ∧ va_Nw (.methodLinkNest RX1 48 yX6_with RX6) U
abbrev gT (i : Nat) (tx : String) (U : State) : Prop := ∃ a : Nat, vk_R RX6 i tx a U
def Gt (U : State) : Prop := gT 60 "parts is out of range" U ∧ gT 97 "the actor would know too many parts" U ∧ gT 103 "the actor is in the row" U ∧ gT 109 "the row is full" U ∧ gT 114 "the actor is not in the row" U ∧ gT 123 "there are too many costumes" U ∧ gT 217 "there is no such actor" U ∧ gT 220 "there is no such part" U ∧ gT 222 "there is no such costume, show or seat" U ∧ gT 224 "size is out of range" U ∧ gT 226 "a day is out of range" U
def Gc (U : State) : Prop := va_Nc xIA xIO U ∧ va_Nc xIS xIO U ∧ va_Nc xIS xIA U ∧ va_Nw (.castable xIO xIO) U ∧ va_Nw (.castable xIA xIA) U ∧ va_Nw (.castable xIS xIS) U ∧ va_Nw (.declares (Bundle.initS "java/lang/RuntimeException")) U ∧ va_Nw (.declares (Bundle.initS "java/lang/Exception")) U ∧ va_Nw (.declares (Bundle.initS Bundle.tN)) U
def Gk (D : va_G) (cy : qT) (U : State) : Prop := va_K D vwCl (TY cy) U ∧ Gn U ∧ Gt U ∧ Gc U
theorem Gk.K {D : va_G} {cy : qT} {U : State} (h : Gk D cy U) : va_K D vwCl (TY cy) U := h.1
theorem Gk.warm {D : va_G} {cy : qT} {s U : State} (h : Gk D cy s) (hW : s.WarmedH U.vm) : Gk D cy U := by
  obtain ⟨h1, ⟨n1, n2, n3, n4, n5, n6, n7⟩, h3, ⟨k1, k2, k3, k4, k5, k6, k7, k8, k9⟩⟩ := h
  refine ⟨va_K.moved hW.alike h1, ⟨va_Nw.warmM hW n1, va_Nw.warmM hW n2, va_Nw.warmM hW n3, va_Nw.warmM hW n4, va_Nw.warmM hW n5, va_Nw.warmM hW n6, va_Nw.warmM hW n7⟩, ?_, ⟨va_Nc.moved hW.alike k1, va_Nc.moved hW.alike k2, va_Nc.moved hW.alike k3, va_Nw.warmC hW k4, va_Nw.warmC hW k5, va_Nw.warmC hW k6, va_Nw.warmD hW k7, va_Nw.warmD hW k8, va_Nw.warmD hW k9⟩⟩
  have w : ∀ (i : Nat) (tx : String), gT i tx s → gT i tx U := fun i tx ⟨a, q⟩ => ⟨a, vk_R.warm hW q⟩
  obtain ⟨t0, t1, t2, t3, t4, t5, t6, t7, t8, t9, t10⟩ := h3
  exact ⟨w _ _ t0, w _ _ t1, w _ _ t2, w _ _ t3, w _ _ t4, w _ _ t5, w _ _ t6, w _ _ t7, w _ _ t8, w _ _ t9, w _ _ t10⟩
theorem Gc.ws {U : State} {cls : String} {args : Array Value} (h : Gc U) (hc : va_Nw (.castable cls cls) U) : ∀ w ∈ ([.castable cls cls, .declares (Bundle.initS "java/lang/RuntimeException"), .declares (Bundle.initS "java/lang/Exception"), .declares (Bundle.initS Bundle.tN)] : List Cond), w.before args U = true := by
  obtain ⟨-, -, -, -, -, -, k7, k8, k9⟩ := h
  exact vx_c (va_Nw.use rfl hc) (vx_c (va_Nw.use rfl k7) (vx_c (va_Nw.use rfl k8) (vx_c (va_Nw.use rfl k9) vx_n)))
theorem Gk.call {D : va_G} {cy : qT} {U : State} {g : JFrame} {mk : MethodId} {a : Array Value} (h : Gk D cy U) : Gk D cy (U.calling g mk a) := h.warm (U := U.calling g mk a) (State.WarmedH.refl U)
/-- where a method begins that reads alone; that writes; that may throw -/
def roB (D : va_G) (cy : qT) (w : va_W) (U : State) : Prop := va_P D vwCl w U.heap ∧ Gk D cy U
def wrB (D : va_G) (cy : qT) (w : va_W) (sz : Nat) (U : State) : Prop := U.heap.size = sz ∧ va_P D vwCl w U.heap ∧ Gk D cy U ∧ va_D (fun _ => True) w
def Tz (A : Nat → Prop) (U : State) (H : Heap) : Prop := vx_Zq Bundle.tN "UNASSIGNED_STACK" Bundle.steD A U H ∧ vx_Zq Bundle.tN "SUPPRESSED_SENTINEL" Bundle.listD A U H
def thB (D : va_G) (cy : qT) (w : va_W) (sz : Nat) (U : State) : Prop := wrB D cy w sz U ∧ Tz (va_A w sz) U U.heap
theorem roB.bl {D : va_G} {cy : qT} {w : va_W} {av : List Value} : FrameBlind (va_Pc av (roB D cy w)) := fun _ _ _ _ q => ⟨q.1, q.2.1, q.2.2.call⟩
theorem wrB.bl {D : va_G} {cy : qT} {w : va_W} {sz : Nat} {av : List Value} : FrameBlind (va_Pc av (wrB D cy w sz)) := fun _ _ _ _ q => ⟨q.1, q.2.1, q.2.2.1, q.2.2.2.1.call, q.2.2.2.2⟩
theorem Tz.down {A B : Nat → Prop} {s U : State} {H : Heap} {locs : List Loc} (h : Tz A s s.heap) (hS : va_S A s.heap H locs) (hB : ∀ q, B q → A q) (hU : U.heap = H) (hW : s.WarmedH U.vm) : Tz B U U.heap := by
  rw [hU]
  exact ⟨vx_Zq.moved hW.alike (vx_Zq.narrow (vx_Zq.kept h.1 hS.2.1) hB), vx_Zq.moved hW.alike (vx_Zq.narrow (vx_Zq.kept h.2 hS.2.1) hB)⟩
theorem Tz.call {A : Nat → Prop} {U : State} {H : Heap} {g : JFrame} {mk : MethodId} {a : Array Value} (h : Tz A U H) : Tz A (U.calling g mk a) H := ⟨vx_Zq.moved (u := U) (U := U.calling g mk a) (Vm.Alike.refl U.vm) h.1, vx_Zq.moved (u := U) (U := U.calling g mk a) (Vm.Alike.refl U.vm) h.2⟩
theorem thB.bl {D : va_G} {cy : qT} {w : va_W} {sz : Nat} {av : List Value} : FrameBlind (va_Pc av (thB D cy w sz)) := fun _ _ _ _ q => ⟨q.1, ⟨q.2.1.1, q.2.1.2.1, q.2.1.2.2.1.call, q.2.1.2.2.2⟩, q.2.2.call⟩
theorem nuB.bl {av : List Value} : FrameBlind (va_Pc av (fun _ => True)) := fun _ _ _ _ q => ⟨q.1, trivial⟩
/-- a method that throws has changed nothing that was there -/
def nX (px : String → Prop) : String → State → State → Prop := fun E st t => px E ∧ st.heap.size ≤ t.heap.size ∧ ∀ q : Nat, q < st.heap.size → t.heap[q]? = st.heap[q]?
/-- how a writer ends: its world anew, nothing else changed -/
abbrev wrQ (D : va_G) (A : Nat → Prop) {S : Type} (W1 : S → va_W) : S → State → Prop := fun u t => va_P D vwCl (W1 u) t.heap ∧ va_D A (W1 u)
theorem vaP_kept {D : va_G} {cl : List vw_C} {ws : va_W} {H H1 : Heap} (h : va_P D cl ws H) (hq : ∀ q : Nat, q < H.size → H1[q]? = H[q]?) : va_P D cl ws H1 := h.kept (fun k q hk => hq q.1 (h k q hk).lt)
theorem vaA_nil {A : Nat → Prop} {n : Nat} (hA : ∀ q, n ≤ q → A q) : ∀ q, va_A [] n q → A q := fun q h => h.elim (fun ⟨k, e, hk⟩ => by simp at hk) (hA q)
section CDN
variable {p : Program} {l : Launch} {e : Env} {R : Room} {s : State} {m : MethodId} {args : Array Value} {below : List Frame} {meth : Method} {c : Code} {H : Heap} {locs : List Loc} {cells slots : Nat} {Q : State → Prop}
variable {cc : ByteArray} {pc : Nat} {ls : Array Slot} {rest st0 : List Value} {D : va_G} {cl : List vw_C} {cy : qT} {A0 : Nat → Prop} {H0 : Heap} {ws : va_W} {a : Nat}
theorem cd_tp {x y : Int32} (h : x = y) (k : W p l e R s m args below meth c H locs cells slots Q (F0 m pc ls (.int y :: rest))) : W p l e R s m args below meth c H locs cells slots Q (F0 m pc ls (.int x :: rest)) := h ▸ k
theorem cd_sm : ∀ b, b < 32 → ((nI b &&& 31).toBitVec.smod 32).toNat = b := by decide +kernel
theorem cd_and (a b : Nat) : nI a &&& nI b = nI (a &&& b) := by
  apply Int32.toBitVec_inj.1
  show BitVec.ofNat 32 a &&& BitVec.ofNat 32 b = BitVec.ofNat 32 (a &&& b)
  apply BitVec.eq_of_getLsbD_eq
  intro i hi
  simp [hi]
theorem cd_or (a b : Nat) : nI a ||| nI b = nI (a ||| b) := by
  apply Int32.toBitVec_inj.1
  show BitVec.ofNat 32 a ||| BitVec.ofNat 32 b = BitVec.ofNat 32 (a ||| b)
  apply BitVec.eq_of_getLsbD_eq
  intro i hi
  simp [hi]
theorem cd_iadd (hexec : p.tables.exec = Jvm.exec) (hb : c.code = cc) {a b : Nat}  (hdg : decode cc pc = .ok (.iadd, 1)) (k : W p l e R s m args below meth c H locs cells slots Q (F0 m (pc + 1) ls (.int (nI (a + b)) :: rest))) : W p l e R s m args below meth c H locs cells slots Q (F0 m pc ls (.int (nI b) :: .int (nI a) :: rest)) := lv_iadd hexec hb hdg (cd_tp (nI_add a b) k)
theorem cd_isub (hexec : p.tables.exec = Jvm.exec) (hb : c.code = cc) {a b : Nat} (h : b ≤ a) (hdg : decode cc pc = .ok (.isub, 1)) (k : W p l e R s m args below meth c H locs cells slots Q (F0 m (pc + 1) ls (.int (nI (a - b)) :: rest))) : W p l e R s m args below meth c H locs cells slots Q (F0 m pc ls (.int (nI b) :: .int (nI a) :: rest)) := lv_isub hexec hb hdg (cd_tp (pk_sub h) k)
theorem cd_imul (hexec : p.tables.exec = Jvm.exec) (hb : c.code = cc) {a b : Nat}  (hdg : decode cc pc = .ok (.imul, 1)) (k : W p l e R s m args below meth c H locs cells slots Q (F0 m (pc + 1) ls (.int (nI (a * b)) :: rest))) : W p l e R s m args below meth c H locs cells slots Q (F0 m pc ls (.int (nI b) :: .int (nI a) :: rest)) := lv_imul hexec hb hdg (cd_tp (pk_mul a b) k)
theorem cd_iand (hexec : p.tables.exec = Jvm.exec) (hb : c.code = cc) {a b : Nat}  (hdg : decode cc pc = .ok (.iand, 1)) (k : W p l e R s m args below meth c H locs cells slots Q (F0 m (pc + 1) ls (.int (nI (a &&& b)) :: rest))) : W p l e R s m args below meth c H locs cells slots Q (F0 m pc ls (.int (nI b) :: .int (nI a) :: rest)) := lv_iand hexec hb hdg (cd_tp (cd_and a b) k)
theorem cd_ior (hexec : p.tables.exec = Jvm.exec) (hb : c.code = cc) {a b : Nat}  (hdg : decode cc pc = .ok (.ior, 1)) (k : W p l e R s m args below meth c H locs cells slots Q (F0 m (pc + 1) ls (.int (nI (a ||| b)) :: rest))) : W p l e R s m args below meth c H locs cells slots Q (F0 m pc ls (.int (nI b) :: .int (nI a) :: rest)) := lv_ior hexec hb hdg (cd_tp (cd_or a b) k)
theorem cd_ishl (hexec : p.tables.exec = Jvm.exec) (hb : c.code = cc) {a b : Nat} (h1 : b < 32) (h2 : a * 2 ^ b < 4294967296) (hdg : decode cc pc = .ok (.ishl, 1)) (k : W p l e R s m args below meth c H locs cells slots Q (F0 m (pc + 1) ls (.int (nI (a * 2 ^ b)) :: rest))) : W p l e R s m args below meth c H locs cells slots Q (F0 m pc ls (.int (nI b) :: .int (nI a) :: rest)) := lv_ishl hexec hb hdg (cd_tp (pk_shlN _ b (cd_sm b h1) h2) k)
theorem cd_ishr (hexec : p.tables.exec = Jvm.exec) (hb : c.code = cc) {a b : Nat} (h1 : b < 32) (h2 : a < 2147483648) (hdg : decode cc pc = .ok (.ishr, 1)) (k : W p l e R s m args below meth c H locs cells slots Q (F0 m (pc + 1) ls (.int (nI (a / 2 ^ b)) :: rest))) : W p l e R s m args below meth c H locs cells slots Q (F0 m pc ls (.int (nI b) :: .int (nI a) :: rest)) := lv_ishr hexec hb hdg (cd_tp (pk_shrN h2 _ b (cd_sm b h1)) k)
theorem cd_idiv (hexec : p.tables.exec = Jvm.exec) (hb : c.code = cc) {a b : Nat} (h1 : a < 2147483648) (h0 : 0 < b) (h2 : b < 2147483648) (hdg : decode cc pc = .ok (.idiv, 1)) (k : W p l e R s m args below meth c H locs cells slots Q (F0 m (pc + 1) ls (.int (nI (a / b)) :: rest))) : W p l e R s m args below meth c H locs cells slots Q (F0 m pc ls (.int (nI b) :: .int (nI a) :: rest)) := lv_idiv hexec hb hdg (nI_ne0 h0 h2) (cd_tp (pk_div h1 h0 h2) k)
theorem cd_irem (hexec : p.tables.exec = Jvm.exec) (hb : c.code = cc) {a b : Nat} (h1 : a < 2147483648) (h0 : 0 < b) (h2 : b < 2147483648) (hdg : decode cc pc = .ok (.irem, 1)) (k : W p l e R s m args below meth c H locs cells slots Q (F0 m (pc + 1) ls (.int (nI (a % b)) :: rest))) : W p l e R s m args below meth c H locs cells slots Q (F0 m pc ls (.int (nI b) :: .int (nI a) :: rest)) := lv_irem hexec hb hdg (nI_ne0 h0 h2) (cd_tp (pk_rem h1 h0 h2) k)
theorem cd_icmp_eq (hexec : p.tables.exec = Jvm.exec) (hb : c.code = cc) {a b : Nat} {off : Int} {tgt : Nat} (hdg : decode cc pc = .ok (.if_icmp .eq off, 3)) (ht : (pc : Int) + off = (tgt : Int)) (ha : a < 2147483648) (hb2 : b < 2147483648) (kt : a = b → W p l e R s m args below meth c H locs cells slots Q (F0 m tgt ls rest)) (kf : a ≠ b → W p l e R s m args below meth c H locs cells slots Q (F0 m (pc + 3) ls rest)) : W p l e R s m args below meth c H locs cells slots Q (F0 m pc ls (.int (nI b) :: .int (nI a) :: rest)) := lv_icmp_eq hexec hb hdg ht (fun h => kt ((nI_eq ha hb2).mp h)) (fun h => kf (fun q => h ((nI_eq ha hb2).mpr q)))
theorem cd_icmp_ne (hexec : p.tables.exec = Jvm.exec) (hb : c.code = cc) {a b : Nat} {off : Int} {tgt : Nat} (hdg : decode cc pc = .ok (.if_icmp .ne off, 3)) (ht : (pc : Int) + off = (tgt : Int)) (ha : a < 2147483648) (hb2 : b < 2147483648) (kt : a ≠ b → W p l e R s m args below meth c H locs cells slots Q (F0 m tgt ls rest)) (kf : a = b → W p l e R s m args below meth c H locs cells slots Q (F0 m (pc + 3) ls rest)) : W p l e R s m args below meth c H locs cells slots Q (F0 m pc ls (.int (nI b) :: .int (nI a) :: rest)) := lv_icmp_ne hexec hb hdg ht (fun h => kt (fun q => h ((nI_eq ha hb2).mpr q))) (fun h => kf ((nI_eq ha hb2).mp h))
theorem cd_icmp_lt (hexec : p.tables.exec = Jvm.exec) (hb : c.code = cc) {a b : Nat} {off : Int} {tgt : Nat} (hdg : decode cc pc = .ok (.if_icmp .lt off, 3)) (ht : (pc : Int) + off = (tgt : Int)) (ha : a < 2147483648) (hb2 : b < 2147483648) (kt : a < b → W p l e R s m args below meth c H locs cells slots Q (F0 m tgt ls rest)) (kf : b ≤ a → W p l e R s m args below meth c H locs cells slots Q (F0 m (pc + 3) ls rest)) : W p l e R s m args below meth c H locs cells slots Q (F0 m pc ls (.int (nI b) :: .int (nI a) :: rest)) := lv_icmp_lt hexec hb hdg ht (fun h => kt ((nI_ltI ha hb2).mp h)) (fun h => kf (Nat.le_of_not_lt (fun q => h ((nI_ltI ha hb2).mpr q))))
theorem cd_icmp_ge (hexec : p.tables.exec = Jvm.exec) (hb : c.code = cc) {a b : Nat} {off : Int} {tgt : Nat} (hdg : decode cc pc = .ok (.if_icmp .ge off, 3)) (ht : (pc : Int) + off = (tgt : Int)) (ha : a < 2147483648) (hb2 : b < 2147483648) (kt : b ≤ a → W p l e R s m args below meth c H locs cells slots Q (F0 m tgt ls rest)) (kf : a < b → W p l e R s m args below meth c H locs cells slots Q (F0 m (pc + 3) ls rest)) : W p l e R s m args below meth c H locs cells slots Q (F0 m pc ls (.int (nI b) :: .int (nI a) :: rest)) := lv_icmp_ge hexec hb hdg ht (fun h => kt ((nI_leI hb2 ha).mp h)) (fun h => kf (Nat.lt_of_not_le (fun q => h ((nI_leI hb2 ha).mpr q))))
theorem cd_icmp_gt (hexec : p.tables.exec = Jvm.exec) (hb : c.code = cc) {a b : Nat} {off : Int} {tgt : Nat} (hdg : decode cc pc = .ok (.if_icmp .gt off, 3)) (ht : (pc : Int) + off = (tgt : Int)) (ha : a < 2147483648) (hb2 : b < 2147483648) (kt : b < a → W p l e R s m args below meth c H locs cells slots Q (F0 m tgt ls rest)) (kf : a ≤ b → W p l e R s m args below meth c H locs cells slots Q (F0 m (pc + 3) ls rest)) : W p l e R s m args below meth c H locs cells slots Q (F0 m pc ls (.int (nI b) :: .int (nI a) :: rest)) := lv_icmp_gt hexec hb hdg ht (fun h => kt ((nI_ltI hb2 ha).mp h)) (fun h => kf (Nat.le_of_not_lt (fun q => h ((nI_ltI hb2 ha).mpr q))))
theorem cd_icmp_le (hexec : p.tables.exec = Jvm.exec) (hb : c.code = cc) {a b : Nat} {off : Int} {tgt : Nat} (hdg : decode cc pc = .ok (.if_icmp .le off, 3)) (ht : (pc : Int) + off = (tgt : Int)) (ha : a < 2147483648) (hb2 : b < 2147483648) (kt : a ≤ b → W p l e R s m args below meth c H locs cells slots Q (F0 m tgt ls rest)) (kf : b < a → W p l e R s m args below meth c H locs cells slots Q (F0 m (pc + 3) ls rest)) : W p l e R s m args below meth c H locs cells slots Q (F0 m pc ls (.int (nI b) :: .int (nI a) :: rest)) := lv_icmp_le hexec hb hdg ht (fun h => kt ((nI_leI ha hb2).mp h)) (fun h => kf (Nat.lt_of_not_le (fun q => h ((nI_leI ha hb2).mpr q))))
theorem cd_z {a : Nat} (ha : a < 2147483648) : nI a = 0 ↔ a = 0 := nI_eq (b := 0) ha (by omega)
theorem cd_zp {a : Nat} (ha : a < 2147483648) : 0 < nI a ↔ 0 < a := nI_ltI (a := 0) (by omega) ha
theorem cd_zl {a : Nat} (ha : a < 2147483648) : nI a ≤ 0 ↔ a ≤ 0 := nI_leI (b := 0) ha (by omega)
theorem cd_if_eq (hexec : p.tables.exec = Jvm.exec) (hb : c.code = cc) {a : Nat} {off : Int} {tgt : Nat} (hdg : decode cc pc = .ok (.ifCond .eq off, 3)) (ht : (pc : Int) + off = (tgt : Int)) (ha : a < 2147483648) (kt : a = 0 → W p l e R s m args below meth c H locs cells slots Q (F0 m tgt ls rest)) (kf : a ≠ 0 → W p l e R s m args below meth c H locs cells slots Q (F0 m (pc + 3) ls rest)) : W p l e R s m args below meth c H locs cells slots Q (F0 m pc ls (.int (nI a) :: rest)) := lv_if_eq hexec hb hdg ht (fun h => kt ((cd_z ha).mp h)) (fun h => kf (fun q => h ((cd_z ha).mpr q)))
theorem cd_if_ne (hexec : p.tables.exec = Jvm.exec) (hb : c.code = cc) {a : Nat} {off : Int} {tgt : Nat} (hdg : decode cc pc = .ok (.ifCond .ne off, 3)) (ht : (pc : Int) + off = (tgt : Int)) (ha : a < 2147483648) (kt : a ≠ 0 → W p l e R s m args below meth c H locs cells slots Q (F0 m tgt ls rest)) (kf : a = 0 → W p l e R s m args below meth c H locs cells slots Q (F0 m (pc + 3) ls rest)) : W p l e R s m args below meth c H locs cells slots Q (F0 m pc ls (.int (nI a) :: rest)) := lv_if_ne hexec hb hdg ht (fun h => kt (fun q => h ((cd_z ha).mpr q))) (fun h => kf ((cd_z ha).mp h))
theorem cd_if_gt (hexec : p.tables.exec = Jvm.exec) (hb : c.code = cc) {a : Nat} {off : Int} {tgt : Nat} (hdg : decode cc pc = .ok (.ifCond .gt off, 3)) (ht : (pc : Int) + off = (tgt : Int)) (ha : a < 2147483648) (kt : 0 < a → W p l e R s m args below meth c H locs cells slots Q (F0 m tgt ls rest)) (kf : a = 0 → W p l e R s m args below meth c H locs cells slots Q (F0 m (pc + 3) ls rest)) : W p l e R s m args below meth c H locs cells slots Q (F0 m pc ls (.int (nI a) :: rest)) := lv_if_gt hexec hb hdg ht (fun h => kt ((cd_zp ha).mp h)) (fun h => kf (Nat.eq_zero_of_not_pos (fun q => h ((cd_zp ha).mpr q))))
theorem cd_if_le (hexec : p.tables.exec = Jvm.exec) (hb : c.code = cc) {a : Nat} {off : Int} {tgt : Nat} (hdg : decode cc pc = .ok (.ifCond .le off, 3)) (ht : (pc : Int) + off = (tgt : Int)) (ha : a < 2147483648) (kt : a = 0 → W p l e R s m args below meth c H locs cells slots Q (F0 m tgt ls rest)) (kf : 0 < a → W p l e R s m args below meth c H locs cells slots Q (F0 m (pc + 3) ls rest)) : W p l e R s m args below meth c H locs cells slots Q (F0 m pc ls (.int (nI a) :: rest)) := lv_if_le hexec hb hdg ht (fun h => kt (Nat.le_zero.mp ((cd_zl ha).mp h))) (fun h => kf (Nat.lt_of_not_le (fun q => h ((cd_zl ha).mpr q))))
theorem cd_i1 (e : Nat) : nI e + Int32.ofInt 1 = nI (e + 1) := nI_1 e
theorem cd_i5 (e : Nat) : nI e + Int32.ofInt 5 = nI (e + 5) := nI_add e 5
theorem cd_iald (hexec : p.tables.exec = Jvm.exec) (hb : c.code = cc) (hK : va_K D cl (TY cy) s) (hP : va_P D cl ws H) (q0 : Nat) {n : Nat} {f : Nat → Int32} (ha : ws[q0]? = some (a, aI cy n f)) {i : Nat} (hi : i < n) (hn : n < 2147483648) (hdg : decode cc pc = .ok (.iaload, 1))
    (kk : W p l e R s m args below meth c H locs cells slots Q (F0 m (pc + 1) ls (.int (f i) :: rest))) : W p l e R s m args below meth c H locs cells slots Q (F0 m pc ls (.int (nI i) :: .ref a :: rest)) :=
  va_iald hexec hb hK hP q0 0 ha rfl (vp_in_nI hi hn) hdg (by rw [nI_clamp (by omega)]; exact kk)
theorem cd_zald (hexec : p.tables.exec = Jvm.exec) (hb : c.code = cc) (hK : va_K D cl (TY cy) s) (hP : va_P D cl ws H) (q0 : Nat) {n : Nat} {f : Nat → Int32} (ha : ws[q0]? = some (a, aZ cy n f)) {i : Nat} (hi : i < n) (hn : n < 2147483648) (hdg : decode cc pc = .ok (.baload, 1))
    (kk : W p l e R s m args below meth c H locs cells slots Q (F0 m (pc + 1) ls (.int (f i) :: rest))) : W p l e R s m args below meth c H locs cells slots Q (F0 m pc ls (.int (nI i) :: .ref a :: rest)) :=
  va_zald hexec hb hK hP q0 1 ha rfl (vp_in_nI hi hn) hdg (by rw [nI_clamp (by omega)]; exact kk)
theorem cd_iast (hexec : p.tables.exec = Jvm.exec) (hb : c.code = cc) (hK : va_K D cl (TY cy) s) (hP : va_P D cl ws H) (hD : va_D A0 ws) (hS : va_S A0 H0 H locs) (q0 : Nat) {n : Nat} {f : Nat → Int32} (ha : ws[q0]? = some (a, aI cy n f)) {i : Nat} {x : Int32} (hi : i < n) (hn : n < 2147483648) (hdg : decode cc pc = .ok (.iastore, 1))
    (kk : ∀ (H1 : Heap) (locs1 : List Loc), va_P D cl (ws.set q0 (a, aI cy n (upd f i x))) H1 → va_D A0 (ws.set q0 (a, aI cy n (upd f i x))) → va_S A0 H0 H1 locs1 → W p l e R s m args below meth c H1 locs1 cells slots Q (F0 m (pc + 1) ls rest)) : W p l e R s m args below meth c H locs cells slots Q (F0 m pc ls (.int x :: .int (nI i) :: .ref a :: rest)) :=
  va_iast hexec hb hK hP hD hS q0 0 ha rfl (vp_in_nI hi hn) hdg (by rw [nI_clamp (by omega)]; exact kk)
theorem cd_zast (hexec : p.tables.exec = Jvm.exec) (hb : c.code = cc) (hK : va_K D cl (TY cy) s) (hP : va_P D cl ws H) (hD : va_D A0 ws) (hS : va_S A0 H0 H locs) (q0 : Nat) {n : Nat} {f : Nat → Int32} (ha : ws[q0]? = some (a, aZ cy n f)) {i : Nat} {x : Int32} (hx : vp_nar .boolean x = x) (hi : i < n) (hn : n < 2147483648) (hdg : decode cc pc = .ok (.bastore, 1))
    (kk : ∀ (H1 : Heap) (locs1 : List Loc), va_P D cl (ws.set q0 (a, aZ cy n (upd f i x))) H1 → va_D A0 (ws.set q0 (a, aZ cy n (upd f i x))) → va_S A0 H0 H1 locs1 → W p l e R s m args below meth c H1 locs1 cells slots Q (F0 m (pc + 1) ls rest)) : W p l e R s m args below meth c H locs cells slots Q (F0 m pc ls (.int x :: .int (nI i) :: .ref a :: rest)) :=
  va_zast hexec hb hK hP hD hS q0 1 ha rfl (vp_in_nI hi hn) hdg (by rw [nI_clamp (by omega), hx]; exact kk)
variable {mc ms : Nat} {free : Addr → Prop} {av : Array Value}
/-- a call of a method that reads alone -/
theorem cd_roi {post : Int32 → Prop} (hr : va_Run p l e R s m args below meth c H locs cells slots 0 0 (F0 m pc ls st0) rest (vp_Si post av) (fun _ => False)) (kk : ∀ r : Int32, post r → W p l e R s m args below meth c H locs cells slots Q (F0 m (pc + 3) ls (.int r :: rest))) : W p l e R s m args below meth c H locs cells slots Q (F0 m pc ls st0) := by
  intro T hT X
  obtain ⟨v, st₀, t, T', L, h0, X', hL, e1, -, ⟨r, hv, hp, hh⟩, st⟩ := hr T hT X
  cases hv
  obtain ⟨t2, a1, b1⟩ := kk r hp T' (by rw [e1, hh, h0]) (Stand.forget X' (fun q h => (hL q h).elim))
  exact ⟨t2, st t2 a1, b1⟩
/-- a call of a method that writes: the rest of the world stays -/
theorem cd_frQ {wc wr w1 ws' : va_W} {H1 : Heap} (hP : va_P D cl ws H) (hD : va_D A0 ws) (isC isR pm : List Nat) (hC : isC.map (fun i => ws[i]?) = wc.map some) (hR : isR.map (fun i => ws[i]?) = wr.map some) (hn : va_nd isR = true) (hdis : ∀ i ∈ isR, i ∉ isC) (hpn : va_nd pm = true) (hpm : pm.map (fun i => (wr ++ w1)[i]?) = ws'.map some)
    (hk : ∀ q : Nat, q < H.size → ¬ va_A wc H.size q → H1[q]? = H[q]?) (hF : ∀ q, va_A wc H.size q → A0 q) (hP1 : va_P D cl w1 H1) (hD1 : va_D (va_A wc H.size) w1) : va_P D cl ws' H1 ∧ va_D A0 ws' := by
  obtain ⟨h1, h2⟩ := va_join hP hD isC isR hC hR hn hdis hk hF hP1 hD1
  refine ⟨fun k q hq => ?_, h2.sub pm hpn hpm⟩
  have h3 : (pm.map (fun i => (wr ++ w1)[i]?))[k]? = some (some q) := by rw [hpm, List.getElem?_map, hq]; rfl
  rw [List.getElem?_map] at h3
  cases hi : pm[k]? with
  | none => rw [hi] at h3; cases h3
  | some i => rw [hi] at h3; exact h1 i q (Option.some.inj h3)
theorem cd_fri {S : Type} {post : Int32 → S → Prop} {W1 ws' : S → va_W} {wc wr : va_W} (hr : va_Run p l e R s m args below meth c H locs cells slots mc ms (F0 m pc ls st0) rest (va_Qi post (fun u t => va_P D cl (W1 u) t.heap ∧ va_D (va_A wc H.size) (W1 u)) (va_A wc H.size) av) (va_A wc H.size))
    (hP : va_P D cl ws H) (hD : va_D A0 ws) (hS : va_S A0 H0 H locs) (hA : ∀ q, H0.size ≤ q → A0 q) (isC isR pm : List Nat) (hC : isC.map (fun i => ws[i]?) = wc.map some) (hR : isR.map (fun i => ws[i]?) = wr.map some) (hn : va_nd isR = true) (hdis : ∀ i ∈ isR, i ∉ isC) (hpn : va_nd pm = true) (hpm : ∀ u : S, pm.map (fun i => (wr ++ W1 u)[i]?) = (ws' u).map some)
    (kk : ∀ (r : Int32) (u : S) (H1 : Heap) (locs1 : List Loc), post r u → va_P D cl (ws' u) H1 → va_D A0 (ws' u) → va_S A0 H0 H1 locs1 → W p l e R s m args below meth c H1 locs1 (cells + mc) (slots + ms) Q (F0 m (pc + 3) ls (.int r :: rest))) : W p l e R s m args below meth c H locs cells slots Q (F0 m pc ls st0) := by
  have hF := va_free (wc := wc) hD hS hA isC hC
  refine va_calli hr hS (fun q _ h => hF q h) hF (fun r u t H1 locs1 ht hvm hw hB hz1 hk1 hS1 => ?_)
  obtain ⟨hP1, hD1⟩ := hB
  rw [ht] at hP1
  obtain ⟨h1, h2⟩ := cd_frQ hP hD isC isR pm hC hR hn hdis hpn (hpm u) hk1 hF hP1 hD1
  exact kk r u H1 locs1 hw h1 h2 hS1
theorem cd_frv {S : Type} {post : S → Prop} {W1 ws' : S → va_W} {wc wr : va_W} (hr : va_Run p l e R s m args below meth c H locs cells slots mc ms (F0 m pc ls st0) rest (va_Qv post (fun u t => va_P D cl (W1 u) t.heap ∧ va_D (va_A wc H.size) (W1 u)) (va_A wc H.size) av) (va_A wc H.size))
    (hP : va_P D cl ws H) (hD : va_D A0 ws) (hS : va_S A0 H0 H locs) (hA : ∀ q, H0.size ≤ q → A0 q) (isC isR pm : List Nat) (hC : isC.map (fun i => ws[i]?) = wc.map some) (hR : isR.map (fun i => ws[i]?) = wr.map some) (hn : va_nd isR = true) (hdis : ∀ i ∈ isR, i ∉ isC) (hpn : va_nd pm = true) (hpm : ∀ u : S, pm.map (fun i => (wr ++ W1 u)[i]?) = (ws' u).map some)
    (kk : ∀ (u : S) (H1 : Heap) (locs1 : List Loc), post u → va_P D cl (ws' u) H1 → va_D A0 (ws' u) → va_S A0 H0 H1 locs1 → W p l e R s m args below meth c H1 locs1 (cells + mc) (slots + ms) Q (F0 m (pc + 3) ls rest)) : W p l e R s m args below meth c H locs cells slots Q (F0 m pc ls st0) := by
  have hF := va_free (wc := wc) hD hS hA isC hC
  refine va_callv hr hS (fun q _ h => hF q h) hF (fun u t H1 locs1 ht hvm hw hB hz1 hk1 hS1 => ?_)
  obtain ⟨hP1, hD1⟩ := hB
  rw [ht] at hP1
  obtain ⟨h1, h2⟩ := cd_frQ hP hD isC isR pm hC hR hn hdis hpn (hpm u) hk1 hF hP1 hD1
  exact kk u H1 locs1 hw h1 h2 hS1
/-- a call of a check: it throws, or nothing has changed -/
theorem cd_xrv {post : Unit → Prop} {px : String → Prop} (hr : vx_Run p l e R s m args below meth c H locs cells slots mc ms (F0 m pc ls st0) rest (va_Sv post av) (nX px) free) (hS : va_S A0 H0 H locs) (hf : ∀ q, free q → A0 q)
    (kx : ∀ (E : String) (ce : Cell) (q9 : Addr) (H1 : Heap) (locs1 : List Loc), px E → va_S A0 H0 H1 locs1 → H.size ≤ H1.size → (∀ q : Nat, q < H.size → H1[q]? = H[q]?) → H1[q9]? = some ce → ce.vm = .none → s.vm.findClass E = some ce.cls → vx_W p l e R s m args below meth c H1 locs1 (cells + mc) (slots + ms) Q (F0 m pc ls rest) q9)
    (kk : post () → ∀ locs1 : List Loc, va_S A0 H0 H locs1 → W p l e R s m args below meth c H locs1 (cells + mc) (slots + ms) Q (F0 m (pc + 3) ls rest)) : W p l e R s m args below meth c H locs cells slots Q (F0 m pc ls st0) := by
  intro T hT X
  have app : ∀ {L : List Loc}, (∀ q ∈ L, free q.base) → ∀ q ∈ locs ++ L, A0 q.base := fun hL q hq => (List.mem_append.mp hq).elim (hS.2.2 q) (fun h => hf _ (hL q h))
  rcases hr T hT X with ⟨v, st₀, t, T', L, h0, X', hL, e1, -, ⟨hv, hp, hh⟩, st⟩ | ⟨q, st₀, t, T', L, E, ce, h0, X', hL, e1, e2, ⟨hx, hz, hk⟩, hce, hcv, hcl, st⟩
  · cases hv
    obtain ⟨t2, a1, b1⟩ := kk hp (locs ++ L) ⟨hS.1, hS.2.1, app hL⟩ T' (by rw [e1, hh, h0]) X'
    exact ⟨t2, st t2 a1, b1⟩
  · rw [h0] at hz hk
    obtain ⟨t2, a1, b1⟩ := kx E ce q T'.heap (locs ++ L) hx ⟨Nat.le_trans hS.1 (by rw [e1]; exact hz), fun z h1 h2 => by rw [e1, hk z (Nat.lt_of_lt_of_le h1 hS.1)]; exact hS.2.1 z h1 h2, app hL⟩ (by rw [e1]; exact hz) (fun z h => by rw [e1]; exact hk z h) (by rw [e1]; exact hce) hcv hcl T' rfl X'
    exact ⟨t2, st.trans a1, b1⟩
/-- a call that writes or throws -/
theorem cd_xri {S : Type} {post : Int32 → S → Prop} {px : String → Prop} {W1 ws' : S → va_W} {wc wr : va_W} (hr : vx_Run p l e R s m args below meth c H locs cells slots mc ms (F0 m pc ls st0) rest (va_Qi post (fun u t => va_P D cl (W1 u) t.heap ∧ va_D (va_A wc H.size) (W1 u)) (va_A wc H.size) av) (nX px) (va_A wc H.size))
    (hP : va_P D cl ws H) (hD : va_D A0 ws) (hS : va_S A0 H0 H locs) (hA : ∀ q, H0.size ≤ q → A0 q) (isC isR pm : List Nat) (hC : isC.map (fun i => ws[i]?) = wc.map some) (hR : isR.map (fun i => ws[i]?) = wr.map some) (hn : va_nd isR = true) (hdis : ∀ i ∈ isR, i ∉ isC) (hpn : va_nd pm = true) (hpm : ∀ u : S, pm.map (fun i => (wr ++ W1 u)[i]?) = (ws' u).map some)
    (kx : ∀ (E : String) (ce : Cell) (q9 : Addr) (H1 : Heap) (locs1 : List Loc), px E → va_P D cl ws H1 → va_S A0 H0 H1 locs1 → H1[q9]? = some ce → ce.vm = .none → s.vm.findClass E = some ce.cls → vx_W p l e R s m args below meth c H1 locs1 (cells + mc) (slots + ms) Q (F0 m pc ls rest) q9)
    (kk : ∀ (r : Int32) (u : S) (H1 : Heap) (locs1 : List Loc), post r u → va_P D cl (ws' u) H1 → va_D A0 (ws' u) → va_S A0 H0 H1 locs1 → W p l e R s m args below meth c H1 locs1 (cells + mc) (slots + ms) Q (F0 m (pc + 3) ls (.int r :: rest))) : W p l e R s m args below meth c H locs cells slots Q (F0 m pc ls st0) := by
  have hF := va_free (wc := wc) hD hS hA isC hC
  intro T hT X
  have app : ∀ {L : List Loc}, (∀ q ∈ L, va_A wc H.size q.base) → ∀ q ∈ locs ++ L, A0 q.base := fun hL q hq => (List.mem_append.mp hq).elim (hS.2.2 q) (fun h => hF _ (hL q h))
  rcases hr T hT X with ⟨v, st₀, t, T', L, h0, X', hL, e1, -, ⟨⟨r, u, hv, hp, hP1, hD1⟩, hz, hk⟩, st⟩ | ⟨q, st₀, t, T', L, E, ce, h0, X', hL, e1, e2, ⟨hx, hz, hk⟩, hce, hcv, hcl, st⟩
  · cases hv
    rw [h0] at hz hk
    rw [← e1] at hz hk hP1
    obtain ⟨h1, h2⟩ := cd_frQ hP hD isC isR pm hC hR hn hdis hpn (hpm u) hk hF hP1 hD1
    obtain ⟨t2, a1, b1⟩ := kk r u T'.heap (locs ++ L) hp h1 h2 ⟨Nat.le_trans hS.1 hz, fun z h1 h2 => by rw [hk z (Nat.lt_of_lt_of_le h1 hS.1) (fun w => h2 (hF z w))]; exact hS.2.1 z h1 h2, app hL⟩ T' rfl X'
    exact ⟨t2, st t2 a1, b1⟩
  · rw [h0] at hz hk
    rw [← e1] at hz hk hce
    obtain ⟨t2, a1, b1⟩ := kx E ce q T'.heap (locs ++ L) hx (vaP_kept hP hk) ⟨Nat.le_trans hS.1 hz, fun z h1 h2 => by rw [hk z (Nat.lt_of_lt_of_le h1 hS.1)]; exact hS.2.1 z h1 h2, app hL⟩ hce hcv hcl T' rfl X'
    exact ⟨t2, st.trans a1, b1⟩
theorem wl1 {A1 : Type} {nL : Nat} (I : A1 → Prop) (μ : A1 → Nat) (lv : A1 → List (Nat × Value))
    (hs : ∀ (a1 : A1), I a1 → (∀ (b1 : A1), I b1 → μ b1 < μ a1 → ∀ ls : Array Slot, lv_has ls nL (lv b1) → W p l e R s m args below meth c H locs cells slots Q (F0 m pc ls [])) → ∀ ls : Array Slot, lv_has ls nL (lv a1) → W p l e R s m args below meth c H locs cells slots Q (F0 m pc ls []))
    (a1 : A1) (h : I a1) (hl : lv_has ls nL (lv a1)) : W p l e R s m args below meth c H locs cells slots Q (F0 m pc ls []) := by
  have key : ∀ (n : Nat) (a1 : A1), μ a1 < n → I a1 → ∀ ls : Array Slot, lv_has ls nL (lv a1) → W p l e R s m args below meth c H locs cells slots Q (F0 m pc ls []) := by
    intro n
    induction n with
    | zero => intro a1 h; exact absurd h (Nat.not_lt_zero _)
    | succ n ih => exact fun a1 h hI ls hl => hs a1 hI (fun b1 hJ hm ls2 hl2 => ih b1 (Nat.lt_of_lt_of_le hm (Nat.le_of_lt_succ h)) hJ ls2 hl2) ls hl
  exact key _ a1 (Nat.lt_succ_self _) h ls hl
theorem wl2 {A1 A2 : Type} {nL : Nat} (I : A1 → A2 → Prop) (μ : A1 → A2 → Nat) (lv : A1 → A2 → List (Nat × Value))
    (hs : ∀ (a1 : A1) (a2 : A2), I a1 a2 → (∀ (b1 : A1) (b2 : A2), I b1 b2 → μ b1 b2 < μ a1 a2 → ∀ ls : Array Slot, lv_has ls nL (lv b1 b2) → W p l e R s m args below meth c H locs cells slots Q (F0 m pc ls [])) → ∀ ls : Array Slot, lv_has ls nL (lv a1 a2) → W p l e R s m args below meth c H locs cells slots Q (F0 m pc ls []))
    (a1 : A1) (a2 : A2) (h : I a1 a2) (hl : lv_has ls nL (lv a1 a2)) : W p l e R s m args below meth c H locs cells slots Q (F0 m pc ls []) := by
  have key : ∀ (n : Nat) (a1 : A1) (a2 : A2), μ a1 a2 < n → I a1 a2 → ∀ ls : Array Slot, lv_has ls nL (lv a1 a2) → W p l e R s m args below meth c H locs cells slots Q (F0 m pc ls []) := by
    intro n
    induction n with
    | zero => intro a1 a2 h; exact absurd h (Nat.not_lt_zero _)
    | succ n ih => exact fun a1 a2 h hI ls hl => hs a1 a2 hI (fun b1 b2 hJ hm ls2 hl2 => ih b1 b2 (Nat.lt_of_lt_of_le hm (Nat.le_of_lt_succ h)) hJ ls2 hl2) ls hl
  exact key _ a1 a2 (Nat.lt_succ_self _) h ls hl
theorem wl3 {A1 A2 A3 : Type} {nL : Nat} (I : A1 → A2 → A3 → Prop) (μ : A1 → A2 → A3 → Nat) (lv : A1 → A2 → A3 → List (Nat × Value))
    (hs : ∀ (a1 : A1) (a2 : A2) (a3 : A3), I a1 a2 a3 → (∀ (b1 : A1) (b2 : A2) (b3 : A3), I b1 b2 b3 → μ b1 b2 b3 < μ a1 a2 a3 → ∀ ls : Array Slot, lv_has ls nL (lv b1 b2 b3) → W p l e R s m args below meth c H locs cells slots Q (F0 m pc ls [])) → ∀ ls : Array Slot, lv_has ls nL (lv a1 a2 a3) → W p l e R s m args below meth c H locs cells slots Q (F0 m pc ls []))
    (a1 : A1) (a2 : A2) (a3 : A3) (h : I a1 a2 a3) (hl : lv_has ls nL (lv a1 a2 a3)) : W p l e R s m args below meth c H locs cells slots Q (F0 m pc ls []) := by
  have key : ∀ (n : Nat) (a1 : A1) (a2 : A2) (a3 : A3), μ a1 a2 a3 < n → I a1 a2 a3 → ∀ ls : Array Slot, lv_has ls nL (lv a1 a2 a3) → W p l e R s m args below meth c H locs cells slots Q (F0 m pc ls []) := by
    intro n
    induction n with
    | zero => intro a1 a2 a3 h; exact absurd h (Nat.not_lt_zero _)
    | succ n ih => exact fun a1 a2 a3 h hI ls hl => hs a1 a2 a3 hI (fun b1 b2 b3 hJ hm ls2 hl2 => ih b1 b2 b3 (Nat.lt_of_lt_of_le hm (Nat.le_of_lt_succ h)) hJ ls2 hl2) ls hl
  exact key _ a1 a2 a3 (Nat.lt_succ_self _) h ls hl
theorem wh1 {A1 : Type} {nL : Nat} (I : A1 → Prop) (μ : A1 → Nat) (lv : A1 → List (Nat × Value)) (wd : A1 → va_W)
    (hs : ∀ (a1 : A1), I a1 → (∀ (b1 : A1), I b1 → μ b1 < μ a1 → ∀ (H1 : Heap) (locs1 : List Loc), va_P D cl (wd b1) H1 → va_D A0 (wd b1) → va_S A0 H0 H1 locs1 → ∀ ls : Array Slot, lv_has ls nL (lv b1) → W p l e R s m args below meth c H1 locs1 cells slots Q (F0 m pc ls [])) → ∀ (H1 : Heap) (locs1 : List Loc), va_P D cl (wd a1) H1 → va_D A0 (wd a1) → va_S A0 H0 H1 locs1 → ∀ ls : Array Slot, lv_has ls nL (lv a1) → W p l e R s m args below meth c H1 locs1 cells slots Q (F0 m pc ls []))
    (a1 : A1) (h : I a1) (hP : va_P D cl (wd a1) H) (hD : va_D A0 (wd a1)) (hS : va_S A0 H0 H locs) (hl : lv_has ls nL (lv a1)) : W p l e R s m args below meth c H locs cells slots Q (F0 m pc ls []) := by
  have key : ∀ (n : Nat) (a1 : A1), μ a1 < n → I a1 → ∀ (H1 : Heap) (locs1 : List Loc), va_P D cl (wd a1) H1 → va_D A0 (wd a1) → va_S A0 H0 H1 locs1 → ∀ ls : Array Slot, lv_has ls nL (lv a1) → W p l e R s m args below meth c H1 locs1 cells slots Q (F0 m pc ls []) := by
    intro n
    induction n with
    | zero => intro a1 h; exact absurd h (Nat.not_lt_zero _)
    | succ n ih => exact fun a1 h hI H1 locs1 hP hD hS ls hl => hs a1 hI (fun b1 hJ hm H2 locs2 hP2 hD2 hS2 ls2 hl2 => ih b1 (Nat.lt_of_lt_of_le hm (Nat.le_of_lt_succ h)) hJ H2 locs2 hP2 hD2 hS2 ls2 hl2) H1 locs1 hP hD hS ls hl
  exact key _ a1 (Nat.lt_succ_self _) h H locs hP hD hS ls hl
theorem wh2 {A1 A2 : Type} {nL : Nat} (I : A1 → A2 → Prop) (μ : A1 → A2 → Nat) (lv : A1 → A2 → List (Nat × Value)) (wd : A1 → A2 → va_W)
    (hs : ∀ (a1 : A1) (a2 : A2), I a1 a2 → (∀ (b1 : A1) (b2 : A2), I b1 b2 → μ b1 b2 < μ a1 a2 → ∀ (H1 : Heap) (locs1 : List Loc), va_P D cl (wd b1 b2) H1 → va_D A0 (wd b1 b2) → va_S A0 H0 H1 locs1 → ∀ ls : Array Slot, lv_has ls nL (lv b1 b2) → W p l e R s m args below meth c H1 locs1 cells slots Q (F0 m pc ls [])) → ∀ (H1 : Heap) (locs1 : List Loc), va_P D cl (wd a1 a2) H1 → va_D A0 (wd a1 a2) → va_S A0 H0 H1 locs1 → ∀ ls : Array Slot, lv_has ls nL (lv a1 a2) → W p l e R s m args below meth c H1 locs1 cells slots Q (F0 m pc ls []))
    (a1 : A1) (a2 : A2) (h : I a1 a2) (hP : va_P D cl (wd a1 a2) H) (hD : va_D A0 (wd a1 a2)) (hS : va_S A0 H0 H locs) (hl : lv_has ls nL (lv a1 a2)) : W p l e R s m args below meth c H locs cells slots Q (F0 m pc ls []) := by
  have key : ∀ (n : Nat) (a1 : A1) (a2 : A2), μ a1 a2 < n → I a1 a2 → ∀ (H1 : Heap) (locs1 : List Loc), va_P D cl (wd a1 a2) H1 → va_D A0 (wd a1 a2) → va_S A0 H0 H1 locs1 → ∀ ls : Array Slot, lv_has ls nL (lv a1 a2) → W p l e R s m args below meth c H1 locs1 cells slots Q (F0 m pc ls []) := by
    intro n
    induction n with
    | zero => intro a1 a2 h; exact absurd h (Nat.not_lt_zero _)
    | succ n ih => exact fun a1 a2 h hI H1 locs1 hP hD hS ls hl => hs a1 a2 hI (fun b1 b2 hJ hm H2 locs2 hP2 hD2 hS2 ls2 hl2 => ih b1 b2 (Nat.lt_of_lt_of_le hm (Nat.le_of_lt_succ h)) hJ H2 locs2 hP2 hD2 hS2 ls2 hl2) H1 locs1 hP hD hS ls hl
  exact key _ a1 a2 (Nat.lt_succ_self _) h H locs hP hD hS ls hl
theorem wh3 {A1 A2 A3 : Type} {nL : Nat} (I : A1 → A2 → A3 → Prop) (μ : A1 → A2 → A3 → Nat) (lv : A1 → A2 → A3 → List (Nat × Value)) (wd : A1 → A2 → A3 → va_W)
    (hs : ∀ (a1 : A1) (a2 : A2) (a3 : A3), I a1 a2 a3 → (∀ (b1 : A1) (b2 : A2) (b3 : A3), I b1 b2 b3 → μ b1 b2 b3 < μ a1 a2 a3 → ∀ (H1 : Heap) (locs1 : List Loc), va_P D cl (wd b1 b2 b3) H1 → va_D A0 (wd b1 b2 b3) → va_S A0 H0 H1 locs1 → ∀ ls : Array Slot, lv_has ls nL (lv b1 b2 b3) → W p l e R s m args below meth c H1 locs1 cells slots Q (F0 m pc ls [])) → ∀ (H1 : Heap) (locs1 : List Loc), va_P D cl (wd a1 a2 a3) H1 → va_D A0 (wd a1 a2 a3) → va_S A0 H0 H1 locs1 → ∀ ls : Array Slot, lv_has ls nL (lv a1 a2 a3) → W p l e R s m args below meth c H1 locs1 cells slots Q (F0 m pc ls []))
    (a1 : A1) (a2 : A2) (a3 : A3) (h : I a1 a2 a3) (hP : va_P D cl (wd a1 a2 a3) H) (hD : va_D A0 (wd a1 a2 a3)) (hS : va_S A0 H0 H locs) (hl : lv_has ls nL (lv a1 a2 a3)) : W p l e R s m args below meth c H locs cells slots Q (F0 m pc ls []) := by
  have key : ∀ (n : Nat) (a1 : A1) (a2 : A2) (a3 : A3), μ a1 a2 a3 < n → I a1 a2 a3 → ∀ (H1 : Heap) (locs1 : List Loc), va_P D cl (wd a1 a2 a3) H1 → va_D A0 (wd a1 a2 a3) → va_S A0 H0 H1 locs1 → ∀ ls : Array Slot, lv_has ls nL (lv a1 a2 a3) → W p l e R s m args below meth c H1 locs1 cells slots Q (F0 m pc ls []) := by
    intro n
    induction n with
    | zero => intro a1 a2 a3 h; exact absurd h (Nat.not_lt_zero _)
    | succ n ih => exact fun a1 a2 a3 h hI H1 locs1 hP hD hS ls hl => hs a1 a2 a3 hI (fun b1 b2 b3 hJ hm H2 locs2 hP2 hD2 hS2 ls2 hl2 => ih b1 b2 b3 (Nat.lt_of_lt_of_le hm (Nat.le_of_lt_succ h)) hJ H2 locs2 hP2 hD2 hS2 ls2 hl2) H1 locs1 hP hD hS ls hl
  exact key _ a1 a2 a3 (Nat.lt_succ_self _) h H locs hP hD hS ls hl
end CDN
end
section
/-! numbers and bits that both sides speak of -/
abbrev nv (x : Int32) : Nat := x.toNatClampNeg
theorem nv_nI {n : Nat} (h : n < 2147483648) : nv (nI n) = n := nI_clamp h
def bI (b : Bool) : Int32 := if b = true then 1 else 0
theorem bI_t : bI true = 1 := rfl
theorem bI_f : bI false = 0 := rfl
theorem bI_z (b : Bool) : bI b = 0 ↔ b = false := by cases b <;> decide
theorem bI_nz (b : Bool) : ¬ bI b = 0 ↔ b = true := by cases b <;> decide
theorem bI_N (b : Bool) : bI b = nI (if b = true then 1 else 0) := by cases b <;> rfl
theorem nar_bI (b : Bool) : narrow .boolean (.int (bI b)) = .int (bI b) := by cases b <;> rfl
theorem nar_b01 {x : Int32} (h : x = 0 ∨ x = 1) : narrow .boolean (.int x) = .int x := by rcases h with rfl | rfl <;> rfl
/-- a number in a range -/
def bd (x : Int32) (n : Nat) : Prop := x = nI (nv x) ∧ nv x < n
theorem bd_nI {n N : Nat} (h : n < N) (hN : N ≤ 2147483648) : bd (nI n) N := ⟨by rw [nv_nI (by omega)], by rw [nv_nI (by omega)]; exact h⟩
theorem bd_in {x : Int32} {n : Nat} (hn : n ≤ 2147483648) (h : bd x n) : vp_in x n := by
  rw [h.1]; exact fun q => q.elim (fun q => nI_pos (by have := h.2; omega) q) (fun q => by rw [nI_clamp (by have := h.2; omega)] at q; have := h.2; omega)
theorem bd_mono {x : Int32} {a b : Nat} (h : bd x a) (hab : a ≤ b) : bd x b := ⟨h.1, Nat.lt_of_lt_of_le h.2 hab⟩
/-- the first of n places with P, or n -/
def fs (P : Nat → Bool) : Nat → Nat
  | 0 => 0
  | n + 1 => if fs P n < n then fs P n else if P n = true then n else n + 1
theorem fs_le (P : Nat → Bool) : ∀ n, fs P n ≤ n
  | 0 => Nat.le_refl 0
  | n + 1 => by
    have ih := fs_le P n
    simp only [fs]
    split
    · omega
    · split <;> omega
theorem fs_no (P : Nat → Bool) : ∀ n k, k < fs P n → P k = false
  | 0, k, h => absurd h (Nat.not_lt_zero k)
  | n + 1, k, h => by
    have ih := fs_no P n
    have hl := fs_le P n
    simp only [fs] at h
    split at h
    · exact ih k h
    · rename_i h1
      have e : fs P n = n := by omega
      split at h
      · exact ih k (by omega)
      · rename_i h2
        rcases Nat.lt_or_ge k n with q | q
        · exact ih k (by omega)
        · have : k = n := by omega
          subst this
          exact Bool.eq_false_iff.mpr h2
theorem fs_yes (P : Nat → Bool) : ∀ n, fs P n < n → P (fs P n) = true
  | 0, h => absurd h (Nat.not_lt_zero _)
  | n + 1, h => by
    have ih := fs_yes P n
    simp only [fs] at h ⊢
    split
    · rename_i h1; exact ih h1
    · rename_i h1
      rw [if_neg h1] at h
      split
      · rename_i h2; exact h2
      · rename_i h2; rw [if_neg h2] at h; omega
theorem fs_hit {P : Nat → Bool} {n k : Nat} (hk : k < n) (hb : ∀ j, j < k → P j = false) (hp : P k = true) : fs P n = k := by
  have h1 : ¬ k < fs P n := fun q => by have := fs_no P n k q; rw [hp] at this; exact Bool.noConfusion this
  have h2 : ¬ fs P n < k := fun q => by have := fs_yes P n (by omega); rw [hb _ q] at this; exact Bool.noConfusion this
  omega
theorem fs_miss {P : Nat → Bool} {n : Nat} (hb : ∀ j, j < n → P j = false) : fs P n = n := by
  have h1 := fs_le P n
  have h2 : ¬ fs P n < n := fun q => by have := fs_yes P n q; rw [hb _ q] at this; exact Bool.noConfusion this
  omega
theorem fs_cong {P P' : Nat → Bool} {n : Nat} (h : ∀ j, j < n → P j = P' j) : fs P n = fs P' n := by
  rcases Nat.lt_or_ge (fs P' n) n with q | q
  · exact fs_hit q (fun j hj => by rw [h j (by omega)]; exact fs_no P' n j hj) (by rw [h _ q]; exact fs_yes P' n q)
  · have e : fs P' n = n := Nat.le_antisymm (fs_le P' n) q
    rw [e]
    exact fs_miss (fun j hj => by rw [h j hj]; exact fs_no P' n j (by omega))
/-- .. as an int: its place, or -1; and whether there is one -/
def fi (P : Nat → Bool) (n : Nat) : Int32 := if fs P n < n then nI (fs P n) else -1
def ex (P : Nat → Bool) (n : Nat) : Bool := decide (fs P n < n)
theorem fi_hit {P : Nat → Bool} {n k : Nat} (hk : k < n) (hb : ∀ j, j < k → P j = false) (hp : P k = true) : nI k = fi P n := by
  rw [fi, fs_hit hk hb hp, if_pos hk]
theorem fi_miss {P : Nat → Bool} {n : Nat} (hb : ∀ j, j < n → P j = false) : (-1 : Int32) = fi P n := by
  rw [fi, fs_miss hb, if_neg (Nat.lt_irrefl n)]
theorem ex_iff {P : Nat → Bool} {n : Nat} : ex P n = true ↔ ∃ k, k < n ∧ P k = true := by
  unfold ex
  rw [decide_eq_true_iff]
  refine ⟨fun h => ⟨_, h, fs_yes P n h⟩, fun ⟨k, h1, h2⟩ => ?_⟩
  rcases Nat.lt_or_ge (fs P n) n with q | q
  · exact q
  · have := fs_no P n k (by omega)
    rw [h2] at this; exact Bool.noConfusion this
theorem ex_not {P : Nat → Bool} {n : Nat} (h : ∀ k, k < n → P k = false) : ex P n = false := by
  rw [Bool.eq_false_iff]
  exact fun q => by obtain ⟨k, h1, h2⟩ := ex_iff.mp q; rw [h k h1] at h2; exact Bool.noConfusion h2
theorem m1_ne {n : Nat} (h : n < 2147483648) : ¬ (nI n = -1) := fun q => by
  have e := congrArg Int32.toInt q
  rw [nI_toInt h] at e
  have e2 : (-1 : Int32).toInt = -1 := by decide
  omega
theorem fi_ne {P : Nat → Bool} {n : Nat} (hn : n ≤ 2147483648) : fi P n = -1 ↔ ex P n = false := by
  unfold fi ex
  split
  · rename_i h
    exact ⟨fun q => absurd q (m1_ne (by omega)), fun q => by rw [decide_eq_false_iff_not] at q; exact absurd h q⟩
  · rename_i h
    exact ⟨fun _ => by rw [decide_eq_false_iff_not]; exact h, fun _ => rfl⟩
theorem upd_self (f : Nat → Int32) (i : Nat) : upd f i (f i) = f := by
  funext j; unfold upd; split
  · rename_i h; rw [h]
  · rfl
theorem upd_eq {f : Nat → Int32} {i : Nat} {x : Int32} (h : f i = x) : upd f i x = f := by rw [← h]; exact upd_self f i
theorem upd_s (f : Nat → Int32) (i : Nat) (x : Int32) : upd f i x i = x := if_pos rfl
theorem upd_n (f : Nat → Int32) {i j : Nat} (x : Int32) (h : j ≠ i) : upd f i x j = f j := if_neg h
theorem sub1 (n : Nat) (h : 0 < n) : nI n - 1 = nI (n - 1) := pk_sub (a := n) (b := 1) h
/-- how many bits, of the lowest twelve -/
def pcn : Nat → Nat → Nat
  | 0, _ => 0
  | k + 1, m => pcn k m + (if m.testBit k = true then 1 else 0)
abbrev pc12 (m : Nat) : Nat := pcn 12 m
/-! throws -/
def nm2 : List String := ["java/lang/RuntimeException", "java/lang/Exception"]
section CDT
variable {p : Program} {l : Launch} {e : Env} {R : Room} {s : State} {m : MethodId} {args : Array Value} {below : List Frame} {meth : Method} {c : Code} {H : Heap} {locs : List Loc} {cells slots : Nat} {Q : State → Prop}
variable {cc : ByteArray} {pc nL : Nat} {ls : Array Slot} {rest : List Value} {A : Nat → Prop} {mc ms : Nat} {Qc : Array Value → State → Outcome → State → Prop} {px : String → Prop}
theorem cd_ifB_eq (hexec : p.tables.exec = Jvm.exec) (hb : c.code = cc) {b : Bool} {off : Int} {tgt : Nat} (hdg : decode cc pc = .ok (.ifCond .eq off, 3)) (ht : (pc : Int) + off = (tgt : Int)) (kt : b = false → W p l e R s m args below meth c H locs cells slots Q (F0 m tgt ls rest)) (kf : b = true → W p l e R s m args below meth c H locs cells slots Q (F0 m (pc + 3) ls rest)) : W p l e R s m args below meth c H locs cells slots Q (F0 m pc ls (.int (bI b) :: rest)) := lv_if_eq hexec hb hdg ht (fun h => kt ((bI_z b).mp h)) (fun h => kf ((bI_nz b).mp h))
theorem cd_ifB_ne (hexec : p.tables.exec = Jvm.exec) (hb : c.code = cc) {b : Bool} {off : Int} {tgt : Nat} (hdg : decode cc pc = .ok (.ifCond .ne off, 3)) (ht : (pc : Int) + off = (tgt : Int)) (kt : b = true → W p l e R s m args below meth c H locs cells slots Q (F0 m tgt ls rest)) (kf : b = false → W p l e R s m args below meth c H locs cells slots Q (F0 m (pc + 3) ls rest)) : W p l e R s m args below meth c H locs cells slots Q (F0 m pc ls (.int (bI b) :: rest)) := lv_if_ne hexec hb hdg ht (fun h => kt ((bI_nz b).mp h)) (fun h => kf ((bI_z b).mp h))
theorem cd_thr {cls tx : String} {ik is ic : Nat} (hcls : Bundle.fit cls = true) (hgood : ∀ w ∈ Cond.classLink RX6 ik cls :: Cond.initialized cls :: vx_atS RX6 ic cls nm2, vx_ot w = true) (hnot : ∀ w ∈ (vx_atS RX6 ic cls nm2).filter (fun w => !goodWord w), w ∈ ([.castable cls cls, .declares (Bundle.initS "java/lang/RuntimeException"), .declares (Bundle.initS "java/lang/Exception"), .declares (Bundle.initS Bundle.tN)] : List Cond)) (hB : ∀ w ∈ ([.castable cls cls, .declares (Bundle.initS "java/lang/RuntimeException"), .declares (Bundle.initS "java/lang/Exception"), .declares (Bundle.initS Bundle.tN)] : List Cond), w.before args s = true)
    (hexec : p.tables.exec = Jvm.exec) (hb : c.code = cc) (hfl : l.stackTraces = false) (hown : s.vm.findClass RX6 = some m.cls) (hk : (Cond.classLink RX6 ik cls).before args s = true) (hini : (Cond.initialized cls).before args s = true) (htx : gT is tx s)
    (hat : ∀ w ∈ (vx_atS RX6 ic cls nm2).filter goodWord, w.before args s = true) (hTz : Tz A s s.heap) (hS : va_S A s.heap H locs) (hH : H = s.heap) (hsz : ls.size = nL) (hml : c.maxLocals = nL)
    (d0 : decode cc pc = .ok (.new ik, 3)) (d3 : decode cc (pc + 3) = .ok (.dup, 1)) (d4 : decode cc (pc + 4) = .ok (.ldc is, 2)) (d6 : decode cc (pc + 6) = .ok (.invokespecial ic, 3)) (d9 : decode cc (pc + 9) = .ok (.athrow, 1))
    (hout : ∀ x ∈ c.exceptionTable.toList, covers x (pc + 9) = false) (hRf : 5 < R.frames) (hRl : (rest.map fun v => v.category).sum + 82 ≤ R.locals) (hRc : cells + 1 ≤ R.cells) (hRs : slots + 6 ≤ R.slots) (hlocks : meth.locks = false) (hpx : px cls) (hc : cells + 1 ≤ mc) (hs : slots + 6 ≤ ms) :
    W p l e R s m args below meth c H locs cells slots (vx_MQ below Qc (nX px) args s mc ms A) (F0 m pc ls rest) := by
  obtain ⟨sa, hstr⟩ := htx
  have hnm : ∀ n ∈ nm2, Bundle.fit n = true := by decide +kernel
  exact vx_throwS (names := nm2) (sa := sa) hexec hb hfl hown hcls hnm hk hini hstr (vx_hat hat hnot hB) hgood hTz.1 hTz.2 hS (hsz.trans hml.symm) d0 d3 d4 d6 d9 hout hRf hRl hRc hRs hlocks
    (fun t _ h1 h2 => ⟨hpx, by rw [← hH]; exact h1, fun q hq => by rw [← hH] at hq ⊢; exact h2 q hq⟩) hS.2.2 hc hs
end CDT
theorem tg_IO : ∀ w ∈ Cond.classLink RX6 215 xIO :: Cond.initialized xIO :: vx_atS RX6 219 xIO nm2, vx_ot w = true := by decide +kernel
theorem tg_IA : ∀ w ∈ Cond.classLink RX6 58 xIA :: Cond.initialized xIA :: vx_atS RX6 62 xIA nm2, vx_ot w = true := by decide +kernel
theorem tg_IS : ∀ w ∈ Cond.classLink RX6 95 xIS :: Cond.initialized xIS :: vx_atS RX6 99 xIS nm2, vx_ot w = true := by decide +kernel
theorem tn_IO : ∀ w ∈ (vx_atS RX6 219 xIO nm2).filter (fun w => !goodWord w), w ∈ ([.castable xIO xIO, .declares (Bundle.initS "java/lang/RuntimeException"), .declares (Bundle.initS "java/lang/Exception"), .declares (Bundle.initS Bundle.tN)] : List Cond) := by decide +kernel
theorem tn_IA : ∀ w ∈ (vx_atS RX6 62 xIA nm2).filter (fun w => !goodWord w), w ∈ ([.castable xIA xIA, .declares (Bundle.initS "java/lang/RuntimeException"), .declares (Bundle.initS "java/lang/Exception"), .declares (Bundle.initS Bundle.tN)] : List Cond) := by decide +kernel
theorem tn_IS : ∀ w ∈ (vx_atS RX6 99 xIS nm2).filter (fun w => !goodWord w), w ∈ ([.castable xIS xIS, .declares (Bundle.initS "java/lang/RuntimeException"), .declares (Bundle.initS "java/lang/Exception"), .declares (Bundle.initS Bundle.tN)] : List Cond) := by decide +kernel
theorem tf_IO : Bundle.fit xIO = true := by decide +kernel
theorem tf_IA : Bundle.fit xIA = true := by decide +kernel
theorem tf_IS : Bundle.fit xIS = true := by decide +kernel
/-! bits -/
theorem tb_1 {m j : Nat} (h : m / 2 ^ j &&& 1 ≠ 0) : m.testBit j = true := by
  rw [Nat.and_one_is_mod] at h
  rw [Nat.testBit_eq_decide_div_mod_eq]
  exact decide_eq_true (by omega)
theorem tb_0 {m j : Nat} (h : m / 2 ^ j &&& 1 = 0) : m.testBit j = false := by
  rw [Nat.and_one_is_mod] at h
  rw [Nat.testBit_eq_decide_div_mod_eq]
  exact decide_eq_false (by omega)
def clr (m j : Nat) : Nat := if m.testBit j = true then m - 2 ^ j else m
theorem clr_J : ∀ m, m < 256 → ∀ j, j < 8 → nI m &&& (nI (1 * 2 ^ j) ^^^ (-1)) = nI (clr m j) := by decide +kernel
theorem p2_lt {j : Nat} (h : j < 31) : 2 ^ j < 2147483648 := Nat.pow_lt_pow_right (a := 2) (n := 31) (by decide) h
end
section
/-! what holds of every state that calls reach, and what methods answer of it -/
def Inv (S : qS) : Prop :=
  (bd (S 27 0) 9 ∧ 1 ≤ nv (S 27 0)) ∧ bd (S 28 0) 1001 ∧ bd (S 29 0) 41 ∧ bd (S 30 0) 41 ∧ bd (S 31 0) 101 ∧
  (∀ i, i < 12 → bd (S 3 i) 256 ∧ pc12 (nv (S 3 i)) ≤ 4) ∧
  (∀ d, d < 1001 → bd (S 4 d) 4096) ∧
  (∀ p, p < 8 → bd (S 7 p) 5) ∧
  (∀ p r, p < 8 → r < nv (S 7 p) → bd (S 6 (p * 4 + r)) 12) ∧
  (∀ p r r', p < 8 → r < nv (S 7 p) → r' < r → ¬ S 6 (p * 4 + r') = S 6 (p * 4 + r)) ∧
  (∀ i, S 11 i = 0 ∨ S 11 i = 1) ∧
  (∀ i, nv (S 30 0) ≤ i → S 17 i = 0) ∧
  (∀ i, 8 * nv (S 30 0) ≤ i → i < 320 → S 18 i = -1) ∧
  (∀ i j, i < nv (S 30 0) → j < i → ¬ S 19 j = S 19 i) ∧
  (∀ i, i < nv (S 31 0) → bd (S 22 i) 4 ∧ bd (S 23 i) 8)
theorem iv_27 {S : qS} (h : Inv S) : bd (S 27 0) 9 ∧ 1 ≤ nv (S 27 0) := h.1
theorem iv_28 {S : qS} (h : Inv S) : bd (S 28 0) 1001 := h.2.1
theorem iv_29 {S : qS} (h : Inv S) : bd (S 29 0) 41 := h.2.2.1
theorem iv_30 {S : qS} (h : Inv S) : bd (S 30 0) 41 := h.2.2.2.1
theorem iv_31 {S : qS} (h : Inv S) : bd (S 31 0) 101 := h.2.2.2.2.1
theorem iv_3 {S : qS} (h : Inv S) : ∀ i, i < 12 → bd (S 3 i) 256 ∧ pc12 (nv (S 3 i)) ≤ 4 := h.2.2.2.2.2.1
theorem iv_4 {S : qS} (h : Inv S) : ∀ d, d < 1001 → bd (S 4 d) 4096 := h.2.2.2.2.2.2.1
theorem iv_7 {S : qS} (h : Inv S) : ∀ p, p < 8 → bd (S 7 p) 5 := h.2.2.2.2.2.2.2.1
theorem iv_6 {S : qS} (h : Inv S) : ∀ p r, p < 8 → r < nv (S 7 p) → bd (S 6 (p * 4 + r)) 12 := h.2.2.2.2.2.2.2.2.1
theorem iv_6d {S : qS} (h : Inv S) : ∀ p r r', p < 8 → r < nv (S 7 p) → r' < r → ¬ S 6 (p * 4 + r') = S 6 (p * 4 + r) := h.2.2.2.2.2.2.2.2.2.1
theorem iv_11 {S : qS} (h : Inv S) : ∀ i, S 11 i = 0 ∨ S 11 i = 1 := h.2.2.2.2.2.2.2.2.2.2.1
theorem iv_17 {S : qS} (h : Inv S) : ∀ i, nv (S 30 0) ≤ i → S 17 i = 0 := h.2.2.2.2.2.2.2.2.2.2.2.1
theorem iv_18 {S : qS} (h : Inv S) : ∀ i, 8 * nv (S 30 0) ≤ i → i < 320 → S 18 i = -1 := h.2.2.2.2.2.2.2.2.2.2.2.2.1
theorem iv_19 {S : qS} (h : Inv S) : ∀ i j, i < nv (S 30 0) → j < i → ¬ S 19 j = S 19 i := h.2.2.2.2.2.2.2.2.2.2.2.2.2.1
theorem iv_22 {S : qS} (h : Inv S) : ∀ i, i < nv (S 31 0) → bd (S 22 i) 4 ∧ bd (S 23 i) 8 := h.2.2.2.2.2.2.2.2.2.2.2.2.2.2
/-- how many parts, actors in a row, costumes, shows, seats -/
abbrev nP (S : qS) : Nat := nv (S 27 0)
abbrev ln (S : qS) (p : Nat) : Nat := nv (S 7 p)
/-- the actor of a rank; the rank of an actor -/
def acI (S : qS) (p r : Nat) : Int32 := if r < nv (S 7 p) then S 6 (p * 4 + r) else -1
def rkP (S : qS) (p : Nat) (x : Int32) : Nat → Bool := fun r => decide (S 6 (p * 4 + r) = x)
def rkI (S : qS) (p : Nat) (x : Int32) : Int32 := fi (rkP S p x) (nv (S 7 p))
def rkB (S : qS) (p : Nat) (x : Int32) : Bool := ex (rkP S p x) (nv (S 7 p))
/-- costumes: one that fits, one that can be let out -/
def ftP (S : qS) (p : Nat) (z : Int32) : Nat → Bool := fun k => decide (S 10 k = nI p ∧ S 9 k = z)
def ftI (S : qS) (p : Nat) (z : Int32) : Int32 := fi (ftP S p z) (nv (S 29 0))
def ftB (S : qS) (p : Nat) (z : Int32) : Bool := ex (ftP S p z) (nv (S 29 0))
def loP (S : qS) (p : Nat) (z : Int32) : Nat → Bool := fun k => decide (S 10 k = nI p ∧ S 9 k + 1 = z ∧ S 11 k = 0)
def loI (S : qS) (p : Nat) (z : Int32) : Int32 := fi (loP S p z) (nv (S 29 0))
def loB (S : qS) (p : Nat) (z : Int32) : Bool := ex (loP S p z) (nv (S 29 0))
/-- the show on a day -/
def shP (S : qS) (d : Int32) : Nat → Bool := fun k => decide (S 19 k = d)
def shI (S : qS) (d : Int32) : Int32 := fi (shP S d) (nv (S 30 0))
/-- the row of a part without one, those behind moved up -/
def sfT (f : Nat → Int32) (b n : Nat) : Nat → Int32 := fun i => if b ≤ i ∧ i + 1 < n then f (i + 1) else f i
theorem sfT_0 (f : Nat → Int32) (b : Nat) : sfT f b (b + 1) = f := by
  funext i; unfold sfT; split
  · omega
  · rfl
theorem sfT_s (f : Nat → Int32) (b n : Nat) (h : b < n) : upd (sfT f b n) (n - 1) (f n) = sfT f b (n + 1) := by
  funext i; unfold upd sfT
  split
  · rename_i e; subst e
    rw [if_pos (by omega)]
    congr 1; omega
  · rename_i e
    split
    · rw [if_pos (by omega)]
    · rw [if_neg (by omega)]
/-- what a seat gives back, by what share -/
def gbI (S : qS) (k n : Nat) : Int32 := if n = 0 then 0 else (S 26 k + nI n - 1) / nI n
end
section
/-! what the loops make, step by step, in the words of numbers -/
theorem nv_lt (x : Int32) : nv x < 2147483648 := by
  have h := Int32.toInt_lt x
  have e : nv x = x.toInt.toNat := rfl
  rw [e]; omega
/-- who can play on a day, those of the mask m being ill -/
def rdy (S : qS) (a p m : Nat) : Bool := (nv (S 3 a)).testBit p && (!m.testBit a && (ftB S p (S 2 a) || loB S p (S 2 a)))
def avB (S : qS) (m i : Nat) : Bool := decide (i % 4 < nv (S 7 (i / 4))) && rdy S (nv (S 6 i)) (i / 4) m
def wk (S : qS) (i : Nat) : Nat := if ftB S (i / 4) (S 2 (nv (S 6 i))) = true then 0 else 1
/-- what a place adds to a cast's key -/
def ky (S : qS) (i : Nat) : Nat := i % 4 * 2 ^ 20 + wk S i * 2 ^ 16 + i % 4 * 2 ^ ((7 - i / 4) * 2)
theorem i4 {p r : Nat} (h : r < 4) : (p * 4 + r) % 4 = r ∧ (p * 4 + r) / 4 = p := by omega
theorem avB_at {S : qS} {m p r : Nat} (h : r < 4) : avB S m (p * 4 + r) = (decide (r < nv (S 7 p)) && rdy S (nv (S 6 (p * 4 + r))) p m) := by
  unfold avB; rw [(i4 h).1, (i4 h).2]
theorem ft_t {S : qS} {p : Nat} {z : Int32} (h : ¬ ftI S p z = -1) : ftB S p z = true := by
  cases q : ftB S p z with
  | true => rfl
  | false => exact absurd ((fi_ne (Nat.le_of_lt (nv_lt _))).mpr q) h
theorem ft_f {S : qS} {p : Nat} {z : Int32} (h : ftI S p z = -1) : ftB S p z = false := (fi_ne (Nat.le_of_lt (nv_lt _))).mp h
theorem lo_t {S : qS} {p : Nat} {z : Int32} (h : ¬ loI S p z = -1) : loB S p z = true := by
  cases q : loB S p z with
  | true => rfl
  | false => exact absurd ((fi_ne (Nat.le_of_lt (nv_lt _))).mpr q) h
theorem lo_f {S : qS} {p : Nat} {z : Int32} (h : loI S p z = -1) : loB S p z = false := (fi_ne (Nat.le_of_lt (nv_lt _))).mp h
theorem rk_t {S : qS} {p : Nat} {z : Int32} (h : ¬ rkI S p z = -1) : rkB S p z = true := by
  cases q : rkB S p z with
  | true => rfl
  | false => exact absurd ((fi_ne (Nat.le_of_lt (nv_lt _))).mpr q) h
theorem rk_f {S : qS} {p : Nat} {z : Int32} (h : rkI S p z = -1) : rkB S p z = false := (fi_ne (Nat.le_of_lt (nv_lt _))).mp h
theorem ac_t {S : qS} (hI : Inv S) {p r : Nat} (hp : p < 8) (h : ¬ acI S p r = -1) : r < nv (S 7 p) ∧ acI S p r = nI (nv (S 6 (p * 4 + r))) ∧ nv (S 6 (p * 4 + r)) < 12 := by
  unfold acI at h ⊢
  split
  · rename_i q
    exact ⟨q, (iv_6 hI p r hp q).1, (iv_6 hI p r hp q).2⟩
  · rename_i q
    rw [if_neg q] at h
    exact absurd rfl h
theorem ac_f {S : qS} (hI : Inv S) {p r : Nat} (hp : p < 8) (h : acI S p r = -1) : ¬ r < nv (S 7 p) := fun q => by
  unfold acI at h
  rw [if_pos q, (iv_6 hI p r hp q).1] at h
  exact m1_ne (by have := (iv_6 hI p r hp q).2; omega) h
/-- colds -/
def ilF (f : Nat → Int32) (a d0 d : Nat) : Nat → Int32 := fun i => if d0 ≤ i ∧ i < d then nI (nv (f i) ||| 2 ^ a) else f i
def ilC (f : Nat → Int32) (a d0 : Nat) : Nat → Nat
  | 0 => 0
  | n + 1 => ilC f a d0 n + (if (nv (f (d0 + n))).testBit a = true then 0 else 1)
theorem ilF_0 (f : Nat → Int32) (a d0 : Nat) : ilF f a d0 (d0 + 0) = f := by
  funext i; unfold ilF; rw [if_neg (by omega)]
theorem ilF_at (f : Nat → Int32) (a d0 n : Nat) : ilF f a d0 (d0 + n) (d0 + n) = f (d0 + n) := by
  unfold ilF; rw [if_neg (by omega)]
theorem ilF_w (f : Nat → Int32) (a d0 n : Nat) : upd (ilF f a d0 (d0 + n)) (d0 + n) (nI (nv (f (d0 + n)) ||| 2 ^ a)) = ilF f a d0 (d0 + (n + 1)) := by
  funext i; unfold upd ilF
  split
  · rename_i e; subst e; rw [if_pos (by omega)]
  · split
    · rw [if_pos (by omega)]
    · rw [if_neg (by omega)]
theorem or_bit {m a : Nat} (h : m.testBit a = true) : m ||| 2 ^ a = m := by
  apply Nat.eq_of_testBit_eq
  intro i
  rw [Nat.testBit_or, Nat.testBit_two_pow]
  by_cases e : a = i
  · subst e; rw [h]; rfl
  · simp [e]
theorem ilF_n (f : Nat → Int32) (a d0 n : Nat) (hf : f (d0 + n) = nI (nv (f (d0 + n)))) (hb : (nv (f (d0 + n))).testBit a = true) : ilF f a d0 (d0 + n) = ilF f a d0 (d0 + (n + 1)) := by
  rw [← ilF_w, or_bit hb, ← hf]
  exact (upd_eq (ilF_at f a d0 n)).symm
theorem ilC_t (f : Nat → Int32) (a d0 n : Nat) (hb : (nv (f (d0 + n))).testBit a = true) : ilC f a d0 n = ilC f a d0 (n + 1) := by
  show _ = ilC f a d0 n + _; rw [if_pos hb]; rfl
theorem ilC_f (f : Nat → Int32) (a d0 n : Nat) (hb : (nv (f (d0 + n))).testBit a = false) : ilC f a d0 n + 1 = ilC f a d0 (n + 1) := by
  show _ = ilC f a d0 n + _; rw [if_neg (by rw [hb]; decide)]
/-- the search's rows: emptied, and filled with those who can -/
def clF (f : Nat → Int32) (n : Nat) : Nat → Int32 := fun i => if i < n then -1 else f i
theorem clF_0 (f : Nat → Int32) : clF f 0 = f := by funext i; unfold clF; rw [if_neg (by omega)]
theorem clF_s (f : Nat → Int32) (n : Nat) : upd (clF f n) n (-1) = clF f (n + 1) := by
  funext i; unfold upd clF
  split
  · rename_i e; subst e; rw [if_pos (by omega)]
  · split
    · rw [if_pos (by omega)]
    · rw [if_neg (by omega)]
def ofA (S : qS) (m : Nat) (f : Nat → Int32) (P : Nat) : Nat → Int32 := fun i => if i < P ∧ avB S m i = true then nI (nv (S 6 i)) else f i
def ofK (S : qS) (m : Nat) (f : Nat → Int32) (P : Nat) : Nat → Int32 := fun i => if i < P ∧ avB S m i = true then nI (ky S i) else f i
def ofB (S : qS) (m : Nat) : Nat → Nat
  | 0 => 1
  | P + 1 => if avB S m P = true then max (ofB S m P) (2 * 2 ^ nv (S 6 P)) else ofB S m P
theorem ofX_0 (S : qS) (m : Nat) (f g : Nat → Int32) : (fun i => if i < 0 ∧ avB S m i = true then g i else f i) = f := by
  funext i; rw [if_neg (fun q => absurd q.1 (Nat.not_lt_zero i))]
theorem ofX_n {S : qS} {m P : Nat} {f g : Nat → Int32} (h : avB S m P = false) : (fun i => if i < P ∧ avB S m i = true then g i else f i) = (fun i => if i < P + 1 ∧ avB S m i = true then g i else f i) := by
  funext i
  split
  · rename_i q; rw [if_pos ⟨by omega, q.2⟩]
  · rename_i q
    rw [if_neg (fun q2 => by
      rcases Nat.lt_or_ge i P with q3 | q3
      · exact q ⟨q3, q2.2⟩
      · have e : i = P := by omega
        rw [e, h] at q2; exact Bool.noConfusion q2.2)]
theorem ofX_w {S : qS} {m P : Nat} {f g : Nat → Int32} (h : avB S m P = true) : upd (fun i => if i < P ∧ avB S m i = true then g i else f i) P (g P) = (fun i => if i < P + 1 ∧ avB S m i = true then g i else f i) := by
  funext i
  show (if i = P then g P else (if i < P ∧ avB S m i = true then g i else f i)) = (if i < P + 1 ∧ avB S m i = true then g i else f i)
  by_cases e : i = P
  · subst e; rw [if_pos rfl, if_pos ⟨by omega, h⟩]
  · rw [if_neg e]
    by_cases q : i < P ∧ avB S m i = true
    · rw [if_pos q, if_pos ⟨by omega, q.2⟩]
    · rw [if_neg q, if_neg (fun q2 => q ⟨by omega, q2.2⟩)]
theorem ofB_n {S : qS} {m P : Nat} (h : avB S m P = false) : ofB S m P = ofB S m (P + 1) := by
  show _ = if avB S m P = true then _ else _
  rw [if_neg (by rw [h]; decide)]
theorem ofB_w {S : qS} {m P : Nat} (h : avB S m P = true) : max (ofB S m P) (2 * 2 ^ nv (S 6 P)) = ofB S m (P + 1) := by
  show _ = if avB S m P = true then _ else _
  rw [if_pos h]
theorem max_J {a b : Nat} (ha : a < 2147483648) (hb : b < 2147483648) : (if nI a < nI b then nI b else nI a) = nI (max a b) := by
  split
  · rename_i h; rw [nI_ltI ha hb] at h; rw [Nat.max_eq_right (Nat.le_of_lt h)]
  · rename_i h; rw [nI_ltI ha hb] at h; rw [Nat.max_eq_left (Nat.le_of_not_lt h)]
/-- the search by sets: one part, one set -/
def cpS (A K : Nat → Int32) (p s : Nat) (key : Int32) (r : Nat) (f : Nat → Int32) : Nat → Int32 :=
  if A (p * 4 + r) = -1 ∨ s.testBit (nv (A (p * 4 + r))) = true then f
  else if f (s ||| 2 ^ nv (A (p * 4 + r))) = -1 ∨ key + K (p * 4 + r) < f (s ||| 2 ^ nv (A (p * 4 + r))) then upd f (s ||| 2 ^ nv (A (p * 4 + r))) (key + K (p * 4 + r)) else f
def cpF (A K : Nat → Int32) (p s : Nat) (key : Int32) : Nat → (Nat → Int32) → (Nat → Int32)
  | 0, f => f
  | r + 1, f => cpS A K p s key r (cpF A K p s key r f)
theorem cpF_s (A K : Nat → Int32) (p s : Nat) (key : Int32) (r : Nat) (f : Nat → Int32) : cpF A K p s key (r + 1) f = cpS A K p s key r (cpF A K p s key r f) := rfl
theorem or_lt {s a n : Nat} (hs : s < 2 ^ n) (ha : a < n) : s ||| 2 ^ a < 2 ^ n := Nat.or_lt_two_pow hs (Nat.pow_lt_pow_right (by decide) ha)
/-- .. all sets -/
def lkS (A K : Nat → Int32) (n s : Nat) (T : (Nat → Int32) × Int32) : (Nat → Int32) × Int32 :=
  if T.1 s = -1 then (upd T.1 s (-1), T.2)
  else if pcn 12 s < n then (cpF A K (pcn 12 s) s (T.1 s) 4 (upd T.1 s (-1)), T.2)
  else (upd T.1 s (-1), if T.2 = -1 ∨ T.1 s < T.2 then T.1 s else T.2)
def lkF (A K f : Nat → Int32) (n : Nat) : Nat → (Nat → Int32) × Int32
  | 0 => (upd f 0 (nI 0), -1)
  | s + 1 => lkS A K n s (lkF A K f n s)
theorem lkF_s (A K f : Nat → Int32) (n s : Nat) : lkF A K f n (s + 1) = lkS A K n s (lkF A K f n s) := rfl
theorem pcn_le (m : Nat) : ∀ k, pcn k m ≤ k
  | 0 => Nat.le_refl 0
  | k + 1 => by
    have ih := pcn_le m k
    simp only [pcn]
    split <;> omega
/-- the search that tries all -/
def lfL (f : Nat → Int32) (g : Nat → Int32) (p s : Nat) : Nat → Int32
  | 0 => -1
  | r + 1 => if f (p * 4 + r) = -1 ∨ s.testBit (nv (f (p * 4 + r))) = true then lfL f g p s r
    else if g (s ||| 2 ^ nv (f (p * 4 + r))) = -1 then lfL f g p s r
    else if lfL f g p s r = -1 ∨ nI r + g (s ||| 2 ^ nv (f (p * 4 + r))) < lfL f g p s r then nI r + g (s ||| 2 ^ nv (f (p * 4 + r))) else lfL f g p s r
def lfF (f : Nat → Int32) (n : Nat) : Nat → Nat → Nat → Int32
  | 0, _, _ => nI 0
  | d + 1, p, s => if n ≤ p ∨ 8 ≤ p then nI 0 else lfL f (lfF f n d (p + 1)) p s 4
/-- casts by the ranks of their actors: who is used, whether it is one, its key -/
def us (S : qS) (c : Nat → Nat) : Nat → Nat
  | 0 => 0
  | k + 1 => us S c k ||| 2 ^ nv (S 6 (k * 4 + c k))
def ok (S : qS) (m : Nat) (c : Nat → Nat) : Nat → Bool
  | 0 => true
  | k + 1 => ok S m c k && (avB S m (k * 4 + c k) && !(us S c k).testBit (nv (S 6 (k * 4 + c k))))
def kk (S : qS) (c : Nat → Nat) : Nat → Nat
  | 0 => 0
  | k + 1 => kk S c k + ky S (k * 4 + c k)
def sr (c : Nat → Nat) : Nat → Nat
  | 0 => 0
  | k + 1 => sr c k + c k
def wo (S : qS) (c : Nat → Nat) : Nat → Nat
  | 0 => 0
  | k + 1 => wo S c k + wk S (k * 4 + c k)
/-- the ranks that a number tells -/
def dg (n b : Nat) : Nat → Nat := fun p => b / 4 ^ (n - 1 - p) % 4
/-- the best of the casts below c -/
def bcR (S : qS) (m n : Nat) : Nat → Option Nat
  | 0 => none
  | c + 1 => if ok S m (dg n c) n = true then (match bcR S m n c with
      | none => some c
      | some b => if sr (dg n c) n < sr (dg n b) n ∨ sr (dg n c) n = sr (dg n b) n ∧ wo S (dg n c) n < wo S (dg n b) n then some c else some b)
    else bcR S m n c
/-- the best cast: its ranks as a number -/
def bc (S : qS) (m : Nat) : Option Nat := bcR S m (nP S) (4 ^ nP S)
def bcI (S : qS) (m : Nat) : Int32 := match bc S m with
  | none => -1
  | some b => nI (kk S (dg (nP S) b) (nP S))
def bcS (S : qS) (m : Nat) : Int32 := match bc S m with
  | none => -1
  | some b => nI (sr (dg (nP S) b) (nP S))
def bcW (S : qS) (m : Nat) : Int32 := match bc S m with
  | none => -1
  | some b => nI (wo S (dg (nP S) b) (nP S))
/-- who plays a part in it -/
def bcA (S : qS) (m p : Nat) : Int32 := match bc S m with
  | none => -1
  | some b => if p < nP S then S 6 (p * 4 + dg (nP S) b p) else -1
/-- parts that two casts give to different actors -/
def coN (S : qS) (k k2 : Nat) : Nat → Nat
  | 0 => 0
  | p + 1 => coN S k k2 p + (if acI S p (k / 2 ^ ((7 - p) * 2) &&& 3) = acI S p (k2 / 2 ^ ((7 - p) * 2) &&& 3) then 0 else 1)
theorem coN_e {S : qS} {k k2 p : Nat} (h : acI S p (k / 2 ^ ((7 - p) * 2) &&& 3) = acI S p (k2 / 2 ^ ((7 - p) * 2) &&& 3)) : coN S k k2 p = coN S k k2 (p + 1) := by
  show _ = coN S k k2 p + _; rw [if_pos h]; rfl
theorem coN_n {S : qS} {k k2 p : Nat} (h : ¬ acI S p (k / 2 ^ ((7 - p) * 2) &&& 3) = acI S p (k2 / 2 ^ ((7 - p) * 2) &&& 3)) : coN S k k2 p + 1 = coN S k k2 (p + 1) := by
  show _ = coN S k k2 p + _; rw [if_neg h]
theorem lfL_s (f g : Nat → Int32) (p s r : Nat) : lfL f g p s (r + 1) = if f (p * 4 + r) = -1 ∨ s.testBit (nv (f (p * 4 + r))) = true then lfL f g p s r
    else if g (s ||| 2 ^ nv (f (p * 4 + r))) = -1 then lfL f g p s r
    else if lfL f g p s r = -1 ∨ nI r + g (s ||| 2 ^ nv (f (p * 4 + r))) < lfL f g p s r then nI r + g (s ||| 2 ^ nv (f (p * 4 + r))) else lfL f g p s r := rfl
/-- between searches no set has a key -/
def jk (J : qS) : Prop := ∀ i, i < 4096 → J 15 i = -1
theorem avB_in {S : qS} (hI : Inv S) {m i : Nat} (hi : i < 32) (h : avB S m i = true) : bd (S 6 i) 12 := by
  unfold avB at h
  rw [Bool.and_eq_true, decide_eq_true_iff] at h
  have q := iv_6 hI (i / 4) (i % 4) (by omega) h.1
  rw [show i / 4 * 4 + i % 4 = i by omega] at q
  exact q
theorem ofB_le {S : qS} (hI : Inv S) (m : Nat) : ∀ P, P ≤ 32 → ofB S m P ≤ 4096
  | 0, _ => by show 1 ≤ 4096; decide
  | P + 1, h => by
    have ih := ofB_le hI m P (by omega)
    unfold ofB
    split
    · rename_i q
      have h1 := (avB_in hI (by omega) q).2
      have h2 := Nat.pow_le_pow_right (n := 2) (by decide) (show nv (S 6 P) ≤ 11 by omega)
      exact Nat.max_le.mpr ⟨ih, by omega⟩
    · exact ih
theorem ofA_ok {S : qS} (hI : Inv S) (m : Nat) (f : Nat → Int32) (hf : ∀ i, i < 32 → f i = -1) (P : Nat) : ∀ i, i < 32 → ofA S m f P i = -1 ∨ bd (ofA S m f P i) 12 := by
  intro i hi
  unfold ofA
  split
  · rename_i q
    have := avB_in hI hi q.2
    rw [← this.1]; exact Or.inr this
  · exact Or.inl (hf i hi)
end
section
set_option maxRecDepth 100000 in
theorem bc_J0 : ∀ i, i < 64 → ∀ j, j < 64 → (fun n : Nat => ((((((((nI n) - ((((nI n).toUInt32 >>> ((nI 1).toUInt32 &&& Int32.toUInt32 31)).toInt32) &&& 1431655765)) &&& 858993459) + (((((nI n) - ((((nI n).toUInt32 >>> ((nI 1).toUInt32 &&& Int32.toUInt32 31)).toInt32) &&& 1431655765)).toUInt32 >>> ((nI 2).toUInt32 &&& Int32.toUInt32 31)).toInt32) &&& 858993459)) + ((((((nI n) - ((((nI n).toUInt32 >>> ((nI 1).toUInt32 &&& Int32.toUInt32 31)).toInt32) &&& 1431655765)) &&& 858993459) + (((((nI n) - ((((nI n).toUInt32 >>> ((nI 1).toUInt32 &&& Int32.toUInt32 31)).toInt32) &&& 1431655765)).toUInt32 >>> ((nI 2).toUInt32 &&& Int32.toUInt32 31)).toInt32) &&& 858993459)).toUInt32 >>> ((nI 4).toUInt32 &&& Int32.toUInt32 31)).toInt32)) &&& 252645135) + ((((((((nI n) - ((((nI n).toUInt32 >>> ((nI 1).toUInt32 &&& Int32.toUInt32 31)).toInt32) &&& 1431655765)) &&& 858993459) + (((((nI n) - ((((nI n).toUInt32 >>> ((nI 1).toUInt32 &&& Int32.toUInt32 31)).toInt32) &&& 1431655765)).toUInt32 >>> ((nI 2).toUInt32 &&& Int32.toUInt32 31)).toInt32) &&& 858993459)) + ((((((nI n) - ((((nI n).toUInt32 >>> ((nI 1).toUInt32 &&& Int32.toUInt32 31)).toInt32) &&& 1431655765)) &&& 858993459) + (((((nI n) - ((((nI n).toUInt32 >>> ((nI 1).toUInt32 &&& Int32.toUInt32 31)).toInt32) &&& 1431655765)).toUInt32 >>> ((nI 2).toUInt32 &&& Int32.toUInt32 31)).toInt32) &&& 858993459)).toUInt32 >>> ((nI 4).toUInt32 &&& Int32.toUInt32 31)).toInt32)) &&& 252645135).toUInt32 >>> ((nI 8).toUInt32 &&& Int32.toUInt32 31)).toInt32)) + (((((((((nI n) - ((((nI n).toUInt32 >>> ((nI 1).toUInt32 &&& Int32.toUInt32 31)).toInt32) &&& 1431655765)) &&& 858993459) + (((((nI n) - ((((nI n).toUInt32 >>> ((nI 1).toUInt32 &&& Int32.toUInt32 31)).toInt32) &&& 1431655765)).toUInt32 >>> ((nI 2).toUInt32 &&& Int32.toUInt32 31)).toInt32) &&& 858993459)) + ((((((nI n) - ((((nI n).toUInt32 >>> ((nI 1).toUInt32 &&& Int32.toUInt32 31)).toInt32) &&& 1431655765)) &&& 858993459) + (((((nI n) - ((((nI n).toUInt32 >>> ((nI 1).toUInt32 &&& Int32.toUInt32 31)).toInt32) &&& 1431655765)).toUInt32 >>> ((nI 2).toUInt32 &&& Int32.toUInt32 31)).toInt32) &&& 858993459)).toUInt32 >>> ((nI 4).toUInt32 &&& Int32.toUInt32 31)).toInt32)) &&& 252645135) + ((((((((nI n) - ((((nI n).toUInt32 >>> ((nI 1).toUInt32 &&& Int32.toUInt32 31)).toInt32) &&& 1431655765)) &&& 858993459) + (((((nI n) - ((((nI n).toUInt32 >>> ((nI 1).toUInt32 &&& Int32.toUInt32 31)).toInt32) &&& 1431655765)).toUInt32 >>> ((nI 2).toUInt32 &&& Int32.toUInt32 31)).toInt32) &&& 858993459)) + ((((((nI n) - ((((nI n).toUInt32 >>> ((nI 1).toUInt32 &&& Int32.toUInt32 31)).toInt32) &&& 1431655765)) &&& 858993459) + (((((nI n) - ((((nI n).toUInt32 >>> ((nI 1).toUInt32 &&& Int32.toUInt32 31)).toInt32) &&& 1431655765)).toUInt32 >>> ((nI 2).toUInt32 &&& Int32.toUInt32 31)).toInt32) &&& 858993459)).toUInt32 >>> ((nI 4).toUInt32 &&& Int32.toUInt32 31)).toInt32)) &&& 252645135).toUInt32 >>> ((nI 8).toUInt32 &&& Int32.toUInt32 31)).toInt32)).toUInt32 >>> ((nI 16).toUInt32 &&& Int32.toUInt32 31)).toInt32)) &&& (nI 63) = nI (pcn 12 n)) (i * 64 + j) := by decide +kernel
theorem bc_J (n : Nat) (hn : n < 4096) : ((((((((nI n) - ((((nI n).toUInt32 >>> ((nI 1).toUInt32 &&& Int32.toUInt32 31)).toInt32) &&& 1431655765)) &&& 858993459) + (((((nI n) - ((((nI n).toUInt32 >>> ((nI 1).toUInt32 &&& Int32.toUInt32 31)).toInt32) &&& 1431655765)).toUInt32 >>> ((nI 2).toUInt32 &&& Int32.toUInt32 31)).toInt32) &&& 858993459)) + ((((((nI n) - ((((nI n).toUInt32 >>> ((nI 1).toUInt32 &&& Int32.toUInt32 31)).toInt32) &&& 1431655765)) &&& 858993459) + (((((nI n) - ((((nI n).toUInt32 >>> ((nI 1).toUInt32 &&& Int32.toUInt32 31)).toInt32) &&& 1431655765)).toUInt32 >>> ((nI 2).toUInt32 &&& Int32.toUInt32 31)).toInt32) &&& 858993459)).toUInt32 >>> ((nI 4).toUInt32 &&& Int32.toUInt32 31)).toInt32)) &&& 252645135) + ((((((((nI n) - ((((nI n).toUInt32 >>> ((nI 1).toUInt32 &&& Int32.toUInt32 31)).toInt32) &&& 1431655765)) &&& 858993459) + (((((nI n) - ((((nI n).toUInt32 >>> ((nI 1).toUInt32 &&& Int32.toUInt32 31)).toInt32) &&& 1431655765)).toUInt32 >>> ((nI 2).toUInt32 &&& Int32.toUInt32 31)).toInt32) &&& 858993459)) + ((((((nI n) - ((((nI n).toUInt32 >>> ((nI 1).toUInt32 &&& Int32.toUInt32 31)).toInt32) &&& 1431655765)) &&& 858993459) + (((((nI n) - ((((nI n).toUInt32 >>> ((nI 1).toUInt32 &&& Int32.toUInt32 31)).toInt32) &&& 1431655765)).toUInt32 >>> ((nI 2).toUInt32 &&& Int32.toUInt32 31)).toInt32) &&& 858993459)).toUInt32 >>> ((nI 4).toUInt32 &&& Int32.toUInt32 31)).toInt32)) &&& 252645135).toUInt32 >>> ((nI 8).toUInt32 &&& Int32.toUInt32 31)).toInt32)) + (((((((((nI n) - ((((nI n).toUInt32 >>> ((nI 1).toUInt32 &&& Int32.toUInt32 31)).toInt32) &&& 1431655765)) &&& 858993459) + (((((nI n) - ((((nI n).toUInt32 >>> ((nI 1).toUInt32 &&& Int32.toUInt32 31)).toInt32) &&& 1431655765)).toUInt32 >>> ((nI 2).toUInt32 &&& Int32.toUInt32 31)).toInt32) &&& 858993459)) + ((((((nI n) - ((((nI n).toUInt32 >>> ((nI 1).toUInt32 &&& Int32.toUInt32 31)).toInt32) &&& 1431655765)) &&& 858993459) + (((((nI n) - ((((nI n).toUInt32 >>> ((nI 1).toUInt32 &&& Int32.toUInt32 31)).toInt32) &&& 1431655765)).toUInt32 >>> ((nI 2).toUInt32 &&& Int32.toUInt32 31)).toInt32) &&& 858993459)).toUInt32 >>> ((nI 4).toUInt32 &&& Int32.toUInt32 31)).toInt32)) &&& 252645135) + ((((((((nI n) - ((((nI n).toUInt32 >>> ((nI 1).toUInt32 &&& Int32.toUInt32 31)).toInt32) &&& 1431655765)) &&& 858993459) + (((((nI n) - ((((nI n).toUInt32 >>> ((nI 1).toUInt32 &&& Int32.toUInt32 31)).toInt32) &&& 1431655765)).toUInt32 >>> ((nI 2).toUInt32 &&& Int32.toUInt32 31)).toInt32) &&& 858993459)) + ((((((nI n) - ((((nI n).toUInt32 >>> ((nI 1).toUInt32 &&& Int32.toUInt32 31)).toInt32) &&& 1431655765)) &&& 858993459) + (((((nI n) - ((((nI n).toUInt32 >>> ((nI 1).toUInt32 &&& Int32.toUInt32 31)).toInt32) &&& 1431655765)).toUInt32 >>> ((nI 2).toUInt32 &&& Int32.toUInt32 31)).toInt32) &&& 858993459)).toUInt32 >>> ((nI 4).toUInt32 &&& Int32.toUInt32 31)).toInt32)) &&& 252645135).toUInt32 >>> ((nI 8).toUInt32 &&& Int32.toUInt32 31)).toInt32)).toUInt32 >>> ((nI 16).toUInt32 &&& Int32.toUInt32 31)).toInt32)) &&& (nI 63) = nI (pcn 12 n) := by
  have h := bc_J0 (n / 64) (by omega) (n % 64) (by omega)
  rw [show n / 64 * 64 + n % 64 = n by omega] at h
  exact h
set_option maxHeartbeats 4000000 in
set_option maxRecDepth 100000 in
theorem c_J6_bitCount_0f7a4 (l : Launch) (n : Nat) (hn : n < 4096) : Met l yJ6_bitCount_0f7a4 wsJ6_bitCount_0f7a4 ({ frames := 0, cells := 0, slots := 0, locals := 0 }) (va_Pc [.int (nI n)] (fun _ => True)) (vp_Si (fun r9 => r9 = nI (pcn 12 n))) 0 0 (fun _ => False) := by
  refine Met.ofW (cc := cJ6_bitCount_0f7a4) (maxL := 1) (ret := (some .int)) (by decide) rfl ?_
  intro pp e9 s m9 args9 bl9 meth9 c9 s9 B hml hv
  obtain ⟨rfl, -⟩ := hv
  have hx := B.exec
  have hb := B.bytes
  have hr := B.returns
  have hts := atoms_spec (ws := wsJ6_bitCount_0f7a4) B.pre
  have hown : s.vm.findClass RJ6 = some m9.cls := findClass_of_methodNamed B.named
  have hlocks := B.notSynchronized
  have k_265 := hts (.constant RJ6 265 1431655765) (by decide +kernel)
  have k_266 := hts (.constant RJ6 266 858993459) (by decide +kernel)
  have k_267 := hts (.constant RJ6 267 252645135) (by decide +kernel)
  have hl := lv_entry ([.int (nI n)]) (n := 1) (Nat.le_of_ble_eq_true rfl)
  rw [lg_entry_eq]
  generalize (lg_sl ([.int (nI n)]) ++ List.replicate (1 - (lg_sl ([.int (nI n)])).length) Slot.unset).toArray = ls at hl ⊢
  have hl : lv_has ls 1 [(0, .int (nI n))] := hl
  refine lv_iload_n hx hb dJ6_bitCount_0f7a4_0 rfl (lv_at hl 0 rfl) ?_
  refine lv_iload_n hx hb dJ6_bitCount_0f7a4_1 rfl (lv_at hl 0 rfl) ?_
  refine lv_iconst (v := nI 1) hx hb dJ6_bitCount_0f7a4_2 (by decide) ?_
  refine lv_iushr (v := ((nI n).toUInt32 >>> ((nI 1).toUInt32 &&& Int32.toUInt32 31)).toInt32) hx hb dJ6_bitCount_0f7a4_3 rfl ?_
  refine lv_ldcw (v := 1431655765) hx hb hown k_265 dJ6_bitCount_0f7a4_4 ?_
  refine lv_iand hx hb dJ6_bitCount_0f7a4_7 ?_
  refine lv_isub hx hb dJ6_bitCount_0f7a4_8 ?_
  refine lv_istore_n (lv' := [(0, .int ((nI n) - ((((nI n).toUInt32 >>> ((nI 1).toUInt32 &&& Int32.toUInt32 31)).toInt32) &&& 1431655765)))]) hx hb dJ6_bitCount_0f7a4_9 rfl hl (by decide) rfl (fun ls hl => ?_)
  refine lv_iload_n hx hb dJ6_bitCount_0f7a4_10 rfl (lv_at hl 0 rfl) ?_
  refine lv_ldcw (v := 858993459) hx hb hown k_266 dJ6_bitCount_0f7a4_11 ?_
  refine lv_iand hx hb dJ6_bitCount_0f7a4_14 ?_
  refine lv_iload_n hx hb dJ6_bitCount_0f7a4_15 rfl (lv_at hl 0 rfl) ?_
  refine lv_iconst (v := nI 2) hx hb dJ6_bitCount_0f7a4_16 (by decide) ?_
  refine lv_iushr (v := (((nI n) - ((((nI n).toUInt32 >>> ((nI 1).toUInt32 &&& Int32.toUInt32 31)).toInt32) &&& 1431655765)).toUInt32 >>> ((nI 2).toUInt32 &&& Int32.toUInt32 31)).toInt32) hx hb dJ6_bitCount_0f7a4_17 rfl ?_
  refine lv_ldcw (v := 858993459) hx hb hown k_266 dJ6_bitCount_0f7a4_18 ?_
  refine lv_iand hx hb dJ6_bitCount_0f7a4_21 ?_
  refine lv_iadd hx hb dJ6_bitCount_0f7a4_22 ?_
  refine lv_istore_n (lv' := [(0, .int ((((nI n) - ((((nI n).toUInt32 >>> ((nI 1).toUInt32 &&& Int32.toUInt32 31)).toInt32) &&& 1431655765)) &&& 858993459) + (((((nI n) - ((((nI n).toUInt32 >>> ((nI 1).toUInt32 &&& Int32.toUInt32 31)).toInt32) &&& 1431655765)).toUInt32 >>> ((nI 2).toUInt32 &&& Int32.toUInt32 31)).toInt32) &&& 858993459)))]) hx hb dJ6_bitCount_0f7a4_23 rfl hl (by decide) rfl (fun ls hl => ?_)
  refine lv_iload_n hx hb dJ6_bitCount_0f7a4_24 rfl (lv_at hl 0 rfl) ?_
  refine lv_iload_n hx hb dJ6_bitCount_0f7a4_25 rfl (lv_at hl 0 rfl) ?_
  refine lv_iconst (v := nI 4) hx hb dJ6_bitCount_0f7a4_26 (by decide) ?_
  refine lv_iushr (v := (((((nI n) - ((((nI n).toUInt32 >>> ((nI 1).toUInt32 &&& Int32.toUInt32 31)).toInt32) &&& 1431655765)) &&& 858993459) + (((((nI n) - ((((nI n).toUInt32 >>> ((nI 1).toUInt32 &&& Int32.toUInt32 31)).toInt32) &&& 1431655765)).toUInt32 >>> ((nI 2).toUInt32 &&& Int32.toUInt32 31)).toInt32) &&& 858993459)).toUInt32 >>> ((nI 4).toUInt32 &&& Int32.toUInt32 31)).toInt32) hx hb dJ6_bitCount_0f7a4_27 rfl ?_
  refine lv_iadd hx hb dJ6_bitCount_0f7a4_28 ?_
  refine lv_ldcw (v := 252645135) hx hb hown k_267 dJ6_bitCount_0f7a4_29 ?_
  refine lv_iand hx hb dJ6_bitCount_0f7a4_32 ?_
  refine lv_istore_n (lv' := [(0, .int ((((((nI n) - ((((nI n).toUInt32 >>> ((nI 1).toUInt32 &&& Int32.toUInt32 31)).toInt32) &&& 1431655765)) &&& 858993459) + (((((nI n) - ((((nI n).toUInt32 >>> ((nI 1).toUInt32 &&& Int32.toUInt32 31)).toInt32) &&& 1431655765)).toUInt32 >>> ((nI 2).toUInt32 &&& Int32.toUInt32 31)).toInt32) &&& 858993459)) + ((((((nI n) - ((((nI n).toUInt32 >>> ((nI 1).toUInt32 &&& Int32.toUInt32 31)).toInt32) &&& 1431655765)) &&& 858993459) + (((((nI n) - ((((nI n).toUInt32 >>> ((nI 1).toUInt32 &&& Int32.toUInt32 31)).toInt32) &&& 1431655765)).toUInt32 >>> ((nI 2).toUInt32 &&& Int32.toUInt32 31)).toInt32) &&& 858993459)).toUInt32 >>> ((nI 4).toUInt32 &&& Int32.toUInt32 31)).toInt32)) &&& 252645135))]) hx hb dJ6_bitCount_0f7a4_33 rfl hl (by decide) rfl (fun ls hl => ?_)
  refine lv_iload_n hx hb dJ6_bitCount_0f7a4_34 rfl (lv_at hl 0 rfl) ?_
  refine lv_iload_n hx hb dJ6_bitCount_0f7a4_35 rfl (lv_at hl 0 rfl) ?_
  refine lv_bipush (v := nI 8) hx hb dJ6_bitCount_0f7a4_36 (by decide) ?_
  refine lv_iushr (v := (((((((nI n) - ((((nI n).toUInt32 >>> ((nI 1).toUInt32 &&& Int32.toUInt32 31)).toInt32) &&& 1431655765)) &&& 858993459) + (((((nI n) - ((((nI n).toUInt32 >>> ((nI 1).toUInt32 &&& Int32.toUInt32 31)).toInt32) &&& 1431655765)).toUInt32 >>> ((nI 2).toUInt32 &&& Int32.toUInt32 31)).toInt32) &&& 858993459)) + ((((((nI n) - ((((nI n).toUInt32 >>> ((nI 1).toUInt32 &&& Int32.toUInt32 31)).toInt32) &&& 1431655765)) &&& 858993459) + (((((nI n) - ((((nI n).toUInt32 >>> ((nI 1).toUInt32 &&& Int32.toUInt32 31)).toInt32) &&& 1431655765)).toUInt32 >>> ((nI 2).toUInt32 &&& Int32.toUInt32 31)).toInt32) &&& 858993459)).toUInt32 >>> ((nI 4).toUInt32 &&& Int32.toUInt32 31)).toInt32)) &&& 252645135).toUInt32 >>> ((nI 8).toUInt32 &&& Int32.toUInt32 31)).toInt32) hx hb dJ6_bitCount_0f7a4_38 rfl ?_
  refine lv_iadd hx hb dJ6_bitCount_0f7a4_39 ?_
  refine lv_istore_n (lv' := [(0, .int (((((((nI n) - ((((nI n).toUInt32 >>> ((nI 1).toUInt32 &&& Int32.toUInt32 31)).toInt32) &&& 1431655765)) &&& 858993459) + (((((nI n) - ((((nI n).toUInt32 >>> ((nI 1).toUInt32 &&& Int32.toUInt32 31)).toInt32) &&& 1431655765)).toUInt32 >>> ((nI 2).toUInt32 &&& Int32.toUInt32 31)).toInt32) &&& 858993459)) + ((((((nI n) - ((((nI n).toUInt32 >>> ((nI 1).toUInt32 &&& Int32.toUInt32 31)).toInt32) &&& 1431655765)) &&& 858993459) + (((((nI n) - ((((nI n).toUInt32 >>> ((nI 1).toUInt32 &&& Int32.toUInt32 31)).toInt32) &&& 1431655765)).toUInt32 >>> ((nI 2).toUInt32 &&& Int32.toUInt32 31)).toInt32) &&& 858993459)).toUInt32 >>> ((nI 4).toUInt32 &&& Int32.toUInt32 31)).toInt32)) &&& 252645135) + ((((((((nI n) - ((((nI n).toUInt32 >>> ((nI 1).toUInt32 &&& Int32.toUInt32 31)).toInt32) &&& 1431655765)) &&& 858993459) + (((((nI n) - ((((nI n).toUInt32 >>> ((nI 1).toUInt32 &&& Int32.toUInt32 31)).toInt32) &&& 1431655765)).toUInt32 >>> ((nI 2).toUInt32 &&& Int32.toUInt32 31)).toInt32) &&& 858993459)) + ((((((nI n) - ((((nI n).toUInt32 >>> ((nI 1).toUInt32 &&& Int32.toUInt32 31)).toInt32) &&& 1431655765)) &&& 858993459) + (((((nI n) - ((((nI n).toUInt32 >>> ((nI 1).toUInt32 &&& Int32.toUInt32 31)).toInt32) &&& 1431655765)).toUInt32 >>> ((nI 2).toUInt32 &&& Int32.toUInt32 31)).toInt32) &&& 858993459)).toUInt32 >>> ((nI 4).toUInt32 &&& Int32.toUInt32 31)).toInt32)) &&& 252645135).toUInt32 >>> ((nI 8).toUInt32 &&& Int32.toUInt32 31)).toInt32)))]) hx hb dJ6_bitCount_0f7a4_40 rfl hl (by decide) rfl (fun ls hl => ?_)
  refine lv_iload_n hx hb dJ6_bitCount_0f7a4_41 rfl (lv_at hl 0 rfl) ?_
  refine lv_iload_n hx hb dJ6_bitCount_0f7a4_42 rfl (lv_at hl 0 rfl) ?_
  refine lv_bipush (v := nI 16) hx hb dJ6_bitCount_0f7a4_43 (by decide) ?_
  refine lv_iushr (v := ((((((((nI n) - ((((nI n).toUInt32 >>> ((nI 1).toUInt32 &&& Int32.toUInt32 31)).toInt32) &&& 1431655765)) &&& 858993459) + (((((nI n) - ((((nI n).toUInt32 >>> ((nI 1).toUInt32 &&& Int32.toUInt32 31)).toInt32) &&& 1431655765)).toUInt32 >>> ((nI 2).toUInt32 &&& Int32.toUInt32 31)).toInt32) &&& 858993459)) + ((((((nI n) - ((((nI n).toUInt32 >>> ((nI 1).toUInt32 &&& Int32.toUInt32 31)).toInt32) &&& 1431655765)) &&& 858993459) + (((((nI n) - ((((nI n).toUInt32 >>> ((nI 1).toUInt32 &&& Int32.toUInt32 31)).toInt32) &&& 1431655765)).toUInt32 >>> ((nI 2).toUInt32 &&& Int32.toUInt32 31)).toInt32) &&& 858993459)).toUInt32 >>> ((nI 4).toUInt32 &&& Int32.toUInt32 31)).toInt32)) &&& 252645135) + ((((((((nI n) - ((((nI n).toUInt32 >>> ((nI 1).toUInt32 &&& Int32.toUInt32 31)).toInt32) &&& 1431655765)) &&& 858993459) + (((((nI n) - ((((nI n).toUInt32 >>> ((nI 1).toUInt32 &&& Int32.toUInt32 31)).toInt32) &&& 1431655765)).toUInt32 >>> ((nI 2).toUInt32 &&& Int32.toUInt32 31)).toInt32) &&& 858993459)) + ((((((nI n) - ((((nI n).toUInt32 >>> ((nI 1).toUInt32 &&& Int32.toUInt32 31)).toInt32) &&& 1431655765)) &&& 858993459) + (((((nI n) - ((((nI n).toUInt32 >>> ((nI 1).toUInt32 &&& Int32.toUInt32 31)).toInt32) &&& 1431655765)).toUInt32 >>> ((nI 2).toUInt32 &&& Int32.toUInt32 31)).toInt32) &&& 858993459)).toUInt32 >>> ((nI 4).toUInt32 &&& Int32.toUInt32 31)).toInt32)) &&& 252645135).toUInt32 >>> ((nI 8).toUInt32 &&& Int32.toUInt32 31)).toInt32)).toUInt32 >>> ((nI 16).toUInt32 &&& Int32.toUInt32 31)).toInt32) hx hb dJ6_bitCount_0f7a4_45 rfl ?_
  refine lv_iadd hx hb dJ6_bitCount_0f7a4_46 ?_
  refine lv_istore_n (lv' := [(0, .int ((((((((nI n) - ((((nI n).toUInt32 >>> ((nI 1).toUInt32 &&& Int32.toUInt32 31)).toInt32) &&& 1431655765)) &&& 858993459) + (((((nI n) - ((((nI n).toUInt32 >>> ((nI 1).toUInt32 &&& Int32.toUInt32 31)).toInt32) &&& 1431655765)).toUInt32 >>> ((nI 2).toUInt32 &&& Int32.toUInt32 31)).toInt32) &&& 858993459)) + ((((((nI n) - ((((nI n).toUInt32 >>> ((nI 1).toUInt32 &&& Int32.toUInt32 31)).toInt32) &&& 1431655765)) &&& 858993459) + (((((nI n) - ((((nI n).toUInt32 >>> ((nI 1).toUInt32 &&& Int32.toUInt32 31)).toInt32) &&& 1431655765)).toUInt32 >>> ((nI 2).toUInt32 &&& Int32.toUInt32 31)).toInt32) &&& 858993459)).toUInt32 >>> ((nI 4).toUInt32 &&& Int32.toUInt32 31)).toInt32)) &&& 252645135) + ((((((((nI n) - ((((nI n).toUInt32 >>> ((nI 1).toUInt32 &&& Int32.toUInt32 31)).toInt32) &&& 1431655765)) &&& 858993459) + (((((nI n) - ((((nI n).toUInt32 >>> ((nI 1).toUInt32 &&& Int32.toUInt32 31)).toInt32) &&& 1431655765)).toUInt32 >>> ((nI 2).toUInt32 &&& Int32.toUInt32 31)).toInt32) &&& 858993459)) + ((((((nI n) - ((((nI n).toUInt32 >>> ((nI 1).toUInt32 &&& Int32.toUInt32 31)).toInt32) &&& 1431655765)) &&& 858993459) + (((((nI n) - ((((nI n).toUInt32 >>> ((nI 1).toUInt32 &&& Int32.toUInt32 31)).toInt32) &&& 1431655765)).toUInt32 >>> ((nI 2).toUInt32 &&& Int32.toUInt32 31)).toInt32) &&& 858993459)).toUInt32 >>> ((nI 4).toUInt32 &&& Int32.toUInt32 31)).toInt32)) &&& 252645135).toUInt32 >>> ((nI 8).toUInt32 &&& Int32.toUInt32 31)).toInt32)) + (((((((((nI n) - ((((nI n).toUInt32 >>> ((nI 1).toUInt32 &&& Int32.toUInt32 31)).toInt32) &&& 1431655765)) &&& 858993459) + (((((nI n) - ((((nI n).toUInt32 >>> ((nI 1).toUInt32 &&& Int32.toUInt32 31)).toInt32) &&& 1431655765)).toUInt32 >>> ((nI 2).toUInt32 &&& Int32.toUInt32 31)).toInt32) &&& 858993459)) + ((((((nI n) - ((((nI n).toUInt32 >>> ((nI 1).toUInt32 &&& Int32.toUInt32 31)).toInt32) &&& 1431655765)) &&& 858993459) + (((((nI n) - ((((nI n).toUInt32 >>> ((nI 1).toUInt32 &&& Int32.toUInt32 31)).toInt32) &&& 1431655765)).toUInt32 >>> ((nI 2).toUInt32 &&& Int32.toUInt32 31)).toInt32) &&& 858993459)).toUInt32 >>> ((nI 4).toUInt32 &&& Int32.toUInt32 31)).toInt32)) &&& 252645135) + ((((((((nI n) - ((((nI n).toUInt32 >>> ((nI 1).toUInt32 &&& Int32.toUInt32 31)).toInt32) &&& 1431655765)) &&& 858993459) + (((((nI n) - ((((nI n).toUInt32 >>> ((nI 1).toUInt32 &&& Int32.toUInt32 31)).toInt32) &&& 1431655765)).toUInt32 >>> ((nI 2).toUInt32 &&& Int32.toUInt32 31)).toInt32) &&& 858993459)) + ((((((nI n) - ((((nI n).toUInt32 >>> ((nI 1).toUInt32 &&& Int32.toUInt32 31)).toInt32) &&& 1431655765)) &&& 858993459) + (((((nI n) - ((((nI n).toUInt32 >>> ((nI 1).toUInt32 &&& Int32.toUInt32 31)).toInt32) &&& 1431655765)).toUInt32 >>> ((nI 2).toUInt32 &&& Int32.toUInt32 31)).toInt32) &&& 858993459)).toUInt32 >>> ((nI 4).toUInt32 &&& Int32.toUInt32 31)).toInt32)) &&& 252645135).toUInt32 >>> ((nI 8).toUInt32 &&& Int32.toUInt32 31)).toInt32)).toUInt32 >>> ((nI 16).toUInt32 &&& Int32.toUInt32 31)).toInt32)))]) hx hb dJ6_bitCount_0f7a4_47 rfl hl (by decide) rfl (fun ls hl => ?_)
  refine lv_iload_n hx hb dJ6_bitCount_0f7a4_48 rfl (lv_at hl 0 rfl) ?_
  refine lv_bipush (v := nI 63) hx hb dJ6_bitCount_0f7a4_49 (by decide) ?_
  refine lv_iand hx hb dJ6_bitCount_0f7a4_51 ?_
  exact W.iret (v := ((((((((nI n) - ((((nI n).toUInt32 >>> ((nI 1).toUInt32 &&& Int32.toUInt32 31)).toInt32) &&& 1431655765)) &&& 858993459) + (((((nI n) - ((((nI n).toUInt32 >>> ((nI 1).toUInt32 &&& Int32.toUInt32 31)).toInt32) &&& 1431655765)).toUInt32 >>> ((nI 2).toUInt32 &&& Int32.toUInt32 31)).toInt32) &&& 858993459)) + ((((((nI n) - ((((nI n).toUInt32 >>> ((nI 1).toUInt32 &&& Int32.toUInt32 31)).toInt32) &&& 1431655765)) &&& 858993459) + (((((nI n) - ((((nI n).toUInt32 >>> ((nI 1).toUInt32 &&& Int32.toUInt32 31)).toInt32) &&& 1431655765)).toUInt32 >>> ((nI 2).toUInt32 &&& Int32.toUInt32 31)).toInt32) &&& 858993459)).toUInt32 >>> ((nI 4).toUInt32 &&& Int32.toUInt32 31)).toInt32)) &&& 252645135) + ((((((((nI n) - ((((nI n).toUInt32 >>> ((nI 1).toUInt32 &&& Int32.toUInt32 31)).toInt32) &&& 1431655765)) &&& 858993459) + (((((nI n) - ((((nI n).toUInt32 >>> ((nI 1).toUInt32 &&& Int32.toUInt32 31)).toInt32) &&& 1431655765)).toUInt32 >>> ((nI 2).toUInt32 &&& Int32.toUInt32 31)).toInt32) &&& 858993459)) + ((((((nI n) - ((((nI n).toUInt32 >>> ((nI 1).toUInt32 &&& Int32.toUInt32 31)).toInt32) &&& 1431655765)) &&& 858993459) + (((((nI n) - ((((nI n).toUInt32 >>> ((nI 1).toUInt32 &&& Int32.toUInt32 31)).toInt32) &&& 1431655765)).toUInt32 >>> ((nI 2).toUInt32 &&& Int32.toUInt32 31)).toInt32) &&& 858993459)).toUInt32 >>> ((nI 4).toUInt32 &&& Int32.toUInt32 31)).toInt32)) &&& 252645135).toUInt32 >>> ((nI 8).toUInt32 &&& Int32.toUInt32 31)).toInt32)) + (((((((((nI n) - ((((nI n).toUInt32 >>> ((nI 1).toUInt32 &&& Int32.toUInt32 31)).toInt32) &&& 1431655765)) &&& 858993459) + (((((nI n) - ((((nI n).toUInt32 >>> ((nI 1).toUInt32 &&& Int32.toUInt32 31)).toInt32) &&& 1431655765)).toUInt32 >>> ((nI 2).toUInt32 &&& Int32.toUInt32 31)).toInt32) &&& 858993459)) + ((((((nI n) - ((((nI n).toUInt32 >>> ((nI 1).toUInt32 &&& Int32.toUInt32 31)).toInt32) &&& 1431655765)) &&& 858993459) + (((((nI n) - ((((nI n).toUInt32 >>> ((nI 1).toUInt32 &&& Int32.toUInt32 31)).toInt32) &&& 1431655765)).toUInt32 >>> ((nI 2).toUInt32 &&& Int32.toUInt32 31)).toInt32) &&& 858993459)).toUInt32 >>> ((nI 4).toUInt32 &&& Int32.toUInt32 31)).toInt32)) &&& 252645135) + ((((((((nI n) - ((((nI n).toUInt32 >>> ((nI 1).toUInt32 &&& Int32.toUInt32 31)).toInt32) &&& 1431655765)) &&& 858993459) + (((((nI n) - ((((nI n).toUInt32 >>> ((nI 1).toUInt32 &&& Int32.toUInt32 31)).toInt32) &&& 1431655765)).toUInt32 >>> ((nI 2).toUInt32 &&& Int32.toUInt32 31)).toInt32) &&& 858993459)) + ((((((nI n) - ((((nI n).toUInt32 >>> ((nI 1).toUInt32 &&& Int32.toUInt32 31)).toInt32) &&& 1431655765)) &&& 858993459) + (((((nI n) - ((((nI n).toUInt32 >>> ((nI 1).toUInt32 &&& Int32.toUInt32 31)).toInt32) &&& 1431655765)).toUInt32 >>> ((nI 2).toUInt32 &&& Int32.toUInt32 31)).toInt32) &&& 858993459)).toUInt32 >>> ((nI 4).toUInt32 &&& Int32.toUInt32 31)).toInt32)) &&& 252645135).toUInt32 >>> ((nI 8).toUInt32 &&& Int32.toUInt32 31)).toInt32)).toUInt32 >>> ((nI 16).toUInt32 &&& Int32.toUInt32 31)).toInt32)) &&& (nI 63)) hx hb hr (fun t ht hW => ⟨_, rfl, bc_J n hn, ht⟩) (fun _ h9 => nomatch h9) dJ6_bitCount_0f7a4_52
end
section
set_option maxHeartbeats 4000000 in
set_option maxRecDepth 100000 in
theorem c_X6_has (l : Launch) (m : Nat) (j : Nat) (hm : m < 2147483648) (hj : j < 31) : Met l yX6_has wsX6_has ({ frames := 0, cells := 0, slots := 0, locals := 0 }) (va_Pc [.int (nI m), .int (nI j)] (fun _ => True)) (vp_Si (fun r9 => r9 = bI (m.testBit j))) 0 0 (fun _ => False) := by
  refine Met.ofW (cc := cX6_has) (maxL := 2) (ret := (some .boolean)) (by decide) rfl ?_
  intro pp e9 s m9 args9 bl9 meth9 c9 s9 B hml hv
  obtain ⟨rfl, -⟩ := hv
  have hx := B.exec
  have hb := B.bytes
  have hr := B.returns
  have hts := atoms_spec (ws := wsX6_has) B.pre
  have hown : s.vm.findClass RX6 = some m9.cls := findClass_of_methodNamed B.named
  have hlocks := B.notSynchronized
  have hl := lv_entry ([.int (nI m), .int (nI j)]) (n := 2) (Nat.le_of_ble_eq_true rfl)
  rw [lg_entry_eq]
  generalize (lg_sl ([.int (nI m), .int (nI j)]) ++ List.replicate (2 - (lg_sl ([.int (nI m), .int (nI j)])).length) Slot.unset).toArray = ls at hl ⊢
  have hl : lv_has ls 2 [(0, .int (nI m)), (1, .int (nI j))] := hl
  refine lv_iload_n hx hb dX6_has_0 rfl (lv_at hl 0 rfl) ?_
  refine lv_iload_n hx hb dX6_has_1 rfl (lv_at hl 1 rfl) ?_
  refine cd_ishr hx hb (by omega) (by omega) dX6_has_2 ?_
  refine lv_iconst (v := nI 1) hx hb dX6_has_3 (by decide) ?_
  refine cd_iand hx hb dX6_has_4 ?_
  refine cd_if_eq (tgt := 12) hx hb dX6_has_5 (by decide) (by rw [Nat.and_one_is_mod]; omega) (fun c_5 => ?_) (fun c_5 => ?_)
  · refine lv_iconst (v := nI 0) hx hb dX6_has_12 (by decide) ?_
    exact W.zret (v := nI 0) hx hb hr rfl (fun t ht hW => ⟨_, rfl, (by rw [tb_0 c_5]; rfl), ht⟩) (fun _ h9 => nomatch h9) dX6_has_13
  · refine lv_iconst (v := nI 1) hx hb dX6_has_8 (by decide) ?_
    refine lv_goto (tgt := 13) hx hb dX6_has_9 (by decide) ?_
    exact W.zret (v := nI 1) hx hb hr rfl (fun t ht hW => ⟨_, rfl, (by rw [tb_1 c_5]; rfl), ht⟩) (fun _ h9 => nomatch h9) dX6_has_13
set_option maxHeartbeats 4000000 in
set_option maxRecDepth 100000 in
theorem c_X6_with (l : Launch) (m : Nat) (j : Nat) (hj : j < 31) : Met l yX6_with wsX6_with ({ frames := 0, cells := 0, slots := 0, locals := 0 }) (va_Pc [.int (nI m), .int (nI j)] (fun _ => True)) (vp_Si (fun r9 => r9 = nI (m ||| 2 ^ j))) 0 0 (fun _ => False) := by
  refine Met.ofW (cc := cX6_with) (maxL := 2) (ret := (some .int)) (by decide) rfl ?_
  intro pp e9 s m9 args9 bl9 meth9 c9 s9 B hml hv
  obtain ⟨rfl, -⟩ := hv
  have hx := B.exec
  have hb := B.bytes
  have hr := B.returns
  have hts := atoms_spec (ws := wsX6_with) B.pre
  have hown : s.vm.findClass RX6 = some m9.cls := findClass_of_methodNamed B.named
  have hlocks := B.notSynchronized
  have hl := lv_entry ([.int (nI m), .int (nI j)]) (n := 2) (Nat.le_of_ble_eq_true rfl)
  rw [lg_entry_eq]
  generalize (lg_sl ([.int (nI m), .int (nI j)]) ++ List.replicate (2 - (lg_sl ([.int (nI m), .int (nI j)])).length) Slot.unset).toArray = ls at hl ⊢
  have hl : lv_has ls 2 [(0, .int (nI m)), (1, .int (nI j))] := hl
  refine lv_iload_n hx hb dX6_with_0 rfl (lv_at hl 0 rfl) ?_
  refine lv_iconst (v := nI 1) hx hb dX6_with_1 (by decide) ?_
  refine lv_iload_n hx hb dX6_with_2 rfl (lv_at hl 1 rfl) ?_
  refine cd_ishl hx hb (by omega) (by have := Nat.pow_lt_pow_right (a := 2) (by decide) hj; omega) dX6_with_3 ?_
  refine cd_ior hx hb dX6_with_4 ?_
  exact W.iret (v := nI (m ||| (1 * 2 ^ j))) hx hb hr (fun t ht hW => ⟨_, rfl, (by rw [Nat.one_mul]), ht⟩) (fun _ h9 => nomatch h9) dX6_with_5
set_option maxHeartbeats 4000000 in
set_option maxRecDepth 100000 in
theorem c_X6_without (l : Launch) (m : Nat) (j : Nat) (hm : m < 256) (hj : j < 8) : Met l yX6_without wsX6_without ({ frames := 0, cells := 0, slots := 0, locals := 0 }) (va_Pc [.int (nI m), .int (nI j)] (fun _ => True)) (vp_Si (fun r9 => r9 = nI (clr m j))) 0 0 (fun _ => False) := by
  refine Met.ofW (cc := cX6_without) (maxL := 2) (ret := (some .int)) (by decide) rfl ?_
  intro pp e9 s m9 args9 bl9 meth9 c9 s9 B hml hv
  obtain ⟨rfl, -⟩ := hv
  have hx := B.exec
  have hb := B.bytes
  have hr := B.returns
  have hts := atoms_spec (ws := wsX6_without) B.pre
  have hown : s.vm.findClass RX6 = some m9.cls := findClass_of_methodNamed B.named
  have hlocks := B.notSynchronized
  have hl := lv_entry ([.int (nI m), .int (nI j)]) (n := 2) (Nat.le_of_ble_eq_true rfl)
  rw [lg_entry_eq]
  generalize (lg_sl ([.int (nI m), .int (nI j)]) ++ List.replicate (2 - (lg_sl ([.int (nI m), .int (nI j)])).length) Slot.unset).toArray = ls at hl ⊢
  have hl : lv_has ls 2 [(0, .int (nI m)), (1, .int (nI j))] := hl
  refine lv_iload_n hx hb dX6_without_0 rfl (lv_at hl 0 rfl) ?_
  refine lv_iconst (v := nI 1) hx hb dX6_without_1 (by decide) ?_
  refine lv_iload_n hx hb dX6_without_2 rfl (lv_at hl 1 rfl) ?_
  refine cd_ishl hx hb (by omega) (by have := p2_lt (show j < 31 by omega); omega) dX6_without_3 ?_
  refine lv_iconst (v := (-1)) hx hb dX6_without_4 (by decide) ?_
  refine lv_ixor hx hb dX6_without_5 ?_
  refine lv_iand hx hb dX6_without_6 ?_
  exact W.iret (v := (nI m) &&& ((nI (1 * 2 ^ j)) ^^^ (-1))) hx hb hr (fun t ht hW => ⟨_, rfl, (clr_J _ hm _ hj), ht⟩) (fun _ h9 => nomatch h9) dX6_without_7
set_option maxHeartbeats 4000000 in
set_option maxRecDepth 100000 in
theorem c_X3_actorAt (l : Launch) (D : va_G) (cy : qT) (h : Nat → Nat) (S : qS) (hI : Inv S) (p : Nat) (r : Nat) (hp : p < 8) (hq : r < 2147483648) : Met l yX3_actorAt wsX3_actorAt ({ frames := 0, cells := 0, slots := 0, locals := 0 }) (va_Pc [.ref (h 5), .int (nI p), .int (nI r)] (roB D cy (wX3 cy h S))) (vp_Si (fun r9 => r9 = acI S p r)) 0 0 (fun _ => False) := by
  refine Met.ofW (cc := cX3_actorAt) (maxL := 3) (ret := (some .int)) (by decide) rfl ?_
  intro pp e9 s m9 args9 bl9 meth9 c9 s9 B hml hv
  obtain ⟨rfl, hP, hG⟩ := hv
  have hx := B.exec
  have hb := B.bytes
  have hr := B.returns
  have hts := atoms_spec (ws := wsX3_actorAt) B.pre
  have hown : s.vm.findClass RX3 = some m9.cls := findClass_of_methodNamed B.named
  have hlocks := B.notSynchronized
  have hK := hG.K
  have f_15 := hts (.fieldLink RX3 15 "CastDesk$Rows" "lengths" "[I") (by decide +kernel)
  have f_9 := hts (.fieldLink RX3 9 "CastDesk$Rows" "actors" "[I") (by decide +kernel)
  have iX3 : ∀ w ∈ wsX30, w ∈ wsX3_actorAt := by decide +kernel
  have hl := lv_entry ([.ref (h 5), .int (nI p), .int (nI r)]) (n := 3) (Nat.le_of_ble_eq_true rfl)
  rw [lg_entry_eq]
  generalize (lg_sl ([.ref (h 5), .int (nI p), .int (nI r)]) ++ List.replicate (3 - (lg_sl ([.ref (h 5), .int (nI p), .int (nI r)])).length) Slot.unset).toArray = ls at hl ⊢
  have hl : lv_has ls 3 [(0, .ref (h 5)), (1, .int (nI p)), (2, .int (nI r))] := hl
  refine lv_iload_n hx hb dX3_actorAt_0 rfl (lv_at hl 2 rfl) ?_
  refine lv_aload_n hx hb dX3_actorAt_1 rfl (lv_at hl 0 rfl) ?_
  refine va_get (D := D) (ci := 3) (v := .ref (h 7)) (C := RX3) (T := TX3) (N := 2) hx hb hts iX3 hown hK hP 0 rfl rfl 1 (by decide) f_15 (fun _ h9 => h9) rfl dX3_actorAt_2 ?_
  refine lv_iload_n hx hb dX3_actorAt_5 rfl (lv_at hl 1 rfl) ?_
  refine cd_iald (f := S 7) hx hb hK hP 2 rfl (by omega) (by decide) dX3_actorAt_6 ?_
  have b_6 := iv_7 hI p (by omega)
  refine cd_tp (y := nI (nv (S 7 p))) b_6.1 ?_
  have b_6 := b_6.2
  refine cd_icmp_ge (tgt := 23) hx hb dX3_actorAt_7 (by decide) (by omega) (by omega) (fun c_7 => ?_) (fun c_7 => ?_)
  · refine lv_iconst (v := (-1)) hx hb dX3_actorAt_23 (by decide) ?_
    exact W.iret (v := (-1)) hx hb hr (fun t ht hW => ⟨_, rfl, (by unfold acI; rw [if_neg (by omega)]), ht⟩) (fun _ h9 => nomatch h9) dX3_actorAt_24
  · refine lv_aload_n hx hb dX3_actorAt_10 rfl (lv_at hl 0 rfl) ?_
    refine va_get (D := D) (ci := 3) (v := .ref (h 6)) (C := RX3) (T := TX3) (N := 2) hx hb hts iX3 hown hK hP 0 rfl rfl 0 (by decide) f_9 (fun _ h9 => h9) rfl dX3_actorAt_11 ?_
    refine lv_iload_n hx hb dX3_actorAt_14 rfl (lv_at hl 1 rfl) ?_
    refine lv_iconst (v := nI 4) hx hb dX3_actorAt_15 (by decide) ?_
    refine cd_imul hx hb dX3_actorAt_16 ?_
    refine lv_iload_n hx hb dX3_actorAt_17 rfl (lv_at hl 2 rfl) ?_
    refine cd_iadd hx hb dX3_actorAt_18 ?_
    refine cd_iald (f := S 6) hx hb hK hP 1 rfl (by omega) (by decide) dX3_actorAt_19 ?_
    refine lv_goto (tgt := 24) hx hb dX3_actorAt_20 (by decide) ?_
    exact W.iret (v := (S 6) ((p * 4) + r)) hx hb hr (fun t ht hW => ⟨_, rfl, (by unfold acI; rw [if_pos c_7]), ht⟩) (fun _ h9 => nomatch h9) dX3_actorAt_24
set_option maxHeartbeats 4000000 in
set_option maxRecDepth 100000 in
theorem c_X3_rankIn (l : Launch) (D : va_G) (cy : qT) (h : Nat → Nat) (S : qS) (hI : Inv S) (p : Nat) (x : Int32) (hp : p < 8) : Met l yX3_rankIn wsX3_rankIn ({ frames := 0, cells := 0, slots := 0, locals := 0 }) (va_Pc [.ref (h 5), .int (nI p), .int x] (roB D cy (wX3 cy h S))) (vp_Si (fun r9 => r9 = rkI S p x)) 0 0 (fun _ => False) := by
  refine Met.ofW (cc := cX3_rankIn) (maxL := 4) (ret := (some .int)) (by decide) rfl ?_
  intro pp e9 s m9 args9 bl9 meth9 c9 s9 B hml hv
  obtain ⟨rfl, hP, hG⟩ := hv
  have hx := B.exec
  have hb := B.bytes
  have hr := B.returns
  have hts := atoms_spec (ws := wsX3_rankIn) B.pre
  have hown : s.vm.findClass RX3 = some m9.cls := findClass_of_methodNamed B.named
  have hlocks := B.notSynchronized
  have hK := hG.K
  have f_15 := hts (.fieldLink RX3 15 "CastDesk$Rows" "lengths" "[I") (by decide +kernel)
  have f_9 := hts (.fieldLink RX3 9 "CastDesk$Rows" "actors" "[I") (by decide +kernel)
  have iX3 : ∀ w ∈ wsX30, w ∈ wsX3_rankIn := by decide +kernel
  have hl := lv_entry ([.ref (h 5), .int (nI p), .int x]) (n := 4) (Nat.le_of_ble_eq_true rfl)
  rw [lg_entry_eq]
  generalize (lg_sl ([.ref (h 5), .int (nI p), .int x]) ++ List.replicate (4 - (lg_sl ([.ref (h 5), .int (nI p), .int x])).length) Slot.unset).toArray = ls at hl ⊢
  have hl : lv_has ls 4 [(0, .ref (h 5)), (1, .int (nI p)), (2, .int x)] := hl
  refine lv_iconst (v := nI 0) hx hb dX3_rankIn_0 (by decide) ?_
  refine lv_istore_n (lv' := [(3, .int (nI 0)), (0, .ref (h 5)), (1, .int (nI p)), (2, .int x)]) hx hb dX3_rankIn_1 rfl hl (by decide) rfl (fun ls hl => ?_)
  refine wl1 (nL := 4) (fun (k : Nat) => k ≤ nv (S 7 p) ∧ ∀ j, j < k → rkP S p x j = false) (fun (k : Nat) => nv (S 7 p) - k) (fun (k : Nat) => [(0, .ref (h 5)), (1, .int (nI p)), (2, .int x), (3, .int (nI k))]) (fun k hi_2 ih_2 ls hl => ?_) 0 (⟨Nat.zero_le _, fun j hj => absurd hj (Nat.not_lt_zero j)⟩) (lv_sub hl [1, 2, 3, 0] rfl)
  have hi1 := hi_2.1
  refine lv_iload_n hx hb dX3_rankIn_2 rfl (lv_at hl 3 rfl) ?_
  refine lv_aload_n hx hb dX3_rankIn_3 rfl (lv_at hl 0 rfl) ?_
  refine va_get (D := D) (ci := 3) (v := .ref (h 7)) (C := RX3) (T := TX3) (N := 2) hx hb hts iX3 hown hK hP 0 rfl rfl 1 (by decide) f_15 (fun _ h9 => h9) rfl dX3_rankIn_4 ?_
  refine lv_iload_n hx hb dX3_rankIn_7 rfl (lv_at hl 1 rfl) ?_
  refine cd_iald (f := S 7) hx hb hK hP 2 rfl (by omega) (by decide) dX3_rankIn_8 ?_
  have b_8 := iv_7 hI p (by omega)
  refine cd_tp (y := nI (nv (S 7 p))) b_8.1 ?_
  have b_8 := b_8.2
  refine cd_icmp_ge (tgt := 34) hx hb dX3_rankIn_9 (by decide) (by omega) (by omega) (fun c_9 => ?_) (fun c_9 => ?_)
  · refine lv_iconst (v := (-1)) hx hb dX3_rankIn_34 (by decide) ?_
    exact W.iret (v := (-1)) hx hb hr (fun t ht hW => ⟨_, rfl, (fi_miss (fun j hj => hi_2.2 j (by omega))), ht⟩) (fun _ h9 => nomatch h9) dX3_rankIn_35
  · refine lv_aload_n hx hb dX3_rankIn_12 rfl (lv_at hl 0 rfl) ?_
    refine va_get (D := D) (ci := 3) (v := .ref (h 6)) (C := RX3) (T := TX3) (N := 2) hx hb hts iX3 hown hK hP 0 rfl rfl 0 (by decide) f_9 (fun _ h9 => h9) rfl dX3_rankIn_13 ?_
    refine lv_iload_n hx hb dX3_rankIn_16 rfl (lv_at hl 1 rfl) ?_
    refine lv_iconst (v := nI 4) hx hb dX3_rankIn_17 (by decide) ?_
    refine cd_imul hx hb dX3_rankIn_18 ?_
    refine lv_iload_n hx hb dX3_rankIn_19 rfl (lv_at hl 3 rfl) ?_
    refine cd_iadd hx hb dX3_rankIn_20 ?_
    refine cd_iald (f := S 6) hx hb hK hP 1 rfl (by omega) (by decide) dX3_rankIn_21 ?_
    refine lv_iload_n hx hb dX3_rankIn_22 rfl (lv_at hl 2 rfl) ?_
    refine lv_icmp_ne (tgt := 28) hx hb dX3_rankIn_23 (by decide) (fun c_23 => ?_) (fun c_23 => ?_)
    · refine lv_iinc (v := nI (k + 1)) (lv' := [(3, .int (nI (k + 1))), (0, .ref (h 5)), (1, .int (nI p)), (2, .int x)]) hx hb dX3_rankIn_28 hl (k := 3) rfl (cd_i1 _) (by decide) rfl (fun ls hl => ?_)
      refine lv_goto (tgt := 2) hx hb dX3_rankIn_31 (by decide) ?_
      exact ih_2 (k + 1) (⟨c_9, lt_s hi_2.2 (decide_eq_false c_23)⟩) (by omega) _ (lv_sub hl [1, 2, 3, 0] rfl)
    · refine lv_iload_n hx hb dX3_rankIn_26 rfl (lv_at hl 3 rfl) ?_
      exact W.iret (v := nI k) hx hb hr (fun t ht hW => ⟨_, rfl, (fi_hit c_9 hi_2.2 (decide_eq_true c_23)), ht⟩) (fun _ h9 => nomatch h9) dX3_rankIn_27
set_option maxHeartbeats 4000000 in
set_option maxRecDepth 100000 in
theorem c_X3_isFull (l : Launch) (D : va_G) (cy : qT) (h : Nat → Nat) (S : qS) (hI : Inv S) (p : Nat) (hp : p < 8) : Met l yX3_isFull wsX3_isFull ({ frames := 0, cells := 0, slots := 0, locals := 0 }) (va_Pc [.ref (h 5), .int (nI p)] (roB D cy (wX3 cy h S))) (vp_Si (fun r9 => r9 = bI (decide (4 ≤ nv (S 7 p))))) 0 0 (fun _ => False) := by
  refine Met.ofW (cc := cX3_isFull) (maxL := 2) (ret := (some .boolean)) (by decide) rfl ?_
  intro pp e9 s m9 args9 bl9 meth9 c9 s9 B hml hv
  obtain ⟨rfl, hP, hG⟩ := hv
  have hx := B.exec
  have hb := B.bytes
  have hr := B.returns
  have hts := atoms_spec (ws := wsX3_isFull) B.pre
  have hown : s.vm.findClass RX3 = some m9.cls := findClass_of_methodNamed B.named
  have hlocks := B.notSynchronized
  have hK := hG.K
  have f_15 := hts (.fieldLink RX3 15 "CastDesk$Rows" "lengths" "[I") (by decide +kernel)
  have iX3 : ∀ w ∈ wsX30, w ∈ wsX3_isFull := by decide +kernel
  have hl := lv_entry ([.ref (h 5), .int (nI p)]) (n := 2) (Nat.le_of_ble_eq_true rfl)
  rw [lg_entry_eq]
  generalize (lg_sl ([.ref (h 5), .int (nI p)]) ++ List.replicate (2 - (lg_sl ([.ref (h 5), .int (nI p)])).length) Slot.unset).toArray = ls at hl ⊢
  have hl : lv_has ls 2 [(0, .ref (h 5)), (1, .int (nI p))] := hl
  refine lv_aload_n hx hb dX3_isFull_0 rfl (lv_at hl 0 rfl) ?_
  refine va_get (D := D) (ci := 3) (v := .ref (h 7)) (C := RX3) (T := TX3) (N := 2) hx hb hts iX3 hown hK hP 0 rfl rfl 1 (by decide) f_15 (fun _ h9 => h9) rfl dX3_isFull_1 ?_
  refine lv_iload_n hx hb dX3_isFull_4 rfl (lv_at hl 1 rfl) ?_
  refine cd_iald (f := S 7) hx hb hK hP 2 rfl (by omega) (by decide) dX3_isFull_5 ?_
  have b_5 := iv_7 hI p (by omega)
  refine cd_tp (y := nI (nv (S 7 p))) b_5.1 ?_
  have b_5 := b_5.2
  refine lv_iconst (v := nI 4) hx hb dX3_isFull_6 (by decide) ?_
  refine cd_icmp_lt (tgt := 14) hx hb dX3_isFull_7 (by decide) (by omega) (by omega) (fun c_7 => ?_) (fun c_7 => ?_)
  · refine lv_iconst (v := nI 0) hx hb dX3_isFull_14 (by decide) ?_
    exact W.zret (v := nI 0) hx hb hr rfl (fun t ht hW => ⟨_, rfl, (by rw [decide_eq_false (by omega)]; rfl), ht⟩) (fun _ h9 => nomatch h9) dX3_isFull_15
  · refine lv_iconst (v := nI 1) hx hb dX3_isFull_10 (by decide) ?_
    refine lv_goto (tgt := 15) hx hb dX3_isFull_11 (by decide) ?_
    exact W.zret (v := nI 1) hx hb hr rfl (fun t ht hW => ⟨_, rfl, (by rw [decide_eq_true (by omega)]; rfl), ht⟩) (fun _ h9 => nomatch h9) dX3_isFull_15
set_option maxHeartbeats 4000000 in
set_option maxRecDepth 100000 in
theorem c_X3_append (l : Launch) (D : va_G) (cy : qT) (h : Nat → Nat) (S : qS) (hI : Inv S) (p : Nat) (x : Int32) (hp : p < 8) (hn : nv (S 7 p) < 4) (sz : Nat) : Met l yX3_append wsX3_append ({ frames := 0, cells := 0, slots := 0, locals := 0 }) (va_Pc [.ref (h 5), .int (nI p), .int x] (wrB D cy (wX3 cy h S) sz)) (va_Qi (fun (r9 : Int32) (u : Unit) => r9 = nI (nv (S 7 p))) (wrQ D (va_A (wX3 cy h S) sz) (fun u : Unit => (wX3 cy h (va_up (va_up S 6 (upd (S 6) (p * 4 + nv (S 7 p)) x)) 7 (upd (S 7) p (nI (nv (S 7 p) + 1))))))) (va_A (wX3 cy h S) sz)) 0 0 (va_A (wX3 cy h S) sz) := by
  refine Met.ofW (cc := cX3_append) (maxL := 4) (ret := (some .int)) (by decide) rfl ?_
  intro pp e9 s m9 args9 bl9 meth9 c9 s9 B hml hv
  obtain ⟨rfl, hsz, hP, hG, hD0⟩ := hv
  have hx := B.exec
  have hb := B.bytes
  have hr := B.returns
  have hts := atoms_spec (ws := wsX3_append) B.pre
  have hown : s.vm.findClass RX3 = some m9.cls := findClass_of_methodNamed B.named
  have hlocks := B.notSynchronized
  have hK := hG.K
  subst hsz
  have hD := hD0.self (sz := s.heap.size)
  generalize hAe : (va_A (wX3 cy h S) s.heap.size) = A at hD ⊢
  have hA : ∀ q : Nat, s.heap.size ≤ q → A q := fun q h9 => by rw [← hAe]; exact Or.inr h9
  have hS : va_S A s.heap s.heap [] := va_S.rf
  have hP : va_P D vwCl (wX3 cy h S) s.heap := hP
  have f_15 := hts (.fieldLink RX3 15 "CastDesk$Rows" "lengths" "[I") (by decide +kernel)
  have f_9 := hts (.fieldLink RX3 9 "CastDesk$Rows" "actors" "[I") (by decide +kernel)
  have iX3 : ∀ w ∈ wsX30, w ∈ wsX3_append := by decide +kernel
  have hl := lv_entry ([.ref (h 5), .int (nI p), .int x]) (n := 4) (Nat.le_of_ble_eq_true rfl)
  rw [lg_entry_eq]
  generalize (lg_sl ([.ref (h 5), .int (nI p), .int x]) ++ List.replicate (4 - (lg_sl ([.ref (h 5), .int (nI p), .int x])).length) Slot.unset).toArray = ls at hl ⊢
  have hl : lv_has ls 4 [(0, .ref (h 5)), (1, .int (nI p)), (2, .int x)] := hl
  refine lv_aload_n hx hb dX3_append_0 rfl (lv_at hl 0 rfl) ?_
  refine va_get (D := D) (ci := 3) (v := .ref (h 7)) (C := RX3) (T := TX3) (N := 2) hx hb hts iX3 hown hK hP 0 rfl rfl 1 (by decide) f_15 (fun _ h9 => h9) rfl dX3_append_1 ?_
  refine lv_iload_n hx hb dX3_append_4 rfl (lv_at hl 1 rfl) ?_
  refine cd_iald (f := S 7) hx hb hK hP 2 rfl (by omega) (by decide) dX3_append_5 ?_
  have b_5 := iv_7 hI p (by omega)
  refine cd_tp (y := nI (nv (S 7 p))) b_5.1 ?_
  have b_5 := b_5.2
  refine lv_istore_n (lv' := [(3, .int (nI (nv (S 7 p)))), (0, .ref (h 5)), (1, .int (nI p)), (2, .int x)]) hx hb dX3_append_6 rfl hl (by decide) rfl (fun ls hl => ?_)
  refine lv_aload_n hx hb dX3_append_7 rfl (lv_at hl 1 rfl) ?_
  refine va_get (D := D) (ci := 3) (v := .ref (h 6)) (C := RX3) (T := TX3) (N := 2) hx hb hts iX3 hown hK hP 0 rfl rfl 0 (by decide) f_9 (fun _ h9 => h9) rfl dX3_append_8 ?_
  refine lv_iload_n hx hb dX3_append_11 rfl (lv_at hl 2 rfl) ?_
  refine lv_iconst (v := nI 4) hx hb dX3_append_12 (by decide) ?_
  refine cd_imul hx hb dX3_append_13 ?_
  refine lv_iload_n hx hb dX3_append_14 rfl (lv_at hl 0 rfl) ?_
  refine cd_iadd hx hb dX3_append_15 ?_
  refine lv_iload_n hx hb dX3_append_16 rfl (lv_at hl 3 rfl) ?_
  refine cd_iast (f := S 6) hx hb hK hP hD hS 1 rfl (by omega) (by decide) dX3_append_17 (fun H locs hP hD hS => ?_)
  have hP : va_P D vwCl (wX3 cy h (va_up S 6 (upd (S 6) ((p * 4) + (nv (S 7 p))) x))) H := hP
  have hD : va_D A (wX3 cy h (va_up S 6 (upd (S 6) ((p * 4) + (nv (S 7 p))) x))) := hD
  refine lv_aload_n hx hb dX3_append_18 rfl (lv_at hl 1 rfl) ?_
  refine va_get (D := D) (ci := 3) (v := .ref (h 7)) (C := RX3) (T := TX3) (N := 2) hx hb hts iX3 hown hK hP 0 rfl rfl 1 (by decide) f_15 (fun _ h9 => h9) rfl dX3_append_19 ?_
  refine lv_iload_n hx hb dX3_append_22 rfl (lv_at hl 2 rfl) ?_
  refine lv_iload_n hx hb dX3_append_23 rfl (lv_at hl 0 rfl) ?_
  refine lv_iconst (v := nI 1) hx hb dX3_append_24 (by decide) ?_
  refine cd_iadd hx hb dX3_append_25 ?_
  refine cd_iast (f := S 7) hx hb hK hP hD hS 2 rfl (by omega) (by decide) dX3_append_26 (fun H locs hP hD hS => ?_)
  have hP : va_P D vwCl (wX3 cy h (va_up (va_up S 6 (upd (S 6) ((p * 4) + (nv (S 7 p))) x)) 7 (upd (S 7) p (nI ((nv (S 7 p)) + 1))))) H := hP
  have hD : va_D A (wX3 cy h (va_up (va_up S 6 (upd (S 6) ((p * 4) + (nv (S 7 p))) x)) 7 (upd (S 7) p (nI ((nv (S 7 p)) + 1))))) := hD
  refine lv_iload_n hx hb dX3_append_27 rfl (lv_at hl 0 rfl) ?_
  exact W.iret (v := nI (nv (S 7 p))) hx hb hr (fun t ht hW => ⟨⟨_, (), rfl, rfl, by rw [ht]; exact hP, hD⟩, hS.F ht⟩) hS.2.2 dX3_append_28
set_option maxHeartbeats 4000000 in
set_option maxRecDepth 100000 in
theorem c_X3_remove (l : Launch) (D : va_G) (cy : qT) (h : Nat → Nat) (S : qS) (hI : Inv S) (p : Nat) (r : Nat) (hp : p < 8) (hq : r < nv (S 7 p)) (sz : Nat) : Met l yX3_remove wsX3_remove ({ frames := 0, cells := 0, slots := 0, locals := 0 }) (va_Pc [.ref (h 5), .int (nI p), .int (nI r)] (wrB D cy (wX3 cy h S) sz)) (va_Qv (fun (u : Unit) => True) (wrQ D (va_A (wX3 cy h S) sz) (fun u : Unit => (wX3 cy h (va_up (va_up S 6 (sfT (S 6) (p * 4 + r) (p * 4 + nv (S 7 p)))) 7 (upd (S 7) p (nI (nv (S 7 p) - 1))))))) (va_A (wX3 cy h S) sz)) 0 0 (va_A (wX3 cy h S) sz) := by
  refine Met.ofW (cc := cX3_remove) (maxL := 4) (ret := none) (by decide) rfl ?_
  intro pp e9 s m9 args9 bl9 meth9 c9 s9 B hml hv
  obtain ⟨rfl, hsz, hP, hG, hD0⟩ := hv
  have hx := B.exec
  have hb := B.bytes
  have hr := B.returns
  have hts := atoms_spec (ws := wsX3_remove) B.pre
  have hown : s.vm.findClass RX3 = some m9.cls := findClass_of_methodNamed B.named
  have hlocks := B.notSynchronized
  have hK := hG.K
  subst hsz
  have hD := hD0.self (sz := s.heap.size)
  generalize hAe : (va_A (wX3 cy h S) s.heap.size) = A at hD ⊢
  have hA : ∀ q : Nat, s.heap.size ≤ q → A q := fun q h9 => by rw [← hAe]; exact Or.inr h9
  have hS : va_S A s.heap s.heap [] := va_S.rf
  have hP : va_P D vwCl (wX3 cy h S) s.heap := hP
  have f_15 := hts (.fieldLink RX3 15 "CastDesk$Rows" "lengths" "[I") (by decide +kernel)
  have f_9 := hts (.fieldLink RX3 9 "CastDesk$Rows" "actors" "[I") (by decide +kernel)
  have iX3 : ∀ w ∈ wsX30, w ∈ wsX3_remove := by decide +kernel
  have hl := lv_entry ([.ref (h 5), .int (nI p), .int (nI r)]) (n := 4) (Nat.le_of_ble_eq_true rfl)
  rw [lg_entry_eq]
  generalize (lg_sl ([.ref (h 5), .int (nI p), .int (nI r)]) ++ List.replicate (4 - (lg_sl ([.ref (h 5), .int (nI p), .int (nI r)])).length) Slot.unset).toArray = ls at hl ⊢
  have hl : lv_has ls 4 [(0, .ref (h 5)), (1, .int (nI p)), (2, .int (nI r))] := hl
  refine lv_iload_n hx hb dX3_remove_0 rfl (lv_at hl 2 rfl) ?_
  refine lv_iconst (v := nI 1) hx hb dX3_remove_1 (by decide) ?_
  refine cd_iadd hx hb dX3_remove_2 ?_
  refine lv_istore_n (lv' := [(3, .int (nI (r + 1))), (0, .ref (h 5)), (1, .int (nI p)), (2, .int (nI r))]) hx hb dX3_remove_3 rfl hl (by decide) rfl (fun ls hl => ?_)
  have e0 : sfT (S 6) (p * 4 + r) (p * 4 + (r + 1)) = S 6 := sfT_0 _ _
  refine wh1 (nL := 4) (fun (k : Nat) => r < k ∧ k ≤ nv (S 7 p)) (fun (k : Nat) => nv (S 7 p) - k) (fun (k : Nat) => [(0, .ref (h 5)), (1, .int (nI p)), (2, .int (nI r)), (3, .int (nI k))]) (fun (k : Nat) => (wX3 cy h (va_up S 6 (sfT (S 6) (p * 4 + r) (p * 4 + k))))) (fun k hi_4 ih_4 H locs hP hD hS ls hl => ?_) (r + 1) (⟨by omega, by omega⟩) (by rw [e0]; exact hP) (by rw [e0]; exact hD) hS (lv_sub hl [1, 2, 3, 0] rfl)
  have hP : va_P D vwCl (wX3 cy h (va_up S 6 (sfT (S 6) (p * 4 + r) (p * 4 + k)))) H := hP
  have hD : va_D A (wX3 cy h (va_up S 6 (sfT (S 6) (p * 4 + r) (p * 4 + k)))) := hD
  obtain ⟨hi1, hi2⟩ := hi_4
  refine lv_iload_n hx hb dX3_remove_4 rfl (lv_at hl 3 rfl) ?_
  refine lv_aload_n hx hb dX3_remove_5 rfl (lv_at hl 0 rfl) ?_
  refine va_get (D := D) (ci := 3) (v := .ref (h 7)) (C := RX3) (T := TX3) (N := 2) hx hb hts iX3 hown hK hP 0 rfl rfl 1 (by decide) f_15 (fun _ h9 => h9) rfl dX3_remove_6 ?_
  refine lv_iload_n hx hb dX3_remove_9 rfl (lv_at hl 1 rfl) ?_
  refine cd_iald (f := S 7) hx hb hK hP 2 rfl (by omega) (by decide) dX3_remove_10 ?_
  have b_10 := iv_7 hI p (by omega)
  refine cd_tp (y := nI (nv (S 7 p))) b_10.1 ?_
  have b_10 := b_10.2
  refine cd_icmp_ge (tgt := 42) hx hb dX3_remove_11 (by decide) (by omega) (by omega) (fun c_11 => ?_) (fun c_11 => ?_)
  · have ek : k = nv (S 7 p) := by omega
    subst ek
    have hP : va_P D vwCl (wX3 cy h (va_up S 6 (sfT (S 6) (p * 4 + r) (p * 4 + (nv (S 7 p)))))) H := hP
    have hD : va_D A (wX3 cy h (va_up S 6 (sfT (S 6) (p * 4 + r) (p * 4 + (nv (S 7 p)))))) := hD
    refine lv_aload_n hx hb dX3_remove_42 rfl (lv_at hl 0 rfl) ?_
    refine va_get (D := D) (ci := 3) (v := .ref (h 7)) (C := RX3) (T := TX3) (N := 2) hx hb hts iX3 hown hK hP 0 rfl rfl 1 (by decide) f_15 (fun _ h9 => h9) rfl dX3_remove_43 ?_
    refine lv_iload_n hx hb dX3_remove_46 rfl (lv_at hl 1 rfl) ?_
    refine lv_dup2_11 hx hb dX3_remove_47 rfl rfl ?_
    refine cd_iald (f := S 7) hx hb hK hP 2 rfl (by omega) (by decide) dX3_remove_48 ?_
    have b_48 := iv_7 hI p (by omega)
    refine cd_tp (y := nI (nv (S 7 p))) b_48.1 ?_
    have b_48 := b_48.2
    refine lv_iconst (v := nI 1) hx hb dX3_remove_49 (by decide) ?_
    refine cd_isub hx hb (by omega) dX3_remove_50 ?_
    refine cd_iast (f := S 7) hx hb hK hP hD hS 2 rfl (by omega) (by decide) dX3_remove_51 (fun H locs hP hD hS => ?_)
    have hP : va_P D vwCl (wX3 cy h (va_up (va_up S 6 (sfT (S 6) (p * 4 + r) (p * 4 + (nv (S 7 p))))) 7 (upd (S 7) p (nI ((nv (S 7 p)) - 1))))) H := hP
    have hD : va_D A (wX3 cy h (va_up (va_up S 6 (sfT (S 6) (p * 4 + r) (p * 4 + (nv (S 7 p))))) 7 (upd (S 7) p (nI ((nv (S 7 p)) - 1))))) := hD
    exact W.vret hx hb hr (fun t ht hW => ⟨⟨(), rfl, trivial, by rw [ht]; exact hP, hD⟩, hS.F ht⟩) hS.2.2 dX3_remove_52
  · refine lv_aload_n hx hb dX3_remove_14 rfl (lv_at hl 0 rfl) ?_
    refine va_get (D := D) (ci := 3) (v := .ref (h 6)) (C := RX3) (T := TX3) (N := 2) hx hb hts iX3 hown hK hP 0 rfl rfl 0 (by decide) f_9 (fun _ h9 => h9) rfl dX3_remove_15 ?_
    refine lv_iload_n hx hb dX3_remove_18 rfl (lv_at hl 1 rfl) ?_
    refine lv_iconst (v := nI 4) hx hb dX3_remove_19 (by decide) ?_
    refine cd_imul hx hb dX3_remove_20 ?_
    refine lv_iload_n hx hb dX3_remove_21 rfl (lv_at hl 3 rfl) ?_
    refine cd_iadd hx hb dX3_remove_22 ?_
    refine lv_iconst (v := nI 1) hx hb dX3_remove_23 (by decide) ?_
    refine cd_isub hx hb (by omega) dX3_remove_24 ?_
    refine lv_aload_n hx hb dX3_remove_25 rfl (lv_at hl 0 rfl) ?_
    refine va_get (D := D) (ci := 3) (v := .ref (h 6)) (C := RX3) (T := TX3) (N := 2) hx hb hts iX3 hown hK hP 0 rfl rfl 0 (by decide) f_9 (fun _ h9 => h9) rfl dX3_remove_26 ?_
    refine lv_iload_n hx hb dX3_remove_29 rfl (lv_at hl 1 rfl) ?_
    refine lv_iconst (v := nI 4) hx hb dX3_remove_30 (by decide) ?_
    refine cd_imul hx hb dX3_remove_31 ?_
    refine lv_iload_n hx hb dX3_remove_32 rfl (lv_at hl 3 rfl) ?_
    refine cd_iadd hx hb dX3_remove_33 ?_
    refine cd_iald (f := sfT (S 6) (p * 4 + r) (p * 4 + k)) hx hb hK hP 1 rfl (by omega) (by decide) dX3_remove_34 ?_
    refine cd_tp (y := S 6 (p * 4 + k)) (by unfold sfT; rw [if_neg (by omega)]) ?_
    refine cd_iast (f := sfT (S 6) (p * 4 + r) (p * 4 + k)) hx hb hK hP hD hS 1 rfl (by omega) (by decide) dX3_remove_35 (fun H locs hP hD hS => ?_)
    have hP : va_P D vwCl (wX3 cy h (va_up S 6 (upd (sfT (S 6) (p * 4 + r) (p * 4 + k)) (((p * 4) + k) - 1) (S 6 (p * 4 + k))))) H := hP
    have hD : va_D A (wX3 cy h (va_up S 6 (upd (sfT (S 6) (p * 4 + r) (p * 4 + k)) (((p * 4) + k) - 1) (S 6 (p * 4 + k))))) := hD
    have e_35 : (upd (sfT (S 6) (p * 4 + r) (p * 4 + k)) (((p * 4) + k) - 1) (S 6 (p * 4 + k))) = (sfT (S 6) (p * 4 + r) (p * 4 + (k + 1))) := sfT_s (S 6) (p * 4 + r) (p * 4 + k) (by omega)
    rw [e_35] at hP hD
    have hP : va_P D vwCl (wX3 cy h (va_up S 6 (sfT (S 6) (p * 4 + r) (p * 4 + (k + 1))))) H := hP
    have hD : va_D A (wX3 cy h (va_up S 6 (sfT (S 6) (p * 4 + r) (p * 4 + (k + 1))))) := hD
    refine lv_iinc (v := nI (k + 1)) (lv' := [(3, .int (nI (k + 1))), (0, .ref (h 5)), (1, .int (nI p)), (2, .int (nI r))]) hx hb dX3_remove_36 hl (k := 3) rfl (cd_i1 _) (by decide) rfl (fun ls hl => ?_)
    refine lv_goto (tgt := 4) hx hb dX3_remove_39 (by decide) ?_
    exact ih_4 (k + 1) (⟨by omega, by omega⟩) (by omega) _ _ hP hD hS _ (lv_sub hl [1, 2, 3, 0] rfl)
set_option maxHeartbeats 4000000 in
set_option maxRecDepth 100000 in
theorem c_X5_add (l : Launch) (D : va_G) (cy : qT) (h : Nat → Nat) (S : qS) (hI : Inv S) (x : Int32) (z : Int32) (hn : nv (S 29 0) < 40) (sz : Nat) : Met l yX5_add wsX5_add ({ frames := 0, cells := 0, slots := 0, locals := 0 }) (va_Pc [.ref (h 8), .int x, .int z] (wrB D cy (wX5 cy h S) sz)) (va_Qi (fun (r9 : Int32) (u : Unit) => r9 = nI (nv (S 29 0))) (wrQ D (va_A (wX5 cy h S) sz) (fun u : Unit => (wX5 cy h (va_up (va_up (va_up S 10 (upd (S 10) (nv (S 29 0)) x)) 9 (upd (S 9) (nv (S 29 0)) z)) 29 (fun _ => nI (nv (S 29 0) + 1)))))) (va_A (wX5 cy h S) sz)) 0 0 (va_A (wX5 cy h S) sz) := by
  refine Met.ofW (cc := cX5_add) (maxL := 3) (ret := (some .int)) (by decide) rfl ?_
  intro pp e9 s m9 args9 bl9 meth9 c9 s9 B hml hv
  obtain ⟨rfl, hsz, hP, hG, hD0⟩ := hv
  have hx := B.exec
  have hb := B.bytes
  have hr := B.returns
  have hts := atoms_spec (ws := wsX5_add) B.pre
  have hown : s.vm.findClass RX5 = some m9.cls := findClass_of_methodNamed B.named
  have hlocks := B.notSynchronized
  have hK := hG.K
  subst hsz
  have hD := hD0.self (sz := s.heap.size)
  generalize hAe : (va_A (wX5 cy h S) s.heap.size) = A at hD ⊢
  have hA : ∀ q : Nat, s.heap.size ≤ q → A q := fun q h9 => by rw [← hAe]; exact Or.inr h9
  have hS : va_S A s.heap s.heap [] := va_S.rf
  have hP : va_P D vwCl (wX5 cy h S) s.heap := hP
  have f_15 := hts (.fieldLink RX5 15 "CastDesk$Wardrobe" "parts" "[I") (by decide +kernel)
  have f_22 := hts (.fieldLink RX5 22 "CastDesk$Wardrobe" "count" "I") (by decide +kernel)
  have f_9 := hts (.fieldLink RX5 9 "CastDesk$Wardrobe" "sizes" "[I") (by decide +kernel)
  have iX5 : ∀ w ∈ wsX50, w ∈ wsX5_add := by decide +kernel
  have hl := lv_entry ([.ref (h 8), .int x, .int z]) (n := 3) (Nat.le_of_ble_eq_true rfl)
  rw [lg_entry_eq]
  generalize (lg_sl ([.ref (h 8), .int x, .int z]) ++ List.replicate (3 - (lg_sl ([.ref (h 8), .int x, .int z])).length) Slot.unset).toArray = ls at hl ⊢
  have hl : lv_has ls 3 [(0, .ref (h 8)), (1, .int x), (2, .int z)] := hl
  refine lv_aload_n hx hb dX5_add_0 rfl (lv_at hl 0 rfl) ?_
  refine va_get (D := D) (ci := 5) (v := .ref (h 10)) (C := RX5) (T := TX5) (N := 4) hx hb hts iX5 hown hK hP 0 rfl rfl 1 (by decide) f_15 (fun _ h9 => h9) rfl dX5_add_1 ?_
  refine lv_aload_n hx hb dX5_add_4 rfl (lv_at hl 0 rfl) ?_
  refine va_get (D := D) (ci := 5) (v := .int (S 29 0)) (C := RX5) (T := TX5) (N := 4) hx hb hts iX5 hown hK hP 0 rfl rfl 3 (by decide) f_22 (fun _ h9 => h9) rfl dX5_add_5 ?_
  have b_5 := iv_29 hI
  refine cd_tp (y := nI (nv (S 29 0))) b_5.1 ?_
  have b_5 := b_5.2
  refine lv_iload_n hx hb dX5_add_8 rfl (lv_at hl 1 rfl) ?_
  refine cd_iast (f := S 10) hx hb hK hP hD hS 2 rfl (by omega) (by decide) dX5_add_9 (fun H locs hP hD hS => ?_)
  have hP : va_P D vwCl (wX5 cy h (va_up S 10 (upd (S 10) (nv (S 29 0)) x))) H := hP
  have hD : va_D A (wX5 cy h (va_up S 10 (upd (S 10) (nv (S 29 0)) x))) := hD
  refine lv_aload_n hx hb dX5_add_10 rfl (lv_at hl 0 rfl) ?_
  refine va_get (D := D) (ci := 5) (v := .ref (h 9)) (C := RX5) (T := TX5) (N := 4) hx hb hts iX5 hown hK hP 0 rfl rfl 0 (by decide) f_9 (fun _ h9 => h9) rfl dX5_add_11 ?_
  refine lv_aload_n hx hb dX5_add_14 rfl (lv_at hl 0 rfl) ?_
  refine va_get (D := D) (ci := 5) (v := .int (S 29 0)) (C := RX5) (T := TX5) (N := 4) hx hb hts iX5 hown hK hP 0 rfl rfl 3 (by decide) f_22 (fun _ h9 => h9) rfl dX5_add_15 ?_
  have b_15 := iv_29 hI
  refine cd_tp (y := nI (nv (S 29 0))) b_15.1 ?_
  have b_15 := b_15.2
  refine lv_iload_n hx hb dX5_add_18 rfl (lv_at hl 2 rfl) ?_
  refine cd_iast (f := S 9) hx hb hK hP hD hS 1 rfl (by omega) (by decide) dX5_add_19 (fun H locs hP hD hS => ?_)
  have hP : va_P D vwCl (wX5 cy h (va_up (va_up S 10 (upd (S 10) (nv (S 29 0)) x)) 9 (upd (S 9) (nv (S 29 0)) z))) H := hP
  have hD : va_D A (wX5 cy h (va_up (va_up S 10 (upd (S 10) (nv (S 29 0)) x)) 9 (upd (S 9) (nv (S 29 0)) z))) := hD
  refine lv_aload_n hx hb dX5_add_20 rfl (lv_at hl 0 rfl) ?_
  refine lv_dup hx hb dX5_add_21 rfl ?_
  refine va_get (D := D) (ci := 5) (v := .int (S 29 0)) (C := RX5) (T := TX5) (N := 4) hx hb hts iX5 hown hK hP 0 rfl rfl 3 (by decide) f_22 (fun _ h9 => h9) rfl dX5_add_22 ?_
  have b_22 := iv_29 hI
  refine cd_tp (y := nI (nv (S 29 0))) b_22.1 ?_
  have b_22 := b_22.2
  refine lv_iconst (v := nI 1) hx hb dX5_add_25 (by decide) ?_
  refine cd_iadd hx hb dX5_add_26 ?_
  refine va_put (D := D) (ci := 5) (v := .int (nI ((nv (S 29 0)) + 1))) (ty := .int) (C := RX5) (T := TX5) (N := 4) hx hb hts iX5 tyX5 tyX5_ok nmX5 hown hK hP hD hS 0 rfl rfl 3 (by decide) f_22 (fun _ h9 => h9) rfl (by decide +kernel) rfl rfl (Nat.le_of_ble_eq_true rfl) dX5_add_27 (fun H locs hP hD hS => ?_)
  have hP : va_P D vwCl (wX5 cy h (va_up (va_up (va_up S 10 (upd (S 10) (nv (S 29 0)) x)) 9 (upd (S 9) (nv (S 29 0)) z)) 29 (fun _ => nI ((nv (S 29 0)) + 1)))) H := hP
  have hD : va_D A (wX5 cy h (va_up (va_up (va_up S 10 (upd (S 10) (nv (S 29 0)) x)) 9 (upd (S 9) (nv (S 29 0)) z)) 29 (fun _ => nI ((nv (S 29 0)) + 1)))) := hD
  refine lv_aload_n hx hb dX5_add_30 rfl (lv_at hl 0 rfl) ?_
  refine va_get (D := D) (ci := 5) (v := .int (nI ((nv (S 29 0)) + 1))) (C := RX5) (T := TX5) (N := 4) hx hb hts iX5 hown hK hP 0 rfl rfl 3 (by decide) f_22 (fun _ h9 => h9) rfl dX5_add_31 ?_
  refine lv_iconst (v := nI 1) hx hb dX5_add_34 (by decide) ?_
  refine cd_isub hx hb (by omega) dX5_add_35 ?_
  exact W.iret (v := nI (((nv (S 29 0)) + 1) - 1)) hx hb hr (fun t ht hW => ⟨⟨_, (), rfl, rfl, by rw [ht]; exact hP, hD⟩, hS.F ht⟩) hS.2.2 dX5_add_36
set_option maxHeartbeats 4000000 in
set_option maxRecDepth 100000 in
theorem c_X5_lowestFitting (l : Launch) (D : va_G) (cy : qT) (h : Nat → Nat) (S : qS) (hI : Inv S) (p : Nat) (z : Int32) : Met l yX5_lowestFitting wsX5_lowestFitting ({ frames := 0, cells := 0, slots := 0, locals := 0 }) (va_Pc [.ref (h 8), .int (nI p), .int z] (roB D cy (wX5 cy h S))) (vp_Si (fun r9 => r9 = ftI S p z)) 0 0 (fun _ => False) := by
  refine Met.ofW (cc := cX5_lowestFitting) (maxL := 4) (ret := (some .int)) (by decide) rfl ?_
  intro pp e9 s m9 args9 bl9 meth9 c9 s9 B hml hv
  obtain ⟨rfl, hP, hG⟩ := hv
  have hx := B.exec
  have hb := B.bytes
  have hr := B.returns
  have hts := atoms_spec (ws := wsX5_lowestFitting) B.pre
  have hown : s.vm.findClass RX5 = some m9.cls := findClass_of_methodNamed B.named
  have hlocks := B.notSynchronized
  have hK := hG.K
  have f_22 := hts (.fieldLink RX5 22 "CastDesk$Wardrobe" "count" "I") (by decide +kernel)
  have f_15 := hts (.fieldLink RX5 15 "CastDesk$Wardrobe" "parts" "[I") (by decide +kernel)
  have f_9 := hts (.fieldLink RX5 9 "CastDesk$Wardrobe" "sizes" "[I") (by decide +kernel)
  have iX5 : ∀ w ∈ wsX50, w ∈ wsX5_lowestFitting := by decide +kernel
  have hl := lv_entry ([.ref (h 8), .int (nI p), .int z]) (n := 4) (Nat.le_of_ble_eq_true rfl)
  rw [lg_entry_eq]
  generalize (lg_sl ([.ref (h 8), .int (nI p), .int z]) ++ List.replicate (4 - (lg_sl ([.ref (h 8), .int (nI p), .int z])).length) Slot.unset).toArray = ls at hl ⊢
  have hl : lv_has ls 4 [(0, .ref (h 8)), (1, .int (nI p)), (2, .int z)] := hl
  have h29 := (iv_29 hI).2
  refine lv_iconst (v := nI 0) hx hb dX5_lowestFitting_0 (by decide) ?_
  refine lv_istore_n (lv' := [(3, .int (nI 0)), (0, .ref (h 8)), (1, .int (nI p)), (2, .int z)]) hx hb dX5_lowestFitting_1 rfl hl (by decide) rfl (fun ls hl => ?_)
  refine wl1 (nL := 4) (fun (k : Nat) => k ≤ nv (S 29 0) ∧ ∀ j, j < k → ftP S p z j = false) (fun (k : Nat) => nv (S 29 0) - k) (fun (k : Nat) => [(0, .ref (h 8)), (1, .int (nI p)), (2, .int z), (3, .int (nI k))]) (fun k hi_2 ih_2 ls hl => ?_) 0 (⟨Nat.zero_le _, fun j hj => absurd hj (Nat.not_lt_zero j)⟩) (lv_sub hl [1, 2, 3, 0] rfl)
  have hi1 := hi_2.1
  refine lv_iload_n hx hb dX5_lowestFitting_2 rfl (lv_at hl 3 rfl) ?_
  refine lv_aload_n hx hb dX5_lowestFitting_3 rfl (lv_at hl 0 rfl) ?_
  refine va_get (D := D) (ci := 5) (v := .int (S 29 0)) (C := RX5) (T := TX5) (N := 4) hx hb hts iX5 hown hK hP 0 rfl rfl 3 (by decide) f_22 (fun _ h9 => h9) rfl dX5_lowestFitting_4 ?_
  have b_4 := iv_29 hI
  refine cd_tp (y := nI (nv (S 29 0))) b_4.1 ?_
  have b_4 := b_4.2
  refine cd_icmp_ge (tgt := 38) hx hb dX5_lowestFitting_7 (by decide) (by omega) (by omega) (fun c_7 => ?_) (fun c_7 => ?_)
  · refine lv_iconst (v := (-1)) hx hb dX5_lowestFitting_38 (by decide) ?_
    exact W.iret (v := (-1)) hx hb hr (fun t ht hW => ⟨_, rfl, (fi_miss (fun j hj => hi_2.2 j (by omega))), ht⟩) (fun _ h9 => nomatch h9) dX5_lowestFitting_39
  · refine lv_aload_n hx hb dX5_lowestFitting_10 rfl (lv_at hl 0 rfl) ?_
    refine va_get (D := D) (ci := 5) (v := .ref (h 10)) (C := RX5) (T := TX5) (N := 4) hx hb hts iX5 hown hK hP 0 rfl rfl 1 (by decide) f_15 (fun _ h9 => h9) rfl dX5_lowestFitting_11 ?_
    refine lv_iload_n hx hb dX5_lowestFitting_14 rfl (lv_at hl 3 rfl) ?_
    refine cd_iald (f := S 10) hx hb hK hP 2 rfl (by omega) (by decide) dX5_lowestFitting_15 ?_
    refine lv_iload_n hx hb dX5_lowestFitting_16 rfl (lv_at hl 1 rfl) ?_
    refine lv_icmp_ne (tgt := 32) hx hb dX5_lowestFitting_17 (by decide) (fun c_17 => ?_) (fun c_17 => ?_)
    · refine lv_iinc (v := nI (k + 1)) (lv' := [(3, .int (nI (k + 1))), (0, .ref (h 8)), (1, .int (nI p)), (2, .int z)]) hx hb dX5_lowestFitting_32 hl (k := 3) rfl (cd_i1 _) (by decide) rfl (fun ls hl => ?_)
      refine lv_goto (tgt := 2) hx hb dX5_lowestFitting_35 (by decide) ?_
      exact ih_2 (k + 1) (⟨c_7, lt_s hi_2.2 (decide_eq_false (fun q => c_17 q.1))⟩) (by omega) _ (lv_sub hl [1, 2, 3, 0] rfl)
    · refine lv_aload_n hx hb dX5_lowestFitting_20 rfl (lv_at hl 0 rfl) ?_
      refine va_get (D := D) (ci := 5) (v := .ref (h 9)) (C := RX5) (T := TX5) (N := 4) hx hb hts iX5 hown hK hP 0 rfl rfl 0 (by decide) f_9 (fun _ h9 => h9) rfl dX5_lowestFitting_21 ?_
      refine lv_iload_n hx hb dX5_lowestFitting_24 rfl (lv_at hl 3 rfl) ?_
      refine cd_iald (f := S 9) hx hb hK hP 1 rfl (by omega) (by decide) dX5_lowestFitting_25 ?_
      refine lv_iload_n hx hb dX5_lowestFitting_26 rfl (lv_at hl 2 rfl) ?_
      refine lv_icmp_ne (tgt := 32) hx hb dX5_lowestFitting_27 (by decide) (fun c_27 => ?_) (fun c_27 => ?_)
      · refine lv_iinc (v := nI (k + 1)) (lv' := [(3, .int (nI (k + 1))), (0, .ref (h 8)), (1, .int (nI p)), (2, .int z)]) hx hb dX5_lowestFitting_32 hl (k := 3) rfl (cd_i1 _) (by decide) rfl (fun ls hl => ?_)
        refine lv_goto (tgt := 2) hx hb dX5_lowestFitting_35 (by decide) ?_
        exact ih_2 (k + 1) (⟨c_7, lt_s hi_2.2 (decide_eq_false (fun q => c_27 q.2))⟩) (by omega) _ (lv_sub hl [1, 2, 3, 0] rfl)
      · refine lv_iload_n hx hb dX5_lowestFitting_30 rfl (lv_at hl 3 rfl) ?_
        exact W.iret (v := nI k) hx hb hr (fun t ht hW => ⟨_, rfl, (fi_hit c_7 hi_2.2 (decide_eq_true ⟨c_17, c_27⟩)), ht⟩) (fun _ h9 => nomatch h9) dX5_lowestFitting_31
set_option maxHeartbeats 4000000 in
set_option maxRecDepth 100000 in
theorem c_X5_lowestToLetOut (l : Launch) (D : va_G) (cy : qT) (h : Nat → Nat) (S : qS) (hI : Inv S) (p : Nat) (z : Int32) : Met l yX5_lowestToLetOut wsX5_lowestToLetOut ({ frames := 0, cells := 0, slots := 0, locals := 0 }) (va_Pc [.ref (h 8), .int (nI p), .int z] (roB D cy (wX5 cy h S))) (vp_Si (fun r9 => r9 = loI S p z)) 0 0 (fun _ => False) := by
  refine Met.ofW (cc := cX5_lowestToLetOut) (maxL := 4) (ret := (some .int)) (by decide) rfl ?_
  intro pp e9 s m9 args9 bl9 meth9 c9 s9 B hml hv
  obtain ⟨rfl, hP, hG⟩ := hv
  have hx := B.exec
  have hb := B.bytes
  have hr := B.returns
  have hts := atoms_spec (ws := wsX5_lowestToLetOut) B.pre
  have hown : s.vm.findClass RX5 = some m9.cls := findClass_of_methodNamed B.named
  have hlocks := B.notSynchronized
  have hK := hG.K
  have f_22 := hts (.fieldLink RX5 22 "CastDesk$Wardrobe" "count" "I") (by decide +kernel)
  have f_15 := hts (.fieldLink RX5 15 "CastDesk$Wardrobe" "parts" "[I") (by decide +kernel)
  have f_9 := hts (.fieldLink RX5 9 "CastDesk$Wardrobe" "sizes" "[I") (by decide +kernel)
  have f_18 := hts (.fieldLink RX5 18 "CastDesk$Wardrobe" "isLetOut" "[Z") (by decide +kernel)
  have iX5 : ∀ w ∈ wsX50, w ∈ wsX5_lowestToLetOut := by decide +kernel
  have hl := lv_entry ([.ref (h 8), .int (nI p), .int z]) (n := 4) (Nat.le_of_ble_eq_true rfl)
  rw [lg_entry_eq]
  generalize (lg_sl ([.ref (h 8), .int (nI p), .int z]) ++ List.replicate (4 - (lg_sl ([.ref (h 8), .int (nI p), .int z])).length) Slot.unset).toArray = ls at hl ⊢
  have hl : lv_has ls 4 [(0, .ref (h 8)), (1, .int (nI p)), (2, .int z)] := hl
  have h29 := (iv_29 hI).2
  refine lv_iconst (v := nI 0) hx hb dX5_lowestToLetOut_0 (by decide) ?_
  refine lv_istore_n (lv' := [(3, .int (nI 0)), (0, .ref (h 8)), (1, .int (nI p)), (2, .int z)]) hx hb dX5_lowestToLetOut_1 rfl hl (by decide) rfl (fun ls hl => ?_)
  refine wl1 (nL := 4) (fun (k : Nat) => k ≤ nv (S 29 0) ∧ ∀ j, j < k → loP S p z j = false) (fun (k : Nat) => nv (S 29 0) - k) (fun (k : Nat) => [(0, .ref (h 8)), (1, .int (nI p)), (2, .int z), (3, .int (nI k))]) (fun k hi_2 ih_2 ls hl => ?_) 0 (⟨Nat.zero_le _, fun j hj => absurd hj (Nat.not_lt_zero j)⟩) (lv_sub hl [1, 2, 3, 0] rfl)
  have hi1 := hi_2.1
  refine lv_iload_n hx hb dX5_lowestToLetOut_2 rfl (lv_at hl 3 rfl) ?_
  refine lv_aload_n hx hb dX5_lowestToLetOut_3 rfl (lv_at hl 0 rfl) ?_
  refine va_get (D := D) (ci := 5) (v := .int (S 29 0)) (C := RX5) (T := TX5) (N := 4) hx hb hts iX5 hown hK hP 0 rfl rfl 3 (by decide) f_22 (fun _ h9 => h9) rfl dX5_lowestToLetOut_4 ?_
  have b_4 := iv_29 hI
  refine cd_tp (y := nI (nv (S 29 0))) b_4.1 ?_
  have b_4 := b_4.2
  refine cd_icmp_ge (tgt := 49) hx hb dX5_lowestToLetOut_7 (by decide) (by omega) (by omega) (fun c_7 => ?_) (fun c_7 => ?_)
  · refine lv_iconst (v := (-1)) hx hb dX5_lowestToLetOut_49 (by decide) ?_
    exact W.iret (v := (-1)) hx hb hr (fun t ht hW => ⟨_, rfl, (fi_miss (fun j hj => hi_2.2 j (by omega))), ht⟩) (fun _ h9 => nomatch h9) dX5_lowestToLetOut_50
  · refine lv_aload_n hx hb dX5_lowestToLetOut_10 rfl (lv_at hl 0 rfl) ?_
    refine va_get (D := D) (ci := 5) (v := .ref (h 10)) (C := RX5) (T := TX5) (N := 4) hx hb hts iX5 hown hK hP 0 rfl rfl 1 (by decide) f_15 (fun _ h9 => h9) rfl dX5_lowestToLetOut_11 ?_
    refine lv_iload_n hx hb dX5_lowestToLetOut_14 rfl (lv_at hl 3 rfl) ?_
    refine cd_iald (f := S 10) hx hb hK hP 2 rfl (by omega) (by decide) dX5_lowestToLetOut_15 ?_
    refine lv_iload_n hx hb dX5_lowestToLetOut_16 rfl (lv_at hl 1 rfl) ?_
    refine lv_icmp_ne (tgt := 43) hx hb dX5_lowestToLetOut_17 (by decide) (fun c_17 => ?_) (fun c_17 => ?_)
    · refine lv_iinc (v := nI (k + 1)) (lv' := [(3, .int (nI (k + 1))), (0, .ref (h 8)), (1, .int (nI p)), (2, .int z)]) hx hb dX5_lowestToLetOut_43 hl (k := 3) rfl (cd_i1 _) (by decide) rfl (fun ls hl => ?_)
      refine lv_goto (tgt := 2) hx hb dX5_lowestToLetOut_46 (by decide) ?_
      exact ih_2 (k + 1) (⟨c_7, lt_s hi_2.2 (decide_eq_false (fun q => c_17 q.1))⟩) (by omega) _ (lv_sub hl [1, 2, 3, 0] rfl)
    · refine lv_aload_n hx hb dX5_lowestToLetOut_20 rfl (lv_at hl 0 rfl) ?_
      refine va_get (D := D) (ci := 5) (v := .ref (h 9)) (C := RX5) (T := TX5) (N := 4) hx hb hts iX5 hown hK hP 0 rfl rfl 0 (by decide) f_9 (fun _ h9 => h9) rfl dX5_lowestToLetOut_21 ?_
      refine lv_iload_n hx hb dX5_lowestToLetOut_24 rfl (lv_at hl 3 rfl) ?_
      refine cd_iald (f := S 9) hx hb hK hP 1 rfl (by omega) (by decide) dX5_lowestToLetOut_25 ?_
      refine lv_iconst (v := nI 1) hx hb dX5_lowestToLetOut_26 (by decide) ?_
      refine lv_iadd hx hb dX5_lowestToLetOut_27 ?_
      refine lv_iload_n hx hb dX5_lowestToLetOut_28 rfl (lv_at hl 2 rfl) ?_
      refine lv_icmp_ne (tgt := 43) hx hb dX5_lowestToLetOut_29 (by decide) (fun c_29 => ?_) (fun c_29 => ?_)
      · refine lv_iinc (v := nI (k + 1)) (lv' := [(3, .int (nI (k + 1))), (0, .ref (h 8)), (1, .int (nI p)), (2, .int z)]) hx hb dX5_lowestToLetOut_43 hl (k := 3) rfl (cd_i1 _) (by decide) rfl (fun ls hl => ?_)
        refine lv_goto (tgt := 2) hx hb dX5_lowestToLetOut_46 (by decide) ?_
        exact ih_2 (k + 1) (⟨c_7, lt_s hi_2.2 (decide_eq_false (fun q => c_29 q.2.1))⟩) (by omega) _ (lv_sub hl [1, 2, 3, 0] rfl)
      · refine lv_aload_n hx hb dX5_lowestToLetOut_32 rfl (lv_at hl 0 rfl) ?_
        refine va_get (D := D) (ci := 5) (v := .ref (h 11)) (C := RX5) (T := TX5) (N := 4) hx hb hts iX5 hown hK hP 0 rfl rfl 2 (by decide) f_18 (fun _ h9 => h9) rfl dX5_lowestToLetOut_33 ?_
        refine lv_iload_n hx hb dX5_lowestToLetOut_36 rfl (lv_at hl 3 rfl) ?_
        refine cd_zald (f := S 11) hx hb hK hP 3 rfl (by omega) (by decide) dX5_lowestToLetOut_37 ?_
        refine lv_if_ne (tgt := 43) hx hb dX5_lowestToLetOut_38 (by decide) (fun c_38 => ?_) (fun c_38 => ?_)
        · refine lv_iinc (v := nI (k + 1)) (lv' := [(3, .int (nI (k + 1))), (0, .ref (h 8)), (1, .int (nI p)), (2, .int z)]) hx hb dX5_lowestToLetOut_43 hl (k := 3) rfl (cd_i1 _) (by decide) rfl (fun ls hl => ?_)
          refine lv_goto (tgt := 2) hx hb dX5_lowestToLetOut_46 (by decide) ?_
          exact ih_2 (k + 1) (⟨c_7, lt_s hi_2.2 (decide_eq_false (fun q => c_38 q.2.2))⟩) (by omega) _ (lv_sub hl [1, 2, 3, 0] rfl)
        · refine lv_iload_n hx hb dX5_lowestToLetOut_41 rfl (lv_at hl 3 rfl) ?_
          exact W.iret (v := nI k) hx hb hr (fun t ht hW => ⟨_, rfl, (fi_hit c_7 hi_2.2 (decide_eq_true ⟨c_17, c_29, c_38⟩)), ht⟩) (fun _ h9 => nomatch h9) dX5_lowestToLetOut_42
end
section
set_option maxHeartbeats 4000000 in
set_option maxRecDepth 100000 in
theorem c_X4_fallIll (l : Launch) (D : va_G) (cy : qT) (h : Nat → Nat) (S : qS) (hI : Inv S) (a : Nat) (d0 : Nat) (d1 : Nat) (ha : a < 12) (h01 : d0 ≤ d1) (hd : d1 ≤ 1000) (sz : Nat) : Met l yX4_fallIll wsX4_fallIll ({ frames := 1, cells := 0, slots := 0, locals := 21 }) (va_Pc [.ref (h 1), .int (nI a), .int (nI d0), .int (nI d1)] (wrB D cy (wX4 cy h S) sz)) (va_Qi (fun (r9 : Int32) (u : Unit) => r9 = nI (ilC (S 4) a d0 (d1 + 1 - d0))) (wrQ D (va_A (wX4 cy h S) sz) (fun u : Unit => (wX4 cy h (va_up S 4 (ilF (S 4) a d0 (d0 + (d1 + 1 - d0))))))) (va_A (wX4 cy h S) sz)) 0 0 (va_A (wX4 cy h S) sz) := by
  refine Met.ofW (cc := cX4_fallIll) (maxL := 6) (ret := (some .int)) (by decide) rfl ?_
  intro pp e9 s m9 args9 bl9 meth9 c9 s9 B hml hv
  obtain ⟨rfl, hsz, hP, hG, hD0⟩ := hv
  have hx := B.exec
  have hb := B.bytes
  have hr := B.returns
  have hts := atoms_spec (ws := wsX4_fallIll) B.pre
  have hown : s.vm.findClass RX4 = some m9.cls := findClass_of_methodNamed B.named
  have hlocks := B.notSynchronized
  have hK := hG.K
  subst hsz
  have hD := hD0.self (sz := s.heap.size)
  generalize hAe : (va_A (wX4 cy h S) s.heap.size) = A at hD ⊢
  have hA : ∀ q : Nat, s.heap.size ≤ q → A q := fun q h9 => by rw [← hAe]; exact Or.inr h9
  have hS : va_S A s.heap s.heap [] := va_S.rf
  have hP : va_P D vwCl (wX4 cy h S) s.heap := hP
  have f_18 := hts (.fieldLink RX4 18 "CastDesk$Troupe" "ill" "[I") (by decide +kernel)
  have in_X6 := hts (.initialized RX6) (by decide +kernel)
  have st_has := hts (.static yX6_has) (by decide +kernel)
  have st_with := hts (.static yX6_with) (by decide +kernel)
  have iX4 : ∀ w ∈ wsX40, w ∈ wsX4_fallIll := by decide +kernel
  have hl := lv_entry ([.ref (h 1), .int (nI a), .int (nI d0), .int (nI d1)]) (n := 6) (Nat.le_of_ble_eq_true rfl)
  rw [lg_entry_eq]
  generalize (lg_sl ([.ref (h 1), .int (nI a), .int (nI d0), .int (nI d1)]) ++ List.replicate (6 - (lg_sl ([.ref (h 1), .int (nI a), .int (nI d0), .int (nI d1)])).length) Slot.unset).toArray = ls at hl ⊢
  have hl : lv_has ls 6 [(0, .ref (h 1)), (1, .int (nI a)), (2, .int (nI d0)), (3, .int (nI d1))] := hl
  refine lv_iconst (v := nI 0) hx hb dX4_fallIll_0 (by decide) ?_
  refine lv_istore (lv' := [(4, .int (nI 0)), (0, .ref (h 1)), (1, .int (nI a)), (2, .int (nI d0)), (3, .int (nI d1))]) hx hb dX4_fallIll_1 hl (by decide) rfl (fun ls hl => ?_)
  refine lv_iload_n hx hb dX4_fallIll_3 rfl (lv_at hl 3 rfl) ?_
  refine lv_istore (lv' := [(5, .int (nI d0)), (4, .int (nI 0)), (0, .ref (h 1)), (1, .int (nI a)), (2, .int (nI d0)), (3, .int (nI d1))]) hx hb dX4_fallIll_4 hl (by decide) rfl (fun ls hl => ?_)
  have e0 : ilF (S 4) a d0 (d0 + 0) = S 4 := ilF_0 _ _ _
  refine wh1 (nL := 6) (fun (n : Nat) => n ≤ d1 + 1 - d0) (fun (n : Nat) => d1 + 1 - d0 - n) (fun (n : Nat) => [(0, .ref (h 1)), (1, .int (nI a)), (2, .int (nI d0)), (3, .int (nI d1)), (4, .int (nI (ilC (S 4) a d0 n))), (5, .int (nI (d0 + n)))]) (fun (n : Nat) => (wX4 cy h (va_up S 4 (ilF (S 4) a d0 (d0 + n))))) (fun n hi_6 ih_6 H locs hP hD hS ls hl => ?_) 0 (Nat.zero_le _) (by rw [e0]; exact hP) (by rw [e0]; exact hD) hS (lv_sub hl [2, 3, 4, 5, 1, 0] rfl)
  have hP : va_P D vwCl (wX4 cy h (va_up S 4 (ilF (S 4) a d0 (d0 + n)))) H := hP
  have hD : va_D A (wX4 cy h (va_up S 4 (ilF (S 4) a d0 (d0 + n)))) := hD
  refine lv_iload hx hb dX4_fallIll_6 (lv_at hl 5 rfl) ?_
  refine lv_iload_n hx hb dX4_fallIll_8 rfl (lv_at hl 3 rfl) ?_
  refine cd_icmp_gt (tgt := 53) hx hb dX4_fallIll_9 (by decide) (by omega) (by omega) (fun c_9 => ?_) (fun c_9 => ?_)
  · have en : n = d1 + 1 - d0 := by omega
    subst en
    have hP : va_P D vwCl (wX4 cy h (va_up S 4 (ilF (S 4) a d0 (d0 + (d1 + 1 - d0))))) H := hP
    have hD : va_D A (wX4 cy h (va_up S 4 (ilF (S 4) a d0 (d0 + (d1 + 1 - d0))))) := hD
    refine lv_iload hx hb dX4_fallIll_53 (lv_at hl 4 rfl) ?_
    exact W.iret (v := nI (ilC (S 4) a d0 (d1 + 1 - d0))) hx hb hr (fun t ht hW => ⟨⟨_, (), rfl, rfl, by rw [ht]; exact hP, hD⟩, hS.F ht⟩) hS.2.2 dX4_fallIll_55
  · have hil := iv_4 hI (d0 + n) (by omega)
    have hilb := hil.2
    refine lv_aload_n hx hb dX4_fallIll_12 rfl (lv_at hl 0 rfl) ?_
    refine va_get (D := D) (ci := 4) (v := .ref (h 4)) (C := RX4) (T := TX4) (N := 3) hx hb hts iX4 hown hK hP 0 rfl rfl 2 (by decide) f_18 (fun _ h9 => h9) rfl dX4_fallIll_13 ?_
    refine lv_iload hx hb dX4_fallIll_16 (lv_at hl 5 rfl) ?_
    refine cd_iald (f := ilF (S 4) a d0 (d0 + n)) hx hb hK hP 3 rfl (by omega) (by decide) dX4_fallIll_18 ?_
    refine cd_tp (y := nI (nv (S 4 (d0 + n)))) ((ilF_at (S 4) a d0 n).trans hil.1) ?_
    refine lv_iload_n hx hb dX4_fallIll_19 rfl (lv_at hl 1 rfl) ?_
    have M_20 := c_X6_has l (nv (S 4 (d0 + n))) a (by omega) (by omega)
    refine cd_roi (va_runSN (As := [.int (nI (nv (S 4 (d0 + n)))), .int (nI a)]) (rest := []) ⟨hx, hb, hml, hown, hts⟩ M_20 ⟨va_cnB 2 hts gX4_fallIll_X6_has_n21 rfl rfl rfl hG.2.1.2.2.2.1 in_X6 (by decide +kernel) ⟨Nat.le_of_ble_eq_true rfl, Nat.le_of_ble_eq_true rfl⟩, st_has, trivial⟩ ⟨nuB.bl, fun U hU hW => ⟨rfl, trivial⟩⟩ rfl rfl hl.1 rfl (lv_room (Nat.le_of_ble_eq_true rfl)) dX4_fallIll_20 (by exact ⟨Nat.zero_le _, Nat.zero_le _⟩)) (fun r_20 hr_20 => ?_)
    subst hr_20
    refine cd_ifB_ne (tgt := 47) hx hb dX4_fallIll_23 (by decide) (fun c_23 => ?_) (fun c_23 => ?_)
    · refine lv_iinc (v := nI (d0 + n + 1)) (lv' := [(5, .int (nI (d0 + n + 1))), (0, .ref (h 1)), (1, .int (nI a)), (2, .int (nI d0)), (3, .int (nI d1)), (4, .int (nI (ilC (S 4) a d0 n)))]) hx hb dX4_fallIll_47 hl (k := 5) rfl (cd_i1 _) (by decide) rfl (fun ls hl => ?_)
      refine lv_goto (tgt := 6) hx hb dX4_fallIll_50 (by decide) ?_
      rw [(ilF_n (S 4) a d0 n hil.1 c_23 : (ilF (S 4) a d0 (d0 + n)) = (ilF (S 4) a d0 (d0 + (n + 1))))] at hP hD
      have hP : va_P D vwCl (wX4 cy h (va_up S 4 (ilF (S 4) a d0 (d0 + (n + 1))))) H := hP
      have hD : va_D A (wX4 cy h (va_up S 4 (ilF (S 4) a d0 (d0 + (n + 1))))) := hD
      have hl : lv_has ls 6 [(5, .int (nI (d0 + n + 1))), (0, .ref (h 1)), (1, .int (nI a)), (2, .int (nI d0)), (3, .int (nI d1)), (4, .int (nI (ilC (S 4) a d0 (n + 1))))] := by rw [← (by rw [ilC_t (S 4) a d0 n c_23] : (nI (ilC (S 4) a d0 n) : Int32) = nI (ilC (S 4) a d0 (n + 1)))]; exact hl
      exact ih_6 (n + 1) (by omega) (by omega) _ _ hP hD hS _ (lv_sub hl [1, 2, 3, 4, 5, 0] rfl)
    · refine lv_aload_n hx hb dX4_fallIll_26 rfl (lv_at hl 0 rfl) ?_
      refine va_get (D := D) (ci := 4) (v := .ref (h 4)) (C := RX4) (T := TX4) (N := 3) hx hb hts iX4 hown hK hP 0 rfl rfl 2 (by decide) f_18 (fun _ h9 => h9) rfl dX4_fallIll_27 ?_
      refine lv_iload hx hb dX4_fallIll_30 (lv_at hl 5 rfl) ?_
      refine lv_aload_n hx hb dX4_fallIll_32 rfl (lv_at hl 0 rfl) ?_
      refine va_get (D := D) (ci := 4) (v := .ref (h 4)) (C := RX4) (T := TX4) (N := 3) hx hb hts iX4 hown hK hP 0 rfl rfl 2 (by decide) f_18 (fun _ h9 => h9) rfl dX4_fallIll_33 ?_
      refine lv_iload hx hb dX4_fallIll_36 (lv_at hl 5 rfl) ?_
      refine cd_iald (f := ilF (S 4) a d0 (d0 + n)) hx hb hK hP 3 rfl (by omega) (by decide) dX4_fallIll_38 ?_
      refine cd_tp (y := nI (nv (S 4 (d0 + n)))) ((ilF_at (S 4) a d0 n).trans hil.1) ?_
      refine lv_iload_n hx hb dX4_fallIll_39 rfl (lv_at hl 1 rfl) ?_
      have M_40 := c_X6_with l (nv (S 4 (d0 + n))) a (by omega)
      refine cd_roi (va_runSN (As := [.int (nI (nv (S 4 (d0 + n)))), .int (nI a)]) (rest := [.int (nI (d0 + n)), .ref (h 4)]) ⟨hx, hb, hml, hown, hts⟩ M_40 ⟨va_cnB 2 hts gX4_fallIll_X6_with_n25 rfl rfl rfl hG.2.1.2.2.2.2.1 in_X6 (by decide +kernel) ⟨Nat.le_of_ble_eq_true rfl, Nat.le_of_ble_eq_true rfl⟩, st_with, trivial⟩ ⟨nuB.bl, fun U hU hW => ⟨rfl, trivial⟩⟩ rfl rfl hl.1 rfl (lv_room (Nat.le_of_ble_eq_true rfl)) dX4_fallIll_40 (by exact ⟨Nat.zero_le _, Nat.zero_le _⟩)) (fun r_40 hr_40 => ?_)
      subst hr_40
      refine cd_iast (f := ilF (S 4) a d0 (d0 + n)) hx hb hK hP hD hS 3 rfl (by omega) (by decide) dX4_fallIll_43 (fun H locs hP hD hS => ?_)
      have hP : va_P D vwCl (wX4 cy h (va_up S 4 (upd (ilF (S 4) a d0 (d0 + n)) (d0 + n) (nI ((nv (S 4 (d0 + n))) ||| 2 ^ a))))) H := hP
      have hD : va_D A (wX4 cy h (va_up S 4 (upd (ilF (S 4) a d0 (d0 + n)) (d0 + n) (nI ((nv (S 4 (d0 + n))) ||| 2 ^ a))))) := hD
      have e_43 : (upd (ilF (S 4) a d0 (d0 + n)) (d0 + n) (nI ((nv (S 4 (d0 + n))) ||| 2 ^ a))) = (ilF (S 4) a d0 (d0 + (n + 1))) := ilF_w (S 4) a d0 n
      rw [e_43] at hP hD
      have hP : va_P D vwCl (wX4 cy h (va_up S 4 (ilF (S 4) a d0 (d0 + (n + 1))))) H := hP
      have hD : va_D A (wX4 cy h (va_up S 4 (ilF (S 4) a d0 (d0 + (n + 1))))) := hD
      refine lv_iinc (v := nI (ilC (S 4) a d0 n + 1)) (lv' := [(4, .int (nI (ilC (S 4) a d0 n + 1))), (0, .ref (h 1)), (1, .int (nI a)), (2, .int (nI d0)), (3, .int (nI d1)), (5, .int (nI (d0 + n)))]) hx hb dX4_fallIll_44 hl (k := 4) rfl (cd_i1 _) (by decide) rfl (fun ls hl => ?_)
      refine lv_iinc (v := nI (d0 + n + 1)) (lv' := [(5, .int (nI (d0 + n + 1))), (4, .int (nI (ilC (S 4) a d0 n + 1))), (0, .ref (h 1)), (1, .int (nI a)), (2, .int (nI d0)), (3, .int (nI d1))]) hx hb dX4_fallIll_47 hl (k := 5) rfl (cd_i1 _) (by decide) rfl (fun ls hl => ?_)
      refine lv_goto (tgt := 6) hx hb dX4_fallIll_50 (by decide) ?_
      have hl : lv_has ls 6 [(5, .int (nI (d0 + n + 1))), (4, .int (nI (ilC (S 4) a d0 (n + 1)))), (0, .ref (h 1)), (1, .int (nI a)), (2, .int (nI d0)), (3, .int (nI d1))] := by rw [← (by rw [← ilC_f (S 4) a d0 n c_23] : (nI (ilC (S 4) a d0 n + 1) : Int32) = nI (ilC (S 4) a d0 (n + 1)))]; exact hl
      exact ih_6 (n + 1) (by omega) (by omega) _ _ hP hD hS _ (lv_sub hl [2, 3, 4, 5, 1, 0] rfl)
end
section
set_option maxHeartbeats 4000000 in
set_option maxRecDepth 100000 in
theorem c_X1_strainOf (l : Launch) (k : Nat) (hk : k < 2147483648) : Met l yX1_strainOf wsX1_strainOf ({ frames := 0, cells := 0, slots := 0, locals := 0 }) (va_Pc [.int (nI k)] (fun _ => True)) (vp_Si (fun r9 => r9 = nI (k / 2 ^ 20))) 0 0 (fun _ => False) := by
  refine Met.ofW (cc := cX1_strainOf) (maxL := 1) (ret := (some .int)) (by decide) rfl ?_
  intro pp e9 s m9 args9 bl9 meth9 c9 s9 B hml hv
  obtain ⟨rfl, -⟩ := hv
  have hx := B.exec
  have hb := B.bytes
  have hr := B.returns
  have hts := atoms_spec (ws := wsX1_strainOf) B.pre
  have hown : s.vm.findClass RX1 = some m9.cls := findClass_of_methodNamed B.named
  have hlocks := B.notSynchronized
  have hl := lv_entry ([.int (nI k)]) (n := 1) (Nat.le_of_ble_eq_true rfl)
  rw [lg_entry_eq]
  generalize (lg_sl ([.int (nI k)]) ++ List.replicate (1 - (lg_sl ([.int (nI k)])).length) Slot.unset).toArray = ls at hl ⊢
  have hl : lv_has ls 1 [(0, .int (nI k))] := hl
  refine lv_iload_n hx hb dX1_strainOf_0 rfl (lv_at hl 0 rfl) ?_
  refine lv_bipush (v := nI 20) hx hb dX1_strainOf_1 (by decide) ?_
  refine cd_ishr hx hb (by omega) (by omega) dX1_strainOf_3 ?_
  exact W.iret (v := nI (k / 2 ^ 20)) hx hb hr (fun t ht hW => ⟨_, rfl, rfl, ht⟩) (fun _ h9 => nomatch h9) dX1_strainOf_4
end
section
set_option maxHeartbeats 4000000 in
set_option maxRecDepth 100000 in
theorem c_X1_workOf (l : Launch) (k : Nat) (hk : k < 2147483648) : Met l yX1_workOf wsX1_workOf ({ frames := 0, cells := 0, slots := 0, locals := 0 }) (va_Pc [.int (nI k)] (fun _ => True)) (vp_Si (fun r9 => r9 = nI (k / 2 ^ 16 &&& 15))) 0 0 (fun _ => False) := by
  refine Met.ofW (cc := cX1_workOf) (maxL := 1) (ret := (some .int)) (by decide) rfl ?_
  intro pp e9 s m9 args9 bl9 meth9 c9 s9 B hml hv
  obtain ⟨rfl, -⟩ := hv
  have hx := B.exec
  have hb := B.bytes
  have hr := B.returns
  have hts := atoms_spec (ws := wsX1_workOf) B.pre
  have hown : s.vm.findClass RX1 = some m9.cls := findClass_of_methodNamed B.named
  have hlocks := B.notSynchronized
  have hl := lv_entry ([.int (nI k)]) (n := 1) (Nat.le_of_ble_eq_true rfl)
  rw [lg_entry_eq]
  generalize (lg_sl ([.int (nI k)]) ++ List.replicate (1 - (lg_sl ([.int (nI k)])).length) Slot.unset).toArray = ls at hl ⊢
  have hl : lv_has ls 1 [(0, .int (nI k))] := hl
  refine lv_iload_n hx hb dX1_workOf_0 rfl (lv_at hl 0 rfl) ?_
  refine lv_bipush (v := nI 16) hx hb dX1_workOf_1 (by decide) ?_
  refine cd_ishr hx hb (by omega) (by omega) dX1_workOf_3 ?_
  refine lv_bipush (v := nI 15) hx hb dX1_workOf_4 (by decide) ?_
  refine cd_iand hx hb dX1_workOf_6 ?_
  exact W.iret (v := nI ((k / 2 ^ 16) &&& 15)) hx hb hr (fun t ht hW => ⟨_, rfl, rfl, ht⟩) (fun _ h9 => nomatch h9) dX1_workOf_7
end
section
set_option maxHeartbeats 4000000 in
set_option maxRecDepth 100000 in
theorem c_X1_rankShift (l : Launch) (q : Nat) (hq : q < 8) : Met l yX1_rankShift wsX1_rankShift ({ frames := 0, cells := 0, slots := 0, locals := 0 }) (va_Pc [.int (nI q)] (fun _ => True)) (vp_Si (fun r9 => r9 = nI ((7 - q) * 2))) 0 0 (fun _ => False) := by
  refine Met.ofW (cc := cX1_rankShift) (maxL := 1) (ret := (some .int)) (by decide) rfl ?_
  intro pp e9 s m9 args9 bl9 meth9 c9 s9 B hml hv
  obtain ⟨rfl, -⟩ := hv
  have hx := B.exec
  have hb := B.bytes
  have hr := B.returns
  have hts := atoms_spec (ws := wsX1_rankShift) B.pre
  have hown : s.vm.findClass RX1 = some m9.cls := findClass_of_methodNamed B.named
  have hlocks := B.notSynchronized
  have hl := lv_entry ([.int (nI q)]) (n := 1) (Nat.le_of_ble_eq_true rfl)
  rw [lg_entry_eq]
  generalize (lg_sl ([.int (nI q)]) ++ List.replicate (1 - (lg_sl ([.int (nI q)])).length) Slot.unset).toArray = ls at hl ⊢
  have hl : lv_has ls 1 [(0, .int (nI q))] := hl
  refine lv_bipush (v := nI 7) hx hb dX1_rankShift_0 (by decide) ?_
  refine lv_iload_n hx hb dX1_rankShift_2 rfl (lv_at hl 0 rfl) ?_
  refine cd_isub hx hb (by omega) dX1_rankShift_3 ?_
  refine lv_iconst (v := nI 2) hx hb dX1_rankShift_4 (by decide) ?_
  refine cd_imul hx hb dX1_rankShift_5 ?_
  exact W.iret (v := nI ((7 - q) * 2)) hx hb hr (fun t ht hW => ⟨_, rfl, rfl, ht⟩) (fun _ h9 => nomatch h9) dX1_rankShift_6
end
section
set_option maxHeartbeats 4000000 in
set_option maxRecDepth 100000 in
theorem c_X1_rankOf (l : Launch) (k : Nat) (q : Nat) (hk : k < 2147483648) (hq : q < 8) : Met l yX1_rankOf wsX1_rankOf ({ frames := 1, cells := 0, slots := 0, locals := 20 }) (va_Pc [.int (nI k), .int (nI q)] (fun _ => True)) (vp_Si (fun r9 => r9 = nI (k / 2 ^ ((7 - q) * 2) &&& 3))) 0 0 (fun _ => False) := by
  refine Met.ofW (cc := cX1_rankOf) (maxL := 2) (ret := (some .int)) (by decide) rfl ?_
  intro pp e9 s m9 args9 bl9 meth9 c9 s9 B hml hv
  obtain ⟨rfl, -⟩ := hv
  have hx := B.exec
  have hb := B.bytes
  have hr := B.returns
  have hts := atoms_spec (ws := wsX1_rankOf) B.pre
  have hown : s.vm.findClass RX1 = some m9.cls := findClass_of_methodNamed B.named
  have hlocks := B.notSynchronized
  have hl := lv_entry ([.int (nI k), .int (nI q)]) (n := 2) (Nat.le_of_ble_eq_true rfl)
  rw [lg_entry_eq]
  generalize (lg_sl ([.int (nI k), .int (nI q)]) ++ List.replicate (2 - (lg_sl ([.int (nI k), .int (nI q)])).length) Slot.unset).toArray = ls at hl ⊢
  have hl : lv_has ls 2 [(0, .int (nI k)), (1, .int (nI q))] := hl
  refine lv_iload_n hx hb dX1_rankOf_0 rfl (lv_at hl 0 rfl) ?_
  refine lv_iload_n hx hb dX1_rankOf_1 rfl (lv_at hl 1 rfl) ?_
  have M_2 := c_X1_rankShift l q (by omega)
  refine cd_roi (va_runS (As := [.int (nI q)]) (rest := [.int (nI k)]) ⟨hx, hb, hml, hown, hts⟩ M_2 (va_cwS 1 hts gX1_rankOf_X1_rankShift rfl rfl rfl (by decide +kernel) ⟨Nat.le_of_ble_eq_true rfl, Nat.le_of_ble_eq_true rfl⟩) ⟨nuB.bl, fun U hU hW => ⟨rfl, trivial⟩⟩ rfl rfl hl.1 rfl (lv_room (Nat.le_of_ble_eq_true rfl)) dX1_rankOf_2 (by exact ⟨Nat.zero_le _, Nat.zero_le _⟩)) (fun r_2 hr_2 => ?_)
  subst hr_2
  refine cd_ishr hx hb (by omega) (by omega) dX1_rankOf_5 ?_
  refine lv_iconst (v := nI 3) hx hb dX1_rankOf_6 (by decide) ?_
  refine cd_iand hx hb dX1_rankOf_7 ?_
  exact W.iret (v := nI ((k / 2 ^ ((7 - q) * 2)) &&& 3)) hx hb hr (fun t ht hW => ⟨_, rfl, rfl, ht⟩) (fun _ h9 => nomatch h9) dX1_rankOf_8
end
section
set_option maxHeartbeats 4000000 in
set_option maxRecDepth 100000 in
theorem c_X1_clear (l : Launch) (D : va_G) (cy : qT) (h : Nat → Nat) (J : qS) (sz : Nat) : Met l yX1_clear wsX1_clear ({ frames := 0, cells := 0, slots := 0, locals := 0 }) (va_Pc [.ref (h 12)] (wrB D cy (wX1 cy h J) sz)) (va_Qv (fun (u : Unit) => True) (wrQ D (va_A (wX1 cy h J) sz) (fun u : Unit => (wX1 cy h (va_up (va_up J 13 (clF (J 13) 32)) 12 (fun _ => nI 1))))) (va_A (wX1 cy h J) sz)) 0 0 (va_A (wX1 cy h J) sz) := by
  refine Met.ofW (cc := cX1_clear) (maxL := 2) (ret := none) (by decide) rfl ?_
  intro pp e9 s m9 args9 bl9 meth9 c9 s9 B hml hv
  obtain ⟨rfl, hsz, hP, hG, hD0⟩ := hv
  have hx := B.exec
  have hb := B.bytes
  have hr := B.returns
  have hts := atoms_spec (ws := wsX1_clear) B.pre
  have hown : s.vm.findClass RX1 = some m9.cls := findClass_of_methodNamed B.named
  have hlocks := B.notSynchronized
  have hK := hG.K
  subst hsz
  have hD := hD0.self (sz := s.heap.size)
  generalize hAe : (va_A (wX1 cy h J) s.heap.size) = A at hD ⊢
  have hA : ∀ q : Nat, s.heap.size ≤ q → A q := fun q h9 => by rw [← hAe]; exact Or.inr h9
  have hS : va_S A s.heap s.heap [] := va_S.rf
  have hP : va_P D vwCl (wX1 cy h J) s.heap := hP
  have f_11 := hts (.fieldLink RX1 11 "CastDesk$Casting" "actors" "[I") (by decide +kernel)
  have f_25 := hts (.fieldLink RX1 25 "CastDesk$Casting" "setsBound" "I") (by decide +kernel)
  have iX1 : ∀ w ∈ wsX10, w ∈ wsX1_clear := by decide +kernel
  have hl := lv_entry ([.ref (h 12)]) (n := 2) (Nat.le_of_ble_eq_true rfl)
  rw [lg_entry_eq]
  generalize (lg_sl ([.ref (h 12)]) ++ List.replicate (2 - (lg_sl ([.ref (h 12)])).length) Slot.unset).toArray = ls at hl ⊢
  have hl : lv_has ls 2 [(0, .ref (h 12))] := hl
  refine lv_iconst (v := nI 0) hx hb dX1_clear_0 (by decide) ?_
  refine lv_istore_n (lv' := [(1, .int (nI 0)), (0, .ref (h 12))]) hx hb dX1_clear_1 rfl hl (by decide) rfl (fun ls hl => ?_)
  have e0 : clF (J 13) 0 = J 13 := clF_0 _
  refine wh1 (nL := 2) (fun (k : Nat) => k ≤ 32) (fun (k : Nat) => 32 - k) (fun (k : Nat) => [(0, .ref (h 12)), (1, .int (nI k))]) (fun (k : Nat) => (wX1 cy h (va_up J 13 (clF (J 13) k)))) (fun k hi_2 ih_2 H locs hP hD hS ls hl => ?_) 0 (by decide) (by rw [e0]; exact hP) (by rw [e0]; exact hD) hS (lv_sub hl [1, 0] rfl)
  have hP : va_P D vwCl (wX1 cy h (va_up J 13 (clF (J 13) k))) H := hP
  have hD : va_D A (wX1 cy h (va_up J 13 (clF (J 13) k))) := hD
  refine lv_iload_n hx hb dX1_clear_2 rfl (lv_at hl 1 rfl) ?_
  refine lv_aload_n hx hb dX1_clear_3 rfl (lv_at hl 0 rfl) ?_
  refine va_get (D := D) (ci := 1) (v := .ref (h 13)) (C := RX1) (T := TX1) (N := 4) hx hb hts iX1 hown hK hP 0 rfl rfl 0 (by decide) f_11 (fun _ h9 => h9) rfl dX1_clear_4 ?_
  refine va_alen (v := nI 32) hx hb hK hP 1 0 rfl rfl rfl dX1_clear_7 ?_
  refine cd_icmp_ge (tgt := 24) hx hb dX1_clear_8 (by decide) (by omega) (by omega) (fun c_8 => ?_) (fun c_8 => ?_)
  · have ek : k = 32 := by omega
    subst ek
    have hP : va_P D vwCl (wX1 cy h (va_up J 13 (clF (J 13) 32))) H := hP
    have hD : va_D A (wX1 cy h (va_up J 13 (clF (J 13) 32))) := hD
    refine lv_aload_n hx hb dX1_clear_24 rfl (lv_at hl 0 rfl) ?_
    refine lv_iconst (v := nI 1) hx hb dX1_clear_25 (by decide) ?_
    refine va_put (D := D) (ci := 1) (v := .int (nI 1)) (ty := .int) (C := RX1) (T := TX1) (N := 4) hx hb hts iX1 tyX1 tyX1_ok nmX1 hown hK hP hD hS 0 rfl rfl 3 (by decide) f_25 (fun _ h9 => h9) rfl (by decide +kernel) rfl rfl (Nat.le_of_ble_eq_true rfl) dX1_clear_26 (fun H locs hP hD hS => ?_)
    have hP : va_P D vwCl (wX1 cy h (va_up (va_up J 13 (clF (J 13) 32)) 12 (fun _ => nI 1))) H := hP
    have hD : va_D A (wX1 cy h (va_up (va_up J 13 (clF (J 13) 32)) 12 (fun _ => nI 1))) := hD
    exact W.vret hx hb hr (fun t ht hW => ⟨⟨(), rfl, trivial, by rw [ht]; exact hP, hD⟩, hS.F ht⟩) hS.2.2 dX1_clear_29
  · refine lv_aload_n hx hb dX1_clear_11 rfl (lv_at hl 0 rfl) ?_
    refine va_get (D := D) (ci := 1) (v := .ref (h 13)) (C := RX1) (T := TX1) (N := 4) hx hb hts iX1 hown hK hP 0 rfl rfl 0 (by decide) f_11 (fun _ h9 => h9) rfl dX1_clear_12 ?_
    refine lv_iload_n hx hb dX1_clear_15 rfl (lv_at hl 1 rfl) ?_
    refine lv_iconst (v := (-1)) hx hb dX1_clear_16 (by decide) ?_
    refine cd_iast (f := clF (J 13) k) hx hb hK hP hD hS 1 rfl (by omega) (by decide) dX1_clear_17 (fun H locs hP hD hS => ?_)
    have hP : va_P D vwCl (wX1 cy h (va_up J 13 (upd (clF (J 13) k) k (-1)))) H := hP
    have hD : va_D A (wX1 cy h (va_up J 13 (upd (clF (J 13) k) k (-1)))) := hD
    have e_17 : (upd (clF (J 13) k) k (-1)) = (clF (J 13) (k + 1)) := clF_s (J 13) k
    rw [e_17] at hP hD
    have hP : va_P D vwCl (wX1 cy h (va_up J 13 (clF (J 13) (k + 1)))) H := hP
    have hD : va_D A (wX1 cy h (va_up J 13 (clF (J 13) (k + 1)))) := hD
    refine lv_iinc (v := nI (k + 1)) (lv' := [(1, .int (nI (k + 1))), (0, .ref (h 12))]) hx hb dX1_clear_18 hl (k := 1) rfl (cd_i1 _) (by decide) rfl (fun ls hl => ?_)
    refine lv_goto (tgt := 2) hx hb dX1_clear_21 (by decide) ?_
    exact ih_2 (k + 1) (by omega) (by omega) _ _ hP hD hS _ (lv_sub hl [1, 0] rfl)
end
section
set_option maxHeartbeats 4000000 in
set_option maxRecDepth 100000 in
theorem c_X1_offer (l : Launch) (D : va_G) (cy : qT) (h : Nat → Nat) (J : qS) (p : Nat) (r : Nat) (a : Nat) (w : Nat) (b : Nat) (hp : p < 8) (hr4 : r < 4) (ha : a < 12) (hw : w < 2) (hbb : J 12 0 = nI b) (hb4 : b ≤ 4096) (sz : Nat) : Met l yX1_offer wsX1_offer ({ frames := 1, cells := 0, slots := 0, locals := 21 }) (va_Pc [.ref (h 12), .int (nI p), .int (nI r), .int (nI a), .int (nI w)] (wrB D cy (wX1 cy h J) sz)) (va_Qv (fun (u : Unit) => True) (wrQ D (va_A (wX1 cy h J) sz) (fun u : Unit => (wX1 cy h (va_up (va_up (va_up J 13 (upd (J 13) (p * 4 + r) (nI a))) 14 (upd (J 14) (p * 4 + r) (nI (r * 2 ^ 20 + w * 2 ^ 16 + r * 2 ^ ((7 - p) * 2))))) 12 (fun _ => nI (max b (2 * 2 ^ a))))))) (va_A (wX1 cy h J) sz)) 0 0 (va_A (wX1 cy h J) sz) := by
  refine Met.ofW (cc := cX1_offer) (maxL := 6) (ret := none) (by decide) rfl ?_
  intro pp e9 s m9 args9 bl9 meth9 c9 s9 B hml hv
  obtain ⟨rfl, hsz, hP, hG, hD0⟩ := hv
  have hx := B.exec
  have hb := B.bytes
  have hr := B.returns
  have hts := atoms_spec (ws := wsX1_offer) B.pre
  have hown : s.vm.findClass RX1 = some m9.cls := findClass_of_methodNamed B.named
  have hlocks := B.notSynchronized
  have hK := hG.K
  subst hsz
  have hD := hD0.self (sz := s.heap.size)
  generalize hAe : (va_A (wX1 cy h J) s.heap.size) = A at hD ⊢
  have hA : ∀ q : Nat, s.heap.size ≤ q → A q := fun q h9 => by rw [← hAe]; exact Or.inr h9
  have hS : va_S A s.heap s.heap [] := va_S.rf
  have hP : va_P D vwCl (wX1 cy h J) s.heap := hP
  have f_11 := hts (.fieldLink RX1 11 "CastDesk$Casting" "actors" "[I") (by decide +kernel)
  have f_15 := hts (.fieldLink RX1 15 "CastDesk$Casting" "keys" "[I") (by decide +kernel)
  have f_25 := hts (.fieldLink RX1 25 "CastDesk$Casting" "setsBound" "I") (by decide +kernel)
  have mx_1 := hts (.methodLink RX1 29 Lib.Math.max.name) (by decide +kernel)
  have mx_2 := hts (.static Lib.Math.max.name) (by decide +kernel)
  have mx_3 := hts (.initialized "java/lang/Math") (by decide +kernel)
  have mx_4 := hts (.code Lib.Math.max.name Lib.Math.max.code 2 (some .int)) (by decide +kernel)
  have iX1 : ∀ w ∈ wsX10, w ∈ wsX1_offer := by decide +kernel
  have hl := lv_entry ([.ref (h 12), .int (nI p), .int (nI r), .int (nI a), .int (nI w)]) (n := 6) (Nat.le_of_ble_eq_true rfl)
  rw [lg_entry_eq]
  generalize (lg_sl ([.ref (h 12), .int (nI p), .int (nI r), .int (nI a), .int (nI w)]) ++ List.replicate (6 - (lg_sl ([.ref (h 12), .int (nI p), .int (nI r), .int (nI a), .int (nI w)])).length) Slot.unset).toArray = ls at hl ⊢
  have hl : lv_has ls 6 [(0, .ref (h 12)), (1, .int (nI p)), (2, .int (nI r)), (3, .int (nI a)), (4, .int (nI w))] := hl
  refine lv_iload_n hx hb dX1_offer_0 rfl (lv_at hl 1 rfl) ?_
  refine lv_iconst (v := nI 4) hx hb dX1_offer_1 (by decide) ?_
  refine cd_imul hx hb dX1_offer_2 ?_
  refine lv_iload_n hx hb dX1_offer_3 rfl (lv_at hl 2 rfl) ?_
  refine cd_iadd hx hb dX1_offer_4 ?_
  refine lv_istore (lv' := [(5, .int (nI ((p * 4) + r))), (0, .ref (h 12)), (1, .int (nI p)), (2, .int (nI r)), (3, .int (nI a)), (4, .int (nI w))]) hx hb dX1_offer_5 hl (by decide) rfl (fun ls hl => ?_)
  refine lv_aload_n hx hb dX1_offer_7 rfl (lv_at hl 1 rfl) ?_
  refine va_get (D := D) (ci := 1) (v := .ref (h 13)) (C := RX1) (T := TX1) (N := 4) hx hb hts iX1 hown hK hP 0 rfl rfl 0 (by decide) f_11 (fun _ h9 => h9) rfl dX1_offer_8 ?_
  refine lv_iload hx hb dX1_offer_11 (lv_at hl 0 rfl) ?_
  refine lv_iload_n hx hb dX1_offer_13 rfl (lv_at hl 4 rfl) ?_
  refine cd_iast (f := J 13) hx hb hK hP hD hS 1 rfl (by omega) (by decide) dX1_offer_14 (fun H locs hP hD hS => ?_)
  have hP : va_P D vwCl (wX1 cy h (va_up J 13 (upd (J 13) ((p * 4) + r) (nI a)))) H := hP
  have hD : va_D A (wX1 cy h (va_up J 13 (upd (J 13) ((p * 4) + r) (nI a)))) := hD
  refine lv_aload_n hx hb dX1_offer_15 rfl (lv_at hl 1 rfl) ?_
  refine va_get (D := D) (ci := 1) (v := .ref (h 14)) (C := RX1) (T := TX1) (N := 4) hx hb hts iX1 hown hK hP 0 rfl rfl 1 (by decide) f_15 (fun _ h9 => h9) rfl dX1_offer_16 ?_
  refine lv_iload hx hb dX1_offer_19 (lv_at hl 0 rfl) ?_
  refine lv_iload_n hx hb dX1_offer_21 rfl (lv_at hl 3 rfl) ?_
  refine lv_bipush (v := nI 20) hx hb dX1_offer_22 (by decide) ?_
  refine cd_ishl hx hb (by decide) (by omega) dX1_offer_24 ?_
  refine lv_iload hx hb dX1_offer_25 (lv_at hl 5 rfl) ?_
  refine lv_bipush (v := nI 16) hx hb dX1_offer_27 (by decide) ?_
  refine cd_ishl hx hb (by decide) (by omega) dX1_offer_29 ?_
  refine cd_iadd hx hb dX1_offer_30 ?_
  refine lv_iload_n hx hb dX1_offer_31 rfl (lv_at hl 3 rfl) ?_
  refine lv_iload_n hx hb dX1_offer_32 rfl (lv_at hl 2 rfl) ?_
  have M_33 := c_X1_rankShift l p (by omega)
  refine cd_roi (va_runS (As := [.int (nI p)]) (rest := [.int (nI r), .int (nI ((r * 2 ^ 20) + (w * 2 ^ 16))), .int (nI ((p * 4) + r)), .ref (h 14)]) ⟨hx, hb, hml, hown, hts⟩ M_33 (va_cwS 1 hts gX1_offer_X1_rankShift rfl rfl rfl (by decide +kernel) ⟨Nat.le_of_ble_eq_true rfl, Nat.le_of_ble_eq_true rfl⟩) ⟨nuB.bl, fun U hU hW => ⟨rfl, trivial⟩⟩ rfl rfl hl.1 rfl (lv_room (Nat.le_of_ble_eq_true rfl)) dX1_offer_33 (by exact ⟨Nat.zero_le _, Nat.zero_le _⟩)) (fun r_33 hr_33 => ?_)
  subst hr_33
  refine cd_ishl hx hb (by omega) (by have := Nat.pow_le_pow_right (n := 2) (by decide) (show (7 - p) * 2 ≤ 14 by omega); have h2 : r * 2 ^ ((7 - p) * 2) ≤ 3 * 2 ^ 14 := Nat.mul_le_mul (by omega) this; omega) dX1_offer_36 ?_
  refine cd_iadd hx hb dX1_offer_37 ?_
  refine cd_iast (f := J 14) hx hb hK hP hD hS 2 rfl (by omega) (by decide) dX1_offer_38 (fun H locs hP hD hS => ?_)
  have hP : va_P D vwCl (wX1 cy h (va_up (va_up J 13 (upd (J 13) ((p * 4) + r) (nI a))) 14 (upd (J 14) ((p * 4) + r) (nI (((r * 2 ^ 20) + (w * 2 ^ 16)) + (r * 2 ^ ((7 - p) * 2))))))) H := hP
  have hD : va_D A (wX1 cy h (va_up (va_up J 13 (upd (J 13) ((p * 4) + r) (nI a))) 14 (upd (J 14) ((p * 4) + r) (nI (((r * 2 ^ 20) + (w * 2 ^ 16)) + (r * 2 ^ ((7 - p) * 2))))))) := hD
  refine lv_aload_n hx hb dX1_offer_39 rfl (lv_at hl 1 rfl) ?_
  refine lv_aload_n hx hb dX1_offer_40 rfl (lv_at hl 1 rfl) ?_
  refine va_get (D := D) (ci := 1) (v := .int (J 12 0)) (C := RX1) (T := TX1) (N := 4) hx hb hts iX1 hown hK hP 0 rfl rfl 3 (by decide) f_25 (fun _ h9 => h9) rfl dX1_offer_41 ?_
  refine cd_tp (y := nI b) (hbb) ?_
  refine lv_iconst (v := nI 2) hx hb dX1_offer_44 (by decide) ?_
  refine lv_iload_n hx hb dX1_offer_45 rfl (lv_at hl 4 rfl) ?_
  refine cd_ishl hx hb (by omega) (by have := Nat.pow_le_pow_right (n := 2) (by decide) (show a ≤ 11 by omega); omega) dX1_offer_46 ?_
  refine va_mmax hx hb (by rw [hml]; exact hl.1.symm) hown mx_1 mx_2 mx_3 mx_4 (Nat.le_of_ble_eq_true rfl) (Nat.le_of_ble_eq_true rfl) (Nat.le_of_ble_eq_true rfl) (Nat.le_of_ble_eq_true rfl) dX1_offer_47 ?_
  refine cd_tp (y := nI (max b (2 * 2 ^ a))) (max_J (by omega) (by have := Nat.pow_le_pow_right (n := 2) (by decide) (show a ≤ 11 by omega); omega)) ?_
  refine va_put (D := D) (ci := 1) (v := .int (nI (max b (2 * 2 ^ a)))) (ty := .int) (C := RX1) (T := TX1) (N := 4) hx hb hts iX1 tyX1 tyX1_ok nmX1 hown hK hP hD hS 0 rfl rfl 3 (by decide) f_25 (fun _ h9 => h9) rfl (by decide +kernel) rfl rfl (Nat.le_of_ble_eq_true rfl) dX1_offer_50 (fun H locs hP hD hS => ?_)
  have hP : va_P D vwCl (wX1 cy h (va_up (va_up (va_up J 13 (upd (J 13) ((p * 4) + r) (nI a))) 14 (upd (J 14) ((p * 4) + r) (nI (((r * 2 ^ 20) + (w * 2 ^ 16)) + (r * 2 ^ ((7 - p) * 2)))))) 12 (fun _ => nI (max b (2 * 2 ^ a))))) H := hP
  have hD : va_D A (wX1 cy h (va_up (va_up (va_up J 13 (upd (J 13) ((p * 4) + r) (nI a))) 14 (upd (J 14) ((p * 4) + r) (nI (((r * 2 ^ 20) + (w * 2 ^ 16)) + (r * 2 ^ ((7 - p) * 2)))))) 12 (fun _ => nI (max b (2 * 2 ^ a))))) := hD
  exact W.vret hx hb hr (fun t ht hW => ⟨⟨(), rfl, trivial, by rw [ht]; exact hP, hD⟩, hS.F ht⟩) hS.2.2 dX1_offer_53
end
section
set_option maxHeartbeats 4000000 in
set_option maxRecDepth 100000 in
theorem c_X1_castPart (l : Launch) (D : va_G) (cy : qT) (h : Nat → Nat) (J : qS) (p : Nat) (n : Nat) (key : Int32) (hp : p < 8) (hn : n < 4096) (hA13 : ∀ i, i < 32 → J 13 i = -1 ∨ bd (J 13 i) 12) (sz : Nat) : Met l yX1_castPart wsX1_castPart ({ frames := 1, cells := 0, slots := 0, locals := 21 }) (va_Pc [.ref (h 12), .int (nI p), .int (nI n), .int key] (wrB D cy (wX1 cy h J) sz)) (va_Qv (fun (u : Unit) => True) (wrQ D (va_A (wX1 cy h J) sz) (fun u : Unit => (wX1 cy h (va_up J 15 (cpF (J 13) (J 14) p n key 4 (J 15)))))) (va_A (wX1 cy h J) sz)) 0 0 (va_A (wX1 cy h J) sz) := by
  refine Met.ofW (cc := cX1_castPart) (maxL := 9) (ret := none) (by decide) rfl ?_
  intro pp e9 s m9 args9 bl9 meth9 c9 s9 B hml hv
  obtain ⟨rfl, hsz, hP, hG, hD0⟩ := hv
  have hx := B.exec
  have hb := B.bytes
  have hr := B.returns
  have hts := atoms_spec (ws := wsX1_castPart) B.pre
  have hown : s.vm.findClass RX1 = some m9.cls := findClass_of_methodNamed B.named
  have hlocks := B.notSynchronized
  have hK := hG.K
  subst hsz
  have hD := hD0.self (sz := s.heap.size)
  generalize hAe : (va_A (wX1 cy h J) s.heap.size) = A at hD ⊢
  have hA : ∀ q : Nat, s.heap.size ≤ q → A q := fun q h9 => by rw [← hAe]; exact Or.inr h9
  have hS : va_S A s.heap s.heap [] := va_S.rf
  have hP : va_P D vwCl (wX1 cy h J) s.heap := hP
  have f_11 := hts (.fieldLink RX1 11 "CastDesk$Casting" "actors" "[I") (by decide +kernel)
  have in_X6 := hts (.initialized RX6) (by decide +kernel)
  have st_has := hts (.static yX6_has) (by decide +kernel)
  have st_with := hts (.static yX6_with) (by decide +kernel)
  have f_15 := hts (.fieldLink RX1 15 "CastDesk$Casting" "keys" "[I") (by decide +kernel)
  have f_18 := hts (.fieldLink RX1 18 "CastDesk$Casting" "leastOfSet" "[I") (by decide +kernel)
  have iX1 : ∀ w ∈ wsX10, w ∈ wsX1_castPart := by decide +kernel
  have hl := lv_entry ([.ref (h 12), .int (nI p), .int (nI n), .int key]) (n := 9) (Nat.le_of_ble_eq_true rfl)
  rw [lg_entry_eq]
  generalize (lg_sl ([.ref (h 12), .int (nI p), .int (nI n), .int key]) ++ List.replicate (9 - (lg_sl ([.ref (h 12), .int (nI p), .int (nI n), .int key])).length) Slot.unset).toArray = ls at hl ⊢
  have hl : lv_has ls 9 [(0, .ref (h 12)), (1, .int (nI p)), (2, .int (nI n)), (3, .int key)] := hl
  refine lv_iconst (v := nI 0) hx hb dX1_castPart_0 (by decide) ?_
  refine lv_istore (lv' := [(4, .int (nI 0)), (0, .ref (h 12)), (1, .int (nI p)), (2, .int (nI n)), (3, .int key)]) hx hb dX1_castPart_1 hl (by decide) rfl (fun ls hl => ?_)
  refine wh1 (nL := 9) (fun (r : Nat) => r ≤ 4) (fun (r : Nat) => 4 - r) (fun (r : Nat) => [(0, .ref (h 12)), (1, .int (nI p)), (2, .int (nI n)), (3, .int key), (4, .int (nI r))]) (fun (r : Nat) => (wX1 cy h (va_up J 15 (cpF (J 13) (J 14) p n key r (J 15))))) (fun r hi_3 ih_3 H locs hP hD hS ls hl => ?_) 0 (by decide) hP hD hS (lv_sub hl [1, 2, 3, 4, 0] rfl)
  have hP : va_P D vwCl (wX1 cy h (va_up J 15 (cpF (J 13) (J 14) p n key r (J 15)))) H := hP
  have hD : va_D A (wX1 cy h (va_up J 15 (cpF (J 13) (J 14) p n key r (J 15)))) := hD
  refine lv_iload hx hb dX1_castPart_3 (lv_at hl 4 rfl) ?_
  refine lv_iconst (v := nI 4) hx hb dX1_castPart_5 (by decide) ?_
  refine cd_icmp_ge (tgt := 98) hx hb dX1_castPart_6 (by decide) (by omega) (by omega) (fun c_6 => ?_) (fun c_6 => ?_)
  · have er : r = 4 := by omega
    subst er
    have hP : va_P D vwCl (wX1 cy h (va_up J 15 (cpF (J 13) (J 14) p n key 4 (J 15)))) H := hP
    have hD : va_D A (wX1 cy h (va_up J 15 (cpF (J 13) (J 14) p n key 4 (J 15)))) := hD
    exact W.vret hx hb hr (fun t ht hW => ⟨⟨(), rfl, trivial, by rw [ht]; exact hP, hD⟩, hS.F ht⟩) hS.2.2 dX1_castPart_98
  · refine lv_iload_n hx hb dX1_castPart_9 rfl (lv_at hl 1 rfl) ?_
    refine lv_iconst (v := nI 4) hx hb dX1_castPart_10 (by decide) ?_
    refine cd_imul hx hb dX1_castPart_11 ?_
    refine lv_iload hx hb dX1_castPart_12 (lv_at hl 4 rfl) ?_
    refine cd_iadd hx hb dX1_castPart_14 ?_
    refine lv_istore (lv' := [(5, .int (nI ((p * 4) + r))), (0, .ref (h 12)), (1, .int (nI p)), (2, .int (nI n)), (3, .int key), (4, .int (nI r))]) hx hb dX1_castPart_15 hl (by decide) rfl (fun ls hl => ?_)
    refine lv_aload_n hx hb dX1_castPart_17 rfl (lv_at hl 1 rfl) ?_
    refine va_get (D := D) (ci := 1) (v := .ref (h 13)) (C := RX1) (T := TX1) (N := 4) hx hb hts iX1 hown hK hP 0 rfl rfl 0 (by decide) f_11 (fun _ h9 => h9) rfl dX1_castPart_18 ?_
    refine lv_iload hx hb dX1_castPart_21 (lv_at hl 0 rfl) ?_
    refine cd_iald (f := J 13) hx hb hK hP 1 rfl (by omega) (by decide) dX1_castPart_23 ?_
    refine lv_istore (lv' := [(6, .int ((J 13) ((p * 4) + r))), (5, .int (nI ((p * 4) + r))), (0, .ref (h 12)), (1, .int (nI p)), (2, .int (nI n)), (3, .int key), (4, .int (nI r))]) hx hb dX1_castPart_24 hl (by decide) rfl (fun ls hl => ?_)
    refine lv_iload hx hb dX1_castPart_26 (lv_at hl 0 rfl) ?_
    refine lv_iconst (v := (-1)) hx hb dX1_castPart_28 (by decide) ?_
    refine lv_icmp_eq (tgt := 92) hx hb dX1_castPart_29 (by decide) (fun c_29 => ?_) (fun c_29 => ?_)
    · refine lv_iinc (v := nI (r + 1)) (lv' := [(4, .int (nI (r + 1))), (6, .int ((J 13) ((p * 4) + r))), (5, .int (nI ((p * 4) + r))), (0, .ref (h 12)), (1, .int (nI p)), (2, .int (nI n)), (3, .int key)]) hx hb dX1_castPart_92 hl (k := 6) rfl (cd_i1 _) (by decide) rfl (fun ls hl => ?_)
      refine lv_goto (tgt := 3) hx hb dX1_castPart_95 (by decide) ?_
      rw [(by rw [cpF_s, cpS, if_pos (Or.inl c_29)] : (cpF (J 13) (J 14) p n key r (J 15)) = (cpF (J 13) (J 14) p n key (r + 1) (J 15)))] at hP hD
      have hP : va_P D vwCl (wX1 cy h (va_up J 15 (cpF (J 13) (J 14) p n key (r + 1) (J 15)))) H := hP
      have hD : va_D A (wX1 cy h (va_up J 15 (cpF (J 13) (J 14) p n key (r + 1) (J 15)))) := hD
      exact ih_3 (r + 1) (by omega) (by omega) _ _ hP hD hS _ (lv_sub hl [3, 4, 5, 6, 0] rfl)
    · have ha := (hA13 (p * 4 + r) (by omega)).resolve_left c_29
      have hab := ha.2
      have hwl := or_lt (n := 12) hn hab
      have hl : lv_has ls 9 [(6, .int (nI (nv (J 13 (p * 4 + r))))), (5, .int (nI ((p * 4) + r))), (0, .ref (h 12)), (1, .int (nI p)), (2, .int (nI n)), (3, .int key), (4, .int (nI r))] := by rw [← (ha.1 : ((J 13) ((p * 4) + r) : Int32) = nI (nv (J 13 (p * 4 + r))))]; exact hl
      refine lv_iload_n hx hb dX1_castPart_32 rfl (lv_at hl 4 rfl) ?_
      refine lv_iload hx hb dX1_castPart_33 (lv_at hl 0 rfl) ?_
      have M_35 := c_X6_has l n (nv (J 13 (p * 4 + r))) (by omega) (by omega)
      refine cd_roi (va_runSN (As := [.int (nI n), .int (nI (nv (J 13 (p * 4 + r))))]) (rest := []) ⟨hx, hb, hml, hown, hts⟩ M_35 ⟨va_cnB 2 hts gX1_castPart_X6_has_n44 rfl rfl rfl hG.2.1.2.2.2.2.2.1 in_X6 (by decide +kernel) ⟨Nat.le_of_ble_eq_true rfl, Nat.le_of_ble_eq_true rfl⟩, st_has, trivial⟩ ⟨nuB.bl, fun U hU hW => ⟨rfl, trivial⟩⟩ rfl rfl hl.1 rfl (lv_room (Nat.le_of_ble_eq_true rfl)) dX1_castPart_35 (by exact ⟨Nat.zero_le _, Nat.zero_le _⟩)) (fun r_35 hr_35 => ?_)
      subst hr_35
      refine cd_ifB_ne (tgt := 92) hx hb dX1_castPart_38 (by decide) (fun c_38 => ?_) (fun c_38 => ?_)
      · refine lv_iinc (v := nI (r + 1)) (lv' := [(4, .int (nI (r + 1))), (6, .int (nI (nv (J 13 (p * 4 + r))))), (5, .int (nI ((p * 4) + r))), (0, .ref (h 12)), (1, .int (nI p)), (2, .int (nI n)), (3, .int key)]) hx hb dX1_castPart_92 hl (k := 6) rfl (cd_i1 _) (by decide) rfl (fun ls hl => ?_)
        refine lv_goto (tgt := 3) hx hb dX1_castPart_95 (by decide) ?_
        rw [(by rw [cpF_s, cpS, if_pos (Or.inr c_38)] : (cpF (J 13) (J 14) p n key r (J 15)) = (cpF (J 13) (J 14) p n key (r + 1) (J 15)))] at hP hD
        have hP : va_P D vwCl (wX1 cy h (va_up J 15 (cpF (J 13) (J 14) p n key (r + 1) (J 15)))) H := hP
        have hD : va_D A (wX1 cy h (va_up J 15 (cpF (J 13) (J 14) p n key (r + 1) (J 15)))) := hD
        exact ih_3 (r + 1) (by omega) (by omega) _ _ hP hD hS _ (lv_sub hl [3, 4, 5, 6, 0] rfl)
      · have hno : ¬ (J 13 (p * 4 + r) = -1 ∨ n.testBit (nv (J 13 (p * 4 + r))) = true) := fun q => q.elim c_29 (fun q => by rw [c_38] at q; exact Bool.noConfusion q)
        refine lv_iload_n hx hb dX1_castPart_41 rfl (lv_at hl 4 rfl) ?_
        refine lv_iload hx hb dX1_castPart_42 (lv_at hl 0 rfl) ?_
        have M_44 := c_X6_with l n (nv (J 13 (p * 4 + r))) (by omega)
        refine cd_roi (va_runSN (As := [.int (nI n), .int (nI (nv (J 13 (p * 4 + r))))]) (rest := []) ⟨hx, hb, hml, hown, hts⟩ M_44 ⟨va_cnB 2 hts gX1_castPart_X6_with_n48 rfl rfl rfl hG.2.1.2.2.2.2.2.2 in_X6 (by decide +kernel) ⟨Nat.le_of_ble_eq_true rfl, Nat.le_of_ble_eq_true rfl⟩, st_with, trivial⟩ ⟨nuB.bl, fun U hU hW => ⟨rfl, trivial⟩⟩ rfl rfl hl.1 rfl (lv_room (Nat.le_of_ble_eq_true rfl)) dX1_castPart_44 (by exact ⟨Nat.zero_le _, Nat.zero_le _⟩)) (fun r_44 hr_44 => ?_)
        subst hr_44
        refine lv_istore (lv' := [(7, .int (nI (n ||| 2 ^ (nv (J 13 (p * 4 + r)))))), (6, .int (nI (nv (J 13 (p * 4 + r))))), (5, .int (nI ((p * 4) + r))), (0, .ref (h 12)), (1, .int (nI p)), (2, .int (nI n)), (3, .int key), (4, .int (nI r))]) hx hb dX1_castPart_47 hl (by decide) rfl (fun ls hl => ?_)
        refine lv_iload_n hx hb dX1_castPart_49 rfl (lv_at hl 6 rfl) ?_
        refine lv_aload_n hx hb dX1_castPart_50 rfl (lv_at hl 3 rfl) ?_
        refine va_get (D := D) (ci := 1) (v := .ref (h 14)) (C := RX1) (T := TX1) (N := 4) hx hb hts iX1 hown hK hP 0 rfl rfl 1 (by decide) f_15 (fun _ h9 => h9) rfl dX1_castPart_51 ?_
        refine lv_iload hx hb dX1_castPart_54 (lv_at hl 2 rfl) ?_
        refine cd_iald (f := J 14) hx hb hK hP 2 rfl (by omega) (by decide) dX1_castPart_56 ?_
        refine lv_iadd hx hb dX1_castPart_57 ?_
        refine lv_istore (lv' := [(8, .int (key + ((J 14) ((p * 4) + r)))), (7, .int (nI (n ||| 2 ^ (nv (J 13 (p * 4 + r)))))), (6, .int (nI (nv (J 13 (p * 4 + r))))), (5, .int (nI ((p * 4) + r))), (0, .ref (h 12)), (1, .int (nI p)), (2, .int (nI n)), (3, .int key), (4, .int (nI r))]) hx hb dX1_castPart_58 hl (by decide) rfl (fun ls hl => ?_)
        refine lv_aload_n hx hb dX1_castPart_60 rfl (lv_at hl 4 rfl) ?_
        refine va_get (D := D) (ci := 1) (v := .ref (h 15)) (C := RX1) (T := TX1) (N := 4) hx hb hts iX1 hown hK hP 0 rfl rfl 2 (by decide) f_18 (fun _ h9 => h9) rfl dX1_castPart_61 ?_
        refine lv_iload hx hb dX1_castPart_64 (lv_at hl 1 rfl) ?_
        refine cd_iald (f := cpF (J 13) (J 14) p n key r (J 15)) hx hb hK hP 3 rfl (by omega) (by decide) dX1_castPart_66 ?_
        refine lv_iconst (v := (-1)) hx hb dX1_castPart_67 (by decide) ?_
        refine lv_icmp_eq (tgt := 83) hx hb dX1_castPart_68 (by decide) (fun c_68 => ?_) (fun c_68 => ?_)
        · refine lv_aload_n hx hb dX1_castPart_83 rfl (lv_at hl 4 rfl) ?_
          refine va_get (D := D) (ci := 1) (v := .ref (h 15)) (C := RX1) (T := TX1) (N := 4) hx hb hts iX1 hown hK hP 0 rfl rfl 2 (by decide) f_18 (fun _ h9 => h9) rfl dX1_castPart_84 ?_
          refine lv_iload hx hb dX1_castPart_87 (lv_at hl 1 rfl) ?_
          refine lv_iload hx hb dX1_castPart_89 (lv_at hl 0 rfl) ?_
          refine cd_iast (f := cpF (J 13) (J 14) p n key r (J 15)) hx hb hK hP hD hS 3 rfl (by omega) (by decide) dX1_castPart_91 (fun H locs hP hD hS => ?_)
          have hP : va_P D vwCl (wX1 cy h (va_up J 15 (upd (cpF (J 13) (J 14) p n key r (J 15)) (n ||| 2 ^ (nv (J 13 (p * 4 + r)))) (key + ((J 14) ((p * 4) + r)))))) H := hP
          have hD : va_D A (wX1 cy h (va_up J 15 (upd (cpF (J 13) (J 14) p n key r (J 15)) (n ||| 2 ^ (nv (J 13 (p * 4 + r)))) (key + ((J 14) ((p * 4) + r)))))) := hD
          have e_91 : (upd (cpF (J 13) (J 14) p n key r (J 15)) (n ||| 2 ^ (nv (J 13 (p * 4 + r)))) (key + ((J 14) ((p * 4) + r)))) = (cpF (J 13) (J 14) p n key (r + 1) (J 15)) := by rw [cpF_s, cpS, if_neg hno, if_pos (Or.inl c_68)]
          rw [e_91] at hP hD
          have hP : va_P D vwCl (wX1 cy h (va_up J 15 (cpF (J 13) (J 14) p n key (r + 1) (J 15)))) H := hP
          have hD : va_D A (wX1 cy h (va_up J 15 (cpF (J 13) (J 14) p n key (r + 1) (J 15)))) := hD
          refine lv_iinc (v := nI (r + 1)) (lv' := [(4, .int (nI (r + 1))), (8, .int (key + ((J 14) ((p * 4) + r)))), (7, .int (nI (n ||| 2 ^ (nv (J 13 (p * 4 + r)))))), (6, .int (nI (nv (J 13 (p * 4 + r))))), (5, .int (nI ((p * 4) + r))), (0, .ref (h 12)), (1, .int (nI p)), (2, .int (nI n)), (3, .int key)]) hx hb dX1_castPart_92 hl (k := 8) rfl (cd_i1 _) (by decide) rfl (fun ls hl => ?_)
          refine lv_goto (tgt := 3) hx hb dX1_castPart_95 (by decide) ?_
          exact ih_3 (r + 1) (by omega) (by omega) _ _ hP hD hS _ (lv_sub hl [5, 6, 7, 8, 0] rfl)
        · refine lv_iload hx hb dX1_castPart_71 (lv_at hl 0 rfl) ?_
          refine lv_aload_n hx hb dX1_castPart_73 rfl (lv_at hl 4 rfl) ?_
          refine va_get (D := D) (ci := 1) (v := .ref (h 15)) (C := RX1) (T := TX1) (N := 4) hx hb hts iX1 hown hK hP 0 rfl rfl 2 (by decide) f_18 (fun _ h9 => h9) rfl dX1_castPart_74 ?_
          refine lv_iload hx hb dX1_castPart_77 (lv_at hl 1 rfl) ?_
          refine cd_iald (f := cpF (J 13) (J 14) p n key r (J 15)) hx hb hK hP 3 rfl (by omega) (by decide) dX1_castPart_79 ?_
          refine lv_icmp_ge (tgt := 92) hx hb dX1_castPart_80 (by decide) (fun c_80 => ?_) (fun c_80 => ?_)
          · refine lv_iinc (v := nI (r + 1)) (lv' := [(4, .int (nI (r + 1))), (8, .int (key + ((J 14) ((p * 4) + r)))), (7, .int (nI (n ||| 2 ^ (nv (J 13 (p * 4 + r)))))), (6, .int (nI (nv (J 13 (p * 4 + r))))), (5, .int (nI ((p * 4) + r))), (0, .ref (h 12)), (1, .int (nI p)), (2, .int (nI n)), (3, .int key)]) hx hb dX1_castPart_92 hl (k := 8) rfl (cd_i1 _) (by decide) rfl (fun ls hl => ?_)
            refine lv_goto (tgt := 3) hx hb dX1_castPart_95 (by decide) ?_
            rw [(by rw [cpF_s, cpS, if_neg hno, if_neg (fun q => q.elim c_68 (Int32.not_lt.mpr c_80))] : (cpF (J 13) (J 14) p n key r (J 15)) = (cpF (J 13) (J 14) p n key (r + 1) (J 15)))] at hP hD
            have hP : va_P D vwCl (wX1 cy h (va_up J 15 (cpF (J 13) (J 14) p n key (r + 1) (J 15)))) H := hP
            have hD : va_D A (wX1 cy h (va_up J 15 (cpF (J 13) (J 14) p n key (r + 1) (J 15)))) := hD
            exact ih_3 (r + 1) (by omega) (by omega) _ _ hP hD hS _ (lv_sub hl [5, 6, 7, 8, 0] rfl)
          · refine lv_aload_n hx hb dX1_castPart_83 rfl (lv_at hl 4 rfl) ?_
            refine va_get (D := D) (ci := 1) (v := .ref (h 15)) (C := RX1) (T := TX1) (N := 4) hx hb hts iX1 hown hK hP 0 rfl rfl 2 (by decide) f_18 (fun _ h9 => h9) rfl dX1_castPart_84 ?_
            refine lv_iload hx hb dX1_castPart_87 (lv_at hl 1 rfl) ?_
            refine lv_iload hx hb dX1_castPart_89 (lv_at hl 0 rfl) ?_
            refine cd_iast (f := cpF (J 13) (J 14) p n key r (J 15)) hx hb hK hP hD hS 3 rfl (by omega) (by decide) dX1_castPart_91 (fun H locs hP hD hS => ?_)
            have hP : va_P D vwCl (wX1 cy h (va_up J 15 (upd (cpF (J 13) (J 14) p n key r (J 15)) (n ||| 2 ^ (nv (J 13 (p * 4 + r)))) (key + ((J 14) ((p * 4) + r)))))) H := hP
            have hD : va_D A (wX1 cy h (va_up J 15 (upd (cpF (J 13) (J 14) p n key r (J 15)) (n ||| 2 ^ (nv (J 13 (p * 4 + r)))) (key + ((J 14) ((p * 4) + r)))))) := hD
            have e_91 : (upd (cpF (J 13) (J 14) p n key r (J 15)) (n ||| 2 ^ (nv (J 13 (p * 4 + r)))) (key + ((J 14) ((p * 4) + r)))) = (cpF (J 13) (J 14) p n key (r + 1) (J 15)) := by rw [cpF_s, cpS, if_neg hno, if_pos (Or.inr (Int32.not_le.mp c_80))]
            rw [e_91] at hP hD
            have hP : va_P D vwCl (wX1 cy h (va_up J 15 (cpF (J 13) (J 14) p n key (r + 1) (J 15)))) H := hP
            have hD : va_D A (wX1 cy h (va_up J 15 (cpF (J 13) (J 14) p n key (r + 1) (J 15)))) := hD
            refine lv_iinc (v := nI (r + 1)) (lv' := [(4, .int (nI (r + 1))), (8, .int (key + ((J 14) ((p * 4) + r)))), (7, .int (nI (n ||| 2 ^ (nv (J 13 (p * 4 + r)))))), (6, .int (nI (nv (J 13 (p * 4 + r))))), (5, .int (nI ((p * 4) + r))), (0, .ref (h 12)), (1, .int (nI p)), (2, .int (nI n)), (3, .int key)]) hx hb dX1_castPart_92 hl (k := 8) rfl (cd_i1 _) (by decide) rfl (fun ls hl => ?_)
            refine lv_goto (tgt := 3) hx hb dX1_castPart_95 (by decide) ?_
            exact ih_3 (r + 1) (by omega) (by omega) _ _ hP hD hS _ (lv_sub hl [5, 6, 7, 8, 0] rfl)
end
section
set_option maxHeartbeats 4000000 in
set_option maxRecDepth 100000 in
theorem c_X1_leastKey (l : Launch) (D : va_G) (cy : qT) (h : Nat → Nat) (J : qS) (n : Nat) (b : Nat) (hn : n ≤ 8) (hbb : J 12 0 = nI b) (hb4 : b ≤ 4096) (hA13 : ∀ i, i < 32 → J 13 i = -1 ∨ bd (J 13 i) 12) (sz : Nat) : Met l yX1_leastKey wsX1_leastKey ({ frames := 2, cells := 0, slots := 0, locals := 49 }) (va_Pc [.ref (h 12), .int (nI n)] (wrB D cy (wX1 cy h J) sz)) (va_Qi (fun (r9 : Int32) (u : Unit) => r9 = (lkF (J 13) (J 14) (J 15) n b).2) (wrQ D (va_A (wX1 cy h J) sz) (fun u : Unit => (wX1 cy h (va_up J 15 ((lkF (J 13) (J 14) (J 15) n b).1))))) (va_A (wX1 cy h J) sz)) 0 0 (va_A (wX1 cy h J) sz) := by
  refine Met.ofW (cc := cX1_leastKey) (maxL := 6) (ret := (some .int)) (by decide) rfl ?_
  intro pp e9 s m9 args9 bl9 meth9 c9 s9 B hml hv
  obtain ⟨rfl, hsz, hP, hG, hD0⟩ := hv
  have hx := B.exec
  have hb := B.bytes
  have hr := B.returns
  have hts := atoms_spec (ws := wsX1_leastKey) B.pre
  have hown : s.vm.findClass RX1 = some m9.cls := findClass_of_methodNamed B.named
  have hlocks := B.notSynchronized
  have hK := hG.K
  subst hsz
  have hD := hD0.self (sz := s.heap.size)
  generalize hAe : (va_A (wX1 cy h J) s.heap.size) = A at hD ⊢
  have hA : ∀ q : Nat, s.heap.size ≤ q → A q := fun q h9 => by rw [← hAe]; exact Or.inr h9
  have hS : va_S A s.heap s.heap [] := va_S.rf
  have hP : va_P D vwCl (wX1 cy h J) s.heap := hP
  have f_18 := hts (.fieldLink RX1 18 "CastDesk$Casting" "leastOfSet" "[I") (by decide +kernel)
  have f_25 := hts (.fieldLink RX1 25 "CastDesk$Casting" "setsBound" "I") (by decide +kernel)
  have iX1 : ∀ w ∈ wsX10, w ∈ wsX1_leastKey := by decide +kernel
  have hl := lv_entry ([.ref (h 12), .int (nI n)]) (n := 6) (Nat.le_of_ble_eq_true rfl)
  rw [lg_entry_eq]
  generalize (lg_sl ([.ref (h 12), .int (nI n)]) ++ List.replicate (6 - (lg_sl ([.ref (h 12), .int (nI n)])).length) Slot.unset).toArray = ls at hl ⊢
  have hl : lv_has ls 6 [(0, .ref (h 12)), (1, .int (nI n))] := hl
  refine lv_iconst (v := (-1)) hx hb dX1_leastKey_0 (by decide) ?_
  refine lv_istore_n (lv' := [(2, .int (-1)), (0, .ref (h 12)), (1, .int (nI n))]) hx hb dX1_leastKey_1 rfl hl (by decide) rfl (fun ls hl => ?_)
  refine lv_aload_n hx hb dX1_leastKey_2 rfl (lv_at hl 1 rfl) ?_
  refine va_get (D := D) (ci := 1) (v := .ref (h 15)) (C := RX1) (T := TX1) (N := 4) hx hb hts iX1 hown hK hP 0 rfl rfl 2 (by decide) f_18 (fun _ h9 => h9) rfl dX1_leastKey_3 ?_
  refine lv_iconst (v := nI 0) hx hb dX1_leastKey_6 (by decide) ?_
  refine lv_iconst (v := nI 0) hx hb dX1_leastKey_7 (by decide) ?_
  refine cd_iast (f := J 15) hx hb hK hP hD hS 3 rfl (by omega) (by decide) dX1_leastKey_8 (fun H locs hP hD hS => ?_)
  have hP : va_P D vwCl (wX1 cy h (va_up J 15 (upd (J 15) 0 (nI 0)))) H := hP
  have hD : va_D A (wX1 cy h (va_up J 15 (upd (J 15) 0 (nI 0)))) := hD
  refine lv_iconst (v := nI 0) hx hb dX1_leastKey_9 (by decide) ?_
  refine lv_istore_n (lv' := [(3, .int (nI 0)), (2, .int (-1)), (0, .ref (h 12)), (1, .int (nI n))]) hx hb dX1_leastKey_10 rfl hl (by decide) rfl (fun ls hl => ?_)
  refine wh1 (nL := 6) (fun (k : Nat) => k ≤ b) (fun (k : Nat) => b - k) (fun (k : Nat) => [(0, .ref (h 12)), (1, .int (nI n)), (2, .int ((lkF (J 13) (J 14) (J 15) n k).2)), (3, .int (nI k))]) (fun (k : Nat) => (wX1 cy h (va_up J 15 ((lkF (J 13) (J 14) (J 15) n k).1)))) (fun k hi_11 ih_11 H locs hP hD hS ls hl => ?_) 0 (Nat.zero_le _) hP hD hS (lv_sub hl [2, 3, 1, 0] rfl)
  have hP : va_P D vwCl (wX1 cy h (va_up J 15 ((lkF (J 13) (J 14) (J 15) n k).1))) H := hP
  have hD : va_D A (wX1 cy h (va_up J 15 ((lkF (J 13) (J 14) (J 15) n k).1))) := hD
  refine lv_iload_n hx hb dX1_leastKey_11 rfl (lv_at hl 3 rfl) ?_
  refine lv_aload_n hx hb dX1_leastKey_12 rfl (lv_at hl 0 rfl) ?_
  refine va_get (D := D) (ci := 1) (v := .int (J 12 0)) (C := RX1) (T := TX1) (N := 4) hx hb hts iX1 hown hK hP 0 rfl rfl 3 (by decide) f_25 (fun _ h9 => h9) rfl dX1_leastKey_13 ?_
  refine cd_tp (y := nI b) (hbb) ?_
  refine cd_icmp_ge (tgt := 87) hx hb dX1_leastKey_16 (by decide) (by omega) (by omega) (fun c_16 => ?_) (fun c_16 => ?_)
  · have ek : k = b := by omega
    subst ek
    have hP : va_P D vwCl (wX1 cy h (va_up J 15 ((lkF (J 13) (J 14) (J 15) n k).1))) H := hP
    have hD : va_D A (wX1 cy h (va_up J 15 ((lkF (J 13) (J 14) (J 15) n k).1))) := hD
    refine lv_iload_n hx hb dX1_leastKey_87 rfl (lv_at hl 2 rfl) ?_
    exact W.iret (v := (lkF (J 13) (J 14) (J 15) n k).2) hx hb hr (fun t ht hW => ⟨⟨_, (), rfl, rfl, by rw [ht]; exact hP, hD⟩, hS.F ht⟩) hS.2.2 dX1_leastKey_88
  · refine lv_aload_n hx hb dX1_leastKey_19 rfl (lv_at hl 0 rfl) ?_
    refine va_get (D := D) (ci := 1) (v := .ref (h 15)) (C := RX1) (T := TX1) (N := 4) hx hb hts iX1 hown hK hP 0 rfl rfl 2 (by decide) f_18 (fun _ h9 => h9) rfl dX1_leastKey_20 ?_
    refine lv_iload_n hx hb dX1_leastKey_23 rfl (lv_at hl 3 rfl) ?_
    refine cd_iald (f := (lkF (J 13) (J 14) (J 15) n k).1) hx hb hK hP 3 rfl (by omega) (by decide) dX1_leastKey_24 ?_
    refine lv_istore (lv' := [(4, .int (((lkF (J 13) (J 14) (J 15) n k).1) k)), (0, .ref (h 12)), (1, .int (nI n)), (2, .int ((lkF (J 13) (J 14) (J 15) n k).2)), (3, .int (nI k))]) hx hb dX1_leastKey_25 hl (by decide) rfl (fun ls hl => ?_)
    refine lv_aload_n hx hb dX1_leastKey_27 rfl (lv_at hl 1 rfl) ?_
    refine va_get (D := D) (ci := 1) (v := .ref (h 15)) (C := RX1) (T := TX1) (N := 4) hx hb hts iX1 hown hK hP 0 rfl rfl 2 (by decide) f_18 (fun _ h9 => h9) rfl dX1_leastKey_28 ?_
    refine lv_iload_n hx hb dX1_leastKey_31 rfl (lv_at hl 4 rfl) ?_
    refine lv_iconst (v := (-1)) hx hb dX1_leastKey_32 (by decide) ?_
    refine cd_iast (f := (lkF (J 13) (J 14) (J 15) n k).1) hx hb hK hP hD hS 3 rfl (by omega) (by decide) dX1_leastKey_33 (fun H locs hP hD hS => ?_)
    have hP : va_P D vwCl (wX1 cy h (va_up J 15 (upd ((lkF (J 13) (J 14) (J 15) n k).1) k (-1)))) H := hP
    have hD : va_D A (wX1 cy h (va_up J 15 (upd ((lkF (J 13) (J 14) (J 15) n k).1) k (-1)))) := hD
    refine lv_iload hx hb dX1_leastKey_34 (lv_at hl 0 rfl) ?_
    refine lv_iconst (v := (-1)) hx hb dX1_leastKey_36 (by decide) ?_
    refine lv_icmp_ne (tgt := 43) hx hb dX1_leastKey_37 (by decide) (fun c_37 => ?_) (fun c_37 => ?_)
    · refine lv_iload_n hx hb dX1_leastKey_43 rfl (lv_at hl 4 rfl) ?_
      have M_44 := c_J6_bitCount_0f7a4 l k (by omega)
      refine cd_roi (va_runS (As := [.int (nI k)]) (rest := []) ⟨hx, hb, hml, hown, hts⟩ M_44 (va_cwS 1 hts gX1_leastKey_J6_bitCount_0f7a4 rfl rfl rfl (by decide +kernel) ⟨Nat.le_of_ble_eq_true rfl, Nat.le_of_ble_eq_true rfl⟩) ⟨nuB.bl, fun U hU hW => ⟨rfl, trivial⟩⟩ rfl rfl hl.1 rfl (lv_room (Nat.le_of_ble_eq_true rfl)) dX1_leastKey_44 (by exact ⟨Nat.zero_le _, Nat.zero_le _⟩)) (fun r_44 hr_44 => ?_)
      subst hr_44
      have hpk := pcn_le k 12
      refine lv_istore (lv' := [(5, .int (nI (pcn 12 k))), (4, .int (((lkF (J 13) (J 14) (J 15) n k).1) k)), (0, .ref (h 12)), (1, .int (nI n)), (2, .int ((lkF (J 13) (J 14) (J 15) n k).2)), (3, .int (nI k))]) hx hb dX1_leastKey_47 hl (by decide) rfl (fun ls hl => ?_)
      refine lv_iload hx hb dX1_leastKey_49 (lv_at hl 0 rfl) ?_
      refine lv_iload_n hx hb dX1_leastKey_51 rfl (lv_at hl 3 rfl) ?_
      refine cd_icmp_ge (tgt := 67) hx hb dX1_leastKey_52 (by decide) (by omega) (by omega) (fun c_52 => ?_) (fun c_52 => ?_)
      · refine lv_iload_n hx hb dX1_leastKey_67 rfl (lv_at hl 4 rfl) ?_
        refine lv_iconst (v := (-1)) hx hb dX1_leastKey_68 (by decide) ?_
        refine lv_icmp_eq (tgt := 78) hx hb dX1_leastKey_69 (by decide) (fun c_69 => ?_) (fun c_69 => ?_)
        · refine lv_iload hx hb dX1_leastKey_78 (lv_at hl 1 rfl) ?_
          refine lv_istore_n (lv' := [(2, .int (((lkF (J 13) (J 14) (J 15) n k).1) k)), (5, .int (nI (pcn 12 k))), (4, .int (((lkF (J 13) (J 14) (J 15) n k).1) k)), (0, .ref (h 12)), (1, .int (nI n)), (3, .int (nI k))]) hx hb dX1_leastKey_80 rfl hl (by decide) rfl (fun ls hl => ?_)
          refine lv_iinc (v := nI (k + 1)) (lv' := [(3, .int (nI (k + 1))), (2, .int (((lkF (J 13) (J 14) (J 15) n k).1) k)), (5, .int (nI (pcn 12 k))), (4, .int (((lkF (J 13) (J 14) (J 15) n k).1) k)), (0, .ref (h 12)), (1, .int (nI n))]) hx hb dX1_leastKey_81 hl (k := 5) rfl (cd_i1 _) (by decide) rfl (fun ls hl => ?_)
          refine lv_goto (tgt := 11) hx hb dX1_leastKey_84 (by decide) ?_
          rw [(by rw [lkF_s, lkS, if_neg c_37, if_neg (Nat.not_lt.mpr c_52)] : (upd ((lkF (J 13) (J 14) (J 15) n k).1) k (-1)) = ((lkF (J 13) (J 14) (J 15) n (k + 1)).1))] at hP hD
          have hP : va_P D vwCl (wX1 cy h (va_up J 15 ((lkF (J 13) (J 14) (J 15) n (k + 1)).1))) H := hP
          have hD : va_D A (wX1 cy h (va_up J 15 ((lkF (J 13) (J 14) (J 15) n (k + 1)).1))) := hD
          have hl : lv_has ls 6 [(3, .int (nI (k + 1))), (2, .int ((lkF (J 13) (J 14) (J 15) n (k + 1)).2)), (5, .int (nI (pcn 12 k))), (4, .int (((lkF (J 13) (J 14) (J 15) n k).1) k)), (0, .ref (h 12)), (1, .int (nI n))] := by rw [← (by rw [lkF_s, lkS, if_neg c_37, if_neg (Nat.not_lt.mpr c_52)]; exact (if_pos (Or.inl c_69)).symm : (((lkF (J 13) (J 14) (J 15) n k).1) k : Int32) = (lkF (J 13) (J 14) (J 15) n (k + 1)).2)]; exact hl
          exact ih_11 (k + 1) (by omega) (by omega) _ _ hP hD hS _ (lv_sub hl [4, 5, 1, 0] rfl)
        · refine lv_iload hx hb dX1_leastKey_72 (lv_at hl 1 rfl) ?_
          refine lv_iload_n hx hb dX1_leastKey_74 rfl (lv_at hl 4 rfl) ?_
          refine lv_icmp_ge (tgt := 81) hx hb dX1_leastKey_75 (by decide) (fun c_75 => ?_) (fun c_75 => ?_)
          · refine lv_iinc (v := nI (k + 1)) (lv' := [(3, .int (nI (k + 1))), (5, .int (nI (pcn 12 k))), (4, .int (((lkF (J 13) (J 14) (J 15) n k).1) k)), (0, .ref (h 12)), (1, .int (nI n)), (2, .int ((lkF (J 13) (J 14) (J 15) n k).2))]) hx hb dX1_leastKey_81 hl (k := 5) rfl (cd_i1 _) (by decide) rfl (fun ls hl => ?_)
            refine lv_goto (tgt := 11) hx hb dX1_leastKey_84 (by decide) ?_
            rw [(by rw [lkF_s, lkS, if_neg c_37, if_neg (Nat.not_lt.mpr c_52)] : (upd ((lkF (J 13) (J 14) (J 15) n k).1) k (-1)) = ((lkF (J 13) (J 14) (J 15) n (k + 1)).1))] at hP hD
            have hP : va_P D vwCl (wX1 cy h (va_up J 15 ((lkF (J 13) (J 14) (J 15) n (k + 1)).1))) H := hP
            have hD : va_D A (wX1 cy h (va_up J 15 ((lkF (J 13) (J 14) (J 15) n (k + 1)).1))) := hD
            have hl : lv_has ls 6 [(3, .int (nI (k + 1))), (5, .int (nI (pcn 12 k))), (4, .int (((lkF (J 13) (J 14) (J 15) n k).1) k)), (0, .ref (h 12)), (1, .int (nI n)), (2, .int ((lkF (J 13) (J 14) (J 15) n (k + 1)).2))] := by rw [← (by rw [lkF_s, lkS, if_neg c_37, if_neg (Nat.not_lt.mpr c_52)]; exact (if_neg (fun q => q.elim c_69 (Int32.not_lt.mpr c_75))).symm : ((lkF (J 13) (J 14) (J 15) n k).2 : Int32) = (lkF (J 13) (J 14) (J 15) n (k + 1)).2)]; exact hl
            exact ih_11 (k + 1) (by omega) (by omega) _ _ hP hD hS _ (lv_sub hl [3, 4, 5, 0] rfl)
          · refine lv_iload hx hb dX1_leastKey_78 (lv_at hl 1 rfl) ?_
            refine lv_istore_n (lv' := [(2, .int (((lkF (J 13) (J 14) (J 15) n k).1) k)), (5, .int (nI (pcn 12 k))), (4, .int (((lkF (J 13) (J 14) (J 15) n k).1) k)), (0, .ref (h 12)), (1, .int (nI n)), (3, .int (nI k))]) hx hb dX1_leastKey_80 rfl hl (by decide) rfl (fun ls hl => ?_)
            refine lv_iinc (v := nI (k + 1)) (lv' := [(3, .int (nI (k + 1))), (2, .int (((lkF (J 13) (J 14) (J 15) n k).1) k)), (5, .int (nI (pcn 12 k))), (4, .int (((lkF (J 13) (J 14) (J 15) n k).1) k)), (0, .ref (h 12)), (1, .int (nI n))]) hx hb dX1_leastKey_81 hl (k := 5) rfl (cd_i1 _) (by decide) rfl (fun ls hl => ?_)
            refine lv_goto (tgt := 11) hx hb dX1_leastKey_84 (by decide) ?_
            rw [(by rw [lkF_s, lkS, if_neg c_37, if_neg (Nat.not_lt.mpr c_52)] : (upd ((lkF (J 13) (J 14) (J 15) n k).1) k (-1)) = ((lkF (J 13) (J 14) (J 15) n (k + 1)).1))] at hP hD
            have hP : va_P D vwCl (wX1 cy h (va_up J 15 ((lkF (J 13) (J 14) (J 15) n (k + 1)).1))) H := hP
            have hD : va_D A (wX1 cy h (va_up J 15 ((lkF (J 13) (J 14) (J 15) n (k + 1)).1))) := hD
            have hl : lv_has ls 6 [(3, .int (nI (k + 1))), (2, .int ((lkF (J 13) (J 14) (J 15) n (k + 1)).2)), (5, .int (nI (pcn 12 k))), (4, .int (((lkF (J 13) (J 14) (J 15) n k).1) k)), (0, .ref (h 12)), (1, .int (nI n))] := by rw [← (by rw [lkF_s, lkS, if_neg c_37, if_neg (Nat.not_lt.mpr c_52)]; exact (if_pos (Or.inr (Int32.not_le.mp c_75))).symm : (((lkF (J 13) (J 14) (J 15) n k).1) k : Int32) = (lkF (J 13) (J 14) (J 15) n (k + 1)).2)]; exact hl
            exact ih_11 (k + 1) (by omega) (by omega) _ _ hP hD hS _ (lv_sub hl [4, 5, 1, 0] rfl)
      · have hpk := pcn_le k 12
        refine lv_aload_n hx hb dX1_leastKey_55 rfl (lv_at hl 2 rfl) ?_
        refine lv_iload hx hb dX1_leastKey_56 (lv_at hl 0 rfl) ?_
        refine lv_iload_n hx hb dX1_leastKey_58 rfl (lv_at hl 5 rfl) ?_
        refine lv_iload hx hb dX1_leastKey_59 (lv_at hl 1 rfl) ?_
        have M_61 := c_X1_castPart l D cy h (va_up J 15 (upd ((lkF (J 13) (J 14) (J 15) n k).1) k (-1))) (pcn 12 k) k (((lkF (J 13) (J 14) (J 15) n k).1) k) (by omega) (by omega) hA13 H.size
        refine cd_frv (S := Unit) (W1 := fun u => (wX1 cy h (va_up (va_up J 15 (upd ((lkF (J 13) (J 14) (J 15) n k).1) k (-1))) 15 (cpF ((va_up J 15 (upd ((lkF (J 13) (J 14) (J 15) n k).1) k (-1))) 13) ((va_up J 15 (upd ((lkF (J 13) (J 14) (J 15) n k).1) k (-1))) 14) (pcn 12 k) k (((lkF (J 13) (J 14) (J 15) n k).1) k) 4 ((va_up J 15 (upd ((lkF (J 13) (J 14) (J 15) n k).1) k (-1))) 15))))) (ws' := fun u => (wX1 cy h (va_up J 15 (cpF ((J 13)) ((J 14)) (pcn 12 k) k (((lkF (J 13) (J 14) (J 15) n k).1) k) 4 ((upd ((lkF (J 13) (J 14) (J 15) n k).1) k (-1))))))) (wc := (wX1 cy h (va_up J 15 (upd ((lkF (J 13) (J 14) (J 15) n k).1) k (-1))))) (wr := []) (va_runV (As := [.int (nI (pcn 12 k)), .int (nI k), .int (((lkF (J 13) (J 14) (J 15) n k).1) k)]) (rest := []) ⟨hx, hb, hml, hown, hts⟩ M_61 (cwV 3 hts gX1_leastKey_X1_castPart rfl rfl rfl (by decide +kernel) ⟨Nat.le_of_ble_eq_true rfl, Nat.le_of_ble_eq_true rfl⟩) ⟨wrB.bl, va_recv hK hP (ci := 1) (q0 := 0) rfl rfl, fun U hU hW => ⟨rfl, by rw [hU], by rw [hU]; exact hP, hG.warm hW, hD.weaken (fun _ _ _ _ => trivial)⟩⟩ rfl rfl hl.1 rfl (lv_room (Nat.le_of_ble_eq_true rfl)) dX1_leastKey_61 (by exact ⟨Nat.zero_le _, Nat.zero_le _⟩)) hP hD hS hA [0, 1, 2, 3] [] [0, 1, 2, 3] rfl rfl (by decide) (by decide) (by decide) (fun _ => rfl) (fun _ H locs hw_61 hP hD hS => ?_)
        have hP : va_P D vwCl (wX1 cy h (va_up J 15 (cpF ((J 13)) ((J 14)) (pcn 12 k) k (((lkF (J 13) (J 14) (J 15) n k).1) k) 4 ((upd ((lkF (J 13) (J 14) (J 15) n k).1) k (-1)))))) H := hP
        have hD : va_D A (wX1 cy h (va_up J 15 (cpF ((J 13)) ((J 14)) (pcn 12 k) k (((lkF (J 13) (J 14) (J 15) n k).1) k) 4 ((upd ((lkF (J 13) (J 14) (J 15) n k).1) k (-1)))))) := hD
        refine lv_goto (tgt := 81) hx hb dX1_leastKey_64 (by decide) ?_
        refine lv_iinc (v := nI (k + 1)) (lv' := [(3, .int (nI (k + 1))), (5, .int (nI (pcn 12 k))), (4, .int (((lkF (J 13) (J 14) (J 15) n k).1) k)), (0, .ref (h 12)), (1, .int (nI n)), (2, .int ((lkF (J 13) (J 14) (J 15) n k).2))]) hx hb dX1_leastKey_81 hl (k := 5) rfl (cd_i1 _) (by decide) rfl (fun ls hl => ?_)
        refine lv_goto (tgt := 11) hx hb dX1_leastKey_84 (by decide) ?_
        rw [(by rw [lkF_s, lkS, if_neg c_37, if_pos c_52] : (cpF ((J 13)) ((J 14)) (pcn 12 k) k (((lkF (J 13) (J 14) (J 15) n k).1) k) 4 ((upd ((lkF (J 13) (J 14) (J 15) n k).1) k (-1)))) = ((lkF (J 13) (J 14) (J 15) n (k + 1)).1))] at hP hD
        have hP : va_P D vwCl (wX1 cy h (va_up J 15 ((lkF (J 13) (J 14) (J 15) n (k + 1)).1))) H := hP
        have hD : va_D A (wX1 cy h (va_up J 15 ((lkF (J 13) (J 14) (J 15) n (k + 1)).1))) := hD
        have hl : lv_has ls 6 [(3, .int (nI (k + 1))), (5, .int (nI (pcn 12 k))), (4, .int (((lkF (J 13) (J 14) (J 15) n k).1) k)), (0, .ref (h 12)), (1, .int (nI n)), (2, .int ((lkF (J 13) (J 14) (J 15) n (k + 1)).2))] := by rw [← (by rw [lkF_s, lkS, if_neg c_37, if_pos c_52] : ((lkF (J 13) (J 14) (J 15) n k).2 : Int32) = (lkF (J 13) (J 14) (J 15) n (k + 1)).2)]; exact hl
        exact ih_11 (k + 1) (by omega) (by omega) _ _ hP hD hS _ (lv_sub hl [3, 4, 5, 0] rfl)
    · refine lv_goto (tgt := 81) hx hb dX1_leastKey_40 (by decide) ?_
      refine lv_iinc (v := nI (k + 1)) (lv' := [(3, .int (nI (k + 1))), (4, .int (((lkF (J 13) (J 14) (J 15) n k).1) k)), (0, .ref (h 12)), (1, .int (nI n)), (2, .int ((lkF (J 13) (J 14) (J 15) n k).2))]) hx hb dX1_leastKey_81 hl (k := 4) rfl (cd_i1 _) (by decide) rfl (fun ls hl => ?_)
      refine lv_goto (tgt := 11) hx hb dX1_leastKey_84 (by decide) ?_
      rw [(by rw [lkF_s, lkS, if_pos c_37] : (upd ((lkF (J 13) (J 14) (J 15) n k).1) k (-1)) = ((lkF (J 13) (J 14) (J 15) n (k + 1)).1))] at hP hD
      have hP : va_P D vwCl (wX1 cy h (va_up J 15 ((lkF (J 13) (J 14) (J 15) n (k + 1)).1))) H := hP
      have hD : va_D A (wX1 cy h (va_up J 15 ((lkF (J 13) (J 14) (J 15) n (k + 1)).1))) := hD
      have hl : lv_has ls 6 [(3, .int (nI (k + 1))), (4, .int (((lkF (J 13) (J 14) (J 15) n k).1) k)), (0, .ref (h 12)), (1, .int (nI n)), (2, .int ((lkF (J 13) (J 14) (J 15) n (k + 1)).2))] := by rw [← (by rw [lkF_s, lkS, if_pos c_37] : ((lkF (J 13) (J 14) (J 15) n k).2 : Int32) = (lkF (J 13) (J 14) (J 15) n (k + 1)).2)]; exact hl
      exact ih_11 (k + 1) (by omega) (by omega) _ _ hP hD hS _ (lv_sub hl [2, 3, 4, 0] rfl)
end
section
set_option maxHeartbeats 4000000 in
set_option maxRecDepth 100000 in
theorem c_X6_isReady (l : Launch) (D : va_G) (cy : qT) (h : Nat → Nat) (S : qS) (J : qS) (hI : Inv S) (a : Nat) (p : Nat) (mk : Nat) (ha : a < 12) (hp : p < 8) (hm : mk < 4096) : Met l yX6_isReady wsX6_isReady ({ frames := 1, cells := 0, slots := 0, locals := 23 }) (va_Pc [.ref (h 0), .int (nI a), .int (nI p), .int (nI mk)] (roB D cy (wC cy h S J))) (vp_Si (fun r9 => r9 = bI (rdy S a p mk))) 0 0 (fun _ => False) := by
  refine Met.ofW (cc := cX6_isReady) (maxL := 5) (ret := (some .boolean)) (by decide) rfl ?_
  intro pp e9 s m9 args9 bl9 meth9 c9 s9 B hml hv
  obtain ⟨rfl, hP, hG⟩ := hv
  have hx := B.exec
  have hb := B.bytes
  have hr := B.returns
  have hts := atoms_spec (ws := wsX6_isReady) B.pre
  have hown : s.vm.findClass RX6 = some m9.cls := findClass_of_methodNamed B.named
  have hlocks := B.notSynchronized
  have hK := hG.K
  have f_10 := hts (.fieldLink RX6 10 "CastDesk" "troupe" "LCastDesk$Troupe;") (by decide +kernel)
  have f_72 := hts (.fieldLink RX6 72 "CastDesk$Troupe" "sizes" "[I") (by decide +kernel)
  have f_79 := hts (.fieldLink RX6 79 "CastDesk$Troupe" "known" "[I") (by decide +kernel)
  have f_26 := hts (.fieldLink RX6 26 "CastDesk" "wardrobe" "LCastDesk$Wardrobe;") (by decide +kernel)
  have iX4 : ∀ w ∈ wsX40, w ∈ wsX6_isReady := by decide +kernel
  have iX6 : ∀ w ∈ wsX60, w ∈ wsX6_isReady := by decide +kernel
  have hl := lv_entry ([.ref (h 0), .int (nI a), .int (nI p), .int (nI mk)]) (n := 5) (Nat.le_of_ble_eq_true rfl)
  rw [lg_entry_eq]
  generalize (lg_sl ([.ref (h 0), .int (nI a), .int (nI p), .int (nI mk)]) ++ List.replicate (5 - (lg_sl ([.ref (h 0), .int (nI a), .int (nI p), .int (nI mk)])).length) Slot.unset).toArray = ls at hl ⊢
  have hl : lv_has ls 5 [(0, .ref (h 0)), (1, .int (nI a)), (2, .int (nI p)), (3, .int (nI mk))] := hl
  refine lv_aload_n hx hb dX6_isReady_0 rfl (lv_at hl 0 rfl) ?_
  refine va_get (D := D) (ci := 6) (v := .ref (h 1)) (C := RX6) (T := TX6) (N := 8) hx hb hts iX6 hown hK hP 0 rfl rfl 0 (by decide) f_10 (fun _ h9 => h9) rfl dX6_isReady_1 ?_
  refine va_get (D := D) (ci := 4) (v := .ref (h 2)) (C := RX4) (T := TX4) (N := 3) hx hb hts iX4 hown hK hP 1 rfl rfl 0 (by decide) f_72 (fun _ h9 => h9) rfl dX6_isReady_4 ?_
  refine lv_iload_n hx hb dX6_isReady_7 rfl (lv_at hl 1 rfl) ?_
  refine cd_iald (f := S 2) hx hb hK hP 2 rfl (by omega) (by decide) dX6_isReady_8 ?_
  refine lv_istore (lv' := [(4, .int ((S 2) a)), (0, .ref (h 0)), (1, .int (nI a)), (2, .int (nI p)), (3, .int (nI mk))]) hx hb dX6_isReady_9 hl (by decide) rfl (fun ls hl => ?_)
  refine lv_aload_n hx hb dX6_isReady_11 rfl (lv_at hl 1 rfl) ?_
  refine va_get (D := D) (ci := 6) (v := .ref (h 1)) (C := RX6) (T := TX6) (N := 8) hx hb hts iX6 hown hK hP 0 rfl rfl 0 (by decide) f_10 (fun _ h9 => h9) rfl dX6_isReady_12 ?_
  refine va_get (D := D) (ci := 4) (v := .ref (h 3)) (C := RX4) (T := TX4) (N := 3) hx hb hts iX4 hown hK hP 1 rfl rfl 1 (by decide) f_79 (fun _ h9 => h9) rfl dX6_isReady_15 ?_
  refine lv_iload_n hx hb dX6_isReady_18 rfl (lv_at hl 2 rfl) ?_
  refine cd_iald (f := S 3) hx hb hK hP 3 rfl (by omega) (by decide) dX6_isReady_19 ?_
  have b_19 := (iv_3 hI a (by omega)).1
  refine cd_tp (y := nI (nv (S 3 a))) b_19.1 ?_
  have b_19 := b_19.2
  refine lv_iload_n hx hb dX6_isReady_20 rfl (lv_at hl 3 rfl) ?_
  have M_21 := c_X6_has l (nv (S 3 a)) p (by omega) (by omega)
  refine cd_roi (va_runS (As := [.int (nI (nv (S 3 a))), .int (nI p)]) (rest := []) ⟨hx, hb, hml, hown, hts⟩ M_21 (va_cwS 2 hts gX6_isReady_X6_has rfl rfl rfl (by decide +kernel) ⟨Nat.le_of_ble_eq_true rfl, Nat.le_of_ble_eq_true rfl⟩) ⟨nuB.bl, fun U hU hW => ⟨rfl, trivial⟩⟩ rfl rfl hl.1 rfl (lv_room (Nat.le_of_ble_eq_true rfl)) dX6_isReady_21 (by exact ⟨Nat.zero_le _, Nat.zero_le _⟩)) (fun r_21 hr_21 => ?_)
  subst hr_21
  refine cd_ifB_eq (tgt := 67) hx hb dX6_isReady_24 (by decide) (fun c_24 => ?_) (fun c_24 => ?_)
  · refine lv_iconst (v := nI 0) hx hb dX6_isReady_67 (by decide) ?_
    exact W.zret (v := nI 0) hx hb hr rfl (fun t ht hW => ⟨_, rfl, (by unfold rdy; rw [c_24]; rfl), ht⟩) (fun _ h9 => nomatch h9) dX6_isReady_68
  · refine lv_iload_n hx hb dX6_isReady_27 rfl (lv_at hl 4 rfl) ?_
    refine lv_iload_n hx hb dX6_isReady_28 rfl (lv_at hl 2 rfl) ?_
    have M_29 := c_X6_has l mk a (by omega) (by omega)
    refine cd_roi (va_runS (As := [.int (nI mk), .int (nI a)]) (rest := []) ⟨hx, hb, hml, hown, hts⟩ M_29 (va_cwS 2 hts gX6_isReady_X6_has rfl rfl rfl (by decide +kernel) ⟨Nat.le_of_ble_eq_true rfl, Nat.le_of_ble_eq_true rfl⟩) ⟨nuB.bl, fun U hU hW => ⟨rfl, trivial⟩⟩ rfl rfl hl.1 rfl (lv_room (Nat.le_of_ble_eq_true rfl)) dX6_isReady_29 (by exact ⟨Nat.zero_le _, Nat.zero_le _⟩)) (fun r_29 hr_29 => ?_)
    subst hr_29
    refine cd_ifB_ne (tgt := 67) hx hb dX6_isReady_32 (by decide) (fun c_32 => ?_) (fun c_32 => ?_)
    · refine lv_iconst (v := nI 0) hx hb dX6_isReady_67 (by decide) ?_
      exact W.zret (v := nI 0) hx hb hr rfl (fun t ht hW => ⟨_, rfl, (by unfold rdy; rw [c_24, c_32]; rfl), ht⟩) (fun _ h9 => nomatch h9) dX6_isReady_68
    · refine lv_aload_n hx hb dX6_isReady_35 rfl (lv_at hl 1 rfl) ?_
      refine va_get (D := D) (ci := 6) (v := .ref (h 8)) (C := RX6) (T := TX6) (N := 8) hx hb hts iX6 hown hK hP 0 rfl rfl 2 (by decide) f_26 (fun _ h9 => h9) rfl dX6_isReady_36 ?_
      refine lv_iload_n hx hb dX6_isReady_39 rfl (lv_at hl 3 rfl) ?_
      refine lv_iload hx hb dX6_isReady_40 (lv_at hl 0 rfl) ?_
      have M_42 := c_X5_lowestFitting l D cy h S hI p ((S 2) a)
      have hPc := hP.sub (ws' := (wX5 cy h S)) [8, 9, 10, 11] rfl
      refine cd_roi (va_runV (As := [.int (nI p), .int ((S 2) a)]) (rest := []) ⟨hx, hb, hml, hown, hts⟩ M_42 (cwV 2 hts gX6_isReady_X5_lowestFitting rfl rfl rfl (by decide +kernel) ⟨Nat.le_of_ble_eq_true rfl, Nat.le_of_ble_eq_true rfl⟩) ⟨roB.bl, va_recv hK hP (ci := 5) (q0 := 8) rfl rfl, fun U hU hW => ⟨rfl, by rw [hU]; exact hPc, hG.warm hW⟩⟩ rfl rfl hl.1 rfl (lv_room (Nat.le_of_ble_eq_true rfl)) dX6_isReady_42 (by exact ⟨Nat.zero_le _, Nat.zero_le _⟩)) (fun r_42 hr_42 => ?_)
      subst hr_42
      refine lv_iconst (v := (-1)) hx hb dX6_isReady_45 (by decide) ?_
      refine lv_icmp_ne (tgt := 63) hx hb dX6_isReady_46 (by decide) (fun c_46 => ?_) (fun c_46 => ?_)
      · refine lv_iconst (v := nI 1) hx hb dX6_isReady_63 (by decide) ?_
        refine lv_goto (tgt := 68) hx hb dX6_isReady_64 (by decide) ?_
        exact W.zret (v := nI 1) hx hb hr rfl (fun t ht hW => ⟨_, rfl, (by unfold rdy; rw [c_24, c_32, ft_t c_46]; rfl), ht⟩) (fun _ h9 => nomatch h9) dX6_isReady_68
      · refine lv_aload_n hx hb dX6_isReady_49 rfl (lv_at hl 1 rfl) ?_
        refine va_get (D := D) (ci := 6) (v := .ref (h 8)) (C := RX6) (T := TX6) (N := 8) hx hb hts iX6 hown hK hP 0 rfl rfl 2 (by decide) f_26 (fun _ h9 => h9) rfl dX6_isReady_50 ?_
        refine lv_iload_n hx hb dX6_isReady_53 rfl (lv_at hl 3 rfl) ?_
        refine lv_iload hx hb dX6_isReady_54 (lv_at hl 0 rfl) ?_
        have M_56 := c_X5_lowestToLetOut l D cy h S hI p ((S 2) a)
        have hPc := hP.sub (ws' := (wX5 cy h S)) [8, 9, 10, 11] rfl
        refine cd_roi (va_runV (As := [.int (nI p), .int ((S 2) a)]) (rest := []) ⟨hx, hb, hml, hown, hts⟩ M_56 (cwV 2 hts gX6_isReady_X5_lowestToLetOut rfl rfl rfl (by decide +kernel) ⟨Nat.le_of_ble_eq_true rfl, Nat.le_of_ble_eq_true rfl⟩) ⟨roB.bl, va_recv hK hP (ci := 5) (q0 := 8) rfl rfl, fun U hU hW => ⟨rfl, by rw [hU]; exact hPc, hG.warm hW⟩⟩ rfl rfl hl.1 rfl (lv_room (Nat.le_of_ble_eq_true rfl)) dX6_isReady_56 (by exact ⟨Nat.zero_le _, Nat.zero_le _⟩)) (fun r_56 hr_56 => ?_)
        subst hr_56
        refine lv_iconst (v := (-1)) hx hb dX6_isReady_59 (by decide) ?_
        refine lv_icmp_eq (tgt := 67) hx hb dX6_isReady_60 (by decide) (fun c_60 => ?_) (fun c_60 => ?_)
        · refine lv_iconst (v := nI 0) hx hb dX6_isReady_67 (by decide) ?_
          exact W.zret (v := nI 0) hx hb hr rfl (fun t ht hW => ⟨_, rfl, (by unfold rdy; rw [c_24, c_32, ft_f c_46, lo_f c_60]; rfl), ht⟩) (fun _ h9 => nomatch h9) dX6_isReady_68
        · refine lv_iconst (v := nI 1) hx hb dX6_isReady_63 (by decide) ?_
          refine lv_goto (tgt := 68) hx hb dX6_isReady_64 (by decide) ?_
          exact W.zret (v := nI 1) hx hb hr rfl (fun t ht hW => ⟨_, rfl, (by unfold rdy; rw [c_24, c_32, ft_f c_46, lo_t c_60]; rfl), ht⟩) (fun _ h9 => nomatch h9) dX6_isReady_68
end
section
set_option maxHeartbeats 4000000 in
set_option maxRecDepth 100000 in
theorem c_X6_actorIn (l : Launch) (D : va_G) (cy : qT) (h : Nat → Nat) (S : qS) (J : qS) (hI : Inv S) (k : Nat) (p : Nat) (hk : k < 2147483648) (hp : p < 8) : Met l yX6_actorIn wsX6_actorIn ({ frames := 2, cells := 0, slots := 0, locals := 41 }) (va_Pc [.ref (h 0), .int (nI k), .int (nI p)] (roB D cy (wC cy h S J))) (vp_Si (fun r9 => r9 = acI S p (k / 2 ^ ((7 - p) * 2) &&& 3))) 0 0 (fun _ => False) := by
  refine Met.ofW (cc := cX6_actorIn) (maxL := 3) (ret := (some .int)) (by decide) rfl ?_
  intro pp e9 s m9 args9 bl9 meth9 c9 s9 B hml hv
  obtain ⟨rfl, hP, hG⟩ := hv
  have hx := B.exec
  have hb := B.bytes
  have hr := B.returns
  have hts := atoms_spec (ws := wsX6_actorIn) B.pre
  have hown : s.vm.findClass RX6 = some m9.cls := findClass_of_methodNamed B.named
  have hlocks := B.notSynchronized
  have hK := hG.K
  have f_19 := hts (.fieldLink RX6 19 "CastDesk" "rows" "LCastDesk$Rows;") (by decide +kernel)
  have iX6 : ∀ w ∈ wsX60, w ∈ wsX6_actorIn := by decide +kernel
  have hl := lv_entry ([.ref (h 0), .int (nI k), .int (nI p)]) (n := 3) (Nat.le_of_ble_eq_true rfl)
  rw [lg_entry_eq]
  generalize (lg_sl ([.ref (h 0), .int (nI k), .int (nI p)]) ++ List.replicate (3 - (lg_sl ([.ref (h 0), .int (nI k), .int (nI p)])).length) Slot.unset).toArray = ls at hl ⊢
  have hl : lv_has ls 3 [(0, .ref (h 0)), (1, .int (nI k)), (2, .int (nI p))] := hl
  refine lv_aload_n hx hb dX6_actorIn_0 rfl (lv_at hl 0 rfl) ?_
  refine va_get (D := D) (ci := 6) (v := .ref (h 5)) (C := RX6) (T := TX6) (N := 8) hx hb hts iX6 hown hK hP 0 rfl rfl 1 (by decide) f_19 (fun _ h9 => h9) rfl dX6_actorIn_1 ?_
  refine lv_iload_n hx hb dX6_actorIn_4 rfl (lv_at hl 2 rfl) ?_
  refine lv_iload_n hx hb dX6_actorIn_5 rfl (lv_at hl 1 rfl) ?_
  refine lv_iload_n hx hb dX6_actorIn_6 rfl (lv_at hl 2 rfl) ?_
  have M_7 := c_X1_rankOf l k p hk hp
  refine cd_roi (va_runS (As := [.int (nI k), .int (nI p)]) (rest := [.int (nI p), .ref (h 5)]) ⟨hx, hb, hml, hown, hts⟩ M_7 (va_cwS 2 hts gX6_actorIn_X1_rankOf rfl rfl rfl (by decide +kernel) ⟨Nat.le_of_ble_eq_true rfl, Nat.le_of_ble_eq_true rfl⟩) ⟨nuB.bl, fun U hU hW => ⟨rfl, trivial⟩⟩ rfl rfl hl.1 rfl (lv_room (Nat.le_of_ble_eq_true rfl)) dX6_actorIn_7 (by exact ⟨Nat.zero_le _, Nat.zero_le _⟩)) (fun r_7 hr_7 => ?_)
  subst hr_7
  have M_10 := c_X3_actorAt l D cy h S hI p (k / 2 ^ ((7 - p) * 2) &&& 3) hp (by have := Nat.and_le_right (n := k / 2 ^ ((7 - p) * 2)) (m := 3); omega)
  have hPc := hP.sub (ws' := (wX3 cy h S)) [5, 6, 7] rfl
  refine cd_roi (va_runV (As := [.int (nI p), .int (nI (k / 2 ^ ((7 - p) * 2) &&& 3))]) (rest := []) ⟨hx, hb, hml, hown, hts⟩ M_10 (cwV 2 hts gX6_actorIn_X3_actorAt rfl rfl rfl (by decide +kernel) ⟨Nat.le_of_ble_eq_true rfl, Nat.le_of_ble_eq_true rfl⟩) ⟨roB.bl, va_recv hK hP (ci := 3) (q0 := 5) rfl rfl, fun U hU hW => ⟨rfl, by rw [hU]; exact hPc, hG.warm hW⟩⟩ rfl rfl hl.1 rfl (lv_room (Nat.le_of_ble_eq_true rfl)) dX6_actorIn_10 (by exact ⟨Nat.zero_le _, Nat.zero_le _⟩)) (fun r_10 hr_10 => ?_)
  subst hr_10
  exact W.iret (v := acI S p (k / 2 ^ ((7 - p) * 2) &&& 3)) hx hb hr (fun t ht hW => ⟨_, rfl, rfl, ht⟩) (fun _ h9 => nomatch h9) dX6_actorIn_13
end
section
set_option maxHeartbeats 4000000 in
set_option maxRecDepth 100000 in
theorem c_X6_countOthers (l : Launch) (D : va_G) (cy : qT) (h : Nat → Nat) (S : qS) (J : qS) (hI : Inv S) (k : Nat) (k2 : Nat) (hk : k < 2147483648) (hk2 : k2 < 2147483648) : Met l yX6_countOthers wsX6_countOthers ({ frames := 3, cells := 0, slots := 0, locals := 63 }) (va_Pc [.ref (h 0), .int (nI k), .int (nI k2)] (roB D cy (wC cy h S J))) (vp_Si (fun r9 => r9 = nI (coN S k k2 (nv (S 27 0))))) 0 0 (fun _ => False) := by
  refine Met.ofW (cc := cX6_countOthers) (maxL := 5) (ret := (some .int)) (by decide) rfl ?_
  intro pp e9 s m9 args9 bl9 meth9 c9 s9 B hml hv
  obtain ⟨rfl, hP, hG⟩ := hv
  have hx := B.exec
  have hb := B.bytes
  have hr := B.returns
  have hts := atoms_spec (ws := wsX6_countOthers) B.pre
  have hown : s.vm.findClass RX6 = some m9.cls := findClass_of_methodNamed B.named
  have hlocks := B.notSynchronized
  have hK := hG.K
  have f_51 := hts (.fieldLink RX6 51 "CastDesk" "partCount" "I") (by decide +kernel)
  have iX6 : ∀ w ∈ wsX60, w ∈ wsX6_countOthers := by decide +kernel
  have hl := lv_entry ([.ref (h 0), .int (nI k), .int (nI k2)]) (n := 5) (Nat.le_of_ble_eq_true rfl)
  rw [lg_entry_eq]
  generalize (lg_sl ([.ref (h 0), .int (nI k), .int (nI k2)]) ++ List.replicate (5 - (lg_sl ([.ref (h 0), .int (nI k), .int (nI k2)])).length) Slot.unset).toArray = ls at hl ⊢
  have hl : lv_has ls 5 [(0, .ref (h 0)), (1, .int (nI k)), (2, .int (nI k2))] := hl
  have h27 := (iv_27 hI).1.2
  refine lv_iconst (v := nI 0) hx hb dX6_countOthers_0 (by decide) ?_
  refine lv_istore_n (lv' := [(3, .int (nI 0)), (0, .ref (h 0)), (1, .int (nI k)), (2, .int (nI k2))]) hx hb dX6_countOthers_1 rfl hl (by decide) rfl (fun ls hl => ?_)
  refine lv_iconst (v := nI 0) hx hb dX6_countOthers_2 (by decide) ?_
  refine lv_istore (lv' := [(4, .int (nI 0)), (3, .int (nI 0)), (0, .ref (h 0)), (1, .int (nI k)), (2, .int (nI k2))]) hx hb dX6_countOthers_3 hl (by decide) rfl (fun ls hl => ?_)
  refine wl1 (nL := 5) (fun (i : Nat) => i ≤ nv (S 27 0)) (fun (i : Nat) => nv (S 27 0) - i) (fun (i : Nat) => [(0, .ref (h 0)), (1, .int (nI k)), (2, .int (nI k2)), (3, .int (nI (coN S k k2 i))), (4, .int (nI i))]) (fun i hi_5 ih_5 ls hl => ?_) 0 (Nat.zero_le _) (lv_sub hl [2, 3, 4, 1, 0] rfl)
  refine lv_iload hx hb dX6_countOthers_5 (lv_at hl 4 rfl) ?_
  refine lv_aload_n hx hb dX6_countOthers_7 rfl (lv_at hl 0 rfl) ?_
  refine va_get (D := D) (ci := 6) (v := .int (S 27 0)) (C := RX6) (T := TX6) (N := 8) hx hb hts iX6 hown hK hP 0 rfl rfl 6 (by decide) f_51 (fun _ h9 => h9) rfl dX6_countOthers_8 ?_
  have b_8 := (iv_27 hI).1
  refine cd_tp (y := nI (nv (S 27 0))) b_8.1 ?_
  have b_8 := b_8.2
  refine cd_icmp_ge (tgt := 40) hx hb dX6_countOthers_11 (by decide) (by omega) (by omega) (fun c_11 => ?_) (fun c_11 => ?_)
  · refine lv_iload_n hx hb dX6_countOthers_40 rfl (lv_at hl 3 rfl) ?_
    exact W.iret (v := nI (coN S k k2 i)) hx hb hr (fun t ht hW => ⟨_, rfl, (by rw [show i = nv (S 27 0) by omega]), ht⟩) (fun _ h9 => nomatch h9) dX6_countOthers_41
  · refine lv_aload_n hx hb dX6_countOthers_14 rfl (lv_at hl 0 rfl) ?_
    refine lv_iload_n hx hb dX6_countOthers_15 rfl (lv_at hl 1 rfl) ?_
    refine lv_iload hx hb dX6_countOthers_16 (lv_at hl 4 rfl) ?_
    have M_18 := c_X6_actorIn l D cy h S J hI k i hk (by omega)
    refine cd_roi (va_runV (As := [.int (nI k), .int (nI i)]) (rest := []) ⟨hx, hb, hml, hown, hts⟩ M_18 (cwV 2 hts gX6_countOthers_X6_actorIn rfl rfl rfl (by decide +kernel) ⟨Nat.le_of_ble_eq_true rfl, Nat.le_of_ble_eq_true rfl⟩) ⟨roB.bl, va_recv hK hP (ci := 6) (q0 := 0) rfl rfl, fun U hU hW => ⟨rfl, by rw [hU]; exact hP, hG.warm hW⟩⟩ rfl rfl hl.1 rfl (lv_room (Nat.le_of_ble_eq_true rfl)) dX6_countOthers_18 (by exact ⟨Nat.zero_le _, Nat.zero_le _⟩)) (fun r_18 hr_18 => ?_)
    subst hr_18
    refine lv_aload_n hx hb dX6_countOthers_21 rfl (lv_at hl 0 rfl) ?_
    refine lv_iload_n hx hb dX6_countOthers_22 rfl (lv_at hl 2 rfl) ?_
    refine lv_iload hx hb dX6_countOthers_23 (lv_at hl 4 rfl) ?_
    have M_25 := c_X6_actorIn l D cy h S J hI k2 i hk2 (by omega)
    refine cd_roi (va_runV (As := [.int (nI k2), .int (nI i)]) (rest := [.int (acI S i (k / 2 ^ ((7 - i) * 2) &&& 3))]) ⟨hx, hb, hml, hown, hts⟩ M_25 (cwV 2 hts gX6_countOthers_X6_actorIn rfl rfl rfl (by decide +kernel) ⟨Nat.le_of_ble_eq_true rfl, Nat.le_of_ble_eq_true rfl⟩) ⟨roB.bl, va_recv hK hP (ci := 6) (q0 := 0) rfl rfl, fun U hU hW => ⟨rfl, by rw [hU]; exact hP, hG.warm hW⟩⟩ rfl rfl hl.1 rfl (lv_room (Nat.le_of_ble_eq_true rfl)) dX6_countOthers_25 (by exact ⟨Nat.zero_le _, Nat.zero_le _⟩)) (fun r_25 hr_25 => ?_)
    subst hr_25
    refine lv_icmp_eq (tgt := 34) hx hb dX6_countOthers_28 (by decide) (fun c_28 => ?_) (fun c_28 => ?_)
    · refine lv_iinc (v := nI (i + 1)) (lv' := [(4, .int (nI (i + 1))), (0, .ref (h 0)), (1, .int (nI k)), (2, .int (nI k2)), (3, .int (nI (coN S k k2 i)))]) hx hb dX6_countOthers_34 hl (k := 4) rfl (cd_i1 _) (by decide) rfl (fun ls hl => ?_)
      refine lv_goto (tgt := 5) hx hb dX6_countOthers_37 (by decide) ?_
      have hl : lv_has ls 5 [(4, .int (nI (i + 1))), (0, .ref (h 0)), (1, .int (nI k)), (2, .int (nI k2)), (3, .int (nI (coN S k k2 (i + 1))))] := by rw [← (by rw [coN_e c_28] : (nI (coN S k k2 i) : Int32) = nI (coN S k k2 (i + 1)))]; exact hl
      exact ih_5 (i + 1) (by omega) (by omega) _ (lv_sub hl [1, 2, 3, 4, 0] rfl)
    · refine lv_iinc (v := nI (coN S k k2 i + 1)) (lv' := [(3, .int (nI (coN S k k2 i + 1))), (0, .ref (h 0)), (1, .int (nI k)), (2, .int (nI k2)), (4, .int (nI i))]) hx hb dX6_countOthers_31 hl (k := 3) rfl (cd_i1 _) (by decide) rfl (fun ls hl => ?_)
      refine lv_iinc (v := nI (i + 1)) (lv' := [(4, .int (nI (i + 1))), (3, .int (nI (coN S k k2 i + 1))), (0, .ref (h 0)), (1, .int (nI k)), (2, .int (nI k2))]) hx hb dX6_countOthers_34 hl (k := 4) rfl (cd_i1 _) (by decide) rfl (fun ls hl => ?_)
      refine lv_goto (tgt := 5) hx hb dX6_countOthers_37 (by decide) ?_
      have hl : lv_has ls 5 [(4, .int (nI (i + 1))), (3, .int (nI (coN S k k2 (i + 1)))), (0, .ref (h 0)), (1, .int (nI k)), (2, .int (nI k2))] := by rw [← (by rw [coN_n c_28] : (nI (coN S k k2 i + 1) : Int32) = nI (coN S k k2 (i + 1)))]; exact hl
      exact ih_5 (i + 1) (by omega) (by omega) _ (lv_sub hl [2, 3, 4, 1, 0] rfl)
end
section
/-! the best cast: three searches, one answer -/
/-- x is the least number with P, or -1 -/
def mnO (P : Nat → Prop) (x : Int32) : Prop := (x = -1 ∧ ∀ v, ¬ P v) ∨ ∃ v, v < 1073741824 ∧ x = nI v ∧ P v ∧ ∀ w, P w → v ≤ w
theorem mnO_uniq {P : Nat → Prop} {x y : Int32} (hx : mnO P x) (hy : mnO P y) : x = y := by
  rcases hx with ⟨rfl, h1⟩ | ⟨v, hv, rfl, pv, mv⟩ <;> rcases hy with ⟨rfl, h2⟩ | ⟨w, hw, rfl, pw, mw⟩
  · rfl
  · exact absurd pw (h1 w)
  · exact absurd pv (h2 v)
  · rw [Nat.le_antisymm (mv w pw) (mw v pv)]
theorem mnO_iff {P P' : Nat → Prop} (h : ∀ v, P v ↔ P' v) {x : Int32} (hx : mnO P x) : mnO P' x := by
  have e : P = P' := funext (fun v => propext (h v))
  rw [← e]; exact hx
theorem mnO_dom {P P' : Nat → Prop} {x : Int32} (h1 : ∀ v, P v → P' v) (h2 : ∀ v, P' v → ∃ w, P w ∧ w ≤ v) (hx : mnO P x) : mnO P' x := by
  rcases hx with ⟨rfl, h⟩ | ⟨v, hv, rfl, pv, mv⟩
  · exact Or.inl ⟨rfl, fun v q => by obtain ⟨w, pw, _⟩ := h2 v q; exact h w pw⟩
  · exact Or.inr ⟨v, hv, rfl, h1 v pv, fun w q => by obtain ⟨u, pu, hu⟩ := h2 w q; exact Nat.le_trans (mv u pu) hu⟩
theorem mnO_add {P : Nat → Prop} {x : Int32} (hx : mnO P x) {v1 : Nat} (h1 : v1 < 1073741824) : mnO (fun v => P v ∨ v = v1) (if x = -1 ∨ nI v1 < x then nI v1 else x) := by
  rcases hx with ⟨rfl, h⟩ | ⟨v, hv, rfl, pv, mv⟩
  · rw [if_pos (Or.inl rfl)]
    exact Or.inr ⟨v1, h1, rfl, Or.inr rfl, fun w q => q.elim (fun q => absurd q (h w)) (fun q => Nat.le_of_eq q.symm)⟩
  · by_cases c : v1 < v
    · rw [if_pos (Or.inr ((nI_ltI (by omega) (by omega)).mpr c))]
      exact Or.inr ⟨v1, h1, rfl, Or.inr rfl, fun w q => q.elim (fun q => by have := mv w q; omega) (fun q => by omega)⟩
    · rw [if_neg (fun q => q.elim (m1_ne (by omega)) (fun q => c ((nI_ltI (by omega) (by omega)).mp q)))]
      exact Or.inr ⟨v, hv, rfl, Or.inl pv, fun w q => q.elim (mv w) (fun q => by omega)⟩
/-! what depends on the first ranks alone -/
theorem us_cg {S : qS} {c c' : Nat → Nat} : ∀ {k : Nat}, (∀ p, p < k → c p = c' p) → us S c k = us S c' k
  | 0, _ => rfl
  | k + 1, h => by
    show us S c k ||| _ = us S c' k ||| _
    rw [us_cg (fun p hp => h p (by omega)), h k (by omega)]
theorem ok_cg {S : qS} {m : Nat} {c c' : Nat → Nat} : ∀ {k : Nat}, (∀ p, p < k → c p = c' p) → ok S m c k = ok S m c' k
  | 0, _ => rfl
  | k + 1, h => by
    show (ok S m c k && _) = (ok S m c' k && _)
    rw [ok_cg (fun p hp => h p (by omega)), h k (by omega), us_cg (c := c) (c' := c') (fun p hp => h p (by omega))]
theorem kk_cg {S : qS} {c c' : Nat → Nat} : ∀ {k : Nat}, (∀ p, p < k → c p = c' p) → kk S c k = kk S c' k
  | 0, _ => rfl
  | k + 1, h => by
    show kk S c k + _ = kk S c' k + _
    rw [kk_cg (fun p hp => h p (by omega)), h k (by omega)]
theorem sr_cg {c c' : Nat → Nat} : ∀ {k : Nat}, (∀ p, p < k → c p = c' p) → sr c k = sr c' k
  | 0, _ => rfl
  | k + 1, h => by
    show sr c k + _ = sr c' k + _
    rw [sr_cg (fun p hp => h p (by omega)), h k (by omega)]
theorem wo_cg {S : qS} {c c' : Nat → Nat} : ∀ {k : Nat}, (∀ p, p < k → c p = c' p) → wo S c k = wo S c' k
  | 0, _ => rfl
  | k + 1, h => by
    show wo S c k + _ = wo S c' k + _
    rw [wo_cg (fun p hp => h p (by omega)), h k (by omega)]
theorem ok_s {S : qS} {m : Nat} {c : Nat → Nat} {k : Nat} : ok S m c (k + 1) = true ↔ ok S m c k = true ∧ avB S m (k * 4 + c k) = true ∧ (us S c k).testBit (nv (S 6 (k * 4 + c k))) = false := by
  show (ok S m c k && (avB S m (k * 4 + c k) && !(us S c k).testBit (nv (S 6 (k * 4 + c k))))) = true ↔ _
  rw [Bool.and_eq_true, Bool.and_eq_true, Bool.not_eq_true']
theorem pcn_or (x a : Nat) : ∀ k, pcn k (x ||| 2 ^ a) = pcn k x + (if a < k ∧ x.testBit a = false then 1 else 0)
  | 0 => by simp [pcn]
  | k + 1 => by
    have ih := pcn_or x a k
    show pcn k (x ||| 2 ^ a) + (if (x ||| 2 ^ a).testBit k = true then 1 else 0) = pcn k x + (if x.testBit k = true then 1 else 0) + _
    rw [ih, Nat.testBit_or, Nat.testBit_two_pow]
    by_cases e : a = k
    · subst e
      rw [if_neg (fun q => absurd q.1 (Nat.lt_irrefl a))]
      cases h : x.testBit a <;> simp
    · have e1 : decide (a = k) = false := decide_eq_false e
      rw [e1, Bool.or_false]
      generalize (if x.testBit k = true then 1 else 0) = z
      by_cases h : a < k ∧ x.testBit a = false
      · have h2 : a < k + 1 ∧ x.testBit a = false := ⟨by omega, h.2⟩
        rw [if_pos h, if_pos h2]; omega
      · have h2 : ¬ (a < k + 1 ∧ x.testBit a = false) := fun q => h ⟨by omega, q.2⟩
        rw [if_neg h, if_neg h2]; omega
theorem lt_or {x a : Nat} (h : x.testBit a = false) : x < x ||| 2 ^ a := by
  have h1 : x ≤ x ||| 2 ^ a := Nat.left_le_or
  have h2 : x ≠ x ||| 2 ^ a := fun q => by
    have h3 := congrArg (fun y => y.testBit a) q
    simp only [Nat.testBit_or, Nat.testBit_two_pow, h] at h3
    simp at h3
  omega
/-- a cast of the first k parts -/
def Pf (S : qS) (m n : Nat) (c : Nat → Nat) (k : Nat) : Prop := k ≤ n ∧ (∀ p, p < k → c p < 4) ∧ ok S m c k = true
theorem Pf.down {S : qS} {m n k : Nat} {c : Nat → Nat} (h : Pf S m n c (k + 1)) : Pf S m n c k := ⟨by have := h.1; omega, fun p hp => h.2.1 p (by omega), (ok_s.mp h.2.2).1⟩
theorem Pf.ac {S : qS} {m n k : Nat} {c : Nat → Nat} (hI : Inv S) (hn : n ≤ 8) (h : Pf S m n c (k + 1)) : nv (S 6 (k * 4 + c k)) < 12 := by
  have h1 := h.1
  have h2 := h.2.1 k (by omega)
  exact (avB_in hI (by omega) (ok_s.mp h.2.2).2.1).2
theorem us_pc {S : qS} {m n : Nat} {c : Nat → Nat} (hI : Inv S) (hn : n ≤ 8) : ∀ {k : Nat}, Pf S m n c k → pcn 12 (us S c k) = k
  | 0, _ => by show pcn 12 0 = 0; decide
  | k + 1, h => by
    have ih := us_pc hI hn h.down
    show pcn 12 (us S c k ||| 2 ^ nv (S 6 (k * 4 + c k))) = k + 1
    rw [pcn_or, ih, if_pos ⟨h.ac hI hn, (ok_s.mp h.2.2).2.2⟩]
theorem us_gt {S : qS} {m n k : Nat} {c : Nat → Nat} (h : Pf S m n c (k + 1)) : us S c k < us S c (k + 1) := lt_or (ok_s.mp h.2.2).2.2
theorem us_lt {S : qS} {m n : Nat} {c : Nat → Nat} (hI : Inv S) (hn : n ≤ 8) : ∀ {k : Nat}, Pf S m n c k → us S c k < 4096
  | 0, _ => by show 0 < 4096; decide
  | k + 1, h => or_lt (n := 12) (us_lt hI hn h.down) (h.ac hI hn)
theorem ofB_pow (S : qS) (m : Nat) : ∀ N, ∃ e, ofB S m N = 2 ^ e ∧ ∀ i, i < N → avB S m i = true → nv (S 6 i) < e
  | 0 => ⟨0, rfl, fun i h => absurd h (Nat.not_lt_zero i)⟩
  | N + 1 => by
    obtain ⟨e, he, hi⟩ := ofB_pow S m N
    unfold ofB
    split
    · rename_i q
      rw [he, show 2 * 2 ^ nv (S 6 N) = 2 ^ (nv (S 6 N) + 1) by rw [Nat.pow_succ, Nat.mul_comm]]
      rcases Nat.lt_or_ge (nv (S 6 N)) e with h | h
      · rw [Nat.max_eq_left (Nat.pow_le_pow_right (by decide) h)]
        exact ⟨e, rfl, fun i h1 h2 => by
          rcases Nat.lt_or_ge i N with h3 | h3
          · exact hi i h3 h2
          · have : i = N := by omega
            rw [this]; exact h⟩
      · rw [Nat.max_eq_right (Nat.pow_le_pow_right (by decide) (by omega))]
        exact ⟨_, rfl, fun i h1 h2 => by
          rcases Nat.lt_or_ge i N with h3 | h3
          · have := hi i h3 h2; omega
          · have : i = N := by omega
            rw [this]; omega⟩
    · rename_i q
      exact ⟨e, he, fun i h1 h2 => by
        rcases Nat.lt_or_ge i N with h3 | h3
        · exact hi i h3 h2
        · have : i = N := by omega
          rw [this] at h2; exact absurd h2 q⟩
theorem us_ltB {S : qS} {m n : Nat} {c : Nat → Nat} : ∀ {k : Nat}, Pf S m n c k → us S c k < ofB S m (n * 4) := by
  obtain ⟨e, he, hi⟩ := ofB_pow S m (n * 4)
  rw [he]
  intro k
  induction k with
  | zero => intro _; exact Nat.pow_pos (by decide)
  | succ k ih =>
    intro h
    have h1 := h.1
    have h2 := h.2.1 k (by omega)
    exact or_lt (ih h.down) (hi _ (by omega) (ok_s.mp h.2.2).2.1)
theorem ky_le (S : qS) (i : Nat) : ky S i ≤ 3260416 := by
  unfold ky
  have h1 : wk S i ≤ 1 := by unfold wk; split <;> omega
  have h2 : 2 ^ ((7 - i / 4) * 2) ≤ 2 ^ 14 := Nat.pow_le_pow_right (by decide) (by omega)
  have h3 : i % 4 ≤ 3 := by omega
  have h4 : i % 4 * 2 ^ ((7 - i / 4) * 2) ≤ 3 * 2 ^ 14 := Nat.mul_le_mul h3 h2
  omega
theorem kk_le (S : qS) (c : Nat → Nat) : ∀ k, kk S c k ≤ k * 3260416
  | 0 => Nat.zero_le _
  | k + 1 => by
    have := kk_le S c k
    have := ky_le S (k * 4 + c k)
    show kk S c k + ky S (k * 4 + c k) ≤ _
    omega
theorem kk_lt {S : qS} {c : Nat → Nat} {k : Nat} (h : k ≤ 8) : kk S c k < 33554432 := by
  have := kk_le S c k
  omega
/-! the search by sets -/
def Cn (S : qS) (m n s t v : Nat) : Prop := s ≤ t ∧ ∃ (c : Nat → Nat) (k : Nat), Pf S m n c k ∧ us S c k = t ∧ (k = 0 ∨ us S c (k - 1) < s) ∧ kk S c k = v
def Fn (S : qS) (m n s v : Nat) : Prop := ∃ c : Nat → Nat, Pf S m n c n ∧ us S c n < s ∧ kk S c n = v
def Fs (S : qS) (m n s v : Nat) : Prop := ∃ (c : Nat → Nat) (k : Nat), Pf S m n c k ∧ us S c k = s ∧ kk S c k = v
def Fl (S : qS) (m n v : Nat) : Prop := ∃ c : Nat → Nat, Pf S m n c n ∧ kk S c n = v
/-- what the rows of the search hold -/
def rwOK (S : qS) (m n : Nat) (A K : Nat → Int32) : Prop := ∀ i, i < n * 4 → (avB S m i = true → A i = nI (nv (S 6 i)) ∧ K i = nI (ky S i)) ∧ (avB S m i = false → A i = -1)
theorem cp_inv {S : qS} {m n k s v0 : Nat} {A K f : Nat → Int32} {P : Nat → Nat → Prop} (hI : Inv S) (hn : n ≤ 8) (hk : k < n) (hA : rwOK S m n A K) (hs : s < 4096) (hv : v0 < 33554432) (hP : ∀ t, t < 4096 → mnO (P t) (f t)) :
    ∀ r, r ≤ 4 → (∀ t, t < 4096 → mnO (fun v => P t v ∨ ∃ q, q < r ∧ avB S m (k * 4 + q) = true ∧ s.testBit (nv (S 6 (k * 4 + q))) = false ∧ s ||| 2 ^ nv (S 6 (k * 4 + q)) = t ∧ v = v0 + ky S (k * 4 + q)) (cpF A K k s (nI v0) r f t)) ∧ ∀ t, 4096 ≤ t → cpF A K k s (nI v0) r f t = f t := by
  intro r
  induction r with
  | zero => exact fun _ => ⟨fun t ht => mnO_iff (fun v => ⟨Or.inl, fun q => q.elim id (fun ⟨q, h, _⟩ => absurd h (Nat.not_lt_zero q))⟩) (hP t ht), fun t _ => rfl⟩
  | succ r ih =>
    intro hr
    obtain ⟨ih1, ih2⟩ := ih (by omega)
    rw [cpF_s]
    generalize cpF A K k s (nI v0) r f = g at ih1 ih2
    have same : avB S m (k * 4 + r) = false ∨ s.testBit (nv (S 6 (k * 4 + r))) = true → ∀ t v, (P t v ∨ ∃ q, q < r ∧ avB S m (k * 4 + q) = true ∧ s.testBit (nv (S 6 (k * 4 + q))) = false ∧ s ||| 2 ^ nv (S 6 (k * 4 + q)) = t ∧ v = v0 + ky S (k * 4 + q)) ↔ (P t v ∨ ∃ q, q < r + 1 ∧ avB S m (k * 4 + q) = true ∧ s.testBit (nv (S 6 (k * 4 + q))) = false ∧ s ||| 2 ^ nv (S 6 (k * 4 + q)) = t ∧ v = v0 + ky S (k * 4 + q)) := by
      intro hno t v
      refine ⟨fun q => q.imp id (fun ⟨q, h1, h2⟩ => ⟨q, by omega, h2⟩), fun q => q.imp id (fun ⟨q, h1, h2, h3, h4⟩ => ⟨q, ?_, h2, h3, h4⟩)⟩
      rcases Nat.lt_or_ge q r with h5 | h5
      · exact h5
      · have e : q = r := by omega
        subst e
        rcases hno with h | h
        · rw [h] at h2; exact Bool.noConfusion h2
        · rw [h] at h3; exact Bool.noConfusion h3
    cases hav : avB S m (k * 4 + r) with
    | false =>
      rw [cpS, if_pos (Or.inl ((hA _ (by omega)).2 hav))]
      exact ⟨fun t ht => mnO_iff (same (Or.inl hav) t) (ih1 t ht), ih2⟩
    | true =>
      obtain ⟨e1, e2⟩ := (hA _ (by omega)).1 hav
      have ha := (avB_in hI (by omega) hav).2
      cases hbt : s.testBit (nv (S 6 (k * 4 + r))) with
      | true =>
        rw [cpS, if_pos (Or.inr (by rw [e1, nv_nI (by omega)]; exact hbt))]
        exact ⟨fun t ht => mnO_iff (same (Or.inr hbt) t) (ih1 t ht), ih2⟩
      | false =>
        have hw := or_lt (n := 12) hs ha
        have hky := ky_le S (k * 4 + r)
        have ec : cpS A K k s (nI v0) r g = fun t => if t = s ||| 2 ^ nv (S 6 (k * 4 + r)) then (if g (s ||| 2 ^ nv (S 6 (k * 4 + r))) = -1 ∨ nI (v0 + ky S (k * 4 + r)) < g (s ||| 2 ^ nv (S 6 (k * 4 + r))) then nI (v0 + ky S (k * 4 + r)) else g (s ||| 2 ^ nv (S 6 (k * 4 + r)))) else g t := by
          rw [cpS, if_neg (fun q => q.elim (fun q => m1_ne (by omega) (e1 ▸ q)) (fun q => by rw [e1, nv_nI (by omega), hbt] at q; exact Bool.noConfusion q)), e1, nv_nI (by omega), e2, nI_add]
          funext t
          split
          · unfold upd
            split
            · rfl
            · rfl
          · split
            · rename_i h; rw [h]
            · rfl
        rw [ec]
        refine ⟨fun t ht => ?_, fun t ht => ?_⟩
        · show mnO _ (if t = s ||| 2 ^ nv (S 6 (k * 4 + r)) then _ else g t)
          split
          · rename_i et
            have h1 := mnO_add (ih1 _ hw) (v1 := v0 + ky S (k * 4 + r)) (by omega)
            rw [et]
            refine mnO_iff (fun v => ⟨fun q => ?_, fun q => ?_⟩) h1
            · rcases q with (q | ⟨q, h2, h3⟩) | q
              · exact Or.inl q
              · exact Or.inr ⟨q, by omega, h3⟩
              · exact Or.inr ⟨r, by omega, hav, hbt, rfl, q⟩
            · rcases q with q | ⟨q, h2, h3, h4, h5, h6⟩
              · exact Or.inl (Or.inl q)
              · rcases Nat.lt_or_ge q r with h7 | h7
                · exact Or.inl (Or.inr ⟨q, h7, h3, h4, h5, h6⟩)
                · have e : q = r := by omega
                  subst e
                  exact Or.inr h6
          · rename_i et
            refine mnO_iff (fun v => ⟨fun q => q.imp id (fun ⟨q, h2, h3⟩ => ⟨q, by omega, h3⟩), fun q => q.imp id (fun ⟨q, h2, h3, h4, h5, h6⟩ => ⟨q, ?_, h3, h4, h5, h6⟩)⟩) (ih1 t ht)
            rcases Nat.lt_or_ge q r with h7 | h7
            · exact h7
            · have e : q = r := by omega
              subst e
              exact absurd h5.symm et
        · show (if t = s ||| 2 ^ nv (S 6 (k * 4 + r)) then _ else g t) = f t
          rw [if_neg (by omega)]
          exact ih2 t ht
theorem lk_inv {S : qS} {m n : Nat} {A K F : Nat → Int32} (hI : Inv S) (hn : n ≤ 8) (hA : rwOK S m n A K) (hF : ∀ i, i < 4096 → F i = -1) :
    ∀ s, s ≤ ofB S m (n * 4) → (∀ t, t < 4096 → mnO (Cn S m n s t) ((lkF A K F n s).1 t)) ∧ (∀ t, 4096 ≤ t → (lkF A K F n s).1 t = F t) ∧ mnO (Fn S m n s) (lkF A K F n s).2 := by
  intro s
  induction s with
  | zero =>
    intro _
    refine ⟨fun t ht => ?_, fun t ht => ?_, Or.inl ⟨rfl, fun v ⟨c, _, h, _⟩ => absurd h (Nat.not_lt_zero _)⟩⟩
    · show mnO _ (upd F 0 (nI 0) t)
      by_cases e : t = 0
      · subst e
        rw [upd_s]
        refine Or.inr ⟨0, by decide, rfl, ⟨Nat.le_refl _, fun _ => 0, 0, ⟨Nat.zero_le _, fun p hp => absurd hp (Nat.not_lt_zero p), rfl⟩, rfl, Or.inl rfl, rfl⟩, fun w _ => Nat.zero_le w⟩
      · rw [upd_n F _ e, hF t ht]
        refine Or.inl ⟨rfl, fun v ⟨_, c, k, _, h2, h3, _⟩ => ?_⟩
        rcases h3 with h3 | h3
        · subst h3; exact e h2.symm
        · exact absurd h3 (Nat.not_lt_zero _)
    · show upd F 0 (nI 0) t = F t
      exact upd_n F _ (by omega)
  | succ s ih =>
    intro hs
    obtain ⟨i1, i2, i3⟩ := ih (by omega)
    have hsB := ofB_le hI m (n * 4) (by omega)
    have hs4 : s < 4096 := by omega
    rw [lkF_s]
    generalize hT : lkF A K F n s = T at i1 i2 i3
    have hcs : mnO (Fs S m n s) (T.1 s) := by
      refine mnO_iff (fun v => ⟨fun ⟨_, c, k, h1, h2, _, h4⟩ => ⟨c, k, h1, h2, h4⟩, fun ⟨c, k, h1, h2, h4⟩ => ⟨Nat.le_refl _, c, k, h1, h2, ?_, h4⟩⟩) (i1 s hs4)
      cases k with
      | zero => exact Or.inl rfl
      | succ k => exact Or.inr (by rw [← h2]; exact us_gt h1)
    have cs_no : ∀ t v, t ≠ s → ((∀ c k, Pf S m n c (k + 1) → us S c k = s → us S c (k + 1) = t → kk S c (k + 1) = v → False)) → (Cn S m n s t v ↔ Cn S m n (s + 1) t v) := by
      intro t v hts hx
      refine ⟨fun ⟨h0, c, k, h1, h2, h3, h4⟩ => ⟨by omega, c, k, h1, h2, h3.imp id (fun q => by omega), h4⟩, fun ⟨h0, c, k, h1, h2, h3, h4⟩ => ⟨by omega, c, k, h1, h2, ?_, h4⟩⟩
      cases k with
      | zero => exact Or.inl rfl
      | succ k =>
        refine h3.imp id (fun q => ?_)
        simp only [Nat.add_sub_cancel] at q ⊢
        rcases Nat.lt_or_ge (us S c k) s with h5 | h5
        · exact h5
        · exact (hx c k h1 (by omega) h2 h4).elim
    have cs_at : ∀ v, ¬ Cn S m n (s + 1) s v := fun v h => absurd h.1 (by omega)
    rcases hcs with ⟨e, hno⟩ | ⟨v0, hv0, e, ⟨c0, k0, hc0, hu0, hk0⟩, hmin⟩
    · rw [lkS, if_pos e]
      refine ⟨fun t ht => ?_, fun t ht => ?_, ?_⟩
      · show mnO _ (upd T.1 s (-1) t)
        by_cases et : t = s
        · subst et; rw [upd_s]; exact Or.inl ⟨rfl, cs_at⟩
        · rw [upd_n _ _ et]
          exact mnO_iff (fun v => cs_no t v et (fun c k h1 h2 _ _ => hno _ ⟨c, k, h1.down, h2, rfl⟩)) (i1 t ht)
      · show upd T.1 s (-1) t = F t
        rw [upd_n _ _ (by omega)]; exact i2 t ht
      · refine mnO_iff (fun v => ⟨fun ⟨c, h1, h2, h3⟩ => ⟨c, h1, by omega, h3⟩, fun ⟨c, h1, h2, h3⟩ => ⟨c, h1, ?_, h3⟩⟩) i3
        rcases Nat.lt_or_ge (us S c n) s with h5 | h5
        · exact h5
        · exact (hno _ ⟨c, n, h1, by omega, rfl⟩).elim
    · have hne : ¬ T.1 s = -1 := by rw [e]; exact m1_ne (by omega)
      have hpc : pcn 12 s = k0 := by rw [← hu0]; exact us_pc hI hn hc0
      have hv0b : v0 < 33554432 := by rw [← hk0]; exact kk_lt (by have := hc0.1; omega)
      have hlen : ∀ c k, Pf S m n c k → us S c k = s → k = k0 := fun c k h1 h2 => by rw [← hpc, ← h2, us_pc hI hn h1]
      rw [lkS, if_neg hne, hpc]
      by_cases hkn : k0 < n
      · rw [if_pos hkn, e]
        have hbase : ∀ t, t < 4096 → mnO (fun v => t ≠ s ∧ Cn S m n s t v) (upd T.1 s (-1) t) := by
          intro t ht
          by_cases et : t = s
          · subst et; rw [upd_s]; exact Or.inl ⟨rfl, fun v q => q.1 rfl⟩
          · rw [upd_n _ _ et]; exact mnO_iff (fun v => ⟨fun q => ⟨et, q⟩, fun q => q.2⟩) (i1 t ht)
        obtain ⟨j1, j2⟩ := cp_inv hI hn hkn hA hs4 hv0b hbase 4 (Nat.le_refl 4)
        refine ⟨fun t ht => ?_, fun t ht => ?_, ?_⟩
        · refine mnO_dom (fun v q => ?_) (fun v q => ?_) (j1 t ht)
          · rcases q with ⟨q1, q0, c, k, h1, h2, h3, h4⟩ | ⟨q, h1, h2, h3, h4, h5⟩
            · exact ⟨by omega, c, k, h1, h2, h3.imp id (fun q => by omega), h4⟩
            · have hlt := lt_or h3
              have hcq : ∀ p, p < k0 → (fun p => if p = k0 then q else c0 p) p = c0 p := fun p hp => if_neg (by omega)
              have hus : us S (fun p => if p = k0 then q else c0 p) k0 = s := by rw [us_cg hcq, hu0]
              refine ⟨by omega, fun p => if p = k0 then q else c0 p, k0 + 1, ⟨by omega, fun p hp => ?_, ?_⟩, ?_, Or.inr ?_, ?_⟩
              · show (if p = k0 then q else c0 p) < 4
                split
                · exact h1
                · exact hc0.2.1 p (by omega)
              · rw [ok_s, ok_cg hcq, hus]
                simp only [if_true]
                exact ⟨hc0.2.2, h2, h3⟩
              · show us S _ k0 ||| 2 ^ nv (S 6 (k0 * 4 + (if k0 = k0 then q else c0 k0))) = t
                rw [hus, if_pos rfl]; exact h4
              · rw [Nat.add_sub_cancel, hus]; exact Nat.lt_succ_self s
              · show kk S _ k0 + ky S (k0 * 4 + (if k0 = k0 then q else c0 k0)) = v
                rw [kk_cg hcq, hk0, if_pos rfl]; exact h5.symm
          · obtain ⟨q0, c, k, h1, h2, h3, h4⟩ := q
            by_cases hnew : ∃ k', k = k' + 1 ∧ us S c k' = s
            · obtain ⟨k', rfl, hu⟩ := hnew
              have ek := hlen c k' h1.down hu
              subst ek
              have o := ok_s.mp h1.2.2
              refine ⟨v0 + ky S (k' * 4 + c k'), Or.inr ⟨c k', h1.2.1 k' (by omega), o.2.1, by rw [← hu]; exact o.2.2, by rw [← hu]; exact h2, rfl⟩, ?_⟩
              have h5 := hmin _ ⟨c, k', h1.down, hu, rfl⟩
              rw [← h4]
              show v0 + ky S (k' * 4 + c k') ≤ kk S c k' + ky S (k' * 4 + c k')
              omega
            · refine ⟨v, Or.inl ⟨by omega, by omega, c, k, h1, h2, ?_, h4⟩, Nat.le_refl v⟩
              cases k with
              | zero => exact Or.inl rfl
              | succ k' =>
                refine h3.imp id (fun q => ?_)
                simp only [Nat.add_sub_cancel] at q ⊢
                rcases Nat.lt_or_ge (us S c k') s with h6 | h6
                · exact h6
                · exact (hnew ⟨k', rfl, by omega⟩).elim
        · show cpF A K k0 s (nI v0) 4 (upd T.1 s (-1)) t = F t
          rw [j2 t ht, upd_n _ _ (by omega)]; exact i2 t ht
        · refine mnO_iff (fun v => ⟨fun ⟨c, h1, h2, h3⟩ => ⟨c, h1, by omega, h3⟩, fun ⟨c, h1, h2, h3⟩ => ⟨c, h1, ?_, h3⟩⟩) i3
          rcases Nat.lt_or_ge (us S c n) s with h5 | h5
          · exact h5
          · have := hlen c n h1 (by omega)
            omega
      · rw [if_neg hkn]
        have ekn : k0 = n := by have := hc0.1; omega
        refine ⟨fun t ht => ?_, fun t ht => ?_, ?_⟩
        · show mnO _ (upd T.1 s (-1) t)
          by_cases et : t = s
          · subst et; rw [upd_s]; exact Or.inl ⟨rfl, cs_at⟩
          · rw [upd_n _ _ et]
            refine mnO_iff (fun v => cs_no t v et (fun c k h1 h2 _ _ => ?_)) (i1 t ht)
            have h3 := hlen c k h1.down h2
            have h4 := h1.1
            omega
        · show upd T.1 s (-1) t = F t
          rw [upd_n _ _ (by omega)]; exact i2 t ht
        · show mnO _ (if T.2 = -1 ∨ T.1 s < T.2 then T.1 s else T.2)
          rw [e]
          refine mnO_dom (fun v q => ?_) (fun v q => ?_) (mnO_add i3 hv0)
          · rcases q with ⟨c, h1, h2, h3⟩ | q
            · exact ⟨c, h1, by omega, h3⟩
            · subst q; subst ekn
              exact ⟨c0, hc0, by omega, hk0⟩
          · obtain ⟨c, h1, h2, h3⟩ := q
            rcases Nat.lt_or_ge (us S c n) s with h5 | h5
            · exact ⟨v, Or.inl ⟨c, h1, h5, h3⟩, Nat.le_refl v⟩
            · exact ⟨v0, Or.inr rfl, hmin v ⟨c, n, h1, by omega, h3⟩⟩
theorem rw_ok {S : qS} (m : Nat) {n : Nat} (hn : n ≤ 8) (f g : Nat → Int32) (hf : ∀ i, i < 32 → f i = -1) : rwOK S m n (ofA S m f (n * 4)) (ofK S m g (n * 4)) := by
  intro i hi
  refine ⟨fun h => ⟨if_pos ⟨hi, h⟩, if_pos ⟨hi, h⟩⟩, fun h => ?_⟩
  unfold ofA
  rw [if_neg (fun q => by rw [h] at q; exact Bool.noConfusion q.2)]
  exact hf i (by omega)
theorem bc_1 {S J : qS} {m : Nat} (hI : Inv S) (hm : m < 4096) (hJ : jk J) (f g : Nat → Int32) (hf : ∀ i, i < 32 → f i = -1) :
    (lkF (ofA S m f (nv (S 27 0) * 4)) (ofK S m g (nv (S 27 0) * 4)) (J 15) (nv (S 27 0)) (ofB S m (nv (S 27 0) * 4))).1 = J 15 := by
  have hn : nv (S 27 0) ≤ 8 := by have := (iv_27 hI).1.2; omega
  obtain ⟨h1, h2, -⟩ := lk_inv hI hn (rw_ok m hn f g hf) hJ _ (Nat.le_refl _)
  funext t
  rcases Nat.lt_or_ge t 4096 with ht | ht
  · rw [hJ t ht]
    rcases h1 t ht with ⟨e, -⟩ | ⟨v, -, -, ⟨q, c, k, hc, hu, -⟩, -⟩
    · exact e
    · have := us_ltB hc
      omega
  · exact h2 t ht
theorem bc_f {S J : qS} {m : Nat} (hI : Inv S) (hJ : jk J) (f g : Nat → Int32) (hf : ∀ i, i < 32 → f i = -1) :
    mnO (Fl S m (nv (S 27 0))) (lkF (ofA S m f (nv (S 27 0) * 4)) (ofK S m g (nv (S 27 0) * 4)) (J 15) (nv (S 27 0)) (ofB S m (nv (S 27 0) * 4))).2 := by
  have hn : nv (S 27 0) ≤ 8 := by have := (iv_27 hI).1.2; omega
  obtain ⟨-, -, h3⟩ := lk_inv hI hn (rw_ok m hn f g hf) hJ _ (Nat.le_refl _)
  exact mnO_iff (fun v => ⟨fun ⟨c, h1, _, h4⟩ => ⟨c, h1, h4⟩, fun ⟨c, h1, h4⟩ => ⟨c, h1, us_ltB h1, h4⟩⟩) h3
/-! casts as numbers -/
def lw (c : Nat → Nat) : Nat → Nat
  | 0 => 0
  | k + 1 => lw c k + c k * 2 ^ ((7 - k) * 2)
def cdn (c : Nat → Nat) : Nat → Nat
  | 0 => 0
  | k + 1 => cdn c k * 4 + c k
theorem cdn_lt {c : Nat → Nat} : ∀ {k : Nat}, (∀ p, p < k → c p < 4) → cdn c k < 4 ^ k
  | 0, _ => by show 0 < 1; decide
  | k + 1, h => by
    have h1 := cdn_lt (c := c) (k := k) (fun p hp => h p (by omega))
    have h2 := h k (by omega)
    show cdn c k * 4 + c k < 4 ^ (k + 1)
    rw [Nat.pow_succ]
    omega
theorem cdn_at {c : Nat → Nat} : ∀ {k : Nat}, (∀ p, p < k → c p < 4) → ∀ p, p < k → dg k (cdn c k) p = c p
  | 0, _, p, hp => absurd hp (Nat.not_lt_zero p)
  | k + 1, h, p, hp => by
    have h2 := h k (by omega)
    show (cdn c k * 4 + c k) / 4 ^ (k + 1 - 1 - p) % 4 = c p
    rcases Nat.lt_or_ge p k with q | q
    · have ih := cdn_at (c := c) (k := k) (fun p hp => h p (by omega)) p q
      rw [show k + 1 - 1 - p = (k - 1 - p) + 1 by omega, Nat.pow_succ, Nat.mul_comm (4 ^ (k - 1 - p)) 4, ← Nat.div_div_eq_div_mul, show (cdn c k * 4 + c k) / 4 = cdn c k by omega]
      exact ih
    · have e : p = k := by omega
      subst e
      rw [show p + 1 - 1 - p = 0 by omega, Nat.pow_zero, Nat.div_one]
      omega
theorem p24 (k : Nat) : 2 ^ (k * 2) = 4 ^ k := by rw [Nat.mul_comm, Nat.pow_mul]
theorem ky_at (S : qS) {p r : Nat} (h : r < 4) : ky S (p * 4 + r) = r * 2 ^ 20 + wk S (p * 4 + r) * 2 ^ 16 + r * 2 ^ ((7 - p) * 2) := by
  unfold ky; rw [(i4 h).1, (i4 h).2]
theorem kk_eq {S : qS} {c : Nat → Nat} : ∀ {k : Nat}, (∀ p, p < k → c p < 4) → kk S c k = sr c k * 1048576 + wo S c k * 65536 + lw c k
  | 0, _ => by show 0 = 0 * 1048576 + 0 * 65536 + 0; omega
  | k + 1, h => by
    have ih := kk_eq (S := S) (c := c) (k := k) (fun p hp => h p (by omega))
    show kk S c k + ky S (k * 4 + c k) = (sr c k + c k) * 1048576 + (wo S c k + wk S (k * 4 + c k)) * 65536 + (lw c k + c k * 2 ^ ((7 - k) * 2))
    rw [ih, ky_at S (h k (by omega))]
    generalize c k * 2 ^ ((7 - k) * 2) = X
    omega
theorem wo_le (S : qS) (c : Nat → Nat) : ∀ k, wo S c k ≤ k
  | 0 => Nat.le_refl 0
  | k + 1 => by
    have := wo_le S c k
    have h1 : wk S (k * 4 + c k) ≤ 1 := by unfold wk; split <;> omega
    show wo S c k + wk S (k * 4 + c k) ≤ _
    omega
theorem sr_le {c : Nat → Nat} : ∀ {k : Nat}, (∀ p, p < k → c p < 4) → sr c k ≤ 3 * k
  | 0, _ => Nat.le_refl 0
  | k + 1, h => by
    have := sr_le (c := c) (k := k) (fun p hp => h p (by omega))
    have := h k (by omega)
    show sr c k + c k ≤ _
    omega
theorem dg_lt (n b p : Nat) : dg n b p < 4 := Nat.mod_lt _ (by decide)
theorem lw_dg {n b : Nat} (hn : n ≤ 8) (hb : b < 4 ^ n) : ∀ k, k ≤ n → lw (dg n b) k = b / 4 ^ (n - k) * 4 ^ (8 - k)
  | 0, _ => by rw [Nat.sub_zero, Nat.div_eq_of_lt hb, Nat.zero_mul]; rfl
  | k + 1, h => by
    have ih := lw_dg hn hb k (by omega)
    show lw (dg n b) k + b / 4 ^ (n - 1 - k) % 4 * 2 ^ ((7 - k) * 2) = _
    rw [ih, p24, show n - k = (n - 1 - k) + 1 by omega, Nat.pow_succ, ← Nat.div_div_eq_div_mul, show 8 - k = (7 - k) + 1 by omega, Nat.pow_succ, show n - (k + 1) = n - 1 - k by omega, show 8 - (k + 1) = 7 - k by omega]
    generalize b / 4 ^ (n - 1 - k) = y
    generalize 4 ^ (7 - k) = z
    rw [← Nat.mul_assoc, Nat.mul_right_comm, ← Nat.add_mul]
    congr 1
    omega
theorem lw_n {n b : Nat} (hn : n ≤ 8) (hb : b < 4 ^ n) : lw (dg n b) n = b * 4 ^ (8 - n) := by
  rw [lw_dg hn hb n (Nat.le_refl n), Nat.sub_self, Nat.pow_zero, Nat.div_one]
theorem b4_lt {n b : Nat} (hn : n ≤ 8) (hb : b < 4 ^ n) : b * 4 ^ (8 - n) < 65536 := by
  have h1 : b * 4 ^ (8 - n) < 4 ^ n * 4 ^ (8 - n) := Nat.mul_lt_mul_of_pos_right hb (Nat.pow_pos (by decide))
  rw [← Nat.pow_add, show n + (8 - n) = 8 by omega] at h1
  exact h1
theorem bcR_at (S : qS) (m n : Nat) : ∀ N, (bcR S m n N = none → ∀ c, c < N → ok S m (dg n c) n = false) ∧ ∀ b, bcR S m n N = some b → b < N ∧ ok S m (dg n b) n = true ∧
    ∀ c, c < N → ok S m (dg n c) n = true → sr (dg n b) n < sr (dg n c) n ∨ sr (dg n b) n = sr (dg n c) n ∧ (wo S (dg n b) n < wo S (dg n c) n ∨ wo S (dg n b) n = wo S (dg n c) n ∧ b ≤ c)
  | 0 => ⟨fun _ c h => absurd h (Nat.not_lt_zero c), fun b h => by cases h⟩
  | N + 1 => by
    obtain ⟨i1, i2⟩ := bcR_at S m n N
    have last : ∀ {c : Nat}, c < N + 1 → c < N ∨ c = N := fun h => by omega
    unfold bcR
    cases hok : ok S m (dg n N) n with
    | false =>
      rw [if_neg (by decide)]
      refine ⟨fun h c hc => ?_, fun b h => ?_⟩
      · rcases last hc with q | q
        · exact i1 h c q
        · rw [q]; exact hok
      · obtain ⟨h1, h2, h3⟩ := i2 b h
        refine ⟨by omega, h2, fun c hc ho => ?_⟩
        rcases last hc with q | q
        · exact h3 c q ho
        · rw [q, hok] at ho; exact Bool.noConfusion ho
    | true =>
      rw [if_pos rfl]
      cases hb : bcR S m n N with
      | none =>
        refine ⟨fun h => by (cases h), fun b h => ?_⟩
        cases h
        refine ⟨by omega, hok, fun c hc ho => ?_⟩
        rcases last hc with q | q
        · rw [i1 hb c q] at ho; exact Bool.noConfusion ho
        · rw [q]; exact Or.inr ⟨rfl, Or.inr ⟨rfl, Nat.le_refl _⟩⟩
      | some b0 =>
        obtain ⟨h1, h2, h3⟩ := i2 b0 hb
        dsimp only
        split
        · rename_i hbt
          refine ⟨fun h => by (cases h), fun b h => ?_⟩
          cases h
          refine ⟨by omega, hok, fun c hc ho => ?_⟩
          rcases last hc with q | q
          · have := h3 c q ho
            omega
          · rw [q]; exact Or.inr ⟨rfl, Or.inr ⟨rfl, Nat.le_refl _⟩⟩
        · rename_i hbt
          refine ⟨fun h => by (cases h), fun b h => ?_⟩
          cases h
          refine ⟨by omega, h2, fun c hc ho => ?_⟩
          rcases last hc with q | q
          · exact h3 c q ho
          · rw [q]; omega
/-- what the best cast is, for every cast -/
theorem bc_none {S : qS} {m : Nat} (h : bc S m = none) (c : Nat → Nat) : ¬ Pf S m (nv (S 27 0)) c (nv (S 27 0)) := fun hc => by
  have h1 := (bcR_at S m (nv (S 27 0)) _).1 h (cdn c (nv (S 27 0))) (cdn_lt hc.2.1)
  rw [ok_cg (cdn_at hc.2.1), hc.2.2] at h1
  exact Bool.noConfusion h1
theorem bc_some {S : qS} {m b : Nat} (h : bc S m = some b) : b < 4 ^ nv (S 27 0) ∧ Pf S m (nv (S 27 0)) (dg (nv (S 27 0)) b) (nv (S 27 0)) ∧ ∀ c, Pf S m (nv (S 27 0)) c (nv (S 27 0)) →
    sr (dg (nv (S 27 0)) b) (nv (S 27 0)) < sr c (nv (S 27 0)) ∨ sr (dg (nv (S 27 0)) b) (nv (S 27 0)) = sr c (nv (S 27 0)) ∧ (wo S (dg (nv (S 27 0)) b) (nv (S 27 0)) < wo S c (nv (S 27 0)) ∨ wo S (dg (nv (S 27 0)) b) (nv (S 27 0)) = wo S c (nv (S 27 0)) ∧ b ≤ cdn c (nv (S 27 0))) := by
  obtain ⟨h1, h2, h3⟩ := (bcR_at S m (nv (S 27 0)) _).2 b h
  refine ⟨h1, ⟨Nat.le_refl _, fun p _ => dg_lt _ b p, h2⟩, fun c hc => ?_⟩
  have h4 := h3 (cdn c (nv (S 27 0))) (cdn_lt hc.2.1) (by rw [ok_cg (cdn_at hc.2.1)]; exact hc.2.2)
  rw [sr_cg (cdn_at hc.2.1), wo_cg (cdn_at hc.2.1)] at h4
  exact h4
theorem kk_b {S : qS} {n b : Nat} (hn : n ≤ 8) (hb : b < 4 ^ n) : kk S (dg n b) n = sr (dg n b) n * 1048576 + wo S (dg n b) n * 65536 + b * 4 ^ (8 - n) := by
  rw [kk_eq (fun p _ => dg_lt n b p), lw_n hn hb]
theorem bcI_mn {S : qS} {m : Nat} (hI : Inv S) : mnO (Fl S m (nv (S 27 0))) (bcI S m) := by
  have hn : nv (S 27 0) ≤ 8 := by have := (iv_27 hI).1.2; omega
  unfold bcI
  cases h : bc S m with
  | none => exact Or.inl ⟨rfl, fun v ⟨c, hc, _⟩ => bc_none h c hc⟩
  | some b =>
    obtain ⟨h1, h2, h3⟩ := bc_some h
    have hlt := kk_lt (S := S) (c := dg (nv (S 27 0)) b) hn
    refine Or.inr ⟨kk S (dg (nv (S 27 0)) b) (nv (S 27 0)), by omega, rfl, ⟨dg (nv (S 27 0)) b, h2, rfl⟩, fun w ⟨c, hc, hw⟩ => ?_⟩
    have h4 := h3 c hc
    have hcb := cdn_lt hc.2.1
    have e1 : kk S c (nv (S 27 0)) = kk S (dg (nv (S 27 0)) (cdn c (nv (S 27 0)))) (nv (S 27 0)) := (kk_cg (cdn_at hc.2.1)).symm
    rw [← hw, e1, kk_b hn h1, kk_b hn hcb, sr_cg (cdn_at hc.2.1), wo_cg (cdn_at hc.2.1)]
    have q1 := b4_lt hn h1
    have q2 := b4_lt hn hcb
    have q3 := wo_le S (dg (nv (S 27 0)) b) (nv (S 27 0))
    have q4 : b ≤ cdn c (nv (S 27 0)) → b * 4 ^ (8 - nv (S 27 0)) ≤ cdn c (nv (S 27 0)) * 4 ^ (8 - nv (S 27 0)) := fun q => Nat.mul_le_mul_right _ q
    generalize b * 4 ^ (8 - nv (S 27 0)) = X at q1 q4 ⊢
    generalize cdn c (nv (S 27 0)) * 4 ^ (8 - nv (S 27 0)) = Y at q2 q4 ⊢
    rcases h4 with h4 | ⟨h4, h5 | ⟨h5, h6⟩⟩
    · omega
    · omega
    · have := q4 h6; omega
theorem bc_2 {S J : qS} {m : Nat} (hI : Inv S) (hm : m < 4096) (hJ : jk J) (f g : Nat → Int32) (hf : ∀ i, i < 32 → f i = -1) :
    (lkF (ofA S m f (nv (S 27 0) * 4)) (ofK S m g (nv (S 27 0) * 4)) (J 15) (nv (S 27 0)) (ofB S m (nv (S 27 0) * 4))).2 = bcI S m := mnO_uniq (bc_f hI hJ f g hf) (bcI_mn hI)
/-! the search that tries all -/
theorem ok_le {S : qS} {m : Nat} {c : Nat → Nat} : ∀ {n k : Nat}, k ≤ n → ok S m c n = true → ok S m c k = true
  | 0, k, h, q => by have : k = 0 := by omega
                     rw [this]; rfl
  | n + 1, k, h, q => by
    rcases Nat.lt_or_ge n k with h1 | h1
    · have : k = n + 1 := by omega
      rw [this]; exact q
    · exact ok_le h1 (ok_s.mp q).1
def St (S : qS) (m n : Nat) (v : Nat) : Prop := ∃ c : Nat → Nat, Pf S m n c n ∧ sr c n = v
theorem lf_inv {S : qS} {m n : Nat} {A : Nat → Int32} (hI : Inv S) (hn : n ≤ 8) (hA : ∀ i, i < n * 4 → (avB S m i = true → A i = nI (nv (S 6 i))) ∧ (avB S m i = false → A i = -1)) :
    ∀ d p c0, p + d = 8 → p ≤ n → Pf S m n c0 p → mnO (fun v => ∃ c, Pf S m n c n ∧ (∀ q, q < p → c q = c0 q) ∧ v + sr c0 p = sr c n) (lfF A n d p (us S c0 p)) := by
  intro d
  have done : ∀ p c0, p = n → Pf S m n c0 p → mnO (fun v => ∃ c, Pf S m n c n ∧ (∀ q, q < p → c q = c0 q) ∧ v + sr c0 p = sr c n) (nI 0) := by
    intro p c0 e h
    subst e
    exact Or.inr ⟨0, by decide, rfl, ⟨c0, h, fun _ _ => rfl, Nat.zero_add _⟩, fun w _ => Nat.zero_le w⟩
  induction d with
  | zero => intro p c0 h1 h2 h3; exact done p c0 (by omega) h3
  | succ d ih =>
    intro p c0 h1 h2 h3
    unfold lfF
    by_cases hp : n ≤ p ∨ 8 ≤ p
    · rw [if_pos hp]; exact done p c0 (by omega) h3
    rw [if_neg hp]
    have hpn : p < n := by omega
    have key : ∀ r, r ≤ 4 → mnO (fun v => ∃ c, Pf S m n c n ∧ (∀ q, q < p → c q = c0 q) ∧ c p < r ∧ v + sr c0 p = sr c n) (lfL A (lfF A n d (p + 1)) p (us S c0 p) r) := by
      intro r
      induction r with
      | zero => exact fun _ => Or.inl ⟨rfl, fun v ⟨c, _, _, q, _⟩ => absurd q (Nat.not_lt_zero _)⟩
      | succ r ihr =>
        intro hr
        have i0 := ihr (by omega)
        have skip : (∀ c, Pf S m n c n → (∀ q, q < p → c q = c0 q) → c p = r → False) → mnO (fun v => ∃ c, Pf S m n c n ∧ (∀ q, q < p → c q = c0 q) ∧ c p < r + 1 ∧ v + sr c0 p = sr c n) (lfL A (lfF A n d (p + 1)) p (us S c0 p) r) := by
          intro hx
          refine mnO_iff (fun v => ⟨fun ⟨c, q1, q2, q3, q4⟩ => ⟨c, q1, q2, by omega, q4⟩, fun ⟨c, q1, q2, q3, q4⟩ => ⟨c, q1, q2, ?_, q4⟩⟩) i0
          rcases Nat.lt_or_ge (c p) r with h | h
          · exact h
          · exact (hx c q1 q2 (by omega)).elim
        rw [lfL_s]
        cases hav : avB S m (p * 4 + r) with
        | false =>
          rw [if_pos (Or.inl ((hA _ (by omega)).2 hav))]
          refine skip (fun c q1 q2 q3 => ?_)
          have o := ok_s.mp (ok_le (k := p + 1) (by omega) q1.2.2)
          rw [q3, hav] at o
          exact Bool.noConfusion o.2.1
        | true =>
          have e1 := (hA _ (by omega)).1 hav
          have ha := (avB_in hI (by omega) hav).2
          cases hbt : (us S c0 p).testBit (nv (S 6 (p * 4 + r))) with
          | true =>
            rw [if_pos (Or.inr (by rw [e1, nv_nI (by omega)]; exact hbt))]
            refine skip (fun c q1 q2 q3 => ?_)
            have o := ok_s.mp (ok_le (k := p + 1) (by omega) q1.2.2)
            rw [q3, us_cg q2, hbt] at o
            exact Bool.noConfusion o.2.2
          | false =>
            rw [if_neg (fun q => q.elim (fun q => m1_ne (by omega) (e1 ▸ q)) (fun q => by rw [e1, nv_nI (by omega), hbt] at q; exact Bool.noConfusion q)), e1, nv_nI (by omega)]
            have hcq : ∀ q, q < p → (fun q => if q = p then r else c0 q) q = c0 q := fun q hq => if_neg (by omega)
            have hus : us S (fun q => if q = p then r else c0 q) (p + 1) = us S c0 p ||| 2 ^ nv (S 6 (p * 4 + r)) := by
              show us S _ p ||| 2 ^ nv (S 6 (p * 4 + (if p = p then r else c0 p))) = _
              rw [us_cg hcq, if_pos rfl]
            have hsr : sr (fun q => if q = p then r else c0 q) (p + 1) = sr c0 p + r := by
              show sr _ p + (if p = p then r else c0 p) = _
              rw [sr_cg hcq, if_pos rfl]
            have hpf : Pf S m n (fun q => if q = p then r else c0 q) (p + 1) := by
              refine ⟨by omega, fun q hq => ?_, ?_⟩
              · show (if q = p then r else c0 q) < 4
                split
                · omega
                · exact h3.2.1 q (by omega)
              · rw [ok_s, ok_cg hcq, us_cg hcq]
                simp only [if_true]
                exact ⟨h3.2.2, hav, hbt⟩
            have i1 := ih (p + 1) _ (by omega) (by omega) hpf
            rw [hus, hsr] at i1
            have pre : ∀ c : Nat → Nat, (∀ q, q < p + 1 → c q = (fun q => if q = p then r else c0 q) q) ↔ ((∀ q, q < p → c q = c0 q) ∧ c p = r) := by
              intro c
              refine ⟨fun h => ⟨fun q hq => (h q (by omega)).trans (hcq q hq), (h p (by omega)).trans (if_pos rfl)⟩, fun h q hq => ?_⟩
              show c q = if q = p then r else c0 q
              split
              · rename_i e; rw [e]; exact h.2
              · exact h.1 q (by omega)
            rcases i1 with ⟨e, hno⟩ | ⟨v1, hv1, e, ⟨c1, k1, k2, k3⟩, hmin⟩
            · rw [if_pos e]
              refine skip (fun c q1 q2 q3 => ?_)
              have h5 : sr c n ≥ sr c0 p + r := by
                have g1 : ∀ k, p + 1 ≤ k → sr c (p + 1) ≤ sr c k := by
                  intro k hk
                  induction k with
                  | zero => omega
                  | succ k ihk =>
                    rcases Nat.lt_or_ge k (p + 1) with h | h
                    · have : k = p := by omega
                      rw [this]; exact Nat.le_refl _
                    · exact Nat.le_trans (ihk h) (Nat.le_add_right _ _)
                have g2 := g1 n (by omega)
                have g3 : sr c (p + 1) = sr c0 p + r := by
                  show sr c p + c p = _
                  rw [sr_cg q2, q3]
                omega
              exact hno (sr c n - (sr c0 p + r)) ⟨c, q1, (pre c).mpr ⟨q2, q3⟩, by omega⟩
            · have hb1 : sr c1 n ≤ 3 * n := sr_le k1.2.1
              rw [e, if_neg (m1_ne (by omega)), nI_add]
              refine mnO_dom (fun v q => ?_) (fun v q => ?_) (mnO_add i0 (v1 := r + v1) (by omega))
              · rcases q with ⟨c, q1, q2, q3, q4⟩ | q
                · exact ⟨c, q1, q2, by omega, q4⟩
                · have k4 := (pre c1).mp k2
                  exact ⟨c1, k1, k4.1, by rw [k4.2]; exact Nat.lt_succ_self r, by omega⟩
              · obtain ⟨c, q1, q2, q3, q4⟩ := q
                rcases Nat.lt_or_ge (c p) r with h | h
                · exact ⟨v, Or.inl ⟨c, q1, q2, h, q4⟩, Nat.le_refl v⟩
                · have ec : c p = r := by omega
                  have h5 : sr c n ≥ sr c0 p + r := by
                    have g1 : ∀ k, p + 1 ≤ k → sr c (p + 1) ≤ sr c k := by
                      intro k hk
                      induction k with
                      | zero => omega
                      | succ k ihk =>
                        rcases Nat.lt_or_ge k (p + 1) with h | h
                        · have : k = p := by omega
                          rw [this]; exact Nat.le_refl _
                        · exact Nat.le_trans (ihk h) (Nat.le_add_right _ _)
                    have g2 := g1 n (by omega)
                    have g3 : sr c (p + 1) = sr c0 p + r := by
                      show sr c p + c p = _
                      rw [sr_cg q2, ec]
                    omega
                  have h6 := hmin (sr c n - (sr c0 p + r)) ⟨c, q1, (pre c).mpr ⟨q2, ec⟩, by omega⟩
                  exact ⟨r + v1, Or.inr rfl, by omega⟩
    refine mnO_iff (fun v => ⟨fun ⟨c, q1, q2, q3, q4⟩ => ⟨c, q1, q2, q4⟩, fun ⟨c, q1, q2, q4⟩ => ⟨c, q1, q2, q1.2.1 p hpn, q4⟩⟩) (key 4 (Nat.le_refl 4))
theorem bcS_mn {S : qS} {m : Nat} (hI : Inv S) : mnO (St S m (nv (S 27 0))) (bcS S m) := by
  have hn : nv (S 27 0) ≤ 8 := by have := (iv_27 hI).1.2; omega
  unfold bcS
  cases h : bc S m with
  | none => exact Or.inl ⟨rfl, fun v ⟨c, hc, _⟩ => bc_none h c hc⟩
  | some b =>
    obtain ⟨h1, h2, h3⟩ := bc_some h
    have hlt := sr_le (k := nv (S 27 0)) h2.2.1
    refine Or.inr ⟨sr (dg (nv (S 27 0)) b) (nv (S 27 0)), by omega, rfl, ⟨dg (nv (S 27 0)) b, h2, rfl⟩, fun w ⟨c, hc, hw⟩ => ?_⟩
    have h4 := h3 c hc
    omega
theorem bc_3 {S : qS} {m : Nat} (hI : Inv S) (f : Nat → Int32) (hf : ∀ i, i < 32 → f i = -1) :
    lfF (ofA S m f (nv (S 27 0) * 4)) (nv (S 27 0)) 8 0 0 = bcS S m := by
  have hn : nv (S 27 0) ≤ 8 := by have := (iv_27 hI).1.2; omega
  have h := lf_inv (m := m) hI hn (fun i hi => ⟨fun q => ((rw_ok m hn f f hf i hi).1 q).1, (rw_ok m hn f f hf i hi).2⟩) 8 0 (fun _ => 0) rfl (Nat.zero_le _) ⟨Nat.zero_le _, fun p hp => absurd hp (Nat.not_lt_zero p), rfl⟩
  refine mnO_uniq (mnO_iff (fun v => ⟨fun ⟨c, q1, _, q3⟩ => ⟨c, q1, ?_⟩, fun ⟨c, q1, q3⟩ => ⟨c, q1, fun q hq => absurd hq (Nat.not_lt_zero q), ?_⟩⟩) h) (bcS_mn hI)
  · exact q3.symm
  · exact q3.symm
/-- the key tells strain, work and ranks -/
theorem key_s {S : qS} {n b : Nat} (hn : n ≤ 8) (hb : b < 4 ^ n) : kk S (dg n b) n / 2 ^ 20 = sr (dg n b) n := by
  rw [kk_b hn hb]
  have q1 := b4_lt hn hb
  have q3 := wo_le S (dg n b) n
  generalize b * 4 ^ (8 - n) = X at q1 ⊢
  omega
theorem key_w {S : qS} {n b : Nat} (hn : n ≤ 8) (hb : b < 4 ^ n) : kk S (dg n b) n / 2 ^ 16 &&& 15 = wo S (dg n b) n := by
  have e : ∀ x : Nat, x &&& 15 = x % 16 := fun x => Nat.and_two_pow_sub_one_eq_mod x 4
  rw [e, kk_b hn hb]
  have q1 := b4_lt hn hb
  have q3 := wo_le S (dg n b) n
  generalize b * 4 ^ (8 - n) = X at q1 ⊢
  omega
theorem key_r {S : qS} {n b p : Nat} (hn : n ≤ 8) (hb : b < 4 ^ n) (hp : p < n) : kk S (dg n b) n / 2 ^ ((7 - p) * 2) &&& 3 = dg n b p := by
  have e : ∀ x : Nat, x &&& 3 = x % 4 := fun x => Nat.and_two_pow_sub_one_eq_mod x 2
  rw [e, kk_b hn hb, p24]
  have h1 : sr (dg n b) n * 1048576 + wo S (dg n b) n * 65536 + b * 4 ^ (8 - n) = 4 ^ (8 - n) * (4 ^ (n - 1 - p) * (4 * (4 ^ p * (sr (dg n b) n * 16 + wo S (dg n b) n))) + b) := by
    have h2 : 4 ^ (8 - n) * (4 ^ (n - 1 - p) * (4 * 4 ^ p)) = 65536 := by
      rw [← Nat.pow_succ', ← Nat.pow_add, ← Nat.pow_add, show 8 - n + (n - 1 - p + (p + 1)) = 8 by omega]
    rw [Nat.mul_add, ← Nat.mul_assoc 4 (4 ^ p), ← Nat.mul_assoc (4 ^ (n - 1 - p)), ← Nat.mul_assoc (4 ^ (8 - n)), h2, Nat.mul_comm (4 ^ (8 - n)) b]
    omega
  rw [h1, show 4 ^ (7 - p) = 4 ^ (8 - n) * 4 ^ (n - 1 - p) by rw [← Nat.pow_add]; congr 1; omega, Nat.mul_div_mul_left _ _ (Nat.pow_pos (by decide)), Nat.mul_add_div (Nat.pow_pos (by decide))]
  unfold dg
  omega
end
section
set_option maxHeartbeats 4000000 in
set_option maxRecDepth 100000 in
theorem c_X1_leastFrom (l : Launch) (D : va_G) (cy : qT) (a : Nat) (f : Nat → Int32) (n : Nat) (hn : n ≤ 8) (hf : ∀ i, i < 32 → f i = -1 ∨ bd (f i) 12) : ∀ (d p mk : Nat), p + d = 8 → mk < 4096 → Met l yX1_leastFrom wsX1_leastFrom ({ frames := d + 1, cells := 0, slots := 0, locals := 27 * d + 21 }) (va_Pc [.ref a, .int (nI n), .int (nI p), .int (nI mk)] (roB D cy [(a, aI cy 32 f)])) (vp_Si (fun r9 => r9 = lfF f n d p mk)) 0 0 (fun _ => False) := by
  intro d
  induction d with
  | zero =>
    intro p mk hpd hm
    refine Met.ofW (cc := cX1_leastFrom) (maxL := 8) (ret := (some .int)) (by decide) rfl ?_
    intro pp e9 s m9 args9 bl9 meth9 c9 s9 B hml hv
    obtain ⟨rfl, hP, hG⟩ := hv
    have hx := B.exec
    have hb := B.bytes
    have hr := B.returns
    have hts := atoms_spec (ws := wsX1_leastFrom) B.pre
    have hown : s.vm.findClass RX1 = some m9.cls := findClass_of_methodNamed B.named
    have hlocks := B.notSynchronized
    have hK := hG.K
    have hl := lv_entry ([.ref a, .int (nI n), .int (nI p), .int (nI mk)]) (n := 8) (Nat.le_of_ble_eq_true rfl)
    rw [lg_entry_eq]
    generalize (lg_sl ([.ref a, .int (nI n), .int (nI p), .int (nI mk)]) ++ List.replicate (8 - (lg_sl ([.ref a, .int (nI n), .int (nI p), .int (nI mk)])).length) Slot.unset).toArray = ls at hl ⊢
    have hl : lv_has ls 8 [(0, .ref a), (1, .int (nI n)), (2, .int (nI p)), (3, .int (nI mk))] := hl
    refine lv_iload_n hx hb dX1_leastFrom_0 rfl (lv_at hl 2 rfl) ?_
    refine lv_iload_n hx hb dX1_leastFrom_1 rfl (lv_at hl 1 rfl) ?_
    refine cd_icmp_ge (tgt := 11) hx hb dX1_leastFrom_2 (by decide) (by omega) (by omega) (fun c_2 => ?_) (fun c_2 => ?_)
    · refine lv_iconst (v := nI 0) hx hb dX1_leastFrom_11 (by decide) ?_
      exact W.iret (v := nI 0) hx hb hr (fun t ht hW => ⟨_, rfl, (by unfold lfF; rfl), ht⟩) (fun _ h9 => nomatch h9) dX1_leastFrom_12
    · refine lv_iload_n hx hb dX1_leastFrom_5 rfl (lv_at hl 2 rfl) ?_
      refine lv_bipush (v := nI 8) hx hb dX1_leastFrom_6 (by decide) ?_
      refine cd_icmp_lt (tgt := 13) hx hb dX1_leastFrom_8 (by decide) (by omega) (by omega) (fun c_8 => ?_) (fun c_8 => ?_)
      · exact absurd c_8 (by omega)
      · refine lv_iconst (v := nI 0) hx hb dX1_leastFrom_11 (by decide) ?_
        exact W.iret (v := nI 0) hx hb hr (fun t ht hW => ⟨_, rfl, (by unfold lfF; rfl), ht⟩) (fun _ h9 => nomatch h9) dX1_leastFrom_12
  | succ d ih =>
    intro p mk hpd hm
    refine Met.ofW (cc := cX1_leastFrom) (maxL := 8) (ret := (some .int)) (by decide) rfl ?_
    intro pp e9 s m9 args9 bl9 meth9 c9 s9 B hml hv
    obtain ⟨rfl, hP, hG⟩ := hv
    have hx := B.exec
    have hb := B.bytes
    have hr := B.returns
    have hts := atoms_spec (ws := wsX1_leastFrom) B.pre
    have hown : s.vm.findClass RX1 = some m9.cls := findClass_of_methodNamed B.named
    have hlocks := B.notSynchronized
    have hK := hG.K
    have in_X6 := hts (.initialized RX6) (by decide +kernel)
    have st_has := hts (.static yX6_has) (by decide +kernel)
    have st_with := hts (.static yX6_with) (by decide +kernel)
    have hl := lv_entry ([.ref a, .int (nI n), .int (nI p), .int (nI mk)]) (n := 8) (Nat.le_of_ble_eq_true rfl)
    rw [lg_entry_eq]
    generalize (lg_sl ([.ref a, .int (nI n), .int (nI p), .int (nI mk)]) ++ List.replicate (8 - (lg_sl ([.ref a, .int (nI n), .int (nI p), .int (nI mk)])).length) Slot.unset).toArray = ls at hl ⊢
    have hl : lv_has ls 8 [(0, .ref a), (1, .int (nI n)), (2, .int (nI p)), (3, .int (nI mk))] := hl
    refine lv_iload_n hx hb dX1_leastFrom_0 rfl (lv_at hl 2 rfl) ?_
    refine lv_iload_n hx hb dX1_leastFrom_1 rfl (lv_at hl 1 rfl) ?_
    refine cd_icmp_ge (tgt := 11) hx hb dX1_leastFrom_2 (by decide) (by omega) (by omega) (fun c_2 => ?_) (fun c_2 => ?_)
    · refine lv_iconst (v := nI 0) hx hb dX1_leastFrom_11 (by decide) ?_
      exact W.iret (v := nI 0) hx hb hr (fun t ht hW => ⟨_, rfl, (by unfold lfF; rw [if_pos (by omega)]), ht⟩) (fun _ h9 => nomatch h9) dX1_leastFrom_12
    · refine lv_iload_n hx hb dX1_leastFrom_5 rfl (lv_at hl 2 rfl) ?_
      refine lv_bipush (v := nI 8) hx hb dX1_leastFrom_6 (by decide) ?_
      refine cd_icmp_lt (tgt := 13) hx hb dX1_leastFrom_8 (by decide) (by omega) (by omega) (fun c_8 => ?_) (fun c_8 => ?_)
      · refine lv_iconst (v := (-1)) hx hb dX1_leastFrom_13 (by decide) ?_
        refine lv_istore (lv' := [(4, .int (-1)), (0, .ref a), (1, .int (nI n)), (2, .int (nI p)), (3, .int (nI mk))]) hx hb dX1_leastFrom_14 hl (by decide) rfl (fun ls hl => ?_)
        refine lv_iconst (v := nI 0) hx hb dX1_leastFrom_16 (by decide) ?_
        refine lv_istore (lv' := [(5, .int (nI 0)), (4, .int (-1)), (0, .ref a), (1, .int (nI n)), (2, .int (nI p)), (3, .int (nI mk))]) hx hb dX1_leastFrom_17 hl (by decide) rfl (fun ls hl => ?_)
        refine wl1 (nL := 8) (fun (r : Nat) => r ≤ 4) (fun (r : Nat) => 4 - r) (fun (r : Nat) => [(0, .ref a), (1, .int (nI n)), (2, .int (nI p)), (3, .int (nI mk)), (4, .int (lfL f (lfF f n d (p + 1)) p mk r)), (5, .int (nI r))]) (fun r hi_19 ih_19 ls hl => ?_) 0 (by decide) (lv_sub hl [2, 3, 4, 5, 1, 0] rfl)
        refine lv_iload hx hb dX1_leastFrom_19 (lv_at hl 5 rfl) ?_
        refine lv_iconst (v := nI 4) hx hb dX1_leastFrom_21 (by decide) ?_
        refine cd_icmp_ge (tgt := 104) hx hb dX1_leastFrom_22 (by decide) (by omega) (by omega) (fun c_22 => ?_) (fun c_22 => ?_)
        · refine lv_iload hx hb dX1_leastFrom_104 (lv_at hl 4 rfl) ?_
          exact W.iret (v := lfL f (lfF f n d (p + 1)) p mk r) hx hb hr (fun t ht hW => ⟨_, rfl, (by rw [show r = 4 by omega]; unfold lfF; rw [if_neg (by omega)]), ht⟩) (fun _ h9 => nomatch h9) dX1_leastFrom_106
        · refine lv_aload_n hx hb dX1_leastFrom_25 rfl (lv_at hl 0 rfl) ?_
          refine lv_iload_n hx hb dX1_leastFrom_26 rfl (lv_at hl 2 rfl) ?_
          refine lv_iconst (v := nI 4) hx hb dX1_leastFrom_27 (by decide) ?_
          refine cd_imul hx hb dX1_leastFrom_28 ?_
          refine lv_iload hx hb dX1_leastFrom_29 (lv_at hl 5 rfl) ?_
          refine cd_iadd hx hb dX1_leastFrom_31 ?_
          refine cd_iald (f := f) hx hb hK hP 0 rfl (by omega) (by decide) dX1_leastFrom_32 ?_
          refine lv_istore (lv' := [(6, .int (f ((p * 4) + r))), (0, .ref a), (1, .int (nI n)), (2, .int (nI p)), (3, .int (nI mk)), (4, .int (lfL f (lfF f n d (p + 1)) p mk r)), (5, .int (nI r))]) hx hb dX1_leastFrom_33 hl (by decide) rfl (fun ls hl => ?_)
          refine lv_iload hx hb dX1_leastFrom_35 (lv_at hl 0 rfl) ?_
          refine lv_iconst (v := (-1)) hx hb dX1_leastFrom_37 (by decide) ?_
          refine lv_icmp_eq (tgt := 98) hx hb dX1_leastFrom_38 (by decide) (fun c_38 => ?_) (fun c_38 => ?_)
          · refine lv_iinc (v := nI (r + 1)) (lv' := [(5, .int (nI (r + 1))), (6, .int (f ((p * 4) + r))), (0, .ref a), (1, .int (nI n)), (2, .int (nI p)), (3, .int (nI mk)), (4, .int (lfL f (lfF f n d (p + 1)) p mk r))]) hx hb dX1_leastFrom_98 hl (k := 6) rfl (cd_i1 _) (by decide) rfl (fun ls hl => ?_)
            refine lv_goto (tgt := 19) hx hb dX1_leastFrom_101 (by decide) ?_
            have hl : lv_has ls 8 [(5, .int (nI (r + 1))), (6, .int (f ((p * 4) + r))), (0, .ref a), (1, .int (nI n)), (2, .int (nI p)), (3, .int (nI mk)), (4, .int (lfL f (lfF f n d (p + 1)) p mk (r + 1)))] := by rw [← (by rw [lfL_s, if_pos (Or.inl c_38)] : (lfL f (lfF f n d (p + 1)) p mk r : Int32) = lfL f (lfF f n d (p + 1)) p mk (r + 1))]; exact hl
            exact ih_19 (r + 1) (by omega) (by omega) _ (lv_sub hl [2, 3, 4, 5, 6, 0] rfl)
          · have ha := (hf (p * 4 + r) (by omega)).resolve_left c_38
            have hab := ha.2
            have hwl := or_lt (n := 12) hm hab
            have hl : lv_has ls 8 [(6, .int (nI (nv (f (p * 4 + r))))), (0, .ref a), (1, .int (nI n)), (2, .int (nI p)), (3, .int (nI mk)), (4, .int (lfL f (lfF f n d (p + 1)) p mk r)), (5, .int (nI r))] := by rw [← (ha.1 : (f ((p * 4) + r) : Int32) = nI (nv (f (p * 4 + r))))]; exact hl
            refine lv_iload_n hx hb dX1_leastFrom_41 rfl (lv_at hl 4 rfl) ?_
            refine lv_iload hx hb dX1_leastFrom_42 (lv_at hl 0 rfl) ?_
            have M_44 := c_X6_has l mk (nv (f (p * 4 + r))) (by omega) (by omega)
            refine cd_roi (va_runSN (As := [.int (nI mk), .int (nI (nv (f (p * 4 + r))))]) (rest := []) ⟨hx, hb, hml, hown, hts⟩ M_44 ⟨va_cnB 2 hts gX1_leastFrom_X6_has_n44 rfl rfl rfl hG.2.1.2.2.2.2.2.1 in_X6 (by decide +kernel) ⟨by show 1 ≤ d + 2; omega, by show 21 ≤ 27 * (d + 1) + 21; omega⟩, st_has, trivial⟩ ⟨nuB.bl, fun U hU hW => ⟨rfl, trivial⟩⟩ rfl rfl hl.1 rfl (lv_room (Nat.le_of_ble_eq_true rfl)) dX1_leastFrom_44 (by exact ⟨Nat.zero_le _, Nat.zero_le _⟩)) (fun r_44 hr_44 => ?_)
            subst hr_44
            refine cd_ifB_eq (tgt := 53) hx hb dX1_leastFrom_47 (by decide) (fun c_47 => ?_) (fun c_47 => ?_)
            · have hno : ¬ (f (p * 4 + r) = -1 ∨ mk.testBit (nv (f (p * 4 + r))) = true) := fun q => q.elim c_38 (fun q => by rw [c_47] at q; exact Bool.noConfusion q)
              refine lv_aload_n hx hb dX1_leastFrom_53 rfl (lv_at hl 1 rfl) ?_
              refine lv_iload_n hx hb dX1_leastFrom_54 rfl (lv_at hl 2 rfl) ?_
              refine lv_iload_n hx hb dX1_leastFrom_55 rfl (lv_at hl 3 rfl) ?_
              refine lv_iconst (v := nI 1) hx hb dX1_leastFrom_56 (by decide) ?_
              refine cd_iadd hx hb dX1_leastFrom_57 ?_
              refine lv_iload_n hx hb dX1_leastFrom_58 rfl (lv_at hl 4 rfl) ?_
              refine lv_iload hx hb dX1_leastFrom_59 (lv_at hl 0 rfl) ?_
              have M_61 := c_X6_with l mk (nv (f (p * 4 + r))) (by omega)
              refine cd_roi (va_runSN (As := [.int (nI mk), .int (nI (nv (f (p * 4 + r))))]) (rest := [.int (nI (p + 1)), .int (nI n), .ref a]) ⟨hx, hb, hml, hown, hts⟩ M_61 ⟨va_cnB 2 hts gX1_leastFrom_X6_with_n48 rfl rfl rfl hG.2.1.2.2.2.2.2.2 in_X6 (by decide +kernel) ⟨by show 1 ≤ d + 2; omega, by show 21 ≤ 27 * (d + 1) + 21; omega⟩, st_with, trivial⟩ ⟨nuB.bl, fun U hU hW => ⟨rfl, trivial⟩⟩ rfl rfl hl.1 rfl (lv_room (Nat.le_of_ble_eq_true rfl)) dX1_leastFrom_61 (by exact ⟨Nat.zero_le _, Nat.zero_le _⟩)) (fun r_61 hr_61 => ?_)
              subst hr_61
              have M_64 := ih (p + 1) (mk ||| 2 ^ nv (f (p * 4 + r))) (by omega) hwl
              refine cd_roi (va_runS (As := [.ref a, .int (nI n), .int (nI (p + 1)), .int (nI (mk ||| 2 ^ (nv (f (p * 4 + r)))))]) (rest := []) ⟨hx, hb, hml, hown, hts⟩ M_64 (va_cwS 4 hts gX1_leastFrom_X1_leastFrom rfl rfl rfl (by decide +kernel) ⟨by show d + 1 + 1 ≤ d + 2; omega, by show 8 + (8 + 11) + (27 * d + 21) ≤ 27 * (d + 1) + 21; omega⟩) ⟨roB.bl, fun U hU hW => ⟨rfl, by rw [hU]; exact hP, hG.warm hW⟩⟩ rfl rfl hl.1 rfl (lv_room (Nat.le_of_ble_eq_true rfl)) dX1_leastFrom_64 (by exact ⟨Nat.zero_le _, Nat.zero_le _⟩)) (fun r_64 hr_64 => ?_)
              subst hr_64
              refine lv_istore (lv' := [(7, .int (lfF f n d (p + 1) (mk ||| 2 ^ (nv (f (p * 4 + r)))))), (6, .int (nI (nv (f (p * 4 + r))))), (0, .ref a), (1, .int (nI n)), (2, .int (nI p)), (3, .int (nI mk)), (4, .int (lfL f (lfF f n d (p + 1)) p mk r)), (5, .int (nI r))]) hx hb dX1_leastFrom_67 hl (by decide) rfl (fun ls hl => ?_)
              refine lv_iload hx hb dX1_leastFrom_69 (lv_at hl 0 rfl) ?_
              refine lv_iconst (v := (-1)) hx hb dX1_leastFrom_71 (by decide) ?_
              refine lv_icmp_eq (tgt := 98) hx hb dX1_leastFrom_72 (by decide) (fun c_72 => ?_) (fun c_72 => ?_)
              · refine lv_iinc (v := nI (r + 1)) (lv' := [(5, .int (nI (r + 1))), (7, .int (lfF f n d (p + 1) (mk ||| 2 ^ (nv (f (p * 4 + r)))))), (6, .int (nI (nv (f (p * 4 + r))))), (0, .ref a), (1, .int (nI n)), (2, .int (nI p)), (3, .int (nI mk)), (4, .int (lfL f (lfF f n d (p + 1)) p mk r))]) hx hb dX1_leastFrom_98 hl (k := 7) rfl (cd_i1 _) (by decide) rfl (fun ls hl => ?_)
                refine lv_goto (tgt := 19) hx hb dX1_leastFrom_101 (by decide) ?_
                have hl : lv_has ls 8 [(5, .int (nI (r + 1))), (7, .int (lfF f n d (p + 1) (mk ||| 2 ^ (nv (f (p * 4 + r)))))), (6, .int (nI (nv (f (p * 4 + r))))), (0, .ref a), (1, .int (nI n)), (2, .int (nI p)), (3, .int (nI mk)), (4, .int (lfL f (lfF f n d (p + 1)) p mk (r + 1)))] := by rw [← (by rw [lfL_s, if_neg hno, if_pos c_72] : (lfL f (lfF f n d (p + 1)) p mk r : Int32) = lfL f (lfF f n d (p + 1)) p mk (r + 1))]; exact hl
                exact ih_19 (r + 1) (by omega) (by omega) _ (lv_sub hl [3, 4, 5, 6, 7, 0] rfl)
              · refine lv_iload hx hb dX1_leastFrom_75 (lv_at hl 6 rfl) ?_
                refine lv_iconst (v := (-1)) hx hb dX1_leastFrom_77 (by decide) ?_
                refine lv_icmp_eq (tgt := 91) hx hb dX1_leastFrom_78 (by decide) (fun c_78 => ?_) (fun c_78 => ?_)
                · refine lv_iload hx hb dX1_leastFrom_91 (lv_at hl 7 rfl) ?_
                  refine lv_iload hx hb dX1_leastFrom_93 (lv_at hl 0 rfl) ?_
                  refine lv_iadd hx hb dX1_leastFrom_95 ?_
                  refine lv_istore (lv' := [(4, .int ((nI r) + (lfF f n d (p + 1) (mk ||| 2 ^ (nv (f (p * 4 + r))))))), (7, .int (lfF f n d (p + 1) (mk ||| 2 ^ (nv (f (p * 4 + r)))))), (6, .int (nI (nv (f (p * 4 + r))))), (0, .ref a), (1, .int (nI n)), (2, .int (nI p)), (3, .int (nI mk)), (5, .int (nI r))]) hx hb dX1_leastFrom_96 hl (by decide) rfl (fun ls hl => ?_)
                  refine lv_iinc (v := nI (r + 1)) (lv' := [(5, .int (nI (r + 1))), (4, .int ((nI r) + (lfF f n d (p + 1) (mk ||| 2 ^ (nv (f (p * 4 + r))))))), (7, .int (lfF f n d (p + 1) (mk ||| 2 ^ (nv (f (p * 4 + r)))))), (6, .int (nI (nv (f (p * 4 + r))))), (0, .ref a), (1, .int (nI n)), (2, .int (nI p)), (3, .int (nI mk))]) hx hb dX1_leastFrom_98 hl (k := 7) rfl (cd_i1 _) (by decide) rfl (fun ls hl => ?_)
                  refine lv_goto (tgt := 19) hx hb dX1_leastFrom_101 (by decide) ?_
                  have hl : lv_has ls 8 [(5, .int (nI (r + 1))), (4, .int (lfL f (lfF f n d (p + 1)) p mk (r + 1))), (7, .int (lfF f n d (p + 1) (mk ||| 2 ^ (nv (f (p * 4 + r)))))), (6, .int (nI (nv (f (p * 4 + r))))), (0, .ref a), (1, .int (nI n)), (2, .int (nI p)), (3, .int (nI mk))] := by rw [← (by rw [lfL_s, if_neg hno, if_neg c_72]; exact (if_pos (Or.inl c_78)).symm : ((nI r) + (lfF f n d (p + 1) (mk ||| 2 ^ (nv (f (p * 4 + r))))) : Int32) = lfL f (lfF f n d (p + 1)) p mk (r + 1))]; exact hl
                  exact ih_19 (r + 1) (by omega) (by omega) _ (lv_sub hl [4, 5, 6, 7, 1, 0] rfl)
                · refine lv_iload hx hb dX1_leastFrom_81 (lv_at hl 7 rfl) ?_
                  refine lv_iload hx hb dX1_leastFrom_83 (lv_at hl 0 rfl) ?_
                  refine lv_iadd hx hb dX1_leastFrom_85 ?_
                  refine lv_iload hx hb dX1_leastFrom_86 (lv_at hl 6 rfl) ?_
                  refine lv_icmp_ge (tgt := 98) hx hb dX1_leastFrom_88 (by decide) (fun c_88 => ?_) (fun c_88 => ?_)
                  · refine lv_iinc (v := nI (r + 1)) (lv' := [(5, .int (nI (r + 1))), (7, .int (lfF f n d (p + 1) (mk ||| 2 ^ (nv (f (p * 4 + r)))))), (6, .int (nI (nv (f (p * 4 + r))))), (0, .ref a), (1, .int (nI n)), (2, .int (nI p)), (3, .int (nI mk)), (4, .int (lfL f (lfF f n d (p + 1)) p mk r))]) hx hb dX1_leastFrom_98 hl (k := 7) rfl (cd_i1 _) (by decide) rfl (fun ls hl => ?_)
                    refine lv_goto (tgt := 19) hx hb dX1_leastFrom_101 (by decide) ?_
                    have hl : lv_has ls 8 [(5, .int (nI (r + 1))), (7, .int (lfF f n d (p + 1) (mk ||| 2 ^ (nv (f (p * 4 + r)))))), (6, .int (nI (nv (f (p * 4 + r))))), (0, .ref a), (1, .int (nI n)), (2, .int (nI p)), (3, .int (nI mk)), (4, .int (lfL f (lfF f n d (p + 1)) p mk (r + 1)))] := by rw [← (by rw [lfL_s, if_neg hno, if_neg c_72]; exact (if_neg (fun q => q.elim c_78 (Int32.not_lt.mpr c_88))).symm : (lfL f (lfF f n d (p + 1)) p mk r : Int32) = lfL f (lfF f n d (p + 1)) p mk (r + 1))]; exact hl
                    exact ih_19 (r + 1) (by omega) (by omega) _ (lv_sub hl [3, 4, 5, 6, 7, 0] rfl)
                  · refine lv_iload hx hb dX1_leastFrom_91 (lv_at hl 7 rfl) ?_
                    refine lv_iload hx hb dX1_leastFrom_93 (lv_at hl 0 rfl) ?_
                    refine lv_iadd hx hb dX1_leastFrom_95 ?_
                    refine lv_istore (lv' := [(4, .int ((nI r) + (lfF f n d (p + 1) (mk ||| 2 ^ (nv (f (p * 4 + r))))))), (7, .int (lfF f n d (p + 1) (mk ||| 2 ^ (nv (f (p * 4 + r)))))), (6, .int (nI (nv (f (p * 4 + r))))), (0, .ref a), (1, .int (nI n)), (2, .int (nI p)), (3, .int (nI mk)), (5, .int (nI r))]) hx hb dX1_leastFrom_96 hl (by decide) rfl (fun ls hl => ?_)
                    refine lv_iinc (v := nI (r + 1)) (lv' := [(5, .int (nI (r + 1))), (4, .int ((nI r) + (lfF f n d (p + 1) (mk ||| 2 ^ (nv (f (p * 4 + r))))))), (7, .int (lfF f n d (p + 1) (mk ||| 2 ^ (nv (f (p * 4 + r)))))), (6, .int (nI (nv (f (p * 4 + r))))), (0, .ref a), (1, .int (nI n)), (2, .int (nI p)), (3, .int (nI mk))]) hx hb dX1_leastFrom_98 hl (k := 7) rfl (cd_i1 _) (by decide) rfl (fun ls hl => ?_)
                    refine lv_goto (tgt := 19) hx hb dX1_leastFrom_101 (by decide) ?_
                    have hl : lv_has ls 8 [(5, .int (nI (r + 1))), (4, .int (lfL f (lfF f n d (p + 1)) p mk (r + 1))), (7, .int (lfF f n d (p + 1) (mk ||| 2 ^ (nv (f (p * 4 + r)))))), (6, .int (nI (nv (f (p * 4 + r))))), (0, .ref a), (1, .int (nI n)), (2, .int (nI p)), (3, .int (nI mk))] := by rw [← (by rw [lfL_s, if_neg hno, if_neg c_72]; exact (if_pos (Or.inr (Int32.not_le.mp c_88))).symm : ((nI r) + (lfF f n d (p + 1) (mk ||| 2 ^ (nv (f (p * 4 + r))))) : Int32) = lfL f (lfF f n d (p + 1)) p mk (r + 1))]; exact hl
                    exact ih_19 (r + 1) (by omega) (by omega) _ (lv_sub hl [4, 5, 6, 7, 1, 0] rfl)
            · refine lv_goto (tgt := 98) hx hb dX1_leastFrom_50 (by decide) ?_
              refine lv_iinc (v := nI (r + 1)) (lv' := [(5, .int (nI (r + 1))), (6, .int (nI (nv (f (p * 4 + r))))), (0, .ref a), (1, .int (nI n)), (2, .int (nI p)), (3, .int (nI mk)), (4, .int (lfL f (lfF f n d (p + 1)) p mk r))]) hx hb dX1_leastFrom_98 hl (k := 6) rfl (cd_i1 _) (by decide) rfl (fun ls hl => ?_)
              refine lv_goto (tgt := 19) hx hb dX1_leastFrom_101 (by decide) ?_
              have hl : lv_has ls 8 [(5, .int (nI (r + 1))), (6, .int (nI (nv (f (p * 4 + r))))), (0, .ref a), (1, .int (nI n)), (2, .int (nI p)), (3, .int (nI mk)), (4, .int (lfL f (lfF f n d (p + 1)) p mk (r + 1)))] := by rw [← (by rw [lfL_s, if_pos (Or.inr c_47)] : (lfL f (lfF f n d (p + 1)) p mk r : Int32) = lfL f (lfF f n d (p + 1)) p mk (r + 1))]; exact hl
              exact ih_19 (r + 1) (by omega) (by omega) _ (lv_sub hl [2, 3, 4, 5, 6, 0] rfl)
      · refine lv_iconst (v := nI 0) hx hb dX1_leastFrom_11 (by decide) ?_
        exact W.iret (v := nI 0) hx hb hr (fun t ht hW => ⟨_, rfl, (by unfold lfF; rw [if_pos (by omega)]), ht⟩) (fun _ h9 => nomatch h9) dX1_leastFrom_12
end
section
set_option maxHeartbeats 4000000 in
set_option maxRecDepth 100000 in
theorem c_X1_leastStrain (l : Launch) (D : va_G) (cy : qT) (h : Nat → Nat) (J : qS) (n : Nat) (hn : n ≤ 8) (hA13 : ∀ i, i < 32 → J 13 i = -1 ∨ bd (J 13 i) 12) : Met l yX1_leastStrain wsX1_leastStrain ({ frames := 10, cells := 0, slots := 0, locals := 264 }) (va_Pc [.ref (h 12), .int (nI n)] (roB D cy (wX1 cy h J))) (vp_Si (fun r9 => r9 = lfF (J 13) n 8 0 0)) 0 0 (fun _ => False) := by
  refine Met.ofW (cc := cX1_leastStrain) (maxL := 2) (ret := (some .int)) (by decide) rfl ?_
  intro pp e9 s m9 args9 bl9 meth9 c9 s9 B hml hv
  obtain ⟨rfl, hP, hG⟩ := hv
  have hx := B.exec
  have hb := B.bytes
  have hr := B.returns
  have hts := atoms_spec (ws := wsX1_leastStrain) B.pre
  have hown : s.vm.findClass RX1 = some m9.cls := findClass_of_methodNamed B.named
  have hlocks := B.notSynchronized
  have hK := hG.K
  have f_11 := hts (.fieldLink RX1 11 "CastDesk$Casting" "actors" "[I") (by decide +kernel)
  have iX1 : ∀ w ∈ wsX10, w ∈ wsX1_leastStrain := by decide +kernel
  have hl := lv_entry ([.ref (h 12), .int (nI n)]) (n := 2) (Nat.le_of_ble_eq_true rfl)
  rw [lg_entry_eq]
  generalize (lg_sl ([.ref (h 12), .int (nI n)]) ++ List.replicate (2 - (lg_sl ([.ref (h 12), .int (nI n)])).length) Slot.unset).toArray = ls at hl ⊢
  have hl : lv_has ls 2 [(0, .ref (h 12)), (1, .int (nI n))] := hl
  refine lv_aload_n hx hb dX1_leastStrain_0 rfl (lv_at hl 0 rfl) ?_
  refine va_get (D := D) (ci := 1) (v := .ref (h 13)) (C := RX1) (T := TX1) (N := 4) hx hb hts iX1 hown hK hP 0 rfl rfl 0 (by decide) f_11 (fun _ h9 => h9) rfl dX1_leastStrain_1 ?_
  refine lv_iload_n hx hb dX1_leastStrain_4 rfl (lv_at hl 1 rfl) ?_
  refine lv_iconst (v := nI 0) hx hb dX1_leastStrain_5 (by decide) ?_
  refine lv_iconst (v := nI 0) hx hb dX1_leastStrain_6 (by decide) ?_
  have M_7 := c_X1_leastFrom l D cy (h 13) (J 13) n hn hA13 8 0 0 (by decide) (by decide)
  have hPc := hP.sub (ws' := [((h 13), aI cy 32 (J 13))]) [1] rfl
  refine cd_roi (va_runS (As := [.ref (h 13), .int (nI n), .int (nI 0), .int (nI 0)]) (rest := []) ⟨hx, hb, hml, hown, hts⟩ M_7 (va_cwS 4 hts gX1_leastStrain_X1_leastFrom rfl rfl rfl (by decide +kernel) ⟨Nat.le_of_ble_eq_true rfl, Nat.le_of_ble_eq_true rfl⟩) ⟨roB.bl, fun U hU hW => ⟨rfl, by rw [hU]; exact hPc, hG.warm hW⟩⟩ rfl rfl hl.1 rfl (lv_room (Nat.le_of_ble_eq_true rfl)) dX1_leastStrain_7 (by exact ⟨Nat.zero_le _, Nat.zero_le _⟩)) (fun r_7 hr_7 => ?_)
  subst hr_7
  exact W.iret (v := lfF (J 13) n 8 0 0) hx hb hr (fun t ht hW => ⟨_, rfl, rfl, ht⟩) (fun _ h9 => nomatch h9) dX1_leastStrain_10
end
section
set_option maxHeartbeats 4000000 in
set_option maxRecDepth 100000 in
theorem c_X6_offerActors (l : Launch) (D : va_G) (cy : qT) (h : Nat → Nat) (S : qS) (J : qS) (hI : Inv S) (mk : Nat) (hm : mk < 4096) (sz : Nat) : Met l yX6_offerActors wsX6_offerActors ({ frames := 2, cells := 0, slots := 0, locals := 47 }) (va_Pc [.ref (h 0), .int (nI mk)] (wrB D cy (wC cy h S J) sz)) (va_Qv (fun (u : Unit) => True) (wrQ D (va_A (wC cy h S J) sz) (fun u : Unit => (wC cy h S (va_up (va_up (va_up J 13 (ofA S mk (clF (J 13) 32) (nv (S 27 0) * 4))) 12 (fun _ => nI (ofB S mk (nv (S 27 0) * 4)))) 14 (ofK S mk (J 14) (nv (S 27 0) * 4)))))) (va_A (wC cy h S J) sz)) 0 0 (va_A (wC cy h S J) sz) := by
  refine Met.ofW (cc := cX6_offerActors) (maxL := 6) (ret := none) (by decide) rfl ?_
  intro pp e9 s m9 args9 bl9 meth9 c9 s9 B hml hv
  obtain ⟨rfl, hsz, hP, hG, hD0⟩ := hv
  have hx := B.exec
  have hb := B.bytes
  have hr := B.returns
  have hts := atoms_spec (ws := wsX6_offerActors) B.pre
  have hown : s.vm.findClass RX6 = some m9.cls := findClass_of_methodNamed B.named
  have hlocks := B.notSynchronized
  have hK := hG.K
  subst hsz
  have hD := hD0.self (sz := s.heap.size)
  generalize hAe : (va_A (wC cy h S J) s.heap.size) = A at hD ⊢
  have hA : ∀ q : Nat, s.heap.size ≤ q → A q := fun q h9 => by rw [← hAe]; exact Or.inr h9
  have hS : va_S A s.heap s.heap [] := va_S.rf
  have hP : va_P D vwCl (wC cy h S J) s.heap := hP
  have f_33 := hts (.fieldLink RX6 33 "CastDesk" "casting" "LCastDesk$Casting;") (by decide +kernel)
  have f_51 := hts (.fieldLink RX6 51 "CastDesk" "partCount" "I") (by decide +kernel)
  have f_19 := hts (.fieldLink RX6 19 "CastDesk" "rows" "LCastDesk$Rows;") (by decide +kernel)
  have f_26 := hts (.fieldLink RX6 26 "CastDesk" "wardrobe" "LCastDesk$Wardrobe;") (by decide +kernel)
  have f_10 := hts (.fieldLink RX6 10 "CastDesk" "troupe" "LCastDesk$Troupe;") (by decide +kernel)
  have f_72 := hts (.fieldLink RX6 72 "CastDesk$Troupe" "sizes" "[I") (by decide +kernel)
  have iX4 : ∀ w ∈ wsX40, w ∈ wsX6_offerActors := by decide +kernel
  have iX6 : ∀ w ∈ wsX60, w ∈ wsX6_offerActors := by decide +kernel
  have hl := lv_entry ([.ref (h 0), .int (nI mk)]) (n := 6) (Nat.le_of_ble_eq_true rfl)
  rw [lg_entry_eq]
  generalize (lg_sl ([.ref (h 0), .int (nI mk)]) ++ List.replicate (6 - (lg_sl ([.ref (h 0), .int (nI mk)])).length) Slot.unset).toArray = ls at hl ⊢
  have hl : lv_has ls 6 [(0, .ref (h 0)), (1, .int (nI mk))] := hl
  have h27 := (iv_27 hI).1.2
  refine lv_aload_n hx hb dX6_offerActors_0 rfl (lv_at hl 0 rfl) ?_
  refine va_get (D := D) (ci := 6) (v := .ref (h 12)) (C := RX6) (T := TX6) (N := 8) hx hb hts iX6 hown hK hP 0 rfl rfl 3 (by decide) f_33 (fun _ h9 => h9) rfl dX6_offerActors_1 ?_
  have M_4 := c_X1_clear l D cy h J s.heap.size
  have hPc := hP.sub (ws' := (wX1 cy h J)) [12, 13, 14, 15] rfl
  have hDc := hD.sub (ws' := (wX1 cy h J)) [12, 13, 14, 15] (by decide) rfl
  refine cd_frv (S := Unit) (W1 := fun u => (wX1 cy h (va_up (va_up J 13 (clF (J 13) 32)) 12 (fun _ => nI 1)))) (ws' := fun u => (wC cy h S (va_up (va_up J 13 (clF ((J 13)) 32)) 12 (fun _ => nI 1)))) (wc := (wX1 cy h J)) (wr := [(h 0, .inr (6, [.ref (h 1), .ref (h 5), .ref (h 8), .ref (h 12), .ref (h 16), .ref (h 20), .int (S 27 0), .int (S 28 0)])), (h 1, .inr (4, [.ref (h 2), .ref (h 3), .ref (h 4)])), (h 2, aI cy 12 (S 2)), (h 3, aI cy 12 (S 3)), (h 4, aI cy 1001 (S 4)), (h 5, .inr (3, [.ref (h 6), .ref (h 7)])), (h 6, aI cy 32 (S 6)), (h 7, aI cy 8 (S 7)), (h 8, .inr (5, [.ref (h 9), .ref (h 10), .ref (h 11), .int (S 29 0)])), (h 9, aI cy 40 (S 9)), (h 10, aI cy 40 (S 10)), (h 11, aZ cy 40 (S 11)), (h 16, .inr (2, [.ref (h 17), .ref (h 18), .ref (h 19), .int (S 30 0)])), (h 17, aI cy 40 (S 17)), (h 18, aI cy 320 (S 18)), (h 19, aI cy 40 (S 19)), (h 20, .inr (0, [.ref (h 21), .ref (h 22), .ref (h 23), .ref (h 24), .ref (h 25), .ref (h 26), .int (S 31 0), .int (S 32 0)])), (h 21, aI cy 100 (S 21)), (h 22, aI cy 100 (S 22)), (h 23, aI cy 100 (S 23)), (h 24, aI cy 100 (S 24)), (h 25, aI cy 100 (S 25)), (h 26, aI cy 100 (S 26))]) (va_runV (As := []) (rest := []) ⟨hx, hb, hml, hown, hts⟩ M_4 (cwV 0 hts gX6_offerActors_X1_clear rfl rfl rfl (by decide +kernel) ⟨Nat.le_of_ble_eq_true rfl, Nat.le_of_ble_eq_true rfl⟩) ⟨wrB.bl, va_recv hK hP (ci := 1) (q0 := 12) rfl rfl, fun U hU hW => ⟨rfl, by rw [hU], by rw [hU]; exact hPc, hG.warm hW, hDc.weaken (fun _ _ _ _ => trivial)⟩⟩ rfl rfl hl.1 rfl (lv_room (Nat.le_of_ble_eq_true rfl)) dX6_offerActors_4 (by exact ⟨Nat.zero_le _, Nat.zero_le _⟩)) hP hD hS hA [12, 13, 14, 15] [0, 1, 2, 3, 4, 5, 6, 7, 8, 9, 10, 11, 16, 17, 18, 19, 20, 21, 22, 23, 24, 25, 26] [0, 1, 2, 3, 4, 5, 6, 7, 8, 9, 10, 11, 23, 24, 25, 26, 12, 13, 14, 15, 16, 17, 18, 19, 20, 21, 22] rfl rfl (by decide) (by decide) (by decide) (fun _ => rfl) (fun _ H locs hw_4 hP hD hS => ?_)
  have hP : va_P D vwCl (wC cy h S (va_up (va_up J 13 (clF ((J 13)) 32)) 12 (fun _ => nI 1))) H := hP
  have hD : va_D A (wC cy h S (va_up (va_up J 13 (clF ((J 13)) 32)) 12 (fun _ => nI 1))) := hD
  refine lv_iconst (v := nI 0) hx hb dX6_offerActors_7 (by decide) ?_
  refine lv_istore_n (lv' := [(2, .int (nI 0)), (0, .ref (h 0)), (1, .int (nI mk))]) hx hb dX6_offerActors_8 rfl hl (by decide) rfl (fun ls hl => ?_)
  refine wh1 (nL := 6) (fun (p : Nat) => p ≤ nv (S 27 0)) (fun (p : Nat) => nv (S 27 0) - p) (fun (p : Nat) => [(0, .ref (h 0)), (1, .int (nI mk)), (2, .int (nI p))]) (fun (p : Nat) => (wC cy h S (va_up (va_up (va_up J 13 (ofA S mk (clF (J 13) 32) (p * 4))) 12 (fun _ => nI (ofB S mk (p * 4)))) 14 (ofK S mk (J 14) (p * 4))))) (fun p hi_9 ih_9 H locs hP hD hS ls hl => ?_) 0 (Nat.zero_le _) (by rw [show ofA S mk (clF (J 13) 32) (0 * 4) = clF (J 13) 32 from ofX_0 S mk _ _, show ofK S mk (J 14) (0 * 4) = J 14 from ofX_0 S mk _ _]; exact hP) (by rw [show ofA S mk (clF (J 13) 32) (0 * 4) = clF (J 13) 32 from ofX_0 S mk _ _, show ofK S mk (J 14) (0 * 4) = J 14 from ofX_0 S mk _ _]; exact hD) hS (lv_sub hl [1, 2, 0] rfl)
  have hP : va_P D vwCl (wC cy h S (va_up (va_up (va_up J 13 (ofA S mk (clF (J 13) 32) (p * 4))) 12 (fun _ => nI (ofB S mk (p * 4)))) 14 (ofK S mk (J 14) (p * 4)))) H := hP
  have hD : va_D A (wC cy h S (va_up (va_up (va_up J 13 (ofA S mk (clF (J 13) 32) (p * 4))) 12 (fun _ => nI (ofB S mk (p * 4)))) 14 (ofK S mk (J 14) (p * 4)))) := hD
  refine lv_iload_n hx hb dX6_offerActors_9 rfl (lv_at hl 2 rfl) ?_
  refine lv_aload_n hx hb dX6_offerActors_10 rfl (lv_at hl 0 rfl) ?_
  refine va_get (D := D) (ci := 6) (v := .int (S 27 0)) (C := RX6) (T := TX6) (N := 8) hx hb hts iX6 hown hK hP 0 rfl rfl 6 (by decide) f_51 (fun _ h9 => h9) rfl dX6_offerActors_11 ?_
  have b_11 := (iv_27 hI).1
  refine cd_tp (y := nI (nv (S 27 0))) b_11.1 ?_
  have b_11 := b_11.2
  refine cd_icmp_ge (tgt := 114) hx hb dX6_offerActors_14 (by decide) (by omega) (by omega) (fun c_14 => ?_) (fun c_14 => ?_)
  · have ep : p = nv (S 27 0) := by omega
    subst ep
    have hP : va_P D vwCl (wC cy h S (va_up (va_up (va_up J 13 (ofA S mk (clF (J 13) 32) ((nv (S 27 0)) * 4))) 12 (fun _ => nI (ofB S mk ((nv (S 27 0)) * 4)))) 14 (ofK S mk (J 14) ((nv (S 27 0)) * 4)))) H := hP
    have hD : va_D A (wC cy h S (va_up (va_up (va_up J 13 (ofA S mk (clF (J 13) 32) ((nv (S 27 0)) * 4))) 12 (fun _ => nI (ofB S mk ((nv (S 27 0)) * 4)))) 14 (ofK S mk (J 14) ((nv (S 27 0)) * 4)))) := hD
    exact W.vret hx hb hr (fun t ht hW => ⟨⟨(), rfl, trivial, by rw [ht]; exact hP, hD⟩, hS.F ht⟩) hS.2.2 dX6_offerActors_114
  · refine lv_iconst (v := nI 0) hx hb dX6_offerActors_17 (by decide) ?_
    refine lv_istore_n (lv' := [(3, .int (nI 0)), (0, .ref (h 0)), (1, .int (nI mk)), (2, .int (nI p))]) hx hb dX6_offerActors_18 rfl hl (by decide) rfl (fun ls hl => ?_)
    refine wh1 (nL := 6) (fun (r : Nat) => r ≤ 4) (fun (r : Nat) => 4 - r) (fun (r : Nat) => [(0, .ref (h 0)), (1, .int (nI mk)), (2, .int (nI p)), (3, .int (nI r))]) (fun (r : Nat) => (wC cy h S (va_up (va_up (va_up J 13 (ofA S mk (clF (J 13) 32) (p * 4 + r))) 12 (fun _ => nI (ofB S mk (p * 4 + r)))) 14 (ofK S mk (J 14) (p * 4 + r))))) (fun r hi_19 ih_19 H locs hP hD hS ls hl => ?_) 0 (by decide) hP hD hS (lv_sub hl [1, 2, 3, 0] rfl)
    have hP : va_P D vwCl (wC cy h S (va_up (va_up (va_up J 13 (ofA S mk (clF (J 13) 32) (p * 4 + r))) 12 (fun _ => nI (ofB S mk (p * 4 + r)))) 14 (ofK S mk (J 14) (p * 4 + r)))) H := hP
    have hD : va_D A (wC cy h S (va_up (va_up (va_up J 13 (ofA S mk (clF (J 13) 32) (p * 4 + r))) 12 (fun _ => nI (ofB S mk (p * 4 + r)))) 14 (ofK S mk (J 14) (p * 4 + r)))) := hD
    refine lv_iload_n hx hb dX6_offerActors_19 rfl (lv_at hl 3 rfl) ?_
    refine lv_iconst (v := nI 4) hx hb dX6_offerActors_20 (by decide) ?_
    refine cd_icmp_ge (tgt := 108) hx hb dX6_offerActors_21 (by decide) (by omega) (by omega) (fun c_21 => ?_) (fun c_21 => ?_)
    · have er : r = 4 := by omega
      subst er
      have hP : va_P D vwCl (wC cy h S (va_up (va_up (va_up J 13 (ofA S mk (clF (J 13) 32) (p * 4 + 4))) 12 (fun _ => nI (ofB S mk (p * 4 + 4)))) 14 (ofK S mk (J 14) (p * 4 + 4)))) H := hP
      have hD : va_D A (wC cy h S (va_up (va_up (va_up J 13 (ofA S mk (clF (J 13) 32) (p * 4 + 4))) 12 (fun _ => nI (ofB S mk (p * 4 + 4)))) 14 (ofK S mk (J 14) (p * 4 + 4)))) := hD
      have e4 : p * 4 + 4 = (p + 1) * 4 := by omega
      rw [e4] at hP hD
      have hP : va_P D vwCl (wC cy h S (va_up (va_up (va_up J 13 (ofA S mk (clF (J 13) 32) ((p + 1) * 4))) 12 (fun _ => nI (ofB S mk ((p + 1) * 4)))) 14 (ofK S mk (J 14) ((p + 1) * 4)))) H := hP
      have hD : va_D A (wC cy h S (va_up (va_up (va_up J 13 (ofA S mk (clF (J 13) 32) ((p + 1) * 4))) 12 (fun _ => nI (ofB S mk ((p + 1) * 4)))) 14 (ofK S mk (J 14) ((p + 1) * 4)))) := hD
      refine lv_iinc (v := nI (p + 1)) (lv' := [(2, .int (nI (p + 1))), (0, .ref (h 0)), (1, .int (nI mk)), (3, .int (nI 4))]) hx hb dX6_offerActors_108 hl (k := 2) rfl (cd_i1 _) (by decide) rfl (fun ls hl => ?_)
      refine lv_goto (tgt := 9) hx hb dX6_offerActors_111 (by decide) ?_
      exact ih_9 (p + 1) (by omega) (by omega) _ _ hP hD hS _ (lv_sub hl [1, 2, 0] rfl)
    · refine lv_aload_n hx hb dX6_offerActors_24 rfl (lv_at hl 0 rfl) ?_
      refine va_get (D := D) (ci := 6) (v := .ref (h 5)) (C := RX6) (T := TX6) (N := 8) hx hb hts iX6 hown hK hP 0 rfl rfl 1 (by decide) f_19 (fun _ h9 => h9) rfl dX6_offerActors_25 ?_
      refine lv_iload_n hx hb dX6_offerActors_28 rfl (lv_at hl 2 rfl) ?_
      refine lv_iload_n hx hb dX6_offerActors_29 rfl (lv_at hl 3 rfl) ?_
      have M_30 := c_X3_actorAt l D cy h S hI p r (by omega) (by omega)
      have hPc := hP.sub (ws' := (wX3 cy h S)) [5, 6, 7] rfl
      refine cd_roi (va_runV (As := [.int (nI p), .int (nI r)]) (rest := []) ⟨hx, hb, hml, hown, hts⟩ M_30 (cwV 2 hts gX6_offerActors_X3_actorAt rfl rfl rfl (by decide +kernel) ⟨Nat.le_of_ble_eq_true rfl, Nat.le_of_ble_eq_true rfl⟩) ⟨roB.bl, va_recv hK hP (ci := 3) (q0 := 5) rfl rfl, fun U hU hW => ⟨rfl, by rw [hU]; exact hPc, hG.warm hW⟩⟩ rfl rfl hl.1 rfl (lv_room (Nat.le_of_ble_eq_true rfl)) dX6_offerActors_30 (by exact ⟨Nat.zero_le _, Nat.zero_le _⟩)) (fun r_30 hr_30 => ?_)
      subst hr_30
      refine lv_istore (lv' := [(4, .int (acI S p r)), (0, .ref (h 0)), (1, .int (nI mk)), (2, .int (nI p)), (3, .int (nI r))]) hx hb dX6_offerActors_33 hl (by decide) rfl (fun ls hl => ?_)
      refine lv_iload hx hb dX6_offerActors_35 (lv_at hl 0 rfl) ?_
      refine lv_iconst (v := (-1)) hx hb dX6_offerActors_37 (by decide) ?_
      refine lv_icmp_eq (tgt := 102) hx hb dX6_offerActors_38 (by decide) (fun c_38 => ?_) (fun c_38 => ?_)
      · refine lv_iinc (v := nI (r + 1)) (lv' := [(3, .int (nI (r + 1))), (4, .int (acI S p r)), (0, .ref (h 0)), (1, .int (nI mk)), (2, .int (nI p))]) hx hb dX6_offerActors_102 hl (k := 4) rfl (cd_i1 _) (by decide) rfl (fun ls hl => ?_)
        refine lv_goto (tgt := 19) hx hb dX6_offerActors_105 (by decide) ?_
        have hav : avB S mk (p * 4 + r) = false := by rw [avB_at (by omega), decide_eq_false (ac_f hI (by omega) c_38)]; rfl
        rw [show (ofA S mk (clF (J 13) 32) (p * 4 + r)) = (ofA S mk (clF (J 13) 32) (p * 4 + (r + 1))) from ofX_n hav] at hP hD
        have hP : va_P D vwCl (wC cy h S (va_up (va_up (va_up J 13 (ofA S mk (clF (J 13) 32) (p * 4 + (r + 1)))) 12 (fun _ => nI (ofB S mk (p * 4 + r)))) 14 (ofK S mk (J 14) (p * 4 + r)))) H := hP
        have hD : va_D A (wC cy h S (va_up (va_up (va_up J 13 (ofA S mk (clF (J 13) 32) (p * 4 + (r + 1)))) 12 (fun _ => nI (ofB S mk (p * 4 + r)))) 14 (ofK S mk (J 14) (p * 4 + r)))) := hD
        rw [show (ofK S mk (J 14) (p * 4 + r)) = (ofK S mk (J 14) (p * 4 + (r + 1))) from ofX_n hav] at hP hD
        have hP : va_P D vwCl (wC cy h S (va_up (va_up (va_up J 13 (ofA S mk (clF (J 13) 32) (p * 4 + (r + 1)))) 12 (fun _ => nI (ofB S mk (p * 4 + r)))) 14 (ofK S mk (J 14) (p * 4 + (r + 1))))) H := hP
        have hD : va_D A (wC cy h S (va_up (va_up (va_up J 13 (ofA S mk (clF (J 13) 32) (p * 4 + (r + 1)))) 12 (fun _ => nI (ofB S mk (p * 4 + r)))) 14 (ofK S mk (J 14) (p * 4 + (r + 1))))) := hD
        rw [show ((fun _ => nI (ofB S mk (p * 4 + r)) : Nat → Int32)) = ((fun _ => nI (ofB S mk (p * 4 + (r + 1))) : Nat → Int32)) from by rw [ofB_n hav]; rfl] at hP hD
        have hP : va_P D vwCl (wC cy h S (va_up (va_up (va_up J 13 (ofA S mk (clF (J 13) 32) (p * 4 + (r + 1)))) 12 (fun _ => nI (ofB S mk (p * 4 + (r + 1))))) 14 (ofK S mk (J 14) (p * 4 + (r + 1))))) H := hP
        have hD : va_D A (wC cy h S (va_up (va_up (va_up J 13 (ofA S mk (clF (J 13) 32) (p * 4 + (r + 1)))) 12 (fun _ => nI (ofB S mk (p * 4 + (r + 1))))) 14 (ofK S mk (J 14) (p * 4 + (r + 1))))) := hD
        exact ih_19 (r + 1) (by omega) (by omega) _ _ hP hD hS _ (lv_sub hl [2, 3, 4, 0] rfl)
      · have hac := ac_t hI (by omega) c_38
        have hac3 := hac.2.2
        have hl : lv_has ls 6 [(4, .int (nI (nv (S 6 (p * 4 + r))))), (0, .ref (h 0)), (1, .int (nI mk)), (2, .int (nI p)), (3, .int (nI r))] := by rw [← (hac.2.1 : (acI S p r : Int32) = nI (nv (S 6 (p * 4 + r))))]; exact hl
        refine lv_aload_n hx hb dX6_offerActors_41 rfl (lv_at hl 1 rfl) ?_
        refine lv_iload hx hb dX6_offerActors_42 (lv_at hl 0 rfl) ?_
        refine lv_iload_n hx hb dX6_offerActors_44 rfl (lv_at hl 3 rfl) ?_
        refine lv_iload_n hx hb dX6_offerActors_45 rfl (lv_at hl 2 rfl) ?_
        have M_46 := c_X6_isReady l D cy h S (va_up (va_up (va_up J 13 (ofA S mk (clF (J 13) 32) (p * 4 + r))) 12 (fun _ => nI (ofB S mk (p * 4 + r)))) 14 (ofK S mk (J 14) (p * 4 + r))) hI (nv (S 6 (p * 4 + r))) p mk hac3 (by omega) hm
        refine cd_roi (va_runV (As := [.int (nI (nv (S 6 (p * 4 + r)))), .int (nI p), .int (nI mk)]) (rest := []) ⟨hx, hb, hml, hown, hts⟩ M_46 (cwV 3 hts gX6_offerActors_X6_isReady rfl rfl rfl (by decide +kernel) ⟨Nat.le_of_ble_eq_true rfl, Nat.le_of_ble_eq_true rfl⟩) ⟨roB.bl, va_recv hK hP (ci := 6) (q0 := 0) rfl rfl, fun U hU hW => ⟨rfl, by rw [hU]; exact hP, hG.warm hW⟩⟩ rfl rfl hl.1 rfl (lv_room (Nat.le_of_ble_eq_true rfl)) dX6_offerActors_46 (by exact ⟨Nat.zero_le _, Nat.zero_le _⟩)) (fun r_46 hr_46 => ?_)
        subst hr_46
        refine cd_ifB_eq (tgt := 102) hx hb dX6_offerActors_49 (by decide) (fun c_49 => ?_) (fun c_49 => ?_)
        · refine lv_iinc (v := nI (r + 1)) (lv' := [(3, .int (nI (r + 1))), (4, .int (nI (nv (S 6 (p * 4 + r))))), (0, .ref (h 0)), (1, .int (nI mk)), (2, .int (nI p))]) hx hb dX6_offerActors_102 hl (k := 4) rfl (cd_i1 _) (by decide) rfl (fun ls hl => ?_)
          refine lv_goto (tgt := 19) hx hb dX6_offerActors_105 (by decide) ?_
          have hav : avB S mk (p * 4 + r) = false := by rw [avB_at (by omega), c_49, Bool.and_false]
          rw [show (ofA S mk (clF (J 13) 32) (p * 4 + r)) = (ofA S mk (clF (J 13) 32) (p * 4 + (r + 1))) from ofX_n hav] at hP hD
          have hP : va_P D vwCl (wC cy h S (va_up (va_up (va_up J 13 (ofA S mk (clF (J 13) 32) (p * 4 + (r + 1)))) 12 (fun _ => nI (ofB S mk (p * 4 + r)))) 14 (ofK S mk (J 14) (p * 4 + r)))) H := hP
          have hD : va_D A (wC cy h S (va_up (va_up (va_up J 13 (ofA S mk (clF (J 13) 32) (p * 4 + (r + 1)))) 12 (fun _ => nI (ofB S mk (p * 4 + r)))) 14 (ofK S mk (J 14) (p * 4 + r)))) := hD
          rw [show (ofK S mk (J 14) (p * 4 + r)) = (ofK S mk (J 14) (p * 4 + (r + 1))) from ofX_n hav] at hP hD
          have hP : va_P D vwCl (wC cy h S (va_up (va_up (va_up J 13 (ofA S mk (clF (J 13) 32) (p * 4 + (r + 1)))) 12 (fun _ => nI (ofB S mk (p * 4 + r)))) 14 (ofK S mk (J 14) (p * 4 + (r + 1))))) H := hP
          have hD : va_D A (wC cy h S (va_up (va_up (va_up J 13 (ofA S mk (clF (J 13) 32) (p * 4 + (r + 1)))) 12 (fun _ => nI (ofB S mk (p * 4 + r)))) 14 (ofK S mk (J 14) (p * 4 + (r + 1))))) := hD
          rw [show ((fun _ => nI (ofB S mk (p * 4 + r)) : Nat → Int32)) = ((fun _ => nI (ofB S mk (p * 4 + (r + 1))) : Nat → Int32)) from by rw [ofB_n hav]; rfl] at hP hD
          have hP : va_P D vwCl (wC cy h S (va_up (va_up (va_up J 13 (ofA S mk (clF (J 13) 32) (p * 4 + (r + 1)))) 12 (fun _ => nI (ofB S mk (p * 4 + (r + 1))))) 14 (ofK S mk (J 14) (p * 4 + (r + 1))))) H := hP
          have hD : va_D A (wC cy h S (va_up (va_up (va_up J 13 (ofA S mk (clF (J 13) 32) (p * 4 + (r + 1)))) 12 (fun _ => nI (ofB S mk (p * 4 + (r + 1))))) 14 (ofK S mk (J 14) (p * 4 + (r + 1))))) := hD
          exact ih_19 (r + 1) (by omega) (by omega) _ _ hP hD hS _ (lv_sub hl [2, 3, 4, 0] rfl)
        · refine lv_aload_n hx hb dX6_offerActors_52 rfl (lv_at hl 1 rfl) ?_
          refine va_get (D := D) (ci := 6) (v := .ref (h 8)) (C := RX6) (T := TX6) (N := 8) hx hb hts iX6 hown hK hP 0 rfl rfl 2 (by decide) f_26 (fun _ h9 => h9) rfl dX6_offerActors_53 ?_
          refine lv_iload_n hx hb dX6_offerActors_56 rfl (lv_at hl 3 rfl) ?_
          refine lv_aload_n hx hb dX6_offerActors_57 rfl (lv_at hl 1 rfl) ?_
          refine va_get (D := D) (ci := 6) (v := .ref (h 1)) (C := RX6) (T := TX6) (N := 8) hx hb hts iX6 hown hK hP 0 rfl rfl 0 (by decide) f_10 (fun _ h9 => h9) rfl dX6_offerActors_58 ?_
          refine va_get (D := D) (ci := 4) (v := .ref (h 2)) (C := RX4) (T := TX4) (N := 3) hx hb hts iX4 hown hK hP 1 rfl rfl 0 (by decide) f_72 (fun _ h9 => h9) rfl dX6_offerActors_61 ?_
          refine lv_iload hx hb dX6_offerActors_64 (lv_at hl 0 rfl) ?_
          refine cd_iald (f := S 2) hx hb hK hP 2 rfl (by omega) (by decide) dX6_offerActors_66 ?_
          have M_67 := c_X5_lowestFitting l D cy h S hI p ((S 2) (nv (S 6 (p * 4 + r))))
          have hPc := hP.sub (ws' := (wX5 cy h S)) [8, 9, 10, 11] rfl
          refine cd_roi (va_runV (As := [.int (nI p), .int ((S 2) (nv (S 6 (p * 4 + r))))]) (rest := []) ⟨hx, hb, hml, hown, hts⟩ M_67 (cwV 2 hts gX6_offerActors_X5_lowestFitting rfl rfl rfl (by decide +kernel) ⟨Nat.le_of_ble_eq_true rfl, Nat.le_of_ble_eq_true rfl⟩) ⟨roB.bl, va_recv hK hP (ci := 5) (q0 := 8) rfl rfl, fun U hU hW => ⟨rfl, by rw [hU]; exact hPc, hG.warm hW⟩⟩ rfl rfl hl.1 rfl (lv_room (Nat.le_of_ble_eq_true rfl)) dX6_offerActors_67 (by exact ⟨Nat.zero_le _, Nat.zero_le _⟩)) (fun r_67 hr_67 => ?_)
          subst hr_67
          refine lv_iconst (v := (-1)) hx hb dX6_offerActors_70 (by decide) ?_
          refine lv_icmp_ne (tgt := 78) hx hb dX6_offerActors_71 (by decide) (fun c_71 => ?_) (fun c_71 => ?_)
          · refine lv_iconst (v := nI 0) hx hb dX6_offerActors_78 (by decide) ?_
            refine lv_istore (lv' := [(5, .int (nI 0)), (4, .int (nI (nv (S 6 (p * 4 + r))))), (0, .ref (h 0)), (1, .int (nI mk)), (2, .int (nI p)), (3, .int (nI r))]) hx hb dX6_offerActors_79 hl (by decide) rfl (fun ls hl => ?_)
            refine lv_aload_n hx hb dX6_offerActors_81 rfl (lv_at hl 2 rfl) ?_
            refine va_get (D := D) (ci := 6) (v := .ref (h 12)) (C := RX6) (T := TX6) (N := 8) hx hb hts iX6 hown hK hP 0 rfl rfl 3 (by decide) f_33 (fun _ h9 => h9) rfl dX6_offerActors_82 ?_
            refine lv_iload_n hx hb dX6_offerActors_85 rfl (lv_at hl 4 rfl) ?_
            refine lv_iload_n hx hb dX6_offerActors_86 rfl (lv_at hl 5 rfl) ?_
            refine lv_iload hx hb dX6_offerActors_87 (lv_at hl 1 rfl) ?_
            refine lv_iload hx hb dX6_offerActors_89 (lv_at hl 0 rfl) ?_
            refine cd_if_eq (tgt := 98) hx hb dX6_offerActors_91 (by decide) (by omega) (fun c_91 => ?_) (fun c_91 => ?_)
            · refine lv_iconst (v := nI 0) hx hb dX6_offerActors_98 (by decide) ?_
              have M_99 := c_X1_offer l D cy h (va_up (va_up (va_up J 13 (ofA S mk (clF (J 13) 32) (p * 4 + r))) 12 (fun _ => nI (ofB S mk (p * 4 + r)))) 14 (ofK S mk (J 14) (p * 4 + r))) p r (nv (S 6 (p * 4 + r))) 0 (ofB S mk (p * 4 + r)) (by omega) (by omega) hac3 (by decide) rfl (ofB_le hI mk _ (by omega)) H.size
              have hPc := hP.sub (ws' := (wX1 cy h (va_up (va_up (va_up J 13 (ofA S mk (clF (J 13) 32) (p * 4 + r))) 12 (fun _ => nI (ofB S mk (p * 4 + r)))) 14 (ofK S mk (J 14) (p * 4 + r))))) [12, 13, 14, 15] rfl
              have hDc := hD.sub (ws' := (wX1 cy h (va_up (va_up (va_up J 13 (ofA S mk (clF (J 13) 32) (p * 4 + r))) 12 (fun _ => nI (ofB S mk (p * 4 + r)))) 14 (ofK S mk (J 14) (p * 4 + r))))) [12, 13, 14, 15] (by decide) rfl
              refine cd_frv (S := Unit) (W1 := fun u => (wX1 cy h (va_up (va_up (va_up (va_up (va_up (va_up J 13 (ofA S mk (clF (J 13) 32) (p * 4 + r))) 12 (fun _ => nI (ofB S mk (p * 4 + r)))) 14 (ofK S mk (J 14) (p * 4 + r))) 13 (upd ((va_up (va_up (va_up J 13 (ofA S mk (clF (J 13) 32) (p * 4 + r))) 12 (fun _ => nI (ofB S mk (p * 4 + r)))) 14 (ofK S mk (J 14) (p * 4 + r))) 13) (p * 4 + r) (nI (nv (S 6 (p * 4 + r)))))) 14 (upd ((va_up (va_up (va_up J 13 (ofA S mk (clF (J 13) 32) (p * 4 + r))) 12 (fun _ => nI (ofB S mk (p * 4 + r)))) 14 (ofK S mk (J 14) (p * 4 + r))) 14) (p * 4 + r) (nI (r * 2 ^ 20 + 0 * 2 ^ 16 + r * 2 ^ ((7 - p) * 2))))) 12 (fun _ => nI (max (ofB S mk (p * 4 + r)) (2 * 2 ^ (nv (S 6 (p * 4 + r))))))))) (ws' := fun u => (wC cy h S (va_up (va_up (va_up J 13 (upd ((ofA S mk (clF (J 13) 32) (p * 4 + r))) (p * 4 + r) (nI (nv (S 6 (p * 4 + r)))))) 12 (fun _ => nI (max (ofB S mk (p * 4 + r)) (2 * 2 ^ (nv (S 6 (p * 4 + r))))))) 14 (upd ((ofK S mk (J 14) (p * 4 + r))) (p * 4 + r) (nI (r * 2 ^ 20 + 0 * 2 ^ 16 + r * 2 ^ ((7 - p) * 2))))))) (wc := (wX1 cy h (va_up (va_up (va_up J 13 (ofA S mk (clF (J 13) 32) (p * 4 + r))) 12 (fun _ => nI (ofB S mk (p * 4 + r)))) 14 (ofK S mk (J 14) (p * 4 + r))))) (wr := [(h 0, .inr (6, [.ref (h 1), .ref (h 5), .ref (h 8), .ref (h 12), .ref (h 16), .ref (h 20), .int (S 27 0), .int (S 28 0)])), (h 1, .inr (4, [.ref (h 2), .ref (h 3), .ref (h 4)])), (h 2, aI cy 12 (S 2)), (h 3, aI cy 12 (S 3)), (h 4, aI cy 1001 (S 4)), (h 5, .inr (3, [.ref (h 6), .ref (h 7)])), (h 6, aI cy 32 (S 6)), (h 7, aI cy 8 (S 7)), (h 8, .inr (5, [.ref (h 9), .ref (h 10), .ref (h 11), .int (S 29 0)])), (h 9, aI cy 40 (S 9)), (h 10, aI cy 40 (S 10)), (h 11, aZ cy 40 (S 11)), (h 16, .inr (2, [.ref (h 17), .ref (h 18), .ref (h 19), .int (S 30 0)])), (h 17, aI cy 40 (S 17)), (h 18, aI cy 320 (S 18)), (h 19, aI cy 40 (S 19)), (h 20, .inr (0, [.ref (h 21), .ref (h 22), .ref (h 23), .ref (h 24), .ref (h 25), .ref (h 26), .int (S 31 0), .int (S 32 0)])), (h 21, aI cy 100 (S 21)), (h 22, aI cy 100 (S 22)), (h 23, aI cy 100 (S 23)), (h 24, aI cy 100 (S 24)), (h 25, aI cy 100 (S 25)), (h 26, aI cy 100 (S 26))]) (va_runV (As := [.int (nI p), .int (nI r), .int (nI (nv (S 6 (p * 4 + r)))), .int (nI 0)]) (rest := []) ⟨hx, hb, hml, hown, hts⟩ M_99 (cwV 4 hts gX6_offerActors_X1_offer rfl rfl rfl (by decide +kernel) ⟨Nat.le_of_ble_eq_true rfl, Nat.le_of_ble_eq_true rfl⟩) ⟨wrB.bl, va_recv hK hP (ci := 1) (q0 := 12) rfl rfl, fun U hU hW => ⟨rfl, by rw [hU], by rw [hU]; exact hPc, hG.warm hW, hDc.weaken (fun _ _ _ _ => trivial)⟩⟩ rfl rfl hl.1 rfl (lv_room (Nat.le_of_ble_eq_true rfl)) dX6_offerActors_99 (by exact ⟨Nat.zero_le _, Nat.zero_le _⟩)) hP hD hS hA [12, 13, 14, 15] [0, 1, 2, 3, 4, 5, 6, 7, 8, 9, 10, 11, 16, 17, 18, 19, 20, 21, 22, 23, 24, 25, 26] [0, 1, 2, 3, 4, 5, 6, 7, 8, 9, 10, 11, 23, 24, 25, 26, 12, 13, 14, 15, 16, 17, 18, 19, 20, 21, 22] rfl rfl (by decide) (by decide) (by decide) (fun _ => rfl) (fun _ H locs hw_99 hP hD hS => ?_)
              have hP : va_P D vwCl (wC cy h S (va_up (va_up (va_up J 13 (upd ((ofA S mk (clF (J 13) 32) (p * 4 + r))) (p * 4 + r) (nI (nv (S 6 (p * 4 + r)))))) 12 (fun _ => nI (max (ofB S mk (p * 4 + r)) (2 * 2 ^ (nv (S 6 (p * 4 + r))))))) 14 (upd ((ofK S mk (J 14) (p * 4 + r))) (p * 4 + r) (nI (r * 2 ^ 20 + 0 * 2 ^ 16 + r * 2 ^ ((7 - p) * 2)))))) H := hP
              have hD : va_D A (wC cy h S (va_up (va_up (va_up J 13 (upd ((ofA S mk (clF (J 13) 32) (p * 4 + r))) (p * 4 + r) (nI (nv (S 6 (p * 4 + r)))))) 12 (fun _ => nI (max (ofB S mk (p * 4 + r)) (2 * 2 ^ (nv (S 6 (p * 4 + r))))))) 14 (upd ((ofK S mk (J 14) (p * 4 + r))) (p * 4 + r) (nI (r * 2 ^ 20 + 0 * 2 ^ 16 + r * 2 ^ ((7 - p) * 2)))))) := hD
              refine lv_iinc (v := nI (r + 1)) (lv' := [(3, .int (nI (r + 1))), (5, .int (nI 0)), (4, .int (nI (nv (S 6 (p * 4 + r))))), (0, .ref (h 0)), (1, .int (nI mk)), (2, .int (nI p))]) hx hb dX6_offerActors_102 hl (k := 5) rfl (cd_i1 _) (by decide) rfl (fun ls hl => ?_)
              refine lv_goto (tgt := 19) hx hb dX6_offerActors_105 (by decide) ?_
              have hav : avB S mk (p * 4 + r) = true := by rw [avB_at (by omega), decide_eq_true hac.1, c_49]; rfl
              rw [show (upd ((ofA S mk (clF (J 13) 32) (p * 4 + r))) (p * 4 + r) (nI (nv (S 6 (p * 4 + r))))) = (ofA S mk (clF (J 13) 32) (p * 4 + (r + 1))) from ofX_w hav] at hP hD
              have hP : va_P D vwCl (wC cy h S (va_up (va_up (va_up J 13 (ofA S mk (clF (J 13) 32) (p * 4 + (r + 1)))) 12 (fun _ => nI (max (ofB S mk (p * 4 + r)) (2 * 2 ^ (nv (S 6 (p * 4 + r))))))) 14 (upd ((ofK S mk (J 14) (p * 4 + r))) (p * 4 + r) (nI (r * 2 ^ 20 + 0 * 2 ^ 16 + r * 2 ^ ((7 - p) * 2)))))) H := hP
              have hD : va_D A (wC cy h S (va_up (va_up (va_up J 13 (ofA S mk (clF (J 13) 32) (p * 4 + (r + 1)))) 12 (fun _ => nI (max (ofB S mk (p * 4 + r)) (2 * 2 ^ (nv (S 6 (p * 4 + r))))))) 14 (upd ((ofK S mk (J 14) (p * 4 + r))) (p * 4 + r) (nI (r * 2 ^ 20 + 0 * 2 ^ 16 + r * 2 ^ ((7 - p) * 2)))))) := hD
              have hwk : wk S (p * 4 + r) = 0 := by unfold wk; rw [(i4 (by omega)).2, ft_t c_71]; rfl
              have hky : r * 2 ^ 20 + 0 * 2 ^ 16 + r * 2 ^ ((7 - p) * 2) = ky S (p * 4 + r) := by unfold ky; rw [hwk, (i4 (by omega)).1, (i4 (by omega)).2]
              rw [hky] at hP hD
              have hP : va_P D vwCl (wC cy h S (va_up (va_up (va_up J 13 (ofA S mk (clF (J 13) 32) (p * 4 + (r + 1)))) 12 (fun _ => nI (max (ofB S mk (p * 4 + r)) (2 * 2 ^ (nv (S 6 (p * 4 + r))))))) 14 (upd (ofK S mk (J 14) (p * 4 + r)) (p * 4 + r) (nI (ky S (p * 4 + r)))))) H := hP
              have hD : va_D A (wC cy h S (va_up (va_up (va_up J 13 (ofA S mk (clF (J 13) 32) (p * 4 + (r + 1)))) 12 (fun _ => nI (max (ofB S mk (p * 4 + r)) (2 * 2 ^ (nv (S 6 (p * 4 + r))))))) 14 (upd (ofK S mk (J 14) (p * 4 + r)) (p * 4 + r) (nI (ky S (p * 4 + r)))))) := hD
              rw [show (upd (ofK S mk (J 14) (p * 4 + r)) (p * 4 + r) (nI (ky S (p * 4 + r)))) = (ofK S mk (J 14) (p * 4 + (r + 1))) from ofX_w hav] at hP hD
              have hP : va_P D vwCl (wC cy h S (va_up (va_up (va_up J 13 (ofA S mk (clF (J 13) 32) (p * 4 + (r + 1)))) 12 (fun _ => nI (max (ofB S mk (p * 4 + r)) (2 * 2 ^ (nv (S 6 (p * 4 + r))))))) 14 (ofK S mk (J 14) (p * 4 + (r + 1))))) H := hP
              have hD : va_D A (wC cy h S (va_up (va_up (va_up J 13 (ofA S mk (clF (J 13) 32) (p * 4 + (r + 1)))) 12 (fun _ => nI (max (ofB S mk (p * 4 + r)) (2 * 2 ^ (nv (S 6 (p * 4 + r))))))) 14 (ofK S mk (J 14) (p * 4 + (r + 1))))) := hD
              rw [show ((fun _ => nI (max (ofB S mk (p * 4 + r)) (2 * 2 ^ (nv (S 6 (p * 4 + r))))) : Nat → Int32)) = ((fun _ => nI (ofB S mk (p * 4 + (r + 1))) : Nat → Int32)) from by rw [ofB_w hav]; rfl] at hP hD
              have hP : va_P D vwCl (wC cy h S (va_up (va_up (va_up J 13 (ofA S mk (clF (J 13) 32) (p * 4 + (r + 1)))) 12 (fun _ => nI (ofB S mk (p * 4 + (r + 1))))) 14 (ofK S mk (J 14) (p * 4 + (r + 1))))) H := hP
              have hD : va_D A (wC cy h S (va_up (va_up (va_up J 13 (ofA S mk (clF (J 13) 32) (p * 4 + (r + 1)))) 12 (fun _ => nI (ofB S mk (p * 4 + (r + 1))))) 14 (ofK S mk (J 14) (p * 4 + (r + 1))))) := hD
              exact ih_19 (r + 1) (by omega) (by omega) _ _ hP hD hS _ (lv_sub hl [3, 4, 5, 0] rfl)
            · exact absurd c_91 (by decide)
          · refine lv_iconst (v := nI 1) hx hb dX6_offerActors_74 (by decide) ?_
            refine lv_goto (tgt := 79) hx hb dX6_offerActors_75 (by decide) ?_
            refine lv_istore (lv' := [(5, .int (nI 1)), (4, .int (nI (nv (S 6 (p * 4 + r))))), (0, .ref (h 0)), (1, .int (nI mk)), (2, .int (nI p)), (3, .int (nI r))]) hx hb dX6_offerActors_79 hl (by decide) rfl (fun ls hl => ?_)
            refine lv_aload_n hx hb dX6_offerActors_81 rfl (lv_at hl 2 rfl) ?_
            refine va_get (D := D) (ci := 6) (v := .ref (h 12)) (C := RX6) (T := TX6) (N := 8) hx hb hts iX6 hown hK hP 0 rfl rfl 3 (by decide) f_33 (fun _ h9 => h9) rfl dX6_offerActors_82 ?_
            refine lv_iload_n hx hb dX6_offerActors_85 rfl (lv_at hl 4 rfl) ?_
            refine lv_iload_n hx hb dX6_offerActors_86 rfl (lv_at hl 5 rfl) ?_
            refine lv_iload hx hb dX6_offerActors_87 (lv_at hl 1 rfl) ?_
            refine lv_iload hx hb dX6_offerActors_89 (lv_at hl 0 rfl) ?_
            refine cd_if_eq (tgt := 98) hx hb dX6_offerActors_91 (by decide) (by omega) (fun c_91 => ?_) (fun c_91 => ?_)
            · exact absurd c_91 (by decide)
            · refine lv_iconst (v := nI 1) hx hb dX6_offerActors_94 (by decide) ?_
              refine lv_goto (tgt := 99) hx hb dX6_offerActors_95 (by decide) ?_
              have M_99 := c_X1_offer l D cy h (va_up (va_up (va_up J 13 (ofA S mk (clF (J 13) 32) (p * 4 + r))) 12 (fun _ => nI (ofB S mk (p * 4 + r)))) 14 (ofK S mk (J 14) (p * 4 + r))) p r (nv (S 6 (p * 4 + r))) 1 (ofB S mk (p * 4 + r)) (by omega) (by omega) hac3 (by decide) rfl (ofB_le hI mk _ (by omega)) H.size
              have hPc := hP.sub (ws' := (wX1 cy h (va_up (va_up (va_up J 13 (ofA S mk (clF (J 13) 32) (p * 4 + r))) 12 (fun _ => nI (ofB S mk (p * 4 + r)))) 14 (ofK S mk (J 14) (p * 4 + r))))) [12, 13, 14, 15] rfl
              have hDc := hD.sub (ws' := (wX1 cy h (va_up (va_up (va_up J 13 (ofA S mk (clF (J 13) 32) (p * 4 + r))) 12 (fun _ => nI (ofB S mk (p * 4 + r)))) 14 (ofK S mk (J 14) (p * 4 + r))))) [12, 13, 14, 15] (by decide) rfl
              refine cd_frv (S := Unit) (W1 := fun u => (wX1 cy h (va_up (va_up (va_up (va_up (va_up (va_up J 13 (ofA S mk (clF (J 13) 32) (p * 4 + r))) 12 (fun _ => nI (ofB S mk (p * 4 + r)))) 14 (ofK S mk (J 14) (p * 4 + r))) 13 (upd ((va_up (va_up (va_up J 13 (ofA S mk (clF (J 13) 32) (p * 4 + r))) 12 (fun _ => nI (ofB S mk (p * 4 + r)))) 14 (ofK S mk (J 14) (p * 4 + r))) 13) (p * 4 + r) (nI (nv (S 6 (p * 4 + r)))))) 14 (upd ((va_up (va_up (va_up J 13 (ofA S mk (clF (J 13) 32) (p * 4 + r))) 12 (fun _ => nI (ofB S mk (p * 4 + r)))) 14 (ofK S mk (J 14) (p * 4 + r))) 14) (p * 4 + r) (nI (r * 2 ^ 20 + 1 * 2 ^ 16 + r * 2 ^ ((7 - p) * 2))))) 12 (fun _ => nI (max (ofB S mk (p * 4 + r)) (2 * 2 ^ (nv (S 6 (p * 4 + r))))))))) (ws' := fun u => (wC cy h S (va_up (va_up (va_up J 13 (upd ((ofA S mk (clF (J 13) 32) (p * 4 + r))) (p * 4 + r) (nI (nv (S 6 (p * 4 + r)))))) 12 (fun _ => nI (max (ofB S mk (p * 4 + r)) (2 * 2 ^ (nv (S 6 (p * 4 + r))))))) 14 (upd ((ofK S mk (J 14) (p * 4 + r))) (p * 4 + r) (nI (r * 2 ^ 20 + 1 * 2 ^ 16 + r * 2 ^ ((7 - p) * 2))))))) (wc := (wX1 cy h (va_up (va_up (va_up J 13 (ofA S mk (clF (J 13) 32) (p * 4 + r))) 12 (fun _ => nI (ofB S mk (p * 4 + r)))) 14 (ofK S mk (J 14) (p * 4 + r))))) (wr := [(h 0, .inr (6, [.ref (h 1), .ref (h 5), .ref (h 8), .ref (h 12), .ref (h 16), .ref (h 20), .int (S 27 0), .int (S 28 0)])), (h 1, .inr (4, [.ref (h 2), .ref (h 3), .ref (h 4)])), (h 2, aI cy 12 (S 2)), (h 3, aI cy 12 (S 3)), (h 4, aI cy 1001 (S 4)), (h 5, .inr (3, [.ref (h 6), .ref (h 7)])), (h 6, aI cy 32 (S 6)), (h 7, aI cy 8 (S 7)), (h 8, .inr (5, [.ref (h 9), .ref (h 10), .ref (h 11), .int (S 29 0)])), (h 9, aI cy 40 (S 9)), (h 10, aI cy 40 (S 10)), (h 11, aZ cy 40 (S 11)), (h 16, .inr (2, [.ref (h 17), .ref (h 18), .ref (h 19), .int (S 30 0)])), (h 17, aI cy 40 (S 17)), (h 18, aI cy 320 (S 18)), (h 19, aI cy 40 (S 19)), (h 20, .inr (0, [.ref (h 21), .ref (h 22), .ref (h 23), .ref (h 24), .ref (h 25), .ref (h 26), .int (S 31 0), .int (S 32 0)])), (h 21, aI cy 100 (S 21)), (h 22, aI cy 100 (S 22)), (h 23, aI cy 100 (S 23)), (h 24, aI cy 100 (S 24)), (h 25, aI cy 100 (S 25)), (h 26, aI cy 100 (S 26))]) (va_runV (As := [.int (nI p), .int (nI r), .int (nI (nv (S 6 (p * 4 + r)))), .int (nI 1)]) (rest := []) ⟨hx, hb, hml, hown, hts⟩ M_99 (cwV 4 hts gX6_offerActors_X1_offer rfl rfl rfl (by decide +kernel) ⟨Nat.le_of_ble_eq_true rfl, Nat.le_of_ble_eq_true rfl⟩) ⟨wrB.bl, va_recv hK hP (ci := 1) (q0 := 12) rfl rfl, fun U hU hW => ⟨rfl, by rw [hU], by rw [hU]; exact hPc, hG.warm hW, hDc.weaken (fun _ _ _ _ => trivial)⟩⟩ rfl rfl hl.1 rfl (lv_room (Nat.le_of_ble_eq_true rfl)) dX6_offerActors_99 (by exact ⟨Nat.zero_le _, Nat.zero_le _⟩)) hP hD hS hA [12, 13, 14, 15] [0, 1, 2, 3, 4, 5, 6, 7, 8, 9, 10, 11, 16, 17, 18, 19, 20, 21, 22, 23, 24, 25, 26] [0, 1, 2, 3, 4, 5, 6, 7, 8, 9, 10, 11, 23, 24, 25, 26, 12, 13, 14, 15, 16, 17, 18, 19, 20, 21, 22] rfl rfl (by decide) (by decide) (by decide) (fun _ => rfl) (fun _ H locs hw_99 hP hD hS => ?_)
              have hP : va_P D vwCl (wC cy h S (va_up (va_up (va_up J 13 (upd ((ofA S mk (clF (J 13) 32) (p * 4 + r))) (p * 4 + r) (nI (nv (S 6 (p * 4 + r)))))) 12 (fun _ => nI (max (ofB S mk (p * 4 + r)) (2 * 2 ^ (nv (S 6 (p * 4 + r))))))) 14 (upd ((ofK S mk (J 14) (p * 4 + r))) (p * 4 + r) (nI (r * 2 ^ 20 + 1 * 2 ^ 16 + r * 2 ^ ((7 - p) * 2)))))) H := hP
              have hD : va_D A (wC cy h S (va_up (va_up (va_up J 13 (upd ((ofA S mk (clF (J 13) 32) (p * 4 + r))) (p * 4 + r) (nI (nv (S 6 (p * 4 + r)))))) 12 (fun _ => nI (max (ofB S mk (p * 4 + r)) (2 * 2 ^ (nv (S 6 (p * 4 + r))))))) 14 (upd ((ofK S mk (J 14) (p * 4 + r))) (p * 4 + r) (nI (r * 2 ^ 20 + 1 * 2 ^ 16 + r * 2 ^ ((7 - p) * 2)))))) := hD
              refine lv_iinc (v := nI (r + 1)) (lv' := [(3, .int (nI (r + 1))), (5, .int (nI 1)), (4, .int (nI (nv (S 6 (p * 4 + r))))), (0, .ref (h 0)), (1, .int (nI mk)), (2, .int (nI p))]) hx hb dX6_offerActors_102 hl (k := 5) rfl (cd_i1 _) (by decide) rfl (fun ls hl => ?_)
              refine lv_goto (tgt := 19) hx hb dX6_offerActors_105 (by decide) ?_
              have hav : avB S mk (p * 4 + r) = true := by rw [avB_at (by omega), decide_eq_true hac.1, c_49]; rfl
              rw [show (upd ((ofA S mk (clF (J 13) 32) (p * 4 + r))) (p * 4 + r) (nI (nv (S 6 (p * 4 + r))))) = (ofA S mk (clF (J 13) 32) (p * 4 + (r + 1))) from ofX_w hav] at hP hD
              have hP : va_P D vwCl (wC cy h S (va_up (va_up (va_up J 13 (ofA S mk (clF (J 13) 32) (p * 4 + (r + 1)))) 12 (fun _ => nI (max (ofB S mk (p * 4 + r)) (2 * 2 ^ (nv (S 6 (p * 4 + r))))))) 14 (upd ((ofK S mk (J 14) (p * 4 + r))) (p * 4 + r) (nI (r * 2 ^ 20 + 1 * 2 ^ 16 + r * 2 ^ ((7 - p) * 2)))))) H := hP
              have hD : va_D A (wC cy h S (va_up (va_up (va_up J 13 (ofA S mk (clF (J 13) 32) (p * 4 + (r + 1)))) 12 (fun _ => nI (max (ofB S mk (p * 4 + r)) (2 * 2 ^ (nv (S 6 (p * 4 + r))))))) 14 (upd ((ofK S mk (J 14) (p * 4 + r))) (p * 4 + r) (nI (r * 2 ^ 20 + 1 * 2 ^ 16 + r * 2 ^ ((7 - p) * 2)))))) := hD
              have hwk : wk S (p * 4 + r) = 1 := by unfold wk; rw [(i4 (by omega)).2, ft_f c_71]; rfl
              have hky : r * 2 ^ 20 + 1 * 2 ^ 16 + r * 2 ^ ((7 - p) * 2) = ky S (p * 4 + r) := by unfold ky; rw [hwk, (i4 (by omega)).1, (i4 (by omega)).2]
              rw [hky] at hP hD
              have hP : va_P D vwCl (wC cy h S (va_up (va_up (va_up J 13 (ofA S mk (clF (J 13) 32) (p * 4 + (r + 1)))) 12 (fun _ => nI (max (ofB S mk (p * 4 + r)) (2 * 2 ^ (nv (S 6 (p * 4 + r))))))) 14 (upd (ofK S mk (J 14) (p * 4 + r)) (p * 4 + r) (nI (ky S (p * 4 + r)))))) H := hP
              have hD : va_D A (wC cy h S (va_up (va_up (va_up J 13 (ofA S mk (clF (J 13) 32) (p * 4 + (r + 1)))) 12 (fun _ => nI (max (ofB S mk (p * 4 + r)) (2 * 2 ^ (nv (S 6 (p * 4 + r))))))) 14 (upd (ofK S mk (J 14) (p * 4 + r)) (p * 4 + r) (nI (ky S (p * 4 + r)))))) := hD
              rw [show (upd (ofK S mk (J 14) (p * 4 + r)) (p * 4 + r) (nI (ky S (p * 4 + r)))) = (ofK S mk (J 14) (p * 4 + (r + 1))) from ofX_w hav] at hP hD
              have hP : va_P D vwCl (wC cy h S (va_up (va_up (va_up J 13 (ofA S mk (clF (J 13) 32) (p * 4 + (r + 1)))) 12 (fun _ => nI (max (ofB S mk (p * 4 + r)) (2 * 2 ^ (nv (S 6 (p * 4 + r))))))) 14 (ofK S mk (J 14) (p * 4 + (r + 1))))) H := hP
              have hD : va_D A (wC cy h S (va_up (va_up (va_up J 13 (ofA S mk (clF (J 13) 32) (p * 4 + (r + 1)))) 12 (fun _ => nI (max (ofB S mk (p * 4 + r)) (2 * 2 ^ (nv (S 6 (p * 4 + r))))))) 14 (ofK S mk (J 14) (p * 4 + (r + 1))))) := hD
              rw [show ((fun _ => nI (max (ofB S mk (p * 4 + r)) (2 * 2 ^ (nv (S 6 (p * 4 + r))))) : Nat → Int32)) = ((fun _ => nI (ofB S mk (p * 4 + (r + 1))) : Nat → Int32)) from by rw [ofB_w hav]; rfl] at hP hD
              have hP : va_P D vwCl (wC cy h S (va_up (va_up (va_up J 13 (ofA S mk (clF (J 13) 32) (p * 4 + (r + 1)))) 12 (fun _ => nI (ofB S mk (p * 4 + (r + 1))))) 14 (ofK S mk (J 14) (p * 4 + (r + 1))))) H := hP
              have hD : va_D A (wC cy h S (va_up (va_up (va_up J 13 (ofA S mk (clF (J 13) 32) (p * 4 + (r + 1)))) 12 (fun _ => nI (ofB S mk (p * 4 + (r + 1))))) 14 (ofK S mk (J 14) (p * 4 + (r + 1))))) := hD
              exact ih_19 (r + 1) (by omega) (by omega) _ _ hP hD hS _ (lv_sub hl [3, 4, 5, 0] rfl)
end
section
set_option maxHeartbeats 4000000 in
set_option maxRecDepth 100000 in
theorem c_X6_bestCast (l : Launch) (D : va_G) (cy : qT) (h : Nat → Nat) (S : qS) (J : qS) (hI : Inv S) (mk : Nat) (hm : mk < 4096) (hJ : jk J) (sz : Nat) : Met l yX6_bestCast wsX6_bestCast ({ frames := 3, cells := 0, slots := 0, locals := 74 }) (va_Pc [.ref (h 0), .int (nI mk)] (wrB D cy (wC cy h S J) sz)) (va_Qi (fun (r9 : Int32) (u : qS) => r9 = bcI S mk ∧ jk u) (wrQ D (va_A (wC cy h S J) sz) (fun u : qS => (wC cy h S u))) (va_A (wC cy h S J) sz)) 0 0 (va_A (wC cy h S J) sz) := by
  refine Met.ofW (cc := cX6_bestCast) (maxL := 2) (ret := (some .int)) (by decide) rfl ?_
  intro pp e9 s m9 args9 bl9 meth9 c9 s9 B hml hv
  obtain ⟨rfl, hsz, hP, hG, hD0⟩ := hv
  have hx := B.exec
  have hb := B.bytes
  have hr := B.returns
  have hts := atoms_spec (ws := wsX6_bestCast) B.pre
  have hown : s.vm.findClass RX6 = some m9.cls := findClass_of_methodNamed B.named
  have hlocks := B.notSynchronized
  have hK := hG.K
  subst hsz
  have hD := hD0.self (sz := s.heap.size)
  generalize hAe : (va_A (wC cy h S J) s.heap.size) = A at hD ⊢
  have hA : ∀ q : Nat, s.heap.size ≤ q → A q := fun q h9 => by rw [← hAe]; exact Or.inr h9
  have hS : va_S A s.heap s.heap [] := va_S.rf
  have hP : va_P D vwCl (wC cy h S J) s.heap := hP
  have f_33 := hts (.fieldLink RX6 33 "CastDesk" "casting" "LCastDesk$Casting;") (by decide +kernel)
  have f_51 := hts (.fieldLink RX6 51 "CastDesk" "partCount" "I") (by decide +kernel)
  have iX6 : ∀ w ∈ wsX60, w ∈ wsX6_bestCast := by decide +kernel
  have hl := lv_entry ([.ref (h 0), .int (nI mk)]) (n := 2) (Nat.le_of_ble_eq_true rfl)
  rw [lg_entry_eq]
  generalize (lg_sl ([.ref (h 0), .int (nI mk)]) ++ List.replicate (2 - (lg_sl ([.ref (h 0), .int (nI mk)])).length) Slot.unset).toArray = ls at hl ⊢
  have hl : lv_has ls 2 [(0, .ref (h 0)), (1, .int (nI mk))] := hl
  have h27 := (iv_27 hI).1.2
  refine lv_aload_n hx hb dX6_bestCast_0 rfl (lv_at hl 0 rfl) ?_
  refine lv_iload_n hx hb dX6_bestCast_1 rfl (lv_at hl 1 rfl) ?_
  have M_2 := c_X6_offerActors l D cy h S J hI mk hm s.heap.size
  refine cd_frv (S := Unit) (W1 := fun u => (wC cy h S (va_up (va_up (va_up J 13 (ofA S mk (clF (J 13) 32) (nv (S 27 0) * 4))) 12 (fun _ => nI (ofB S mk (nv (S 27 0) * 4)))) 14 (ofK S mk (J 14) (nv (S 27 0) * 4))))) (ws' := fun u => (wC cy h S (va_up (va_up (va_up J 13 (ofA S mk (clF ((J 13)) 32) (nv (S 27 0) * 4))) 12 (fun _ => nI (ofB S mk (nv (S 27 0) * 4)))) 14 (ofK S mk ((J 14)) (nv (S 27 0) * 4))))) (wc := (wC cy h S J)) (wr := []) (va_runV (As := [.int (nI mk)]) (rest := []) ⟨hx, hb, hml, hown, hts⟩ M_2 (cwV 1 hts gX6_bestCast_X6_offerActors rfl rfl rfl (by decide +kernel) ⟨Nat.le_of_ble_eq_true rfl, Nat.le_of_ble_eq_true rfl⟩) ⟨wrB.bl, va_recv hK hP (ci := 6) (q0 := 0) rfl rfl, fun U hU hW => ⟨rfl, by rw [hU], by rw [hU]; exact hP, hG.warm hW, hD.weaken (fun _ _ _ _ => trivial)⟩⟩ rfl rfl hl.1 rfl (lv_room (Nat.le_of_ble_eq_true rfl)) dX6_bestCast_2 (by exact ⟨Nat.zero_le _, Nat.zero_le _⟩)) hP hD hS hA [0, 1, 2, 3, 4, 5, 6, 7, 8, 9, 10, 11, 12, 13, 14, 15, 16, 17, 18, 19, 20, 21, 22, 23, 24, 25, 26] [] [0, 1, 2, 3, 4, 5, 6, 7, 8, 9, 10, 11, 12, 13, 14, 15, 16, 17, 18, 19, 20, 21, 22, 23, 24, 25, 26] rfl rfl (by decide) (by decide) (by decide) (fun _ => rfl) (fun _ H locs hw_2 hP hD hS => ?_)
  have hP : va_P D vwCl (wC cy h S (va_up (va_up (va_up J 13 (ofA S mk (clF ((J 13)) 32) (nv (S 27 0) * 4))) 12 (fun _ => nI (ofB S mk (nv (S 27 0) * 4)))) 14 (ofK S mk ((J 14)) (nv (S 27 0) * 4)))) H := hP
  have hD : va_D A (wC cy h S (va_up (va_up (va_up J 13 (ofA S mk (clF ((J 13)) 32) (nv (S 27 0) * 4))) 12 (fun _ => nI (ofB S mk (nv (S 27 0) * 4)))) 14 (ofK S mk ((J 14)) (nv (S 27 0) * 4)))) := hD
  refine lv_aload_n hx hb dX6_bestCast_5 rfl (lv_at hl 0 rfl) ?_
  refine va_get (D := D) (ci := 6) (v := .ref (h 12)) (C := RX6) (T := TX6) (N := 8) hx hb hts iX6 hown hK hP 0 rfl rfl 3 (by decide) f_33 (fun _ h9 => h9) rfl dX6_bestCast_6 ?_
  refine lv_aload_n hx hb dX6_bestCast_9 rfl (lv_at hl 0 rfl) ?_
  refine va_get (D := D) (ci := 6) (v := .int (S 27 0)) (C := RX6) (T := TX6) (N := 8) hx hb hts iX6 hown hK hP 0 rfl rfl 6 (by decide) f_51 (fun _ h9 => h9) rfl dX6_bestCast_10 ?_
  have b_10 := (iv_27 hI).1
  refine cd_tp (y := nI (nv (S 27 0))) b_10.1 ?_
  have b_10 := b_10.2
  have M_13 := c_X1_leastKey l D cy h (va_up (va_up (va_up J 13 (ofA S mk (clF ((J 13)) 32) (nv (S 27 0) * 4))) 12 (fun _ => nI (ofB S mk (nv (S 27 0) * 4)))) 14 (ofK S mk ((J 14)) (nv (S 27 0) * 4))) (nv (S 27 0)) (ofB S mk (nv (S 27 0) * 4)) (by omega) rfl (ofB_le hI mk _ (by omega)) (ofA_ok hI mk _ (fun i h9 => if_pos h9) _) H.size
  have hPc := hP.sub (ws' := (wX1 cy h (va_up (va_up (va_up J 13 (ofA S mk (clF ((J 13)) 32) (nv (S 27 0) * 4))) 12 (fun _ => nI (ofB S mk (nv (S 27 0) * 4)))) 14 (ofK S mk ((J 14)) (nv (S 27 0) * 4))))) [12, 13, 14, 15] rfl
  have hDc := hD.sub (ws' := (wX1 cy h (va_up (va_up (va_up J 13 (ofA S mk (clF ((J 13)) 32) (nv (S 27 0) * 4))) 12 (fun _ => nI (ofB S mk (nv (S 27 0) * 4)))) 14 (ofK S mk ((J 14)) (nv (S 27 0) * 4))))) [12, 13, 14, 15] (by decide) rfl
  refine cd_fri (S := Unit) (W1 := fun u => (wX1 cy h (va_up (va_up (va_up (va_up J 13 (ofA S mk (clF ((J 13)) 32) (nv (S 27 0) * 4))) 12 (fun _ => nI (ofB S mk (nv (S 27 0) * 4)))) 14 (ofK S mk ((J 14)) (nv (S 27 0) * 4))) 15 ((lkF ((va_up (va_up (va_up J 13 (ofA S mk (clF ((J 13)) 32) (nv (S 27 0) * 4))) 12 (fun _ => nI (ofB S mk (nv (S 27 0) * 4)))) 14 (ofK S mk ((J 14)) (nv (S 27 0) * 4))) 13) ((va_up (va_up (va_up J 13 (ofA S mk (clF ((J 13)) 32) (nv (S 27 0) * 4))) 12 (fun _ => nI (ofB S mk (nv (S 27 0) * 4)))) 14 (ofK S mk ((J 14)) (nv (S 27 0) * 4))) 14) ((va_up (va_up (va_up J 13 (ofA S mk (clF ((J 13)) 32) (nv (S 27 0) * 4))) 12 (fun _ => nI (ofB S mk (nv (S 27 0) * 4)))) 14 (ofK S mk ((J 14)) (nv (S 27 0) * 4))) 15) (nv (S 27 0)) (ofB S mk (nv (S 27 0) * 4))).1)))) (ws' := fun u => (wC cy h S (va_up (va_up (va_up (va_up J 13 (ofA S mk (clF ((J 13)) 32) (nv (S 27 0) * 4))) 12 (fun _ => nI (ofB S mk (nv (S 27 0) * 4)))) 14 (ofK S mk ((J 14)) (nv (S 27 0) * 4))) 15 ((lkF ((ofA S mk (clF ((J 13)) 32) (nv (S 27 0) * 4))) ((ofK S mk ((J 14)) (nv (S 27 0) * 4))) ((J 15)) (nv (S 27 0)) (ofB S mk (nv (S 27 0) * 4))).1)))) (wc := (wX1 cy h (va_up (va_up (va_up J 13 (ofA S mk (clF ((J 13)) 32) (nv (S 27 0) * 4))) 12 (fun _ => nI (ofB S mk (nv (S 27 0) * 4)))) 14 (ofK S mk ((J 14)) (nv (S 27 0) * 4))))) (wr := [(h 0, .inr (6, [.ref (h 1), .ref (h 5), .ref (h 8), .ref (h 12), .ref (h 16), .ref (h 20), .int (S 27 0), .int (S 28 0)])), (h 1, .inr (4, [.ref (h 2), .ref (h 3), .ref (h 4)])), (h 2, aI cy 12 (S 2)), (h 3, aI cy 12 (S 3)), (h 4, aI cy 1001 (S 4)), (h 5, .inr (3, [.ref (h 6), .ref (h 7)])), (h 6, aI cy 32 (S 6)), (h 7, aI cy 8 (S 7)), (h 8, .inr (5, [.ref (h 9), .ref (h 10), .ref (h 11), .int (S 29 0)])), (h 9, aI cy 40 (S 9)), (h 10, aI cy 40 (S 10)), (h 11, aZ cy 40 (S 11)), (h 16, .inr (2, [.ref (h 17), .ref (h 18), .ref (h 19), .int (S 30 0)])), (h 17, aI cy 40 (S 17)), (h 18, aI cy 320 (S 18)), (h 19, aI cy 40 (S 19)), (h 20, .inr (0, [.ref (h 21), .ref (h 22), .ref (h 23), .ref (h 24), .ref (h 25), .ref (h 26), .int (S 31 0), .int (S 32 0)])), (h 21, aI cy 100 (S 21)), (h 22, aI cy 100 (S 22)), (h 23, aI cy 100 (S 23)), (h 24, aI cy 100 (S 24)), (h 25, aI cy 100 (S 25)), (h 26, aI cy 100 (S 26))]) (va_runV (As := [.int (nI (nv (S 27 0)))]) (rest := []) ⟨hx, hb, hml, hown, hts⟩ M_13 (cwV 1 hts gX6_bestCast_X1_leastKey rfl rfl rfl (by decide +kernel) ⟨Nat.le_of_ble_eq_true rfl, Nat.le_of_ble_eq_true rfl⟩) ⟨wrB.bl, va_recv hK hP (ci := 1) (q0 := 12) rfl rfl, fun U hU hW => ⟨rfl, by rw [hU], by rw [hU]; exact hPc, hG.warm hW, hDc.weaken (fun _ _ _ _ => trivial)⟩⟩ rfl rfl hl.1 rfl (lv_room (Nat.le_of_ble_eq_true rfl)) dX6_bestCast_13 (by exact ⟨Nat.zero_le _, Nat.zero_le _⟩)) hP hD hS hA [12, 13, 14, 15] [0, 1, 2, 3, 4, 5, 6, 7, 8, 9, 10, 11, 16, 17, 18, 19, 20, 21, 22, 23, 24, 25, 26] [0, 1, 2, 3, 4, 5, 6, 7, 8, 9, 10, 11, 23, 24, 25, 26, 12, 13, 14, 15, 16, 17, 18, 19, 20, 21, 22] rfl rfl (by decide) (by decide) (by decide) (fun _ => rfl) (fun r_13 _ H locs hw_13 hP hD hS => ?_)
  subst hw_13
  refine cd_tp (y := (lkF ((ofA S mk (clF ((J 13)) 32) (nv (S 27 0) * 4))) ((ofK S mk ((J 14)) (nv (S 27 0) * 4))) ((J 15)) (nv (S 27 0)) (ofB S mk (nv (S 27 0) * 4))).2) rfl ?_
  have hP : va_P D vwCl (wC cy h S (va_up (va_up (va_up (va_up J 13 (ofA S mk (clF ((J 13)) 32) (nv (S 27 0) * 4))) 12 (fun _ => nI (ofB S mk (nv (S 27 0) * 4)))) 14 (ofK S mk ((J 14)) (nv (S 27 0) * 4))) 15 ((lkF ((ofA S mk (clF ((J 13)) 32) (nv (S 27 0) * 4))) ((ofK S mk ((J 14)) (nv (S 27 0) * 4))) ((J 15)) (nv (S 27 0)) (ofB S mk (nv (S 27 0) * 4))).1))) H := hP
  have hD : va_D A (wC cy h S (va_up (va_up (va_up (va_up J 13 (ofA S mk (clF ((J 13)) 32) (nv (S 27 0) * 4))) 12 (fun _ => nI (ofB S mk (nv (S 27 0) * 4)))) 14 (ofK S mk ((J 14)) (nv (S 27 0) * 4))) 15 ((lkF ((ofA S mk (clF ((J 13)) 32) (nv (S 27 0) * 4))) ((ofK S mk ((J 14)) (nv (S 27 0) * 4))) ((J 15)) (nv (S 27 0)) (ofB S mk (nv (S 27 0) * 4))).1))) := hD
  rw [show ((lkF ((ofA S mk (clF ((J 13)) 32) (nv (S 27 0) * 4))) ((ofK S mk ((J 14)) (nv (S 27 0) * 4))) ((J 15)) (nv (S 27 0)) (ofB S mk (nv (S 27 0) * 4))).1) = (J 15) from bc_1 hI hm hJ _ _ (fun i h9 => if_pos h9)] at hP hD
  have hP : va_P D vwCl (wC cy h S (va_up (va_up (va_up (va_up J 13 (ofA S mk (clF ((J 13)) 32) (nv (S 27 0) * 4))) 12 (fun _ => nI (ofB S mk (nv (S 27 0) * 4)))) 14 (ofK S mk ((J 14)) (nv (S 27 0) * 4))) 15 (J 15))) H := hP
  have hD : va_D A (wC cy h S (va_up (va_up (va_up (va_up J 13 (ofA S mk (clF ((J 13)) 32) (nv (S 27 0) * 4))) 12 (fun _ => nI (ofB S mk (nv (S 27 0) * 4)))) 14 (ofK S mk ((J 14)) (nv (S 27 0) * 4))) 15 (J 15))) := hD
  refine cd_tp (y := bcI S mk) (bc_2 hI hm hJ _ _ (fun i h9 => if_pos h9)) ?_
  exact W.iret (v := bcI S mk) hx hb hr (fun t ht hW => ⟨⟨_, (va_up (va_up (va_up (va_up J 13 (ofA S mk (clF ((J 13)) 32) (nv (S 27 0) * 4))) 12 (fun _ => nI (ofB S mk (nv (S 27 0) * 4)))) 14 (ofK S mk ((J 14)) (nv (S 27 0) * 4))) 15 (J 15)), rfl, (⟨rfl, hJ⟩), by rw [ht]; exact hP, hD⟩, hS.F ht⟩) hS.2.2 dX6_bestCast_16
end
section
/-! ranges -/
def inI (x lo hi : Int32) : Bool := decide (lo ≤ x ∧ x ≤ hi)
theorem inI_t {x lo hi : Int32} (h1 : lo ≤ x) (h2 : x ≤ hi) : inI x lo hi = true := decide_eq_true ⟨h1, h2⟩
theorem inI_lo {x lo hi : Int32} (h : x < lo) : inI x lo hi = false := decide_eq_false (fun q => Int32.not_lt.mpr q.1 h)
theorem inI_hi {x lo hi : Int32} (h : hi < x) : inI x lo hi = false := decide_eq_false (fun q => Int32.not_lt.mpr q.2 h)
theorem i_lt {x : Int32} {k : Nat} (hk : k < 2147483647) : x < nI (k + 1) ↔ x ≤ nI k := by
  rw [Int32.lt_iff_toInt_lt, Int32.le_iff_toInt_le, nI_toInt (by omega), nI_toInt (by omega)]
  omega
theorem i_c {n : Nat} (hn : n < 2147483648) : (nI n - nI 1).toInt = (n : Int) - 1 := by
  rw [Int32.toInt_sub, nI_toInt hn, nI_toInt (by decide)]
  rw [Int.bmod_eq_of_le (by omega) (by omega)]
  rfl
theorem i_ltc {x : Int32} {n : Nat} (hn : n < 2147483648) : x < nI n ↔ x ≤ nI n - nI 1 := by
  rw [Int32.lt_iff_toInt_lt, Int32.le_iff_toInt_le, i_c hn, nI_toInt hn]
  omega
theorem inI_nat {x : Int32} {k : Nat} (hk : k < 2147483648) (h : inI x (nI 0) (nI k) = true) : ∃ a, a ≤ k ∧ x = nI a := by
  have h := of_decide_eq_true h
  obtain ⟨j, hj, e⟩ := nI_of (Int32.not_lt.mpr (show (0 : Int32) ≤ x from h.1))
  refine ⟨j, ?_, e⟩
  rw [e] at h
  exact (nI_leI hj hk).mp h.2
theorem inI_cnt {x : Int32} {n : Nat} (hn : n < 2147483648) (h : inI x (nI 0) (nI n - nI 1) = true) : ∃ a, a < n ∧ x = nI a := by
  have h := of_decide_eq_true h
  obtain ⟨j, hj, e⟩ := nI_of (Int32.not_lt.mpr (show (0 : Int32) ≤ x from h.1))
  refine ⟨j, ?_, e⟩
  have h2 := (i_ltc hn).mpr h.2
  rw [e] at h2
  exact (nI_ltI hj hn).mp h2
theorem inI_two {x : Int32} {a k : Nat} (ha : a < 2147483648) (hk : k < 2147483648) (h : inI x (nI a) (nI k) = true) : ∃ b, a ≤ b ∧ b ≤ k ∧ x = nI b := by
  have h := of_decide_eq_true h
  have h0 : (0 : Int32) ≤ x := Int32.le_trans (nI_pos' ha) h.1
  obtain ⟨j, hj, e⟩ := nI_of (Int32.not_lt.mpr h0)
  rw [e] at h
  exact ⟨j, (nI_leI ha hj).mp h.1, (nI_leI hj hk).mp h.2, e⟩
/-- which exception of a call is thrown: none, its first, second, third -/
def th1 (a : Bool) : Int32 := if a = true then nI 0 else nI 1
def th2 (a b : Bool) : Int32 := if a = true then (if b = true then nI 0 else nI 2) else nI 1
def th3 (a b c : Bool) : Int32 := if a = true then (if b = true then (if c = true then nI 0 else nI 3) else nI 2) else nI 1
theorem rfl_th1 : th1 true = nI 0 := rfl
/-- what an actor knows behind learn -/
def knF (k : Bool) (m p : Nat) : Nat := if k = true then m ||| 2 ^ p else clr m p
/-- letting a costume out -/
def leZ (f : Nat → Int32) (x : Int32) : Nat → Int32 := if x = -1 then f else upd f (nv x) (f (nv x) + nI 1)
def leL (f : Nat → Int32) (x : Int32) : Nat → Int32 := if x = -1 then f else upd f (nv x) (nI 1)
def drZ (S : qS) (p : Nat) (z : Int32) : Nat → Int32 := if ftB S p z = true then S 9 else leZ (S 9) (loI S p z)
def drL (S : qS) (p : Nat) (z : Int32) : Nat → Int32 := if ftB S p z = true then S 11 else leL (S 11) (loI S p z)
theorem lo_rng {S : qS} {p : Nat} {z : Int32} (h : ¬ loI S p z = -1) : ∃ k, k < nv (S 29 0) ∧ loI S p z = nI k := by
  unfold loI fi at h ⊢
  split
  · rename_i q; exact ⟨_, q, rfl⟩
  · rename_i q; rw [if_neg q] at h; exact absurd rfl h
/-- the share of a seat's refund, by a cast's key; of a cancelled show -/
def shK (S : qS) (k c : Nat) : Nat :=
  if nv (S 22 k) = 1 then (if nv (S 23 k) < nv (S 27 0) ∧ ¬ acI S (nv (S 23 k)) (c / 2 ^ ((7 - nv (S 23 k)) * 2) &&& 3) = S 24 k then 2 else 0)
  else if nv (S 22 k) = 2 then (if 0 < c / 2 ^ 20 then 4 else 0)
  else if nv (S 22 k) = 3 then (if nv (S 23 k) < nv (S 27 0) ∧ 1 < (c / 2 ^ ((7 - nv (S 23 k)) * 2) &&& 3) then 10 else 0)
  else 0
def shR (S : qS) (x : Int32) (k : Nat) : Nat := if x = -1 then 1 else shK S k (nv x)
/-- refunds, what they are together, the money left -/
def rfF (S : qS) (w : Nat) (x : Int32) : Nat → (Nat → Int32)
  | 0 => S 25
  | k + 1 => if S 21 k = nI w then upd (rfF S w x k) k (gbI S k (shR S x k)) else rfF S w x k
def rfS (S : qS) (w : Nat) (x : Int32) : Nat → Int32
  | 0 => nI 0
  | k + 1 => if S 21 k = nI w then rfS S w x k + gbI S k (shR S x k) else rfS S w x k
def rfM (S : qS) (w : Nat) (x : Int32) : Nat → Int32
  | 0 => S 32 0
  | k + 1 => if S 21 k = nI w then rfM S w x k - gbI S k (shR S x k) else rfM S w x k
theorem rf_n {S : qS} {w k : Nat} {x : Int32} (h : ¬ S 21 k = nI w) : rfF S w x k = rfF S w x (k + 1) ∧ rfS S w x k = rfS S w x (k + 1) ∧ rfM S w x k = rfM S w x (k + 1) :=
  ⟨(if_neg h).symm, (if_neg h).symm, (if_neg h).symm⟩
theorem rf_y {S : qS} {w k : Nat} {x : Int32} (h : S 21 k = nI w) : upd (rfF S w x k) k (gbI S k (shR S x k)) = rfF S w x (k + 1) ∧ rfS S w x k + gbI S k (shR S x k) = rfS S w x (k + 1) ∧ rfM S w x k - gbI S k (shR S x k) = rfM S w x (k + 1) :=
  ⟨(if_pos h).symm, (if_pos h).symm, (if_pos h).symm⟩
/-- the casts of shows: one more part told -/
def csF (f a : Nat → Int32) (w p : Nat) : Nat → Int32 := fun i => if w * 8 ≤ i ∧ i < w * 8 + p then a (i - w * 8) else f i
theorem csF_0 (f a : Nat → Int32) (w : Nat) : csF f a w 0 = f := by funext i; unfold csF; rw [if_neg (by omega)]
theorem csF_s (f a : Nat → Int32) (w p : Nat) : upd (csF f a w p) (w * 8 + p) (a p) = csF f a w (p + 1) := by
  funext i
  show (if i = w * 8 + p then a p else (if w * 8 ≤ i ∧ i < w * 8 + p then a (i - w * 8) else f i)) = (if w * 8 ≤ i ∧ i < w * 8 + (p + 1) then a (i - w * 8) else f i)
  by_cases e : i = w * 8 + p
  · subst e; rw [if_pos rfl, if_pos (by omega), Nat.add_sub_cancel_left]
  · rw [if_neg e]
    by_cases q : w * 8 ≤ i ∧ i < w * 8 + p
    · rw [if_pos q, if_pos (by omega)]
    · rw [if_neg q, if_neg (by omega)]
/-- dressing the cast, part by part -/
def dzF (S : qS) (a : Nat → Int32) : Nat → (Nat → Int32) × (Nat → Int32)
  | 0 => (S 9, S 11)
  | p + 1 => (drZ (va_up (va_up S 9 (dzF S a p).1) 11 (dzF S a p).2) p (S 2 (nv (a p))), drL (va_up (va_up S 9 (dzF S a p).1) 11 (dzF S a p).2) p (S 2 (nv (a p))))
/-- a show's day -/
def illK (S : qS) (d : Nat) : Nat := nv (S 4 d)
def pf17 (S : qS) (m w : Nat) : Nat → Int32 := upd (S 17) w (if bcI S m = -1 then nI 2 else nI 1)
def pf18 (S : qS) (m w : Nat) : Nat → Int32 := if bcI S m = -1 then S 18 else csF (S 18) (bcA S m) w (nv (S 27 0))
def pf9 (S : qS) (m : Nat) : Nat → Int32 := if bcI S m = -1 then S 9 else (dzF S (bcA S m) (nv (S 27 0))).1
def pf11 (S : qS) (m : Nat) : Nat → Int32 := if bcI S m = -1 then S 11 else (dzF S (bcA S m) (nv (S 27 0))).2
theorem bcI_rng {S : qS} {m : Nat} (hI : Inv S) (h : ¬ bcI S m = -1) : ∃ b, bc S m = some b ∧ b < 4 ^ nv (S 27 0) ∧ bcI S m = nI (kk S (dg (nv (S 27 0)) b) (nv (S 27 0))) ∧ kk S (dg (nv (S 27 0)) b) (nv (S 27 0)) < 33554432 := by
  have hn : nv (S 27 0) ≤ 8 := by have := (iv_27 hI).1.2; omega
  unfold bcI at h ⊢
  cases q : bc S m with
  | none => rw [q] at h; exact absurd rfl h
  | some b => exact ⟨b, rfl, (bc_some q).1, rfl, kk_lt hn⟩
theorem bcA_at {S : qS} {m b p : Nat} (hI : Inv S) (h : bc S m = some b) (hp : p < nv (S 27 0)) : acI S p (kk S (dg (nv (S 27 0)) b) (nv (S 27 0)) / 2 ^ ((7 - p) * 2) &&& 3) = bcA S m p ∧ bd (bcA S m p) 12 := by
  have hn : nv (S 27 0) ≤ 8 := by have := (iv_27 hI).1.2; omega
  obtain ⟨h1, h2, -⟩ := bc_some h
  rw [key_r hn h1 hp]
  have o := (ok_s.mp (ok_le (k := p + 1) (by omega) h2.2.2)).2.1
  have h4 := dg_lt (nv (S 27 0)) b p
  rw [avB_at h4, Bool.and_eq_true, decide_eq_true_iff] at o
  have h5 := iv_6 hI p _ (by omega) o.1
  have e : bcA S m p = S 6 (p * 4 + dg (nv (S 27 0)) b p) := by unfold bcA; rw [h]; exact if_pos hp
  rw [e]
  exact ⟨if_pos o.1, h5⟩
/-- an invariant stays where rows that it doesn't speak of, or that still keep it, change -/
theorem inv_pf {S : qS} (hI : Inv S) {f17 f18 f9 f11 : Nat → Int32} (h17 : ∀ i, nv (S 30 0) ≤ i → f17 i = 0) (h18 : ∀ i, 8 * nv (S 30 0) ≤ i → i < 320 → f18 i = -1) (h11 : ∀ i, f11 i = 0 ∨ f11 i = 1) :
    Inv (va_up (va_up (va_up (va_up S 17 f17) 18 f18) 9 f9) 11 f11) := by
  obtain ⟨a1, a2, a3, a4, a5, a6, a7, a8, a9, a10, a11, a12, a13, a14, a15⟩ := hI
  exact ⟨a1, a2, a3, a4, a5, a6, a7, a8, a9, a10, h11, h17, h18, a14, a15⟩
theorem leL_01 {f : Nat → Int32} (h : ∀ i, f i = 0 ∨ f i = 1) (x : Int32) : ∀ i, leL f x i = 0 ∨ leL f x i = 1 := by
  intro i; unfold leL
  split
  · exact h i
  · unfold upd
    split
    · exact Or.inr rfl
    · exact h i
theorem dzF_01 {S : qS} (h : ∀ i, S 11 i = 0 ∨ S 11 i = 1) (a : Nat → Int32) : ∀ p i, (dzF S a p).2 i = 0 ∨ (dzF S a p).2 i = 1
  | 0, i => h i
  | p + 1, i => by
    have ih := dzF_01 h a p
    show drL _ p _ i = 0 ∨ drL _ p _ i = 1
    unfold drL
    split
    · exact ih i
    · exact leL_01 ih _ i
theorem csF_18 {S : qS} (hI : Inv S) {w : Nat} (hw : w < nv (S 30 0)) (a : Nat → Int32) {p : Nat} (hp : p ≤ 8) : ∀ i, 8 * nv (S 30 0) ≤ i → i < 320 → csF (S 18) a w p i = -1 := fun i h1 h2 => by
  unfold csF
  rw [if_neg (by omega)]
  exact iv_18 hI i h1 h2
theorem up_17 {S : qS} (hI : Inv S) {w : Nat} (hw : w < nv (S 30 0)) (x : Int32) : ∀ i, nv (S 30 0) ≤ i → upd (S 17) w x i = 0 := fun i h1 => by
  rw [upd_n _ _ (by omega)]; exact iv_17 hI i h1
/-- the play of a day -/
def shW (S : qS) (d : Int32) : Nat := fs (shP S d) (nv (S 30 0))
def shB (S : qS) (d : Int32) : Bool := ex (shP S d) (nv (S 30 0))
theorem sh_rng {S : qS} {d : Int32} (h : ¬ shI S d = -1) : shB S d = true ∧ shW S d < nv (S 30 0) ∧ shI S d = nI (shW S d) := by
  unfold shI fi at h ⊢
  unfold shB ex shW
  split
  · rename_i q; exact ⟨decide_eq_true q, q, rfl⟩
  · rename_i q; rw [if_neg q] at h; exact absurd rfl h
theorem sh_no {S : qS} {d : Int32} (h : shI S d = -1) : shB S d = false := (fi_ne (Nat.le_of_lt (nv_lt _))).mp h
def plM (S : qS) : Nat := nv (S 4 (nv (S 28 0)))
def pl17 (S : qS) : Nat → Int32 := if shB S (S 28 0) = true then pf17 S (plM S) (shW S (S 28 0)) else S 17
def pl18 (S : qS) : Nat → Int32 := if shB S (S 28 0) = true then pf18 S (plM S) (shW S (S 28 0)) else S 18
def pl9 (S : qS) : Nat → Int32 := if shB S (S 28 0) = true then pf9 S (plM S) else S 9
def pl11 (S : qS) : Nat → Int32 := if shB S (S 28 0) = true then pf11 S (plM S) else S 11
def pl25 (S : qS) : Nat → Int32 := if shB S (S 28 0) = true then rfF S (shW S (S 28 0)) (bcI S (plM S)) (nv (S 31 0)) else S 25
def pl32 (S : qS) : Int32 := if shB S (S 28 0) = true then rfM S (shW S (S 28 0)) (bcI S (plM S)) (nv (S 31 0)) else S 32 0
def plR (S : qS) : Int32 := if shB S (S 28 0) = true then rfS S (shW S (S 28 0)) (bcI S (plM S)) (nv (S 31 0)) else nI 0
/-- how many parts would be played by others -/
def chN (S : qS) (b b2 : Nat) : Nat → Nat
  | 0 => 0
  | p + 1 => chN S b b2 p + (if S 6 (p * 4 + dg (nv (S 27 0)) b p) = S 6 (p * 4 + dg (nv (S 27 0)) b2 p) then 0 else 1)
def chI (S : qS) (m a : Nat) : Int32 := match bc S m, bc S (m ||| 2 ^ a) with
  | some b, some b2 => nI (chN S b b2 (nv (S 27 0)))
  | _, _ => -1
theorem bcA_v {S : qS} {m b p : Nat} (h : bc S m = some b) (hp : p < nv (S 27 0)) : bcA S m p = S 6 (p * 4 + dg (nv (S 27 0)) b p) := by unfold bcA; rw [h]; exact if_pos hp
theorem coN_ch {S : qS} {m m2 b b2 : Nat} (hI : Inv S) (h : bc S m = some b) (h2 : bc S m2 = some b2) : ∀ p, p ≤ nv (S 27 0) → coN S (kk S (dg (nv (S 27 0)) b) (nv (S 27 0))) (kk S (dg (nv (S 27 0)) b2) (nv (S 27 0))) p = chN S b b2 p
  | 0, _ => rfl
  | p + 1, hp => by
    show coN S _ _ p + _ = chN S b b2 p + _
    rw [coN_ch hI h h2 p (by omega), (bcA_at hI h (by omega)).1, (bcA_at hI h2 (by omega)).1, bcA_v h (by omega), bcA_v h2 (by omega)]
theorem shR_le (S : qS) (x : Int32) (k : Nat) : shR S x k ≤ 10 := by
  unfold shR
  split
  · decide
  · unfold shK
    split
    · split <;> decide
    · split
      · split <;> decide
      · split
        · split <;> decide
        · decide
theorem bcI_no {S : qS} (hI : Inv S) {m : Nat} (h : bcI S m = -1) : bc S m = none := by
  have hn : nv (S 27 0) ≤ 8 := by have := (iv_27 hI).1.2; omega
  unfold bcI at h
  cases q : bc S m with
  | none => rfl
  | some b =>
    rw [q] at h
    have h1 := kk_lt (S := S) (c := dg (nv (S 27 0)) b) hn
    exact (m1_ne (n := kk S (dg (nv (S 27 0)) b) (nv (S 27 0))) (by omega) h).elim
theorem bcI_nv {S : qS} (hI : Inv S) (m : Nat) : ¬ bcI S m = -1 → bcI S m = nI (nv (bcI S m)) := fun h => by
  obtain ⟨b, -, -, e, k⟩ := bcI_rng hI h
  rw [e, nv_nI (by omega)]
theorem rk_rng {S : qS} {p : Nat} {x : Int32} (h : ¬ rkI S p x = -1) : rkI S p x = nI (nv (rkI S p x)) ∧ nv (rkI S p x) < nv (S 7 p) := by
  unfold rkI fi at h ⊢
  split
  · rename_i q
    have := nv_lt (S 7 p)
    rw [nv_nI (by omega)]; exact ⟨rfl, q⟩
  · rename_i q; rw [if_neg q] at h; exact absurd rfl h
theorem knF_lt (k : Bool) {m p : Nat} (hm : m < 256) (hp : p < 8) : knF k m p < 256 := by
  unfold knF
  split
  · exact or_lt (n := 8) hm hp
  · unfold clr
    split
    · exact Nat.lt_of_le_of_lt (Nat.sub_le _ _) hm
    · exact hm
theorem inv_pf4 {S : qS} (hI : Inv S) {m w : Nat} (hw : w < nv (S 30 0)) : Inv (va_up (va_up (va_up (va_up S 17 (pf17 S m w)) 18 (pf18 S m w)) 9 (pf9 S m)) 11 (pf11 S m)) := by
  have hn : nv (S 27 0) ≤ 8 := by have := (iv_27 hI).1.2; omega
  refine inv_pf hI (up_17 hI hw _) ?_ ?_
  · unfold pf18
    split
    · exact iv_18 hI
    · exact csF_18 hI hw _ hn
  · unfold pf11
    split
    · exact iv_11 hI
    · exact dzF_01 (iv_11 hI) _ _
/-- refunds don't look at what is dressed and played -/
theorem rfF_cg (S : qS) (a b c d : Nat → Int32) (w : Nat) (x : Int32) : ∀ k, rfF (va_up (va_up (va_up (va_up S 17 a) 18 b) 9 c) 11 d) w x k = rfF S w x k
  | 0 => rfl
  | k + 1 => by
    show (if S 21 k = nI w then upd (rfF (va_up (va_up (va_up (va_up S 17 a) 18 b) 9 c) 11 d) w x k) k (gbI S k (shR S x k)) else rfF (va_up (va_up (va_up (va_up S 17 a) 18 b) 9 c) 11 d) w x k) = (if S 21 k = nI w then upd (rfF S w x k) k (gbI S k (shR S x k)) else rfF S w x k)
    rw [rfF_cg S a b c d w x k]
theorem rfS_cg (S : qS) (a b c d : Nat → Int32) (w : Nat) (x : Int32) : ∀ k, rfS (va_up (va_up (va_up (va_up S 17 a) 18 b) 9 c) 11 d) w x k = rfS S w x k
  | 0 => rfl
  | k + 1 => by
    show (if S 21 k = nI w then rfS (va_up (va_up (va_up (va_up S 17 a) 18 b) 9 c) 11 d) w x k + gbI S k (shR S x k) else rfS (va_up (va_up (va_up (va_up S 17 a) 18 b) 9 c) 11 d) w x k) = (if S 21 k = nI w then rfS S w x k + gbI S k (shR S x k) else rfS S w x k)
    rw [rfS_cg S a b c d w x k]
theorem rfM_cg (S : qS) (a b c d : Nat → Int32) (w : Nat) (x : Int32) : ∀ k, rfM (va_up (va_up (va_up (va_up S 17 a) 18 b) 9 c) 11 d) w x k = rfM S w x k
  | 0 => rfl
  | k + 1 => by
    show (if S 21 k = nI w then rfM (va_up (va_up (va_up (va_up S 17 a) 18 b) 9 c) 11 d) w x k - gbI S k (shR S x k) else rfM (va_up (va_up (va_up (va_up S 17 a) 18 b) 9 c) 11 d) w x k) = (if S 21 k = nI w then rfM S w x k - gbI S k (shR S x k) else rfM S w x k)
    rw [rfM_cg S a b c d w x k]
end
section
section CDR
variable {p : Program} {l : Launch} {e : Env} {R : Room} {s : State} {m : MethodId} {args : Array Value} {below : List Frame} {meth : Method} {c : Code} {H : Heap} {locs : List Loc} {cells slots : Nat} {Q : State → Prop}
variable {cc : ByteArray} {pc : Nat} {ls : Array Slot} {rest st0 : List Value} {av : Array Value}
/-- a call of a static method that answers nothing -/
theorem cd_rov {post : Unit → Prop} (hr : va_Run p l e R s m args below meth c H locs cells slots 0 0 (F0 m pc ls st0) rest (va_Sv post av) (fun _ => False)) (kk : W p l e R s m args below meth c H locs cells slots Q (F0 m (pc + 3) ls rest)) : W p l e R s m args below meth c H locs cells slots Q (F0 m pc ls st0) := by
  intro T hT X
  obtain ⟨v, st₀, t, T', L, h0, X', hL, e1, -, ⟨hv, hp, hh⟩, st⟩ := hr T hT X
  cases hv
  obtain ⟨t2, a1, b1⟩ := kk T' (by rw [e1, hh, h0]) (Stand.forget X' (fun q h => (hL q h).elim))
  exact ⟨t2, st t2 a1, b1⟩
end CDR
end
section
set_option maxHeartbeats 4000000 in
set_option maxRecDepth 100000 in
theorem c_X6_needActor (l : Launch) (x : Nat) (hx1 : x < 12) : Met l yX6_needActor wsX6_needActor ({ frames := 0, cells := 0, slots := 0, locals := 0 }) (va_Pc [.int (nI x)] (fun _ => True)) (va_Sv (fun _ => True)) 0 0 (fun _ => False) := by
  refine Met.ofW (cc := cX6_needActor) (maxL := 1) (ret := none) (by decide) rfl ?_
  intro pp e9 s m9 args9 bl9 meth9 c9 s9 B hml hv
  obtain ⟨rfl, -⟩ := hv
  have hx := B.exec
  have hb := B.bytes
  have hr := B.returns
  have hts := atoms_spec (ws := wsX6_needActor) B.pre
  have hown : s.vm.findClass RX6 = some m9.cls := findClass_of_methodNamed B.named
  have hlocks := B.notSynchronized
  have hl := lv_entry ([.int (nI x)]) (n := 1) (Nat.le_of_ble_eq_true rfl)
  rw [lg_entry_eq]
  generalize (lg_sl ([.int (nI x)]) ++ List.replicate (1 - (lg_sl ([.int (nI x)])).length) Slot.unset).toArray = ls at hl ⊢
  have hl : lv_has ls 1 [(0, .int (nI x))] := hl
  refine lv_iload_n hx hb dX6_needActor_0 rfl (lv_at hl 0 rfl) ?_
  refine lv_if_lt (tgt := 10) hx hb dX6_needActor_1 (by decide) (fun c_1 => ?_) (fun c_1 => ?_)
  · exact absurd c_1 (by exact Int32.not_lt.mpr (nI_pos' (by omega)))
  · refine lv_iload_n hx hb dX6_needActor_4 rfl (lv_at hl 0 rfl) ?_
    refine lv_bipush (v := nI 12) hx hb dX6_needActor_5 (by decide) ?_
    refine cd_icmp_lt (tgt := 20) hx hb dX6_needActor_7 (by decide) (by omega) (by omega) (fun c_7 => ?_) (fun c_7 => ?_)
    · exact W.vret hx hb hr (fun t ht hW => ⟨rfl, trivial, ht⟩) (fun _ h9 => nomatch h9) dX6_needActor_20
    · exact absurd c_7 (by omega)
end
section
set_option maxHeartbeats 4000000 in
set_option maxRecDepth 100000 in
theorem c_X6_needPart (l : Launch) (x : Nat) (hx1 : x < 8) : Met l yX6_needPart wsX6_needPart ({ frames := 0, cells := 0, slots := 0, locals := 0 }) (va_Pc [.int (nI x)] (fun _ => True)) (va_Sv (fun _ => True)) 0 0 (fun _ => False) := by
  refine Met.ofW (cc := cX6_needPart) (maxL := 1) (ret := none) (by decide) rfl ?_
  intro pp e9 s m9 args9 bl9 meth9 c9 s9 B hml hv
  obtain ⟨rfl, -⟩ := hv
  have hx := B.exec
  have hb := B.bytes
  have hr := B.returns
  have hts := atoms_spec (ws := wsX6_needPart) B.pre
  have hown : s.vm.findClass RX6 = some m9.cls := findClass_of_methodNamed B.named
  have hlocks := B.notSynchronized
  have hl := lv_entry ([.int (nI x)]) (n := 1) (Nat.le_of_ble_eq_true rfl)
  rw [lg_entry_eq]
  generalize (lg_sl ([.int (nI x)]) ++ List.replicate (1 - (lg_sl ([.int (nI x)])).length) Slot.unset).toArray = ls at hl ⊢
  have hl : lv_has ls 1 [(0, .int (nI x))] := hl
  refine lv_iload_n hx hb dX6_needPart_0 rfl (lv_at hl 0 rfl) ?_
  refine lv_if_lt (tgt := 10) hx hb dX6_needPart_1 (by decide) (fun c_1 => ?_) (fun c_1 => ?_)
  · exact absurd c_1 (by exact Int32.not_lt.mpr (nI_pos' (by omega)))
  · refine lv_iload_n hx hb dX6_needPart_4 rfl (lv_at hl 0 rfl) ?_
    refine lv_bipush (v := nI 8) hx hb dX6_needPart_5 (by decide) ?_
    refine cd_icmp_lt (tgt := 20) hx hb dX6_needPart_7 (by decide) (by omega) (by omega) (fun c_7 => ?_) (fun c_7 => ?_)
    · exact W.vret hx hb hr (fun t ht hW => ⟨rfl, trivial, ht⟩) (fun _ h9 => nomatch h9) dX6_needPart_20
    · exact absurd c_7 (by omega)
end
section
set_option maxHeartbeats 4000000 in
set_option maxRecDepth 100000 in
theorem c_X6_needSize (l : Launch) (x : Nat) (hx1 : x < 10) : Met l yX6_needSize wsX6_needSize ({ frames := 0, cells := 0, slots := 0, locals := 0 }) (va_Pc [.int (nI x)] (fun _ => True)) (va_Sv (fun _ => True)) 0 0 (fun _ => False) := by
  refine Met.ofW (cc := cX6_needSize) (maxL := 1) (ret := none) (by decide) rfl ?_
  intro pp e9 s m9 args9 bl9 meth9 c9 s9 B hml hv
  obtain ⟨rfl, -⟩ := hv
  have hx := B.exec
  have hb := B.bytes
  have hr := B.returns
  have hts := atoms_spec (ws := wsX6_needSize) B.pre
  have hown : s.vm.findClass RX6 = some m9.cls := findClass_of_methodNamed B.named
  have hlocks := B.notSynchronized
  have hl := lv_entry ([.int (nI x)]) (n := 1) (Nat.le_of_ble_eq_true rfl)
  rw [lg_entry_eq]
  generalize (lg_sl ([.int (nI x)]) ++ List.replicate (1 - (lg_sl ([.int (nI x)])).length) Slot.unset).toArray = ls at hl ⊢
  have hl : lv_has ls 1 [(0, .int (nI x))] := hl
  refine lv_iload_n hx hb dX6_needSize_0 rfl (lv_at hl 0 rfl) ?_
  refine lv_if_lt (tgt := 10) hx hb dX6_needSize_1 (by decide) (fun c_1 => ?_) (fun c_1 => ?_)
  · exact absurd c_1 (by exact Int32.not_lt.mpr (nI_pos' (by omega)))
  · refine lv_iload_n hx hb dX6_needSize_4 rfl (lv_at hl 0 rfl) ?_
    refine lv_bipush (v := nI 9) hx hb dX6_needSize_5 (by decide) ?_
    refine cd_icmp_le (tgt := 20) hx hb dX6_needSize_7 (by decide) (by omega) (by omega) (fun c_7 => ?_) (fun c_7 => ?_)
    · exact W.vret hx hb hr (fun t ht hW => ⟨rfl, trivial, ht⟩) (fun _ h9 => nomatch h9) dX6_needSize_20
    · exact absurd c_7 (by omega)
end
section
set_option maxHeartbeats 4000000 in
set_option maxRecDepth 100000 in
theorem c_X6_needDay (l : Launch) (x : Nat) (y : Nat) (hx1 : y ≤ x) (hx2 : x ≤ 1000) : Met l yX6_needDay wsX6_needDay ({ frames := 0, cells := 0, slots := 0, locals := 0 }) (va_Pc [.int (nI x), .int (nI y)] (fun _ => True)) (va_Sv (fun _ => True)) 0 0 (fun _ => False) := by
  refine Met.ofW (cc := cX6_needDay) (maxL := 2) (ret := none) (by decide) rfl ?_
  intro pp e9 s m9 args9 bl9 meth9 c9 s9 B hml hv
  obtain ⟨rfl, -⟩ := hv
  have hx := B.exec
  have hb := B.bytes
  have hr := B.returns
  have hts := atoms_spec (ws := wsX6_needDay) B.pre
  have hown : s.vm.findClass RX6 = some m9.cls := findClass_of_methodNamed B.named
  have hlocks := B.notSynchronized
  have hl := lv_entry ([.int (nI x), .int (nI y)]) (n := 2) (Nat.le_of_ble_eq_true rfl)
  rw [lg_entry_eq]
  generalize (lg_sl ([.int (nI x), .int (nI y)]) ++ List.replicate (2 - (lg_sl ([.int (nI x), .int (nI y)])).length) Slot.unset).toArray = ls at hl ⊢
  have hl : lv_has ls 2 [(0, .int (nI x)), (1, .int (nI y))] := hl
  refine lv_iload_n hx hb dX6_needDay_0 rfl (lv_at hl 0 rfl) ?_
  refine lv_iload_n hx hb dX6_needDay_1 rfl (lv_at hl 1 rfl) ?_
  refine cd_icmp_lt (tgt := 12) hx hb dX6_needDay_2 (by decide) (by omega) (by omega) (fun c_2 => ?_) (fun c_2 => ?_)
  · exact absurd c_2 (by omega)
  · refine lv_iload_n hx hb dX6_needDay_5 rfl (lv_at hl 0 rfl) ?_
    refine lv_sipush (v := nI 1000) hx hb dX6_needDay_6 (by decide) ?_
    refine cd_icmp_le (tgt := 22) hx hb dX6_needDay_9 (by decide) (by omega) (by omega) (fun c_9 => ?_) (fun c_9 => ?_)
    · exact W.vret hx hb hr (fun t ht hW => ⟨rfl, trivial, ht⟩) (fun _ h9 => nomatch h9) dX6_needDay_22
    · exact absurd c_9 (by omega)
end
section
set_option maxHeartbeats 4000000 in
set_option maxRecDepth 100000 in
theorem c_X6_needOneOf (l : Launch) (x : Nat) (n : Nat) (hx1 : x < n) (hx2 : n < 2147483648) : Met l yX6_needOneOf wsX6_needOneOf ({ frames := 0, cells := 0, slots := 0, locals := 0 }) (va_Pc [.int (nI x), .int (nI n)] (fun _ => True)) (va_Sv (fun _ => True)) 0 0 (fun _ => False) := by
  refine Met.ofW (cc := cX6_needOneOf) (maxL := 2) (ret := none) (by decide) rfl ?_
  intro pp e9 s m9 args9 bl9 meth9 c9 s9 B hml hv
  obtain ⟨rfl, -⟩ := hv
  have hx := B.exec
  have hb := B.bytes
  have hr := B.returns
  have hts := atoms_spec (ws := wsX6_needOneOf) B.pre
  have hown : s.vm.findClass RX6 = some m9.cls := findClass_of_methodNamed B.named
  have hlocks := B.notSynchronized
  have hl := lv_entry ([.int (nI x), .int (nI n)]) (n := 2) (Nat.le_of_ble_eq_true rfl)
  rw [lg_entry_eq]
  generalize (lg_sl ([.int (nI x), .int (nI n)]) ++ List.replicate (2 - (lg_sl ([.int (nI x), .int (nI n)])).length) Slot.unset).toArray = ls at hl ⊢
  have hl : lv_has ls 2 [(0, .int (nI x)), (1, .int (nI n))] := hl
  refine lv_iload_n hx hb dX6_needOneOf_0 rfl (lv_at hl 0 rfl) ?_
  refine lv_if_lt (tgt := 9) hx hb dX6_needOneOf_1 (by decide) (fun c_1 => ?_) (fun c_1 => ?_)
  · exact absurd c_1 (by exact Int32.not_lt.mpr (nI_pos' (by omega)))
  · refine lv_iload_n hx hb dX6_needOneOf_4 rfl (lv_at hl 0 rfl) ?_
    refine lv_iload_n hx hb dX6_needOneOf_5 rfl (lv_at hl 1 rfl) ?_
    refine cd_icmp_lt (tgt := 19) hx hb dX6_needOneOf_6 (by decide) (by omega) (by omega) (fun c_6 => ?_) (fun c_6 => ?_)
    · exact W.vret hx hb hr (fun t ht hW => ⟨rfl, trivial, ht⟩) (fun _ h9 => nomatch h9) dX6_needOneOf_19
    · exact absurd c_6 (by omega)
end
section
set_option maxHeartbeats 4000000 in
set_option maxRecDepth 100000 in
theorem c_X6_setParts (l : Launch) (D : va_G) (cy : qT) (h : Nat → Nat) (S : qS) (J : qS) (hI : Inv S) (x : Nat) (hx1 : 1 ≤ x) (hx2 : x ≤ 8) (sz : Nat) : Met l yX6_setParts wsX6_setParts ({ frames := 0, cells := 0, slots := 0, locals := 0 }) (va_Pc [.ref (h 0), .int (nI x)] (wrB D cy (wC cy h S J) sz)) (va_Qi (fun (r9 : Int32) (u : Unit) => r9 = nI (nv (S 27 0))) (wrQ D (va_A (wC cy h S J) sz) (fun u : Unit => (wC cy h (va_up S 27 (fun _ => nI x)) J))) (va_A (wC cy h S J) sz)) 0 0 (va_A (wC cy h S J) sz) := by
  refine Met.ofW (cc := cX6_setParts) (maxL := 3) (ret := (some .int)) (by decide) rfl ?_
  intro pp e9 s m9 args9 bl9 meth9 c9 s9 B hml hv
  obtain ⟨rfl, hsz, hP, hG, hD0⟩ := hv
  have hx := B.exec
  have hb := B.bytes
  have hr := B.returns
  have hts := atoms_spec (ws := wsX6_setParts) B.pre
  have hown : s.vm.findClass RX6 = some m9.cls := findClass_of_methodNamed B.named
  have hlocks := B.notSynchronized
  have hK := hG.K
  subst hsz
  have hD := hD0.self (sz := s.heap.size)
  generalize hAe : (va_A (wC cy h S J) s.heap.size) = A at hD ⊢
  have hA : ∀ q : Nat, s.heap.size ≤ q → A q := fun q h9 => by rw [← hAe]; exact Or.inr h9
  have hS : va_S A s.heap s.heap [] := va_S.rf
  have hP : va_P D vwCl (wC cy h S J) s.heap := hP
  have f_51 := hts (.fieldLink RX6 51 "CastDesk" "partCount" "I") (by decide +kernel)
  have iX6 : ∀ w ∈ wsX60, w ∈ wsX6_setParts := by decide +kernel
  have hl := lv_entry ([.ref (h 0), .int (nI x)]) (n := 3) (Nat.le_of_ble_eq_true rfl)
  rw [lg_entry_eq]
  generalize (lg_sl ([.ref (h 0), .int (nI x)]) ++ List.replicate (3 - (lg_sl ([.ref (h 0), .int (nI x)])).length) Slot.unset).toArray = ls at hl ⊢
  have hl : lv_has ls 3 [(0, .ref (h 0)), (1, .int (nI x))] := hl
  refine lv_iload_n hx hb dX6_setParts_0 rfl (lv_at hl 1 rfl) ?_
  refine lv_iconst (v := nI 1) hx hb dX6_setParts_1 (by decide) ?_
  refine cd_icmp_lt (tgt := 11) hx hb dX6_setParts_2 (by decide) (by omega) (by omega) (fun c_2 => ?_) (fun c_2 => ?_)
  · omega
  · refine lv_iload_n hx hb dX6_setParts_5 rfl (lv_at hl 1 rfl) ?_
    refine lv_bipush (v := nI 8) hx hb dX6_setParts_6 (by decide) ?_
    refine cd_icmp_le (tgt := 21) hx hb dX6_setParts_8 (by decide) (by omega) (by omega) (fun c_8 => ?_) (fun c_8 => ?_)
    · refine lv_aload_n hx hb dX6_setParts_21 rfl (lv_at hl 0 rfl) ?_
      refine va_get (D := D) (ci := 6) (v := .int (S 27 0)) (C := RX6) (T := TX6) (N := 8) hx hb hts iX6 hown hK hP 0 rfl rfl 6 (by decide) f_51 (fun _ h9 => h9) rfl dX6_setParts_22 ?_
      have b_22 := (iv_27 hI).1
      refine cd_tp (y := nI (nv (S 27 0))) b_22.1 ?_
      have b_22 := b_22.2
      refine lv_istore_n (lv' := [(2, .int (nI (nv (S 27 0)))), (0, .ref (h 0)), (1, .int (nI x))]) hx hb dX6_setParts_25 rfl hl (by decide) rfl (fun ls hl => ?_)
      refine lv_aload_n hx hb dX6_setParts_26 rfl (lv_at hl 1 rfl) ?_
      refine lv_iload_n hx hb dX6_setParts_27 rfl (lv_at hl 2 rfl) ?_
      refine va_put (D := D) (ci := 6) (v := .int (nI x)) (ty := .int) (C := RX6) (T := TX6) (N := 8) hx hb hts iX6 tyX6 tyX6_ok nmX6 hown hK hP hD hS 0 rfl rfl 6 (by decide) f_51 (fun _ h9 => h9) rfl (by decide +kernel) rfl rfl (Nat.le_of_ble_eq_true rfl) dX6_setParts_28 (fun H locs hP hD hS => ?_)
      have hP : va_P D vwCl (wC cy h (va_up S 27 (fun _ => nI x)) J) H := hP
      have hD : va_D A (wC cy h (va_up S 27 (fun _ => nI x)) J) := hD
      refine lv_iload_n hx hb dX6_setParts_31 rfl (lv_at hl 0 rfl) ?_
      exact W.iret (v := nI (nv (S 27 0))) hx hb hr (fun t ht hW => ⟨⟨_, (), rfl, rfl, by rw [ht]; exact hP, hD⟩, hS.F ht⟩) hS.2.2 dX6_setParts_32
    · omega
end
section
set_option maxHeartbeats 4000000 in
set_option maxRecDepth 100000 in
theorem c_X6_setSize (l : Launch) (D : va_G) (cy : qT) (h : Nat → Nat) (S : qS) (J : qS) (hI : Inv S) (a : Nat) (z : Nat) (ha1 : a < 12) (hz1 : z < 10) (sz : Nat) : Met l yX6_setSize wsX6_setSize ({ frames := 1, cells := 0, slots := 0, locals := 20 }) (va_Pc [.ref (h 0), .int (nI a), .int (nI z)] (wrB D cy (wC cy h S J) sz)) (va_Qi (fun (r9 : Int32) (u : Unit) => r9 = S 2 a) (wrQ D (va_A (wC cy h S J) sz) (fun u : Unit => (wC cy h (va_up S 2 (upd (S 2) a (nI z))) J))) (va_A (wC cy h S J) sz)) 0 0 (va_A (wC cy h S J) sz) := by
  refine Met.ofW (cc := cX6_setSize) (maxL := 4) (ret := (some .int)) (by decide) rfl ?_
  intro pp e9 s m9 args9 bl9 meth9 c9 s9 B hml hv
  obtain ⟨rfl, hsz, hP, hG, hD0⟩ := hv
  have hx := B.exec
  have hb := B.bytes
  have hr := B.returns
  have hts := atoms_spec (ws := wsX6_setSize) B.pre
  have hown : s.vm.findClass RX6 = some m9.cls := findClass_of_methodNamed B.named
  have hlocks := B.notSynchronized
  have hK := hG.K
  subst hsz
  have hD := hD0.self (sz := s.heap.size)
  generalize hAe : (va_A (wC cy h S J) s.heap.size) = A at hD ⊢
  have hA : ∀ q : Nat, s.heap.size ≤ q → A q := fun q h9 => by rw [← hAe]; exact Or.inr h9
  have hS : va_S A s.heap s.heap [] := va_S.rf
  have hP : va_P D vwCl (wC cy h S J) s.heap := hP
  have f_10 := hts (.fieldLink RX6 10 "CastDesk" "troupe" "LCastDesk$Troupe;") (by decide +kernel)
  have f_72 := hts (.fieldLink RX6 72 "CastDesk$Troupe" "sizes" "[I") (by decide +kernel)
  have iX4 : ∀ w ∈ wsX40, w ∈ wsX6_setSize := by decide +kernel
  have iX6 : ∀ w ∈ wsX60, w ∈ wsX6_setSize := by decide +kernel
  have hl := lv_entry ([.ref (h 0), .int (nI a), .int (nI z)]) (n := 4) (Nat.le_of_ble_eq_true rfl)
  rw [lg_entry_eq]
  generalize (lg_sl ([.ref (h 0), .int (nI a), .int (nI z)]) ++ List.replicate (4 - (lg_sl ([.ref (h 0), .int (nI a), .int (nI z)])).length) Slot.unset).toArray = ls at hl ⊢
  have hl : lv_has ls 4 [(0, .ref (h 0)), (1, .int (nI a)), (2, .int (nI z))] := hl
  refine lv_iload_n hx hb dX6_setSize_0 rfl (lv_at hl 1 rfl) ?_
  have M_1 := c_X6_needActor l a (by omega)
  refine cd_rov (va_runS (As := [.int (nI a)]) (rest := []) ⟨hx, hb, hml, hown, hts⟩ M_1 (va_cwS 1 hts gX6_setSize_X6_needActor rfl rfl rfl (by decide +kernel) ⟨Nat.le_of_ble_eq_true rfl, Nat.le_of_ble_eq_true rfl⟩) ⟨nuB.bl, fun U hU hW => ⟨rfl, trivial⟩⟩ rfl rfl hl.1 rfl (lv_room (Nat.le_of_ble_eq_true rfl)) dX6_setSize_1 (by exact ⟨Nat.zero_le _, Nat.zero_le _⟩)) ?_
  refine lv_iload_n hx hb dX6_setSize_4 rfl (lv_at hl 2 rfl) ?_
  have M_5 := c_X6_needSize l z (by omega)
  refine cd_rov (va_runS (As := [.int (nI z)]) (rest := []) ⟨hx, hb, hml, hown, hts⟩ M_5 (va_cwS 1 hts gX6_setSize_X6_needSize rfl rfl rfl (by decide +kernel) ⟨Nat.le_of_ble_eq_true rfl, Nat.le_of_ble_eq_true rfl⟩) ⟨nuB.bl, fun U hU hW => ⟨rfl, trivial⟩⟩ rfl rfl hl.1 rfl (lv_room (Nat.le_of_ble_eq_true rfl)) dX6_setSize_5 (by exact ⟨Nat.zero_le _, Nat.zero_le _⟩)) ?_
  refine lv_aload_n hx hb dX6_setSize_8 rfl (lv_at hl 0 rfl) ?_
  refine va_get (D := D) (ci := 6) (v := .ref (h 1)) (C := RX6) (T := TX6) (N := 8) hx hb hts iX6 hown hK hP 0 rfl rfl 0 (by decide) f_10 (fun _ h9 => h9) rfl dX6_setSize_9 ?_
  refine va_get (D := D) (ci := 4) (v := .ref (h 2)) (C := RX4) (T := TX4) (N := 3) hx hb hts iX4 hown hK hP 1 rfl rfl 0 (by decide) f_72 (fun _ h9 => h9) rfl dX6_setSize_12 ?_
  refine lv_iload_n hx hb dX6_setSize_15 rfl (lv_at hl 1 rfl) ?_
  refine cd_iald (f := S 2) hx hb hK hP 2 rfl (by omega) (by decide) dX6_setSize_16 ?_
  refine lv_istore_n (lv' := [(3, .int ((S 2) a)), (0, .ref (h 0)), (1, .int (nI a)), (2, .int (nI z))]) hx hb dX6_setSize_17 rfl hl (by decide) rfl (fun ls hl => ?_)
  refine lv_aload_n hx hb dX6_setSize_18 rfl (lv_at hl 1 rfl) ?_
  refine va_get (D := D) (ci := 6) (v := .ref (h 1)) (C := RX6) (T := TX6) (N := 8) hx hb hts iX6 hown hK hP 0 rfl rfl 0 (by decide) f_10 (fun _ h9 => h9) rfl dX6_setSize_19 ?_
  refine va_get (D := D) (ci := 4) (v := .ref (h 2)) (C := RX4) (T := TX4) (N := 3) hx hb hts iX4 hown hK hP 1 rfl rfl 0 (by decide) f_72 (fun _ h9 => h9) rfl dX6_setSize_22 ?_
  refine lv_iload_n hx hb dX6_setSize_25 rfl (lv_at hl 2 rfl) ?_
  refine lv_iload_n hx hb dX6_setSize_26 rfl (lv_at hl 3 rfl) ?_
  refine cd_iast (f := S 2) hx hb hK hP hD hS 2 rfl (by omega) (by decide) dX6_setSize_27 (fun H locs hP hD hS => ?_)
  have hP : va_P D vwCl (wC cy h (va_up S 2 (upd (S 2) a (nI z))) J) H := hP
  have hD : va_D A (wC cy h (va_up S 2 (upd (S 2) a (nI z))) J) := hD
  refine lv_iload_n hx hb dX6_setSize_28 rfl (lv_at hl 0 rfl) ?_
  exact W.iret (v := (S 2) a) hx hb hr (fun t ht hW => ⟨⟨_, (), rfl, rfl, by rw [ht]; exact hP, hD⟩, hS.F ht⟩) hS.2.2 dX6_setSize_29
end
section
set_option maxHeartbeats 4000000 in
set_option maxRecDepth 100000 in
theorem c_X6_learn (l : Launch) (D : va_G) (cy : qT) (h : Nat → Nat) (S : qS) (J : qS) (hI : Inv S) (a : Nat) (p : Nat) (ha1 : a < 12) (hp1 : p < 8) (hk1 : pcn 12 (nv (S 3 a) ||| 2 ^ p) ≤ 4) (sz : Nat) : Met l yX6_learn wsX6_learn ({ frames := 1, cells := 0, slots := 0, locals := 21 }) (va_Pc [.ref (h 0), .int (nI a), .int (nI p), .int (nI 1)] (wrB D cy (wC cy h S J) sz)) (va_Qi (fun (r9 : Int32) (u : Unit) => r9 = nI (pcn 12 (nv (S 3 a) ||| 2 ^ p))) (wrQ D (va_A (wC cy h S J) sz) (fun u : Unit => (wC cy h (va_up S 3 (upd (S 3) a (nI (nv (S 3 a) ||| 2 ^ p)))) J))) (va_A (wC cy h S J) sz)) 0 0 (va_A (wC cy h S J) sz) := by
  refine Met.ofW (cc := cX6_learn) (maxL := 6) (ret := (some .int)) (by decide) rfl ?_
  intro pp e9 s m9 args9 bl9 meth9 c9 s9 B hml hv
  obtain ⟨rfl, hsz, hP, hG, hD0⟩ := hv
  have hx := B.exec
  have hb := B.bytes
  have hr := B.returns
  have hts := atoms_spec (ws := wsX6_learn) B.pre
  have hown : s.vm.findClass RX6 = some m9.cls := findClass_of_methodNamed B.named
  have hlocks := B.notSynchronized
  have hK := hG.K
  subst hsz
  have hD := hD0.self (sz := s.heap.size)
  generalize hAe : (va_A (wC cy h S J) s.heap.size) = A at hD ⊢
  have hA : ∀ q : Nat, s.heap.size ≤ q → A q := fun q h9 => by rw [← hAe]; exact Or.inr h9
  have hS : va_S A s.heap s.heap [] := va_S.rf
  have hP : va_P D vwCl (wC cy h S J) s.heap := hP
  have f_10 := hts (.fieldLink RX6 10 "CastDesk" "troupe" "LCastDesk$Troupe;") (by decide +kernel)
  have f_79 := hts (.fieldLink RX6 79 "CastDesk$Troupe" "known" "[I") (by decide +kernel)
  have iX4 : ∀ w ∈ wsX40, w ∈ wsX6_learn := by decide +kernel
  have iX6 : ∀ w ∈ wsX60, w ∈ wsX6_learn := by decide +kernel
  have hl := lv_entry ([.ref (h 0), .int (nI a), .int (nI p), .int (nI 1)]) (n := 6) (Nat.le_of_ble_eq_true rfl)
  rw [lg_entry_eq]
  generalize (lg_sl ([.ref (h 0), .int (nI a), .int (nI p), .int (nI 1)]) ++ List.replicate (6 - (lg_sl ([.ref (h 0), .int (nI a), .int (nI p), .int (nI 1)])).length) Slot.unset).toArray = ls at hl ⊢
  have hl : lv_has ls 6 [(0, .ref (h 0)), (1, .int (nI a)), (2, .int (nI p)), (3, .int (nI 1))] := hl
  have hk3 := iv_3 hI a (by omega)
  have hk3b := hk3.1.2
  have hkn := or_lt (n := 8) hk3b hp1
  refine lv_iload_n hx hb dX6_learn_0 rfl (lv_at hl 1 rfl) ?_
  have M_1 := c_X6_needActor l a (by omega)
  refine cd_rov (va_runS (As := [.int (nI a)]) (rest := []) ⟨hx, hb, hml, hown, hts⟩ M_1 (va_cwS 1 hts gX6_learn_X6_needActor rfl rfl rfl (by decide +kernel) ⟨Nat.le_of_ble_eq_true rfl, Nat.le_of_ble_eq_true rfl⟩) ⟨nuB.bl, fun U hU hW => ⟨rfl, trivial⟩⟩ rfl rfl hl.1 rfl (lv_room (Nat.le_of_ble_eq_true rfl)) dX6_learn_1 (by exact ⟨Nat.zero_le _, Nat.zero_le _⟩)) ?_
  refine lv_iload_n hx hb dX6_learn_4 rfl (lv_at hl 2 rfl) ?_
  have M_5 := c_X6_needPart l p (by omega)
  refine cd_rov (va_runS (As := [.int (nI p)]) (rest := []) ⟨hx, hb, hml, hown, hts⟩ M_5 (va_cwS 1 hts gX6_learn_X6_needPart rfl rfl rfl (by decide +kernel) ⟨Nat.le_of_ble_eq_true rfl, Nat.le_of_ble_eq_true rfl⟩) ⟨nuB.bl, fun U hU hW => ⟨rfl, trivial⟩⟩ rfl rfl hl.1 rfl (lv_room (Nat.le_of_ble_eq_true rfl)) dX6_learn_5 (by exact ⟨Nat.zero_le _, Nat.zero_le _⟩)) ?_
  refine lv_iload_n hx hb dX6_learn_8 rfl (lv_at hl 3 rfl) ?_
  refine cd_if_eq (tgt := 28) hx hb dX6_learn_9 (by decide) (by omega) (fun c_9 => ?_) (fun c_9 => ?_)
  · exact absurd c_9 (by decide)
  · refine lv_aload_n hx hb dX6_learn_12 rfl (lv_at hl 0 rfl) ?_
    refine va_get (D := D) (ci := 6) (v := .ref (h 1)) (C := RX6) (T := TX6) (N := 8) hx hb hts iX6 hown hK hP 0 rfl rfl 0 (by decide) f_10 (fun _ h9 => h9) rfl dX6_learn_13 ?_
    refine va_get (D := D) (ci := 4) (v := .ref (h 3)) (C := RX4) (T := TX4) (N := 3) hx hb hts iX4 hown hK hP 1 rfl rfl 1 (by decide) f_79 (fun _ h9 => h9) rfl dX6_learn_16 ?_
    refine lv_iload_n hx hb dX6_learn_19 rfl (lv_at hl 1 rfl) ?_
    refine cd_iald (f := S 3) hx hb hK hP 3 rfl (by omega) (by decide) dX6_learn_20 ?_
    have b_20 := (iv_3 hI a (by omega)).1
    refine cd_tp (y := nI (nv (S 3 a))) b_20.1 ?_
    have b_20 := b_20.2
    refine lv_iload_n hx hb dX6_learn_21 rfl (lv_at hl 2 rfl) ?_
    have M_22 := c_X6_with l (nv (S 3 a)) p (by omega)
    refine cd_roi (va_runS (As := [.int (nI (nv (S 3 a))), .int (nI p)]) (rest := []) ⟨hx, hb, hml, hown, hts⟩ M_22 (va_cwS 2 hts gX6_learn_X6_with rfl rfl rfl (by decide +kernel) ⟨Nat.le_of_ble_eq_true rfl, Nat.le_of_ble_eq_true rfl⟩) ⟨nuB.bl, fun U hU hW => ⟨rfl, trivial⟩⟩ rfl rfl hl.1 rfl (lv_room (Nat.le_of_ble_eq_true rfl)) dX6_learn_22 (by exact ⟨Nat.zero_le _, Nat.zero_le _⟩)) (fun r_22 hr_22 => ?_)
    subst hr_22
    refine lv_goto (tgt := 41) hx hb dX6_learn_25 (by decide) ?_
    refine lv_istore (lv' := [(4, .int (nI ((nv (S 3 a)) ||| 2 ^ p))), (0, .ref (h 0)), (1, .int (nI a)), (2, .int (nI p)), (3, .int (nI 1))]) hx hb dX6_learn_41 hl (by decide) rfl (fun ls hl => ?_)
    refine lv_iload hx hb dX6_learn_43 (lv_at hl 0 rfl) ?_
    have M_45 := c_J6_bitCount_0f7a4 l ((nv (S 3 a)) ||| 2 ^ p) (by omega)
    refine cd_roi (va_runS (As := [.int (nI ((nv (S 3 a)) ||| 2 ^ p))]) (rest := []) ⟨hx, hb, hml, hown, hts⟩ M_45 (va_cwS 1 hts gX6_learn_J6_bitCount_0f7a4 rfl rfl rfl (by decide +kernel) ⟨Nat.le_of_ble_eq_true rfl, Nat.le_of_ble_eq_true rfl⟩) ⟨nuB.bl, fun U hU hW => ⟨rfl, trivial⟩⟩ rfl rfl hl.1 rfl (lv_room (Nat.le_of_ble_eq_true rfl)) dX6_learn_45 (by exact ⟨Nat.zero_le _, Nat.zero_le _⟩)) (fun r_45 hr_45 => ?_)
    subst hr_45
    have hpc := pcn_le (nv (S 3 a) ||| 2 ^ p) 12
    refine lv_istore (lv' := [(5, .int (nI (pcn 12 ((nv (S 3 a)) ||| 2 ^ p)))), (4, .int (nI ((nv (S 3 a)) ||| 2 ^ p))), (0, .ref (h 0)), (1, .int (nI a)), (2, .int (nI p)), (3, .int (nI 1))]) hx hb dX6_learn_48 hl (by decide) rfl (fun ls hl => ?_)
    refine lv_iload hx hb dX6_learn_50 (lv_at hl 0 rfl) ?_
    refine lv_iconst (v := nI 4) hx hb dX6_learn_52 (by decide) ?_
    refine cd_icmp_le (tgt := 66) hx hb dX6_learn_53 (by decide) (by omega) (by omega) (fun c_53 => ?_) (fun c_53 => ?_)
    · refine lv_aload_n hx hb dX6_learn_66 rfl (lv_at hl 2 rfl) ?_
      refine va_get (D := D) (ci := 6) (v := .ref (h 1)) (C := RX6) (T := TX6) (N := 8) hx hb hts iX6 hown hK hP 0 rfl rfl 0 (by decide) f_10 (fun _ h9 => h9) rfl dX6_learn_67 ?_
      refine va_get (D := D) (ci := 4) (v := .ref (h 3)) (C := RX4) (T := TX4) (N := 3) hx hb hts iX4 hown hK hP 1 rfl rfl 1 (by decide) f_79 (fun _ h9 => h9) rfl dX6_learn_70 ?_
      refine lv_iload_n hx hb dX6_learn_73 rfl (lv_at hl 3 rfl) ?_
      refine lv_iload hx hb dX6_learn_74 (lv_at hl 1 rfl) ?_
      refine cd_iast (f := S 3) hx hb hK hP hD hS 3 rfl (by omega) (by decide) dX6_learn_76 (fun H locs hP hD hS => ?_)
      have hP : va_P D vwCl (wC cy h (va_up S 3 (upd (S 3) a (nI ((nv (S 3 a)) ||| 2 ^ p)))) J) H := hP
      have hD : va_D A (wC cy h (va_up S 3 (upd (S 3) a (nI ((nv (S 3 a)) ||| 2 ^ p)))) J) := hD
      refine lv_iload hx hb dX6_learn_77 (lv_at hl 0 rfl) ?_
      exact W.iret (v := nI (pcn 12 ((nv (S 3 a)) ||| 2 ^ p))) hx hb hr (fun t ht hW => ⟨⟨_, (), rfl, rfl, by rw [ht]; exact hP, hD⟩, hS.F ht⟩) hS.2.2 dX6_learn_79
    · omega
end
section
set_option maxHeartbeats 4000000 in
set_option maxRecDepth 100000 in
theorem c_X6_put (l : Launch) (D : va_G) (cy : qT) (h : Nat → Nat) (S : qS) (J : qS) (hI : Inv S) (p : Nat) (a : Nat) (hp1 : p < 8) (ha1 : a < 12) (hr1 : rkB S p (nI a) = false) (hn1 : nv (S 7 p) < 4) (sz : Nat) : Met l yX6_put wsX6_put ({ frames := 1, cells := 0, slots := 0, locals := 23 }) (va_Pc [.ref (h 0), .int (nI p), .int (nI a)] (wrB D cy (wC cy h S J) sz)) (va_Qi (fun (r9 : Int32) (u : Unit) => r9 = nI (nv (S 7 p))) (wrQ D (va_A (wC cy h S J) sz) (fun u : Unit => (wC cy h (va_up (va_up S 6 (upd (S 6) (p * 4 + nv (S 7 p)) (nI a))) 7 (upd (S 7) p (nI (nv (S 7 p) + 1)))) J))) (va_A (wC cy h S J) sz)) 0 0 (va_A (wC cy h S J) sz) := by
  refine Met.ofW (cc := cX6_put) (maxL := 3) (ret := (some .int)) (by decide) rfl ?_
  intro pp e9 s m9 args9 bl9 meth9 c9 s9 B hml hv
  obtain ⟨rfl, hsz, hP, hG, hD0⟩ := hv
  have hx := B.exec
  have hb := B.bytes
  have hr := B.returns
  have hts := atoms_spec (ws := wsX6_put) B.pre
  have hown : s.vm.findClass RX6 = some m9.cls := findClass_of_methodNamed B.named
  have hlocks := B.notSynchronized
  have hK := hG.K
  subst hsz
  have hD := hD0.self (sz := s.heap.size)
  generalize hAe : (va_A (wC cy h S J) s.heap.size) = A at hD ⊢
  have hA : ∀ q : Nat, s.heap.size ≤ q → A q := fun q h9 => by rw [← hAe]; exact Or.inr h9
  have hS : va_S A s.heap s.heap [] := va_S.rf
  have hP : va_P D vwCl (wC cy h S J) s.heap := hP
  have f_19 := hts (.fieldLink RX6 19 "CastDesk" "rows" "LCastDesk$Rows;") (by decide +kernel)
  have iX6 : ∀ w ∈ wsX60, w ∈ wsX6_put := by decide +kernel
  have hl := lv_entry ([.ref (h 0), .int (nI p), .int (nI a)]) (n := 3) (Nat.le_of_ble_eq_true rfl)
  rw [lg_entry_eq]
  generalize (lg_sl ([.ref (h 0), .int (nI p), .int (nI a)]) ++ List.replicate (3 - (lg_sl ([.ref (h 0), .int (nI p), .int (nI a)])).length) Slot.unset).toArray = ls at hl ⊢
  have hl : lv_has ls 3 [(0, .ref (h 0)), (1, .int (nI p)), (2, .int (nI a))] := hl
  refine lv_iload_n hx hb dX6_put_0 rfl (lv_at hl 1 rfl) ?_
  have M_1 := c_X6_needPart l p (by omega)
  refine cd_rov (va_runS (As := [.int (nI p)]) (rest := []) ⟨hx, hb, hml, hown, hts⟩ M_1 (va_cwS 1 hts gX6_put_X6_needPart rfl rfl rfl (by decide +kernel) ⟨Nat.le_of_ble_eq_true rfl, Nat.le_of_ble_eq_true rfl⟩) ⟨nuB.bl, fun U hU hW => ⟨rfl, trivial⟩⟩ rfl rfl hl.1 rfl (lv_room (Nat.le_of_ble_eq_true rfl)) dX6_put_1 (by exact ⟨Nat.zero_le _, Nat.zero_le _⟩)) ?_
  refine lv_iload_n hx hb dX6_put_4 rfl (lv_at hl 2 rfl) ?_
  have M_5 := c_X6_needActor l a (by omega)
  refine cd_rov (va_runS (As := [.int (nI a)]) (rest := []) ⟨hx, hb, hml, hown, hts⟩ M_5 (va_cwS 1 hts gX6_put_X6_needActor rfl rfl rfl (by decide +kernel) ⟨Nat.le_of_ble_eq_true rfl, Nat.le_of_ble_eq_true rfl⟩) ⟨nuB.bl, fun U hU hW => ⟨rfl, trivial⟩⟩ rfl rfl hl.1 rfl (lv_room (Nat.le_of_ble_eq_true rfl)) dX6_put_5 (by exact ⟨Nat.zero_le _, Nat.zero_le _⟩)) ?_
  refine lv_aload_n hx hb dX6_put_8 rfl (lv_at hl 0 rfl) ?_
  refine va_get (D := D) (ci := 6) (v := .ref (h 5)) (C := RX6) (T := TX6) (N := 8) hx hb hts iX6 hown hK hP 0 rfl rfl 1 (by decide) f_19 (fun _ h9 => h9) rfl dX6_put_9 ?_
  refine lv_iload_n hx hb dX6_put_12 rfl (lv_at hl 1 rfl) ?_
  refine lv_iload_n hx hb dX6_put_13 rfl (lv_at hl 2 rfl) ?_
  have M_14 := c_X3_rankIn l D cy h S hI p (nI a) hp1
  have hPc := hP.sub (ws' := (wX3 cy h S)) [5, 6, 7] rfl
  refine cd_roi (va_runV (As := [.int (nI p), .int (nI a)]) (rest := []) ⟨hx, hb, hml, hown, hts⟩ M_14 (cwV 2 hts gX6_put_X3_rankIn rfl rfl rfl (by decide +kernel) ⟨Nat.le_of_ble_eq_true rfl, Nat.le_of_ble_eq_true rfl⟩) ⟨roB.bl, va_recv hK hP (ci := 3) (q0 := 5) rfl rfl, fun U hU hW => ⟨rfl, by rw [hU]; exact hPc, hG.warm hW⟩⟩ rfl rfl hl.1 rfl (lv_room (Nat.le_of_ble_eq_true rfl)) dX6_put_14 (by exact ⟨Nat.zero_le _, Nat.zero_le _⟩)) (fun r_14 hr_14 => ?_)
  subst hr_14
  refine lv_iconst (v := (-1)) hx hb dX6_put_17 (by decide) ?_
  refine lv_icmp_eq (tgt := 31) hx hb dX6_put_18 (by decide) (fun c_18 => ?_) (fun c_18 => ?_)
  · refine lv_aload_n hx hb dX6_put_31 rfl (lv_at hl 0 rfl) ?_
    refine va_get (D := D) (ci := 6) (v := .ref (h 5)) (C := RX6) (T := TX6) (N := 8) hx hb hts iX6 hown hK hP 0 rfl rfl 1 (by decide) f_19 (fun _ h9 => h9) rfl dX6_put_32 ?_
    refine lv_iload_n hx hb dX6_put_35 rfl (lv_at hl 1 rfl) ?_
    have M_36 := c_X3_isFull l D cy h S hI p hp1
    have hPc := hP.sub (ws' := (wX3 cy h S)) [5, 6, 7] rfl
    refine cd_roi (va_runV (As := [.int (nI p)]) (rest := []) ⟨hx, hb, hml, hown, hts⟩ M_36 (cwV 1 hts gX6_put_X3_isFull rfl rfl rfl (by decide +kernel) ⟨Nat.le_of_ble_eq_true rfl, Nat.le_of_ble_eq_true rfl⟩) ⟨roB.bl, va_recv hK hP (ci := 3) (q0 := 5) rfl rfl, fun U hU hW => ⟨rfl, by rw [hU]; exact hPc, hG.warm hW⟩⟩ rfl rfl hl.1 rfl (lv_room (Nat.le_of_ble_eq_true rfl)) dX6_put_36 (by exact ⟨Nat.zero_le _, Nat.zero_le _⟩)) (fun r_36 hr_36 => ?_)
    subst hr_36
    refine cd_tp (y := bI (decide (4 ≤ nv ((S 7) p)))) rfl ?_
    refine cd_ifB_eq (tgt := 52) hx hb dX6_put_39 (by decide) (fun c_39 => ?_) (fun c_39 => ?_)
    · refine lv_aload_n hx hb dX6_put_52 rfl (lv_at hl 0 rfl) ?_
      refine va_get (D := D) (ci := 6) (v := .ref (h 5)) (C := RX6) (T := TX6) (N := 8) hx hb hts iX6 hown hK hP 0 rfl rfl 1 (by decide) f_19 (fun _ h9 => h9) rfl dX6_put_53 ?_
      refine lv_iload_n hx hb dX6_put_56 rfl (lv_at hl 1 rfl) ?_
      refine lv_iload_n hx hb dX6_put_57 rfl (lv_at hl 2 rfl) ?_
      have M_58 := c_X3_append l D cy h S hI p (nI a) hp1 hn1 s.heap.size
      have hPc := hP.sub (ws' := (wX3 cy h S)) [5, 6, 7] rfl
      have hDc := hD.sub (ws' := (wX3 cy h S)) [5, 6, 7] (by decide) rfl
      refine cd_fri (S := Unit) (W1 := fun u => (wX3 cy h (va_up (va_up S 6 (upd (S 6) (p * 4 + nv (S 7 p)) (nI a))) 7 (upd (S 7) p (nI (nv (S 7 p) + 1)))))) (ws' := fun u => (wC cy h (va_up (va_up S 6 (upd ((S 6)) (p * 4 + nv ((S 7) p)) (nI a))) 7 (upd ((S 7)) p (nI (nv ((S 7) p) + 1)))) J)) (wc := (wX3 cy h S)) (wr := [(h 0, .inr (6, [.ref (h 1), .ref (h 5), .ref (h 8), .ref (h 12), .ref (h 16), .ref (h 20), .int (S 27 0), .int (S 28 0)])), (h 1, .inr (4, [.ref (h 2), .ref (h 3), .ref (h 4)])), (h 2, aI cy 12 (S 2)), (h 3, aI cy 12 (S 3)), (h 4, aI cy 1001 (S 4)), (h 8, .inr (5, [.ref (h 9), .ref (h 10), .ref (h 11), .int (S 29 0)])), (h 9, aI cy 40 (S 9)), (h 10, aI cy 40 (S 10)), (h 11, aZ cy 40 (S 11)), (h 12, .inr (1, [.ref (h 13), .ref (h 14), .ref (h 15), .int (J 12 0)])), (h 13, aI cy 32 (J 13)), (h 14, aI cy 32 (J 14)), (h 15, aI cy 4096 (J 15)), (h 16, .inr (2, [.ref (h 17), .ref (h 18), .ref (h 19), .int (S 30 0)])), (h 17, aI cy 40 (S 17)), (h 18, aI cy 320 (S 18)), (h 19, aI cy 40 (S 19)), (h 20, .inr (0, [.ref (h 21), .ref (h 22), .ref (h 23), .ref (h 24), .ref (h 25), .ref (h 26), .int (S 31 0), .int (S 32 0)])), (h 21, aI cy 100 (S 21)), (h 22, aI cy 100 (S 22)), (h 23, aI cy 100 (S 23)), (h 24, aI cy 100 (S 24)), (h 25, aI cy 100 (S 25)), (h 26, aI cy 100 (S 26))]) (va_runV (As := [.int (nI p), .int (nI a)]) (rest := []) ⟨hx, hb, hml, hown, hts⟩ M_58 (cwV 2 hts gX6_put_X3_append rfl rfl rfl (by decide +kernel) ⟨Nat.le_of_ble_eq_true rfl, Nat.le_of_ble_eq_true rfl⟩) ⟨wrB.bl, va_recv hK hP (ci := 3) (q0 := 5) rfl rfl, fun U hU hW => ⟨rfl, by rw [hU], by rw [hU]; exact hPc, hG.warm hW, hDc.weaken (fun _ _ _ _ => trivial)⟩⟩ rfl rfl hl.1 rfl (lv_room (Nat.le_of_ble_eq_true rfl)) dX6_put_58 (by exact ⟨Nat.zero_le _, Nat.zero_le _⟩)) hP hD hS hA [5, 6, 7] [0, 1, 2, 3, 4, 8, 9, 10, 11, 12, 13, 14, 15, 16, 17, 18, 19, 20, 21, 22, 23, 24, 25, 26] [0, 1, 2, 3, 4, 24, 25, 26, 5, 6, 7, 8, 9, 10, 11, 12, 13, 14, 15, 16, 17, 18, 19, 20, 21, 22, 23] rfl rfl (by decide) (by decide) (by decide) (fun _ => rfl) (fun r_58 _ H locs hw_58 hP hD hS => ?_)
      subst hw_58
      refine cd_tp (y := nI (nv ((S 7) p))) rfl ?_
      have hP : va_P D vwCl (wC cy h (va_up (va_up S 6 (upd ((S 6)) (p * 4 + nv ((S 7) p)) (nI a))) 7 (upd ((S 7)) p (nI (nv ((S 7) p) + 1)))) J) H := hP
      have hD : va_D A (wC cy h (va_up (va_up S 6 (upd ((S 6)) (p * 4 + nv ((S 7) p)) (nI a))) 7 (upd ((S 7)) p (nI (nv ((S 7) p) + 1)))) J) := hD
      exact W.iret (v := nI (nv ((S 7) p))) hx hb hr (fun t ht hW => ⟨⟨_, (), rfl, rfl, by rw [ht]; exact hP, hD⟩, hS.F ht⟩) hS.2.2 dX6_put_61
    · exact absurd (of_decide_eq_true c_39) (by omega)
  · exact absurd (rk_t c_18) (by rw [hr1]; decide)
end
section
set_option maxHeartbeats 4000000 in
set_option maxRecDepth 100000 in
theorem c_X6_take (l : Launch) (D : va_G) (cy : qT) (h : Nat → Nat) (S : qS) (J : qS) (hI : Inv S) (p : Nat) (a : Nat) (hp1 : p < 8) (ha1 : a < 12) (hr1 : ¬ rkI S p (nI a) = -1) (sz : Nat) : Met l yX6_take wsX6_take ({ frames := 1, cells := 0, slots := 0, locals := 23 }) (va_Pc [.ref (h 0), .int (nI p), .int (nI a)] (wrB D cy (wC cy h S J) sz)) (va_Qi (fun (r9 : Int32) (u : Unit) => r9 = rkI S p (nI a)) (wrQ D (va_A (wC cy h S J) sz) (fun u : Unit => (wC cy h (va_up (va_up S 6 (sfT (S 6) (p * 4 + nv (rkI S p (nI a))) (p * 4 + nv (S 7 p)))) 7 (upd (S 7) p (nI (nv (S 7 p) - 1)))) J))) (va_A (wC cy h S J) sz)) 0 0 (va_A (wC cy h S J) sz) := by
  refine Met.ofW (cc := cX6_take) (maxL := 4) (ret := (some .int)) (by decide) rfl ?_
  intro pp e9 s m9 args9 bl9 meth9 c9 s9 B hml hv
  obtain ⟨rfl, hsz, hP, hG, hD0⟩ := hv
  have hx := B.exec
  have hb := B.bytes
  have hr := B.returns
  have hts := atoms_spec (ws := wsX6_take) B.pre
  have hown : s.vm.findClass RX6 = some m9.cls := findClass_of_methodNamed B.named
  have hlocks := B.notSynchronized
  have hK := hG.K
  subst hsz
  have hD := hD0.self (sz := s.heap.size)
  generalize hAe : (va_A (wC cy h S J) s.heap.size) = A at hD ⊢
  have hA : ∀ q : Nat, s.heap.size ≤ q → A q := fun q h9 => by rw [← hAe]; exact Or.inr h9
  have hS : va_S A s.heap s.heap [] := va_S.rf
  have hP : va_P D vwCl (wC cy h S J) s.heap := hP
  have f_19 := hts (.fieldLink RX6 19 "CastDesk" "rows" "LCastDesk$Rows;") (by decide +kernel)
  have iX6 : ∀ w ∈ wsX60, w ∈ wsX6_take := by decide +kernel
  have hl := lv_entry ([.ref (h 0), .int (nI p), .int (nI a)]) (n := 4) (Nat.le_of_ble_eq_true rfl)
  rw [lg_entry_eq]
  generalize (lg_sl ([.ref (h 0), .int (nI p), .int (nI a)]) ++ List.replicate (4 - (lg_sl ([.ref (h 0), .int (nI p), .int (nI a)])).length) Slot.unset).toArray = ls at hl ⊢
  have hl : lv_has ls 4 [(0, .ref (h 0)), (1, .int (nI p)), (2, .int (nI a))] := hl
  have hrk := rk_rng hr1
  refine lv_iload_n hx hb dX6_take_0 rfl (lv_at hl 1 rfl) ?_
  have M_1 := c_X6_needPart l p (by omega)
  refine cd_rov (va_runS (As := [.int (nI p)]) (rest := []) ⟨hx, hb, hml, hown, hts⟩ M_1 (va_cwS 1 hts gX6_take_X6_needPart rfl rfl rfl (by decide +kernel) ⟨Nat.le_of_ble_eq_true rfl, Nat.le_of_ble_eq_true rfl⟩) ⟨nuB.bl, fun U hU hW => ⟨rfl, trivial⟩⟩ rfl rfl hl.1 rfl (lv_room (Nat.le_of_ble_eq_true rfl)) dX6_take_1 (by exact ⟨Nat.zero_le _, Nat.zero_le _⟩)) ?_
  refine lv_iload_n hx hb dX6_take_4 rfl (lv_at hl 2 rfl) ?_
  have M_5 := c_X6_needActor l a (by omega)
  refine cd_rov (va_runS (As := [.int (nI a)]) (rest := []) ⟨hx, hb, hml, hown, hts⟩ M_5 (va_cwS 1 hts gX6_take_X6_needActor rfl rfl rfl (by decide +kernel) ⟨Nat.le_of_ble_eq_true rfl, Nat.le_of_ble_eq_true rfl⟩) ⟨nuB.bl, fun U hU hW => ⟨rfl, trivial⟩⟩ rfl rfl hl.1 rfl (lv_room (Nat.le_of_ble_eq_true rfl)) dX6_take_5 (by exact ⟨Nat.zero_le _, Nat.zero_le _⟩)) ?_
  refine lv_aload_n hx hb dX6_take_8 rfl (lv_at hl 0 rfl) ?_
  refine va_get (D := D) (ci := 6) (v := .ref (h 5)) (C := RX6) (T := TX6) (N := 8) hx hb hts iX6 hown hK hP 0 rfl rfl 1 (by decide) f_19 (fun _ h9 => h9) rfl dX6_take_9 ?_
  refine lv_iload_n hx hb dX6_take_12 rfl (lv_at hl 1 rfl) ?_
  refine lv_iload_n hx hb dX6_take_13 rfl (lv_at hl 2 rfl) ?_
  have M_14 := c_X3_rankIn l D cy h S hI p (nI a) hp1
  have hPc := hP.sub (ws' := (wX3 cy h S)) [5, 6, 7] rfl
  refine cd_roi (va_runV (As := [.int (nI p), .int (nI a)]) (rest := []) ⟨hx, hb, hml, hown, hts⟩ M_14 (cwV 2 hts gX6_take_X3_rankIn rfl rfl rfl (by decide +kernel) ⟨Nat.le_of_ble_eq_true rfl, Nat.le_of_ble_eq_true rfl⟩) ⟨roB.bl, va_recv hK hP (ci := 3) (q0 := 5) rfl rfl, fun U hU hW => ⟨rfl, by rw [hU]; exact hPc, hG.warm hW⟩⟩ rfl rfl hl.1 rfl (lv_room (Nat.le_of_ble_eq_true rfl)) dX6_take_14 (by exact ⟨Nat.zero_le _, Nat.zero_le _⟩)) (fun r_14 hr_14 => ?_)
  subst hr_14
  refine lv_istore_n (lv' := [(3, .int (rkI S p (nI a))), (0, .ref (h 0)), (1, .int (nI p)), (2, .int (nI a))]) hx hb dX6_take_17 rfl hl (by decide) rfl (fun ls hl => ?_)
  refine lv_iload_n hx hb dX6_take_18 rfl (lv_at hl 0 rfl) ?_
  refine lv_iconst (v := (-1)) hx hb dX6_take_19 (by decide) ?_
  refine lv_icmp_ne (tgt := 33) hx hb dX6_take_20 (by decide) (fun c_20 => ?_) (fun c_20 => ?_)
  · have hl : lv_has ls 4 [(3, .int (nI (nv (rkI S p (nI a))))), (0, .ref (h 0)), (1, .int (nI p)), (2, .int (nI a))] := Eq.mp (congrArg (fun z9 : Int32 => lv_has ls 4 [(3, .int z9), (0, .ref (h 0)), (1, .int (nI p)), (2, .int (nI a))]) (show (rkI S p (nI a) : Int32) = nI (nv (rkI S p (nI a))) from hrk.1)) hl
    refine lv_aload_n hx hb dX6_take_33 rfl (lv_at hl 1 rfl) ?_
    refine va_get (D := D) (ci := 6) (v := .ref (h 5)) (C := RX6) (T := TX6) (N := 8) hx hb hts iX6 hown hK hP 0 rfl rfl 1 (by decide) f_19 (fun _ h9 => h9) rfl dX6_take_34 ?_
    refine lv_iload_n hx hb dX6_take_37 rfl (lv_at hl 2 rfl) ?_
    refine lv_iload_n hx hb dX6_take_38 rfl (lv_at hl 0 rfl) ?_
    have M_39 := c_X3_remove l D cy h S hI p (nv (rkI S p (nI a))) hp1 hrk.2 s.heap.size
    have hPc := hP.sub (ws' := (wX3 cy h S)) [5, 6, 7] rfl
    have hDc := hD.sub (ws' := (wX3 cy h S)) [5, 6, 7] (by decide) rfl
    refine cd_frv (S := Unit) (W1 := fun u => (wX3 cy h (va_up (va_up S 6 (sfT (S 6) (p * 4 + (nv (rkI S p (nI a)))) (p * 4 + nv (S 7 p)))) 7 (upd (S 7) p (nI (nv (S 7 p) - 1)))))) (ws' := fun u => (wC cy h (va_up (va_up S 6 (sfT ((S 6)) (p * 4 + (nv (rkI S p (nI a)))) (p * 4 + nv ((S 7) p)))) 7 (upd ((S 7)) p (nI (nv ((S 7) p) - 1)))) J)) (wc := (wX3 cy h S)) (wr := [(h 0, .inr (6, [.ref (h 1), .ref (h 5), .ref (h 8), .ref (h 12), .ref (h 16), .ref (h 20), .int (S 27 0), .int (S 28 0)])), (h 1, .inr (4, [.ref (h 2), .ref (h 3), .ref (h 4)])), (h 2, aI cy 12 (S 2)), (h 3, aI cy 12 (S 3)), (h 4, aI cy 1001 (S 4)), (h 8, .inr (5, [.ref (h 9), .ref (h 10), .ref (h 11), .int (S 29 0)])), (h 9, aI cy 40 (S 9)), (h 10, aI cy 40 (S 10)), (h 11, aZ cy 40 (S 11)), (h 12, .inr (1, [.ref (h 13), .ref (h 14), .ref (h 15), .int (J 12 0)])), (h 13, aI cy 32 (J 13)), (h 14, aI cy 32 (J 14)), (h 15, aI cy 4096 (J 15)), (h 16, .inr (2, [.ref (h 17), .ref (h 18), .ref (h 19), .int (S 30 0)])), (h 17, aI cy 40 (S 17)), (h 18, aI cy 320 (S 18)), (h 19, aI cy 40 (S 19)), (h 20, .inr (0, [.ref (h 21), .ref (h 22), .ref (h 23), .ref (h 24), .ref (h 25), .ref (h 26), .int (S 31 0), .int (S 32 0)])), (h 21, aI cy 100 (S 21)), (h 22, aI cy 100 (S 22)), (h 23, aI cy 100 (S 23)), (h 24, aI cy 100 (S 24)), (h 25, aI cy 100 (S 25)), (h 26, aI cy 100 (S 26))]) (va_runV (As := [.int (nI p), .int (nI (nv (rkI S p (nI a))))]) (rest := []) ⟨hx, hb, hml, hown, hts⟩ M_39 (cwV 2 hts gX6_take_X3_remove rfl rfl rfl (by decide +kernel) ⟨Nat.le_of_ble_eq_true rfl, Nat.le_of_ble_eq_true rfl⟩) ⟨wrB.bl, va_recv hK hP (ci := 3) (q0 := 5) rfl rfl, fun U hU hW => ⟨rfl, by rw [hU], by rw [hU]; exact hPc, hG.warm hW, hDc.weaken (fun _ _ _ _ => trivial)⟩⟩ rfl rfl hl.1 rfl (lv_room (Nat.le_of_ble_eq_true rfl)) dX6_take_39 (by exact ⟨Nat.zero_le _, Nat.zero_le _⟩)) hP hD hS hA [5, 6, 7] [0, 1, 2, 3, 4, 8, 9, 10, 11, 12, 13, 14, 15, 16, 17, 18, 19, 20, 21, 22, 23, 24, 25, 26] [0, 1, 2, 3, 4, 24, 25, 26, 5, 6, 7, 8, 9, 10, 11, 12, 13, 14, 15, 16, 17, 18, 19, 20, 21, 22, 23] rfl rfl (by decide) (by decide) (by decide) (fun _ => rfl) (fun _ H locs hw_39 hP hD hS => ?_)
    have hP : va_P D vwCl (wC cy h (va_up (va_up S 6 (sfT ((S 6)) (p * 4 + (nv (rkI S p (nI a)))) (p * 4 + nv ((S 7) p)))) 7 (upd ((S 7)) p (nI (nv ((S 7) p) - 1)))) J) H := hP
    have hD : va_D A (wC cy h (va_up (va_up S 6 (sfT ((S 6)) (p * 4 + (nv (rkI S p (nI a)))) (p * 4 + nv ((S 7) p)))) 7 (upd ((S 7)) p (nI (nv ((S 7) p) - 1)))) J) := hD
    refine lv_iload_n hx hb dX6_take_42 rfl (lv_at hl 0 rfl) ?_
    exact W.iret (v := nI (nv (rkI S p (nI a)))) hx hb hr (fun t ht hW => ⟨⟨_, (), rfl, hrk.1.symm, by rw [ht]; exact hP, hD⟩, hS.F ht⟩) hS.2.2 dX6_take_43
  · exact absurd c_20 hr1
end
section
set_option maxHeartbeats 4000000 in
set_option maxRecDepth 100000 in
theorem c_X6_costume (l : Launch) (D : va_G) (cy : qT) (h : Nat → Nat) (S : qS) (J : qS) (hI : Inv S) (p : Nat) (z : Nat) (hp1 : p < 8) (hz1 : z < 10) (hn1 : nv (S 29 0) < 40) (sz : Nat) : Met l yX6_costume wsX6_costume ({ frames := 1, cells := 0, slots := 0, locals := 22 }) (va_Pc [.ref (h 0), .int (nI p), .int (nI z)] (wrB D cy (wC cy h S J) sz)) (va_Qi (fun (r9 : Int32) (u : Unit) => r9 = nI (nv (S 29 0))) (wrQ D (va_A (wC cy h S J) sz) (fun u : Unit => (wC cy h (va_up (va_up (va_up S 10 (upd (S 10) (nv (S 29 0)) (nI p))) 9 (upd (S 9) (nv (S 29 0)) (nI z))) 29 (fun _ => nI (nv (S 29 0) + 1))) J))) (va_A (wC cy h S J) sz)) 0 0 (va_A (wC cy h S J) sz) := by
  refine Met.ofW (cc := cX6_costume) (maxL := 3) (ret := (some .int)) (by decide) rfl ?_
  intro pp e9 s m9 args9 bl9 meth9 c9 s9 B hml hv
  obtain ⟨rfl, hsz, hP, hG, hD0⟩ := hv
  have hx := B.exec
  have hb := B.bytes
  have hr := B.returns
  have hts := atoms_spec (ws := wsX6_costume) B.pre
  have hown : s.vm.findClass RX6 = some m9.cls := findClass_of_methodNamed B.named
  have hlocks := B.notSynchronized
  have hK := hG.K
  subst hsz
  have hD := hD0.self (sz := s.heap.size)
  generalize hAe : (va_A (wC cy h S J) s.heap.size) = A at hD ⊢
  have hA : ∀ q : Nat, s.heap.size ≤ q → A q := fun q h9 => by rw [← hAe]; exact Or.inr h9
  have hS : va_S A s.heap s.heap [] := va_S.rf
  have hP : va_P D vwCl (wC cy h S J) s.heap := hP
  have f_26 := hts (.fieldLink RX6 26 "CastDesk" "wardrobe" "LCastDesk$Wardrobe;") (by decide +kernel)
  have f_120 := hts (.fieldLink RX6 120 "CastDesk$Wardrobe" "count" "I") (by decide +kernel)
  have iX5 : ∀ w ∈ wsX50, w ∈ wsX6_costume := by decide +kernel
  have iX6 : ∀ w ∈ wsX60, w ∈ wsX6_costume := by decide +kernel
  have hl := lv_entry ([.ref (h 0), .int (nI p), .int (nI z)]) (n := 3) (Nat.le_of_ble_eq_true rfl)
  rw [lg_entry_eq]
  generalize (lg_sl ([.ref (h 0), .int (nI p), .int (nI z)]) ++ List.replicate (3 - (lg_sl ([.ref (h 0), .int (nI p), .int (nI z)])).length) Slot.unset).toArray = ls at hl ⊢
  have hl : lv_has ls 3 [(0, .ref (h 0)), (1, .int (nI p)), (2, .int (nI z))] := hl
  refine lv_iload_n hx hb dX6_costume_0 rfl (lv_at hl 1 rfl) ?_
  have M_1 := c_X6_needPart l p (by omega)
  refine cd_rov (va_runS (As := [.int (nI p)]) (rest := []) ⟨hx, hb, hml, hown, hts⟩ M_1 (va_cwS 1 hts gX6_costume_X6_needPart rfl rfl rfl (by decide +kernel) ⟨Nat.le_of_ble_eq_true rfl, Nat.le_of_ble_eq_true rfl⟩) ⟨nuB.bl, fun U hU hW => ⟨rfl, trivial⟩⟩ rfl rfl hl.1 rfl (lv_room (Nat.le_of_ble_eq_true rfl)) dX6_costume_1 (by exact ⟨Nat.zero_le _, Nat.zero_le _⟩)) ?_
  refine lv_iload_n hx hb dX6_costume_4 rfl (lv_at hl 2 rfl) ?_
  have M_5 := c_X6_needSize l z (by omega)
  refine cd_rov (va_runS (As := [.int (nI z)]) (rest := []) ⟨hx, hb, hml, hown, hts⟩ M_5 (va_cwS 1 hts gX6_costume_X6_needSize rfl rfl rfl (by decide +kernel) ⟨Nat.le_of_ble_eq_true rfl, Nat.le_of_ble_eq_true rfl⟩) ⟨nuB.bl, fun U hU hW => ⟨rfl, trivial⟩⟩ rfl rfl hl.1 rfl (lv_room (Nat.le_of_ble_eq_true rfl)) dX6_costume_5 (by exact ⟨Nat.zero_le _, Nat.zero_le _⟩)) ?_
  refine lv_aload_n hx hb dX6_costume_8 rfl (lv_at hl 0 rfl) ?_
  refine va_get (D := D) (ci := 6) (v := .ref (h 8)) (C := RX6) (T := TX6) (N := 8) hx hb hts iX6 hown hK hP 0 rfl rfl 2 (by decide) f_26 (fun _ h9 => h9) rfl dX6_costume_9 ?_
  refine va_get (D := D) (ci := 5) (v := .int (S 29 0)) (C := RX5) (T := TX5) (N := 4) hx hb hts iX5 hown hK hP 8 rfl rfl 3 (by decide) f_120 (fun _ h9 => h9) rfl dX6_costume_12 ?_
  have b_12 := iv_29 hI
  refine cd_tp (y := nI (nv (S 29 0))) b_12.1 ?_
  have b_12 := b_12.2
  refine lv_bipush (v := nI 40) hx hb dX6_costume_15 (by decide) ?_
  refine cd_icmp_lt (tgt := 30) hx hb dX6_costume_17 (by decide) (by omega) (by omega) (fun c_17 => ?_) (fun c_17 => ?_)
  · refine lv_aload_n hx hb dX6_costume_30 rfl (lv_at hl 0 rfl) ?_
    refine va_get (D := D) (ci := 6) (v := .ref (h 8)) (C := RX6) (T := TX6) (N := 8) hx hb hts iX6 hown hK hP 0 rfl rfl 2 (by decide) f_26 (fun _ h9 => h9) rfl dX6_costume_31 ?_
    refine lv_iload_n hx hb dX6_costume_34 rfl (lv_at hl 1 rfl) ?_
    refine lv_iload_n hx hb dX6_costume_35 rfl (lv_at hl 2 rfl) ?_
    have M_36 := c_X5_add l D cy h S hI (nI p) (nI z) hn1 s.heap.size
    have hPc := hP.sub (ws' := (wX5 cy h S)) [8, 9, 10, 11] rfl
    have hDc := hD.sub (ws' := (wX5 cy h S)) [8, 9, 10, 11] (by decide) rfl
    refine cd_fri (S := Unit) (W1 := fun u => (wX5 cy h (va_up (va_up (va_up S 10 (upd (S 10) (nv (S 29 0)) (nI p))) 9 (upd (S 9) (nv (S 29 0)) (nI z))) 29 (fun _ => nI (nv (S 29 0) + 1))))) (ws' := fun u => (wC cy h (va_up (va_up (va_up S 10 (upd ((S 10)) (nv (S 29 0)) (nI p))) 9 (upd ((S 9)) (nv (S 29 0)) (nI z))) 29 (fun _ => nI (nv (S 29 0) + 1))) J)) (wc := (wX5 cy h S)) (wr := [(h 0, .inr (6, [.ref (h 1), .ref (h 5), .ref (h 8), .ref (h 12), .ref (h 16), .ref (h 20), .int (S 27 0), .int (S 28 0)])), (h 1, .inr (4, [.ref (h 2), .ref (h 3), .ref (h 4)])), (h 2, aI cy 12 (S 2)), (h 3, aI cy 12 (S 3)), (h 4, aI cy 1001 (S 4)), (h 5, .inr (3, [.ref (h 6), .ref (h 7)])), (h 6, aI cy 32 (S 6)), (h 7, aI cy 8 (S 7)), (h 12, .inr (1, [.ref (h 13), .ref (h 14), .ref (h 15), .int (J 12 0)])), (h 13, aI cy 32 (J 13)), (h 14, aI cy 32 (J 14)), (h 15, aI cy 4096 (J 15)), (h 16, .inr (2, [.ref (h 17), .ref (h 18), .ref (h 19), .int (S 30 0)])), (h 17, aI cy 40 (S 17)), (h 18, aI cy 320 (S 18)), (h 19, aI cy 40 (S 19)), (h 20, .inr (0, [.ref (h 21), .ref (h 22), .ref (h 23), .ref (h 24), .ref (h 25), .ref (h 26), .int (S 31 0), .int (S 32 0)])), (h 21, aI cy 100 (S 21)), (h 22, aI cy 100 (S 22)), (h 23, aI cy 100 (S 23)), (h 24, aI cy 100 (S 24)), (h 25, aI cy 100 (S 25)), (h 26, aI cy 100 (S 26))]) (va_runV (As := [.int (nI p), .int (nI z)]) (rest := []) ⟨hx, hb, hml, hown, hts⟩ M_36 (cwV 2 hts gX6_costume_X5_add rfl rfl rfl (by decide +kernel) ⟨Nat.le_of_ble_eq_true rfl, Nat.le_of_ble_eq_true rfl⟩) ⟨wrB.bl, va_recv hK hP (ci := 5) (q0 := 8) rfl rfl, fun U hU hW => ⟨rfl, by rw [hU], by rw [hU]; exact hPc, hG.warm hW, hDc.weaken (fun _ _ _ _ => trivial)⟩⟩ rfl rfl hl.1 rfl (lv_room (Nat.le_of_ble_eq_true rfl)) dX6_costume_36 (by exact ⟨Nat.zero_le _, Nat.zero_le _⟩)) hP hD hS hA [8, 9, 10, 11] [0, 1, 2, 3, 4, 5, 6, 7, 12, 13, 14, 15, 16, 17, 18, 19, 20, 21, 22, 23, 24, 25, 26] [0, 1, 2, 3, 4, 5, 6, 7, 23, 24, 25, 26, 8, 9, 10, 11, 12, 13, 14, 15, 16, 17, 18, 19, 20, 21, 22] rfl rfl (by decide) (by decide) (by decide) (fun _ => rfl) (fun r_36 _ H locs hw_36 hP hD hS => ?_)
    subst hw_36
    have hP : va_P D vwCl (wC cy h (va_up (va_up (va_up S 10 (upd ((S 10)) (nv (S 29 0)) (nI p))) 9 (upd ((S 9)) (nv (S 29 0)) (nI z))) 29 (fun _ => nI (nv (S 29 0) + 1))) J) H := hP
    have hD : va_D A (wC cy h (va_up (va_up (va_up S 10 (upd ((S 10)) (nv (S 29 0)) (nI p))) 9 (upd ((S 9)) (nv (S 29 0)) (nI z))) 29 (fun _ => nI (nv (S 29 0) + 1))) J) := hD
    exact W.iret (v := nI (nv (S 29 0))) hx hb hr (fun t ht hW => ⟨⟨_, (), rfl, rfl, by rw [ht]; exact hP, hD⟩, hS.F ht⟩) hS.2.2 dX6_costume_39
  · omega
end
section
set_option maxHeartbeats 4000000 in
set_option maxRecDepth 100000 in
theorem c_X6_sizeOf (l : Launch) (D : va_G) (cy : qT) (h : Nat → Nat) (S : qS) (J : qS) (hI : Inv S) (c : Nat) (hc1 : c < nv (S 29 0)) : Met l yX6_sizeOf wsX6_sizeOf ({ frames := 1, cells := 0, slots := 0, locals := 21 }) (va_Pc [.ref (h 0), .int (nI c)] (roB D cy (wC cy h S J))) (vp_Si (fun r9 => r9 = S 9 c)) 0 0 (fun _ => False) := by
  refine Met.ofW (cc := cX6_sizeOf) (maxL := 2) (ret := (some .int)) (by decide) rfl ?_
  intro pp e9 s m9 args9 bl9 meth9 c9 s9 B hml hv
  obtain ⟨rfl, hP, hG⟩ := hv
  have hx := B.exec
  have hb := B.bytes
  have hr := B.returns
  have hts := atoms_spec (ws := wsX6_sizeOf) B.pre
  have hown : s.vm.findClass RX6 = some m9.cls := findClass_of_methodNamed B.named
  have hlocks := B.notSynchronized
  have hK := hG.K
  have f_26 := hts (.fieldLink RX6 26 "CastDesk" "wardrobe" "LCastDesk$Wardrobe;") (by decide +kernel)
  have f_120 := hts (.fieldLink RX6 120 "CastDesk$Wardrobe" "count" "I") (by decide +kernel)
  have f_131 := hts (.fieldLink RX6 131 "CastDesk$Wardrobe" "sizes" "[I") (by decide +kernel)
  have iX5 : ∀ w ∈ wsX50, w ∈ wsX6_sizeOf := by decide +kernel
  have iX6 : ∀ w ∈ wsX60, w ∈ wsX6_sizeOf := by decide +kernel
  have hl := lv_entry ([.ref (h 0), .int (nI c)]) (n := 2) (Nat.le_of_ble_eq_true rfl)
  rw [lg_entry_eq]
  generalize (lg_sl ([.ref (h 0), .int (nI c)]) ++ List.replicate (2 - (lg_sl ([.ref (h 0), .int (nI c)])).length) Slot.unset).toArray = ls at hl ⊢
  have hl : lv_has ls 2 [(0, .ref (h 0)), (1, .int (nI c))] := hl
  have h29 := (iv_29 hI).2
  refine lv_iload_n hx hb dX6_sizeOf_0 rfl (lv_at hl 1 rfl) ?_
  refine lv_aload_n hx hb dX6_sizeOf_1 rfl (lv_at hl 0 rfl) ?_
  refine va_get (D := D) (ci := 6) (v := .ref (h 8)) (C := RX6) (T := TX6) (N := 8) hx hb hts iX6 hown hK hP 0 rfl rfl 2 (by decide) f_26 (fun _ h9 => h9) rfl dX6_sizeOf_2 ?_
  refine va_get (D := D) (ci := 5) (v := .int (S 29 0)) (C := RX5) (T := TX5) (N := 4) hx hb hts iX5 hown hK hP 8 rfl rfl 3 (by decide) f_120 (fun _ h9 => h9) rfl dX6_sizeOf_5 ?_
  have b_5 := iv_29 hI
  refine cd_tp (y := nI (nv (S 29 0))) b_5.1 ?_
  have b_5 := b_5.2
  have M_8 := c_X6_needOneOf l c (nv (S 29 0)) (by omega) (by omega)
  refine cd_rov (va_runS (As := [.int (nI c), .int (nI (nv (S 29 0)))]) (rest := []) ⟨hx, hb, hml, hown, hts⟩ M_8 (va_cwS 2 hts gX6_sizeOf_X6_needOneOf rfl rfl rfl (by decide +kernel) ⟨Nat.le_of_ble_eq_true rfl, Nat.le_of_ble_eq_true rfl⟩) ⟨nuB.bl, fun U hU hW => ⟨rfl, trivial⟩⟩ rfl rfl hl.1 rfl (lv_room (Nat.le_of_ble_eq_true rfl)) dX6_sizeOf_8 (by exact ⟨Nat.zero_le _, Nat.zero_le _⟩)) ?_
  refine lv_aload_n hx hb dX6_sizeOf_11 rfl (lv_at hl 0 rfl) ?_
  refine va_get (D := D) (ci := 6) (v := .ref (h 8)) (C := RX6) (T := TX6) (N := 8) hx hb hts iX6 hown hK hP 0 rfl rfl 2 (by decide) f_26 (fun _ h9 => h9) rfl dX6_sizeOf_12 ?_
  refine va_get (D := D) (ci := 5) (v := .ref (h 9)) (C := RX5) (T := TX5) (N := 4) hx hb hts iX5 hown hK hP 8 rfl rfl 0 (by decide) f_131 (fun _ h9 => h9) rfl dX6_sizeOf_15 ?_
  refine lv_iload_n hx hb dX6_sizeOf_18 rfl (lv_at hl 1 rfl) ?_
  refine cd_iald (f := S 9) hx hb hK hP 9 rfl (by omega) (by decide) dX6_sizeOf_19 ?_
  exact W.iret (v := (S 9) c) hx hb hr (fun t ht hW => ⟨_, rfl, rfl, ht⟩) (fun _ h9 => nomatch h9) dX6_sizeOf_20
end
section
set_option maxHeartbeats 4000000 in
set_option maxRecDepth 100000 in
theorem c_X6_cold (l : Launch) (D : va_G) (cy : qT) (h : Nat → Nat) (S : qS) (J : qS) (hI : Inv S) (a : Nat) (d0 : Nat) (d1 : Nat) (ha1 : a < 12) (h00 : nv (S 28 0) ≤ d0) (h01 : d0 ≤ d1) (h11 : d1 ≤ 1000) (sz : Nat) : Met l yX6_cold wsX6_cold ({ frames := 2, cells := 0, slots := 0, locals := 46 }) (va_Pc [.ref (h 0), .int (nI a), .int (nI d0), .int (nI d1)] (wrB D cy (wC cy h S J) sz)) (va_Qi (fun (r9 : Int32) (u : Unit) => r9 = nI (ilC (S 4) a d0 (d1 + 1 - d0))) (wrQ D (va_A (wC cy h S J) sz) (fun u : Unit => (wC cy h (va_up S 4 (ilF (S 4) a d0 (d0 + (d1 + 1 - d0)))) J))) (va_A (wC cy h S J) sz)) 0 0 (va_A (wC cy h S J) sz) := by
  refine Met.ofW (cc := cX6_cold) (maxL := 4) (ret := (some .int)) (by decide) rfl ?_
  intro pp e9 s m9 args9 bl9 meth9 c9 s9 B hml hv
  obtain ⟨rfl, hsz, hP, hG, hD0⟩ := hv
  have hx := B.exec
  have hb := B.bytes
  have hr := B.returns
  have hts := atoms_spec (ws := wsX6_cold) B.pre
  have hown : s.vm.findClass RX6 = some m9.cls := findClass_of_methodNamed B.named
  have hlocks := B.notSynchronized
  have hK := hG.K
  subst hsz
  have hD := hD0.self (sz := s.heap.size)
  generalize hAe : (va_A (wC cy h S J) s.heap.size) = A at hD ⊢
  have hA : ∀ q : Nat, s.heap.size ≤ q → A q := fun q h9 => by rw [← hAe]; exact Or.inr h9
  have hS : va_S A s.heap s.heap [] := va_S.rf
  have hP : va_P D vwCl (wC cy h S J) s.heap := hP
  have f_55 := hts (.fieldLink RX6 55 "CastDesk" "today" "I") (by decide +kernel)
  have f_10 := hts (.fieldLink RX6 10 "CastDesk" "troupe" "LCastDesk$Troupe;") (by decide +kernel)
  have iX6 : ∀ w ∈ wsX60, w ∈ wsX6_cold := by decide +kernel
  have hl := lv_entry ([.ref (h 0), .int (nI a), .int (nI d0), .int (nI d1)]) (n := 4) (Nat.le_of_ble_eq_true rfl)
  rw [lg_entry_eq]
  generalize (lg_sl ([.ref (h 0), .int (nI a), .int (nI d0), .int (nI d1)]) ++ List.replicate (4 - (lg_sl ([.ref (h 0), .int (nI a), .int (nI d0), .int (nI d1)])).length) Slot.unset).toArray = ls at hl ⊢
  have hl : lv_has ls 4 [(0, .ref (h 0)), (1, .int (nI a)), (2, .int (nI d0)), (3, .int (nI d1))] := hl
  have h28 := (iv_28 hI).2
  refine lv_iload_n hx hb dX6_cold_0 rfl (lv_at hl 1 rfl) ?_
  have M_1 := c_X6_needActor l a (by omega)
  refine cd_rov (va_runS (As := [.int (nI a)]) (rest := []) ⟨hx, hb, hml, hown, hts⟩ M_1 (va_cwS 1 hts gX6_cold_X6_needActor rfl rfl rfl (by decide +kernel) ⟨Nat.le_of_ble_eq_true rfl, Nat.le_of_ble_eq_true rfl⟩) ⟨nuB.bl, fun U hU hW => ⟨rfl, trivial⟩⟩ rfl rfl hl.1 rfl (lv_room (Nat.le_of_ble_eq_true rfl)) dX6_cold_1 (by exact ⟨Nat.zero_le _, Nat.zero_le _⟩)) ?_
  refine lv_iload_n hx hb dX6_cold_4 rfl (lv_at hl 2 rfl) ?_
  refine lv_aload_n hx hb dX6_cold_5 rfl (lv_at hl 0 rfl) ?_
  refine va_get (D := D) (ci := 6) (v := .int (S 28 0)) (C := RX6) (T := TX6) (N := 8) hx hb hts iX6 hown hK hP 0 rfl rfl 7 (by decide) f_55 (fun _ h9 => h9) rfl dX6_cold_6 ?_
  have b_6 := iv_28 hI
  refine cd_tp (y := nI (nv (S 28 0))) b_6.1 ?_
  have b_6 := b_6.2
  have M_9 := c_X6_needDay l d0 (nv (S 28 0)) (by omega) (by omega)
  refine cd_rov (va_runS (As := [.int (nI d0), .int (nI (nv (S 28 0)))]) (rest := []) ⟨hx, hb, hml, hown, hts⟩ M_9 (va_cwS 2 hts gX6_cold_X6_needDay rfl rfl rfl (by decide +kernel) ⟨Nat.le_of_ble_eq_true rfl, Nat.le_of_ble_eq_true rfl⟩) ⟨nuB.bl, fun U hU hW => ⟨rfl, trivial⟩⟩ rfl rfl hl.1 rfl (lv_room (Nat.le_of_ble_eq_true rfl)) dX6_cold_9 (by exact ⟨Nat.zero_le _, Nat.zero_le _⟩)) ?_
  refine lv_iload_n hx hb dX6_cold_12 rfl (lv_at hl 3 rfl) ?_
  refine lv_iload_n hx hb dX6_cold_13 rfl (lv_at hl 2 rfl) ?_
  have M_14 := c_X6_needDay l d1 d0 (by omega) (by omega)
  refine cd_rov (va_runS (As := [.int (nI d1), .int (nI d0)]) (rest := []) ⟨hx, hb, hml, hown, hts⟩ M_14 (va_cwS 2 hts gX6_cold_X6_needDay rfl rfl rfl (by decide +kernel) ⟨Nat.le_of_ble_eq_true rfl, Nat.le_of_ble_eq_true rfl⟩) ⟨nuB.bl, fun U hU hW => ⟨rfl, trivial⟩⟩ rfl rfl hl.1 rfl (lv_room (Nat.le_of_ble_eq_true rfl)) dX6_cold_14 (by exact ⟨Nat.zero_le _, Nat.zero_le _⟩)) ?_
  refine lv_aload_n hx hb dX6_cold_17 rfl (lv_at hl 0 rfl) ?_
  refine va_get (D := D) (ci := 6) (v := .ref (h 1)) (C := RX6) (T := TX6) (N := 8) hx hb hts iX6 hown hK hP 0 rfl rfl 0 (by decide) f_10 (fun _ h9 => h9) rfl dX6_cold_18 ?_
  refine lv_iload_n hx hb dX6_cold_21 rfl (lv_at hl 1 rfl) ?_
  refine lv_iload_n hx hb dX6_cold_22 rfl (lv_at hl 2 rfl) ?_
  refine lv_iload_n hx hb dX6_cold_23 rfl (lv_at hl 3 rfl) ?_
  have M_24 := c_X4_fallIll l D cy h S hI a d0 d1 ha1 h01 h11 s.heap.size
  have hPc := hP.sub (ws' := (wX4 cy h S)) [1, 2, 3, 4] rfl
  have hDc := hD.sub (ws' := (wX4 cy h S)) [1, 2, 3, 4] (by decide) rfl
  refine cd_fri (S := Unit) (W1 := fun u => (wX4 cy h (va_up S 4 (ilF (S 4) a d0 (d0 + (d1 + 1 - d0)))))) (ws' := fun u => (wC cy h (va_up S 4 (ilF ((S 4)) a d0 (d0 + (d1 + 1 - d0)))) J)) (wc := (wX4 cy h S)) (wr := [(h 0, .inr (6, [.ref (h 1), .ref (h 5), .ref (h 8), .ref (h 12), .ref (h 16), .ref (h 20), .int (S 27 0), .int (S 28 0)])), (h 5, .inr (3, [.ref (h 6), .ref (h 7)])), (h 6, aI cy 32 (S 6)), (h 7, aI cy 8 (S 7)), (h 8, .inr (5, [.ref (h 9), .ref (h 10), .ref (h 11), .int (S 29 0)])), (h 9, aI cy 40 (S 9)), (h 10, aI cy 40 (S 10)), (h 11, aZ cy 40 (S 11)), (h 12, .inr (1, [.ref (h 13), .ref (h 14), .ref (h 15), .int (J 12 0)])), (h 13, aI cy 32 (J 13)), (h 14, aI cy 32 (J 14)), (h 15, aI cy 4096 (J 15)), (h 16, .inr (2, [.ref (h 17), .ref (h 18), .ref (h 19), .int (S 30 0)])), (h 17, aI cy 40 (S 17)), (h 18, aI cy 320 (S 18)), (h 19, aI cy 40 (S 19)), (h 20, .inr (0, [.ref (h 21), .ref (h 22), .ref (h 23), .ref (h 24), .ref (h 25), .ref (h 26), .int (S 31 0), .int (S 32 0)])), (h 21, aI cy 100 (S 21)), (h 22, aI cy 100 (S 22)), (h 23, aI cy 100 (S 23)), (h 24, aI cy 100 (S 24)), (h 25, aI cy 100 (S 25)), (h 26, aI cy 100 (S 26))]) (va_runV (As := [.int (nI a), .int (nI d0), .int (nI d1)]) (rest := []) ⟨hx, hb, hml, hown, hts⟩ M_24 (cwV 3 hts gX6_cold_X4_fallIll rfl rfl rfl (by decide +kernel) ⟨Nat.le_of_ble_eq_true rfl, Nat.le_of_ble_eq_true rfl⟩) ⟨wrB.bl, va_recv hK hP (ci := 4) (q0 := 1) rfl rfl, fun U hU hW => ⟨rfl, by rw [hU], by rw [hU]; exact hPc, hG.warm hW, hDc.weaken (fun _ _ _ _ => trivial)⟩⟩ rfl rfl hl.1 rfl (lv_room (Nat.le_of_ble_eq_true rfl)) dX6_cold_24 (by exact ⟨Nat.zero_le _, Nat.zero_le _⟩)) hP hD hS hA [1, 2, 3, 4] [0, 5, 6, 7, 8, 9, 10, 11, 12, 13, 14, 15, 16, 17, 18, 19, 20, 21, 22, 23, 24, 25, 26] [0, 23, 24, 25, 26, 1, 2, 3, 4, 5, 6, 7, 8, 9, 10, 11, 12, 13, 14, 15, 16, 17, 18, 19, 20, 21, 22] rfl rfl (by decide) (by decide) (by decide) (fun _ => rfl) (fun r_24 _ H locs hw_24 hP hD hS => ?_)
  subst hw_24
  refine cd_tp (y := nI (ilC ((S 4)) a d0 (d1 + 1 - d0))) rfl ?_
  have hP : va_P D vwCl (wC cy h (va_up S 4 (ilF ((S 4)) a d0 (d0 + (d1 + 1 - d0)))) J) H := hP
  have hD : va_D A (wC cy h (va_up S 4 (ilF ((S 4)) a d0 (d0 + (d1 + 1 - d0)))) J) := hD
  exact W.iret (v := nI (ilC ((S 4)) a d0 (d1 + 1 - d0))) hx hb hr (fun t ht hW => ⟨⟨_, (), rfl, rfl, by rw [ht]; exact hP, hD⟩, hS.F ht⟩) hS.2.2 dX6_cold_27
end
section
set_option maxHeartbeats 4000000 in
set_option maxRecDepth 100000 in
theorem c_X6_isIll (l : Launch) (D : va_G) (cy : qT) (h : Nat → Nat) (S : qS) (J : qS) (hI : Inv S) (a : Nat) (d : Nat) (ha1 : a < 12) (hd1 : d ≤ 1000) : Met l yX6_isIll wsX6_isIll ({ frames := 1, cells := 0, slots := 0, locals := 21 }) (va_Pc [.ref (h 0), .int (nI a), .int (nI d)] (roB D cy (wC cy h S J))) (vp_Si (fun r9 => r9 = bI ((nv (S 4 d)).testBit a))) 0 0 (fun _ => False) := by
  refine Met.ofW (cc := cX6_isIll) (maxL := 3) (ret := (some .boolean)) (by decide) rfl ?_
  intro pp e9 s m9 args9 bl9 meth9 c9 s9 B hml hv
  obtain ⟨rfl, hP, hG⟩ := hv
  have hx := B.exec
  have hb := B.bytes
  have hr := B.returns
  have hts := atoms_spec (ws := wsX6_isIll) B.pre
  have hown : s.vm.findClass RX6 = some m9.cls := findClass_of_methodNamed B.named
  have hlocks := B.notSynchronized
  have hK := hG.K
  have f_10 := hts (.fieldLink RX6 10 "CastDesk" "troupe" "LCastDesk$Troupe;") (by decide +kernel)
  have f_139 := hts (.fieldLink RX6 139 "CastDesk$Troupe" "ill" "[I") (by decide +kernel)
  have iX4 : ∀ w ∈ wsX40, w ∈ wsX6_isIll := by decide +kernel
  have iX6 : ∀ w ∈ wsX60, w ∈ wsX6_isIll := by decide +kernel
  have hl := lv_entry ([.ref (h 0), .int (nI a), .int (nI d)]) (n := 3) (Nat.le_of_ble_eq_true rfl)
  rw [lg_entry_eq]
  generalize (lg_sl ([.ref (h 0), .int (nI a), .int (nI d)]) ++ List.replicate (3 - (lg_sl ([.ref (h 0), .int (nI a), .int (nI d)])).length) Slot.unset).toArray = ls at hl ⊢
  have hl : lv_has ls 3 [(0, .ref (h 0)), (1, .int (nI a)), (2, .int (nI d))] := hl
  refine lv_iload_n hx hb dX6_isIll_0 rfl (lv_at hl 1 rfl) ?_
  have M_1 := c_X6_needActor l a (by omega)
  refine cd_rov (va_runS (As := [.int (nI a)]) (rest := []) ⟨hx, hb, hml, hown, hts⟩ M_1 (va_cwS 1 hts gX6_isIll_X6_needActor rfl rfl rfl (by decide +kernel) ⟨Nat.le_of_ble_eq_true rfl, Nat.le_of_ble_eq_true rfl⟩) ⟨nuB.bl, fun U hU hW => ⟨rfl, trivial⟩⟩ rfl rfl hl.1 rfl (lv_room (Nat.le_of_ble_eq_true rfl)) dX6_isIll_1 (by exact ⟨Nat.zero_le _, Nat.zero_le _⟩)) ?_
  refine lv_iload_n hx hb dX6_isIll_4 rfl (lv_at hl 2 rfl) ?_
  refine lv_iconst (v := nI 0) hx hb dX6_isIll_5 (by decide) ?_
  have M_6 := c_X6_needDay l d 0 (by omega) (by omega)
  refine cd_rov (va_runS (As := [.int (nI d), .int (nI 0)]) (rest := []) ⟨hx, hb, hml, hown, hts⟩ M_6 (va_cwS 2 hts gX6_isIll_X6_needDay rfl rfl rfl (by decide +kernel) ⟨Nat.le_of_ble_eq_true rfl, Nat.le_of_ble_eq_true rfl⟩) ⟨nuB.bl, fun U hU hW => ⟨rfl, trivial⟩⟩ rfl rfl hl.1 rfl (lv_room (Nat.le_of_ble_eq_true rfl)) dX6_isIll_6 (by exact ⟨Nat.zero_le _, Nat.zero_le _⟩)) ?_
  refine lv_aload_n hx hb dX6_isIll_9 rfl (lv_at hl 0 rfl) ?_
  refine va_get (D := D) (ci := 6) (v := .ref (h 1)) (C := RX6) (T := TX6) (N := 8) hx hb hts iX6 hown hK hP 0 rfl rfl 0 (by decide) f_10 (fun _ h9 => h9) rfl dX6_isIll_10 ?_
  refine va_get (D := D) (ci := 4) (v := .ref (h 4)) (C := RX4) (T := TX4) (N := 3) hx hb hts iX4 hown hK hP 1 rfl rfl 2 (by decide) f_139 (fun _ h9 => h9) rfl dX6_isIll_13 ?_
  refine lv_iload_n hx hb dX6_isIll_16 rfl (lv_at hl 2 rfl) ?_
  refine cd_iald (f := S 4) hx hb hK hP 4 rfl (by omega) (by decide) dX6_isIll_17 ?_
  have b_17 := iv_4 hI d (by omega)
  refine cd_tp (y := nI (nv (S 4 d))) b_17.1 ?_
  have b_17 := b_17.2
  refine lv_iload_n hx hb dX6_isIll_18 rfl (lv_at hl 1 rfl) ?_
  have M_19 := c_X6_has l (nv (S 4 d)) a (by omega) (by omega)
  refine cd_roi (va_runS (As := [.int (nI (nv (S 4 d))), .int (nI a)]) (rest := []) ⟨hx, hb, hml, hown, hts⟩ M_19 (va_cwS 2 hts gX6_isIll_X6_has rfl rfl rfl (by decide +kernel) ⟨Nat.le_of_ble_eq_true rfl, Nat.le_of_ble_eq_true rfl⟩) ⟨nuB.bl, fun U hU hW => ⟨rfl, trivial⟩⟩ rfl rfl hl.1 rfl (lv_room (Nat.le_of_ble_eq_true rfl)) dX6_isIll_19 (by exact ⟨Nat.zero_le _, Nat.zero_le _⟩)) (fun r_19 hr_19 => ?_)
  subst hr_19
  exact W.zret (v := bI ((nv (S 4 d)).testBit a)) hx hb hr (nar_bI _) (fun t ht hW => ⟨_, rfl, rfl, ht⟩) (fun _ h9 => nomatch h9) dX6_isIll_22
end
section
set_option maxHeartbeats 4000000 in
set_option maxRecDepth 100000 in
theorem c_X6_canPlay (l : Launch) (D : va_G) (cy : qT) (h : Nat → Nat) (S : qS) (J : qS) (hI : Inv S) (a : Nat) (p : Nat) (d : Nat) (ha1 : a < 12) (hp1 : p < 8) (hd1 : d ≤ 1000) : Met l yX6_canPlay wsX6_canPlay ({ frames := 2, cells := 0, slots := 0, locals := 47 }) (va_Pc [.ref (h 0), .int (nI a), .int (nI p), .int (nI d)] (roB D cy (wC cy h S J))) (vp_Si (fun r9 => r9 = bI (rkB S p (nI a) && rdy S a p (nv (S 4 d))))) 0 0 (fun _ => False) := by
  refine Met.ofW (cc := cX6_canPlay) (maxL := 4) (ret := (some .boolean)) (by decide) rfl ?_
  intro pp e9 s m9 args9 bl9 meth9 c9 s9 B hml hv
  obtain ⟨rfl, hP, hG⟩ := hv
  have hx := B.exec
  have hb := B.bytes
  have hr := B.returns
  have hts := atoms_spec (ws := wsX6_canPlay) B.pre
  have hown : s.vm.findClass RX6 = some m9.cls := findClass_of_methodNamed B.named
  have hlocks := B.notSynchronized
  have hK := hG.K
  have f_19 := hts (.fieldLink RX6 19 "CastDesk" "rows" "LCastDesk$Rows;") (by decide +kernel)
  have f_10 := hts (.fieldLink RX6 10 "CastDesk" "troupe" "LCastDesk$Troupe;") (by decide +kernel)
  have f_139 := hts (.fieldLink RX6 139 "CastDesk$Troupe" "ill" "[I") (by decide +kernel)
  have iX4 : ∀ w ∈ wsX40, w ∈ wsX6_canPlay := by decide +kernel
  have iX6 : ∀ w ∈ wsX60, w ∈ wsX6_canPlay := by decide +kernel
  have hl := lv_entry ([.ref (h 0), .int (nI a), .int (nI p), .int (nI d)]) (n := 4) (Nat.le_of_ble_eq_true rfl)
  rw [lg_entry_eq]
  generalize (lg_sl ([.ref (h 0), .int (nI a), .int (nI p), .int (nI d)]) ++ List.replicate (4 - (lg_sl ([.ref (h 0), .int (nI a), .int (nI p), .int (nI d)])).length) Slot.unset).toArray = ls at hl ⊢
  have hl : lv_has ls 4 [(0, .ref (h 0)), (1, .int (nI a)), (2, .int (nI p)), (3, .int (nI d))] := hl
  refine lv_iload_n hx hb dX6_canPlay_0 rfl (lv_at hl 1 rfl) ?_
  have M_1 := c_X6_needActor l a (by omega)
  refine cd_rov (va_runS (As := [.int (nI a)]) (rest := []) ⟨hx, hb, hml, hown, hts⟩ M_1 (va_cwS 1 hts gX6_canPlay_X6_needActor rfl rfl rfl (by decide +kernel) ⟨Nat.le_of_ble_eq_true rfl, Nat.le_of_ble_eq_true rfl⟩) ⟨nuB.bl, fun U hU hW => ⟨rfl, trivial⟩⟩ rfl rfl hl.1 rfl (lv_room (Nat.le_of_ble_eq_true rfl)) dX6_canPlay_1 (by exact ⟨Nat.zero_le _, Nat.zero_le _⟩)) ?_
  refine lv_iload_n hx hb dX6_canPlay_4 rfl (lv_at hl 2 rfl) ?_
  have M_5 := c_X6_needPart l p (by omega)
  refine cd_rov (va_runS (As := [.int (nI p)]) (rest := []) ⟨hx, hb, hml, hown, hts⟩ M_5 (va_cwS 1 hts gX6_canPlay_X6_needPart rfl rfl rfl (by decide +kernel) ⟨Nat.le_of_ble_eq_true rfl, Nat.le_of_ble_eq_true rfl⟩) ⟨nuB.bl, fun U hU hW => ⟨rfl, trivial⟩⟩ rfl rfl hl.1 rfl (lv_room (Nat.le_of_ble_eq_true rfl)) dX6_canPlay_5 (by exact ⟨Nat.zero_le _, Nat.zero_le _⟩)) ?_
  refine lv_iload_n hx hb dX6_canPlay_8 rfl (lv_at hl 3 rfl) ?_
  refine lv_iconst (v := nI 0) hx hb dX6_canPlay_9 (by decide) ?_
  have M_10 := c_X6_needDay l d 0 (by omega) (by omega)
  refine cd_rov (va_runS (As := [.int (nI d), .int (nI 0)]) (rest := []) ⟨hx, hb, hml, hown, hts⟩ M_10 (va_cwS 2 hts gX6_canPlay_X6_needDay rfl rfl rfl (by decide +kernel) ⟨Nat.le_of_ble_eq_true rfl, Nat.le_of_ble_eq_true rfl⟩) ⟨nuB.bl, fun U hU hW => ⟨rfl, trivial⟩⟩ rfl rfl hl.1 rfl (lv_room (Nat.le_of_ble_eq_true rfl)) dX6_canPlay_10 (by exact ⟨Nat.zero_le _, Nat.zero_le _⟩)) ?_
  refine lv_aload_n hx hb dX6_canPlay_13 rfl (lv_at hl 0 rfl) ?_
  refine va_get (D := D) (ci := 6) (v := .ref (h 5)) (C := RX6) (T := TX6) (N := 8) hx hb hts iX6 hown hK hP 0 rfl rfl 1 (by decide) f_19 (fun _ h9 => h9) rfl dX6_canPlay_14 ?_
  refine lv_iload_n hx hb dX6_canPlay_17 rfl (lv_at hl 2 rfl) ?_
  refine lv_iload_n hx hb dX6_canPlay_18 rfl (lv_at hl 1 rfl) ?_
  have M_19 := c_X3_rankIn l D cy h S hI p (nI a) (by omega)
  have hPc := hP.sub (ws' := (wX3 cy h S)) [5, 6, 7] rfl
  refine cd_roi (va_runV (As := [.int (nI p), .int (nI a)]) (rest := []) ⟨hx, hb, hml, hown, hts⟩ M_19 (cwV 2 hts gX6_canPlay_X3_rankIn rfl rfl rfl (by decide +kernel) ⟨Nat.le_of_ble_eq_true rfl, Nat.le_of_ble_eq_true rfl⟩) ⟨roB.bl, va_recv hK hP (ci := 3) (q0 := 5) rfl rfl, fun U hU hW => ⟨rfl, by rw [hU]; exact hPc, hG.warm hW⟩⟩ rfl rfl hl.1 rfl (lv_room (Nat.le_of_ble_eq_true rfl)) dX6_canPlay_19 (by exact ⟨Nat.zero_le _, Nat.zero_le _⟩)) (fun r_19 hr_19 => ?_)
  subst hr_19
  refine lv_iconst (v := (-1)) hx hb dX6_canPlay_22 (by decide) ?_
  refine lv_icmp_eq (tgt := 48) hx hb dX6_canPlay_23 (by decide) (fun c_23 => ?_) (fun c_23 => ?_)
  · refine lv_iconst (v := nI 0) hx hb dX6_canPlay_48 (by decide) ?_
    exact W.zret (v := nI 0) hx hb hr rfl (fun t ht hW => ⟨_, rfl, (by rw [rk_f c_23]; rfl), ht⟩) (fun _ h9 => nomatch h9) dX6_canPlay_49
  · refine lv_aload_n hx hb dX6_canPlay_26 rfl (lv_at hl 0 rfl) ?_
    refine lv_iload_n hx hb dX6_canPlay_27 rfl (lv_at hl 1 rfl) ?_
    refine lv_iload_n hx hb dX6_canPlay_28 rfl (lv_at hl 2 rfl) ?_
    refine lv_aload_n hx hb dX6_canPlay_29 rfl (lv_at hl 0 rfl) ?_
    refine va_get (D := D) (ci := 6) (v := .ref (h 1)) (C := RX6) (T := TX6) (N := 8) hx hb hts iX6 hown hK hP 0 rfl rfl 0 (by decide) f_10 (fun _ h9 => h9) rfl dX6_canPlay_30 ?_
    refine va_get (D := D) (ci := 4) (v := .ref (h 4)) (C := RX4) (T := TX4) (N := 3) hx hb hts iX4 hown hK hP 1 rfl rfl 2 (by decide) f_139 (fun _ h9 => h9) rfl dX6_canPlay_33 ?_
    refine lv_iload_n hx hb dX6_canPlay_36 rfl (lv_at hl 3 rfl) ?_
    refine cd_iald (f := S 4) hx hb hK hP 4 rfl (by omega) (by decide) dX6_canPlay_37 ?_
    have b_37 := iv_4 hI d (by omega)
    refine cd_tp (y := nI (nv (S 4 d))) b_37.1 ?_
    have b_37 := b_37.2
    have M_38 := c_X6_isReady l D cy h S J hI a p (nv (S 4 d)) (by omega) (by omega) (by omega)
    refine cd_roi (va_runV (As := [.int (nI a), .int (nI p), .int (nI (nv (S 4 d)))]) (rest := []) ⟨hx, hb, hml, hown, hts⟩ M_38 (cwV 3 hts gX6_canPlay_X6_isReady rfl rfl rfl (by decide +kernel) ⟨Nat.le_of_ble_eq_true rfl, Nat.le_of_ble_eq_true rfl⟩) ⟨roB.bl, va_recv hK hP (ci := 6) (q0 := 0) rfl rfl, fun U hU hW => ⟨rfl, by rw [hU]; exact hP, hG.warm hW⟩⟩ rfl rfl hl.1 rfl (lv_room (Nat.le_of_ble_eq_true rfl)) dX6_canPlay_38 (by exact ⟨Nat.zero_le _, Nat.zero_le _⟩)) (fun r_38 hr_38 => ?_)
    subst hr_38
    refine cd_ifB_eq (tgt := 48) hx hb dX6_canPlay_41 (by decide) (fun c_41 => ?_) (fun c_41 => ?_)
    · refine lv_iconst (v := nI 0) hx hb dX6_canPlay_48 (by decide) ?_
      exact W.zret (v := nI 0) hx hb hr rfl (fun t ht hW => ⟨_, rfl, (by rw [c_41, Bool.and_false]; rfl), ht⟩) (fun _ h9 => nomatch h9) dX6_canPlay_49
    · refine lv_iconst (v := nI 1) hx hb dX6_canPlay_44 (by decide) ?_
      refine lv_goto (tgt := 49) hx hb dX6_canPlay_45 (by decide) ?_
      exact W.zret (v := nI 1) hx hb hr rfl (fun t ht hW => ⟨_, rfl, (by rw [rk_t c_23, c_41]; rfl), ht⟩) (fun _ h9 => nomatch h9) dX6_canPlay_49
end
section
set_option maxHeartbeats 4000000 in
set_option maxRecDepth 100000 in
theorem c_X6_strain (l : Launch) (D : va_G) (cy : qT) (h : Nat → Nat) (S : qS) (J : qS) (hI : Inv S) (d : Nat) (hd1 : d ≤ 1000) (hJ : jk J) (sz : Nat) : Met l yX6_strain wsX6_strain ({ frames := 4, cells := 0, slots := 0, locals := 95 }) (va_Pc [.ref (h 0), .int (nI d)] (wrB D cy (wC cy h S J) sz)) (va_Qi (fun (r9 : Int32) (u : qS) => r9 = bcS S (nv (S 4 d)) ∧ jk u) (wrQ D (va_A (wC cy h S J) sz) (fun u : qS => (wC cy h S u))) (va_A (wC cy h S J) sz)) 0 0 (va_A (wC cy h S J) sz) := by
  refine Met.ofW (cc := cX6_strain) (maxL := 3) (ret := (some .int)) (by decide) rfl ?_
  intro pp e9 s m9 args9 bl9 meth9 c9 s9 B hml hv
  obtain ⟨rfl, hsz, hP, hG, hD0⟩ := hv
  have hx := B.exec
  have hb := B.bytes
  have hr := B.returns
  have hts := atoms_spec (ws := wsX6_strain) B.pre
  have hown : s.vm.findClass RX6 = some m9.cls := findClass_of_methodNamed B.named
  have hlocks := B.notSynchronized
  have hK := hG.K
  subst hsz
  have hD := hD0.self (sz := s.heap.size)
  generalize hAe : (va_A (wC cy h S J) s.heap.size) = A at hD ⊢
  have hA : ∀ q : Nat, s.heap.size ≤ q → A q := fun q h9 => by rw [← hAe]; exact Or.inr h9
  have hS : va_S A s.heap s.heap [] := va_S.rf
  have hP : va_P D vwCl (wC cy h S J) s.heap := hP
  have f_10 := hts (.fieldLink RX6 10 "CastDesk" "troupe" "LCastDesk$Troupe;") (by decide +kernel)
  have f_139 := hts (.fieldLink RX6 139 "CastDesk$Troupe" "ill" "[I") (by decide +kernel)
  have iX4 : ∀ w ∈ wsX40, w ∈ wsX6_strain := by decide +kernel
  have iX6 : ∀ w ∈ wsX60, w ∈ wsX6_strain := by decide +kernel
  have hl := lv_entry ([.ref (h 0), .int (nI d)]) (n := 3) (Nat.le_of_ble_eq_true rfl)
  rw [lg_entry_eq]
  generalize (lg_sl ([.ref (h 0), .int (nI d)]) ++ List.replicate (3 - (lg_sl ([.ref (h 0), .int (nI d)])).length) Slot.unset).toArray = ls at hl ⊢
  have hl : lv_has ls 3 [(0, .ref (h 0)), (1, .int (nI d))] := hl
  have hn8 : nv (S 27 0) ≤ 8 := by have := (iv_27 hI).1.2; omega
  refine lv_iload_n hx hb dX6_strain_0 rfl (lv_at hl 1 rfl) ?_
  refine lv_iconst (v := nI 0) hx hb dX6_strain_1 (by decide) ?_
  have M_2 := c_X6_needDay l d 0 (by omega) (by omega)
  refine cd_rov (va_runS (As := [.int (nI d), .int (nI 0)]) (rest := []) ⟨hx, hb, hml, hown, hts⟩ M_2 (va_cwS 2 hts gX6_strain_X6_needDay rfl rfl rfl (by decide +kernel) ⟨Nat.le_of_ble_eq_true rfl, Nat.le_of_ble_eq_true rfl⟩) ⟨nuB.bl, fun U hU hW => ⟨rfl, trivial⟩⟩ rfl rfl hl.1 rfl (lv_room (Nat.le_of_ble_eq_true rfl)) dX6_strain_2 (by exact ⟨Nat.zero_le _, Nat.zero_le _⟩)) ?_
  refine lv_aload_n hx hb dX6_strain_5 rfl (lv_at hl 0 rfl) ?_
  refine lv_aload_n hx hb dX6_strain_6 rfl (lv_at hl 0 rfl) ?_
  refine va_get (D := D) (ci := 6) (v := .ref (h 1)) (C := RX6) (T := TX6) (N := 8) hx hb hts iX6 hown hK hP 0 rfl rfl 0 (by decide) f_10 (fun _ h9 => h9) rfl dX6_strain_7 ?_
  refine va_get (D := D) (ci := 4) (v := .ref (h 4)) (C := RX4) (T := TX4) (N := 3) hx hb hts iX4 hown hK hP 1 rfl rfl 2 (by decide) f_139 (fun _ h9 => h9) rfl dX6_strain_10 ?_
  refine lv_iload_n hx hb dX6_strain_13 rfl (lv_at hl 1 rfl) ?_
  refine cd_iald (f := S 4) hx hb hK hP 4 rfl (by omega) (by decide) dX6_strain_14 ?_
  have b_14 := iv_4 hI d (by omega)
  refine cd_tp (y := nI (nv (S 4 d))) b_14.1 ?_
  have b_14 := b_14.2
  have M_15 := c_X6_bestCast l D cy h S J hI (nv (S 4 d)) (by omega) hJ s.heap.size
  refine cd_fri (S := qS) (W1 := fun u_15 => (wC cy h S u_15)) (ws' := fun u_15 => (wC cy h S u_15)) (wc := (wC cy h S J)) (wr := []) (va_runV (As := [.int (nI (nv (S 4 d)))]) (rest := []) ⟨hx, hb, hml, hown, hts⟩ M_15 (cwV 1 hts gX6_strain_X6_bestCast rfl rfl rfl (by decide +kernel) ⟨Nat.le_of_ble_eq_true rfl, Nat.le_of_ble_eq_true rfl⟩) ⟨wrB.bl, va_recv hK hP (ci := 6) (q0 := 0) rfl rfl, fun U hU hW => ⟨rfl, by rw [hU], by rw [hU]; exact hP, hG.warm hW, hD.weaken (fun _ _ _ _ => trivial)⟩⟩ rfl rfl hl.1 rfl (lv_room (Nat.le_of_ble_eq_true rfl)) dX6_strain_15 (by exact ⟨Nat.zero_le _, Nat.zero_le _⟩)) hP hD hS hA [0, 1, 2, 3, 4, 5, 6, 7, 8, 9, 10, 11, 12, 13, 14, 15, 16, 17, 18, 19, 20, 21, 22, 23, 24, 25, 26] [] [0, 1, 2, 3, 4, 5, 6, 7, 8, 9, 10, 11, 12, 13, 14, 15, 16, 17, 18, 19, 20, 21, 22, 23, 24, 25, 26] rfl rfl (by decide) (by decide) (by decide) (fun _ => rfl) (fun r_15 u_15 H locs hw_15 hP hD hS => ?_)
  obtain ⟨hr_15, hw_15⟩ := hw_15
  subst hr_15
  have hP : va_P D vwCl (wC cy h S u_15) H := hP
  have hD : va_D A (wC cy h S u_15) := hD
  refine lv_istore_n (lv' := [(2, .int (bcI S (nv (S 4 d)))), (0, .ref (h 0)), (1, .int (nI d))]) hx hb dX6_strain_18 rfl hl (by decide) rfl (fun ls hl => ?_)
  refine lv_iload_n hx hb dX6_strain_19 rfl (lv_at hl 0 rfl) ?_
  refine lv_iconst (v := (-1)) hx hb dX6_strain_20 (by decide) ?_
  refine lv_icmp_ne (tgt := 28) hx hb dX6_strain_21 (by decide) (fun c_21 => ?_) (fun c_21 => ?_)
  · obtain ⟨b, hb0, hb4, hbe, hbk⟩ := bcI_rng hI c_21
    have hl : lv_has ls 3 [(2, .int (nI (kk S (dg (nv (S 27 0)) b) (nv (S 27 0))))), (0, .ref (h 0)), (1, .int (nI d))] := Eq.mp (congrArg (fun z9 : Int32 => lv_has ls 3 [(2, .int z9), (0, .ref (h 0)), (1, .int (nI d))]) (show (bcI S (nv (S 4 d)) : Int32) = nI (kk S (dg (nv (S 27 0)) b) (nv (S 27 0))) from hbe)) hl
    refine lv_iload_n hx hb dX6_strain_28 rfl (lv_at hl 0 rfl) ?_
    have M_29 := c_X1_strainOf l (kk S (dg (nv (S 27 0)) b) (nv (S 27 0))) (by omega)
    refine cd_roi (va_runS (As := [.int (nI (kk S (dg (nv (S 27 0)) b) (nv (S 27 0))))]) (rest := []) ⟨hx, hb, hml, hown, hts⟩ M_29 (va_cwS 1 hts gX6_strain_X1_strainOf rfl rfl rfl (by decide +kernel) ⟨Nat.le_of_ble_eq_true rfl, Nat.le_of_ble_eq_true rfl⟩) ⟨nuB.bl, fun U hU hW => ⟨rfl, trivial⟩⟩ rfl rfl hl.1 rfl (lv_room (Nat.le_of_ble_eq_true rfl)) dX6_strain_29 (by exact ⟨Nat.zero_le _, Nat.zero_le _⟩)) (fun r_29 hr_29 => ?_)
    subst hr_29
    exact W.iret (v := nI ((kk S (dg (nv (S 27 0)) b) (nv (S 27 0))) / 2 ^ 20)) hx hb hr (fun t ht hW => ⟨⟨_, u_15, rfl, (⟨by rw [key_s hn8 hb4]; unfold bcS; rw [hb0], hw_15⟩), by rw [ht]; exact hP, hD⟩, hS.F ht⟩) hS.2.2 dX6_strain_32
  · refine lv_iconst (v := (-1)) hx hb dX6_strain_24 (by decide) ?_
    refine lv_goto (tgt := 32) hx hb dX6_strain_25 (by decide) ?_
    exact W.iret (v := (-1)) hx hb hr (fun t ht hW => ⟨⟨_, u_15, rfl, (⟨by unfold bcS; rw [bcI_no hI c_21], hw_15⟩), by rw [ht]; exact hP, hD⟩, hS.F ht⟩) hS.2.2 dX6_strain_32
end
section
set_option maxHeartbeats 4000000 in
set_option maxRecDepth 100000 in
theorem c_X6_work (l : Launch) (D : va_G) (cy : qT) (h : Nat → Nat) (S : qS) (J : qS) (hI : Inv S) (d : Nat) (hd1 : d ≤ 1000) (hJ : jk J) (sz : Nat) : Met l yX6_work wsX6_work ({ frames := 4, cells := 0, slots := 0, locals := 95 }) (va_Pc [.ref (h 0), .int (nI d)] (wrB D cy (wC cy h S J) sz)) (va_Qi (fun (r9 : Int32) (u : qS) => r9 = bcW S (nv (S 4 d)) ∧ jk u) (wrQ D (va_A (wC cy h S J) sz) (fun u : qS => (wC cy h S u))) (va_A (wC cy h S J) sz)) 0 0 (va_A (wC cy h S J) sz) := by
  refine Met.ofW (cc := cX6_work) (maxL := 3) (ret := (some .int)) (by decide) rfl ?_
  intro pp e9 s m9 args9 bl9 meth9 c9 s9 B hml hv
  obtain ⟨rfl, hsz, hP, hG, hD0⟩ := hv
  have hx := B.exec
  have hb := B.bytes
  have hr := B.returns
  have hts := atoms_spec (ws := wsX6_work) B.pre
  have hown : s.vm.findClass RX6 = some m9.cls := findClass_of_methodNamed B.named
  have hlocks := B.notSynchronized
  have hK := hG.K
  subst hsz
  have hD := hD0.self (sz := s.heap.size)
  generalize hAe : (va_A (wC cy h S J) s.heap.size) = A at hD ⊢
  have hA : ∀ q : Nat, s.heap.size ≤ q → A q := fun q h9 => by rw [← hAe]; exact Or.inr h9
  have hS : va_S A s.heap s.heap [] := va_S.rf
  have hP : va_P D vwCl (wC cy h S J) s.heap := hP
  have f_10 := hts (.fieldLink RX6 10 "CastDesk" "troupe" "LCastDesk$Troupe;") (by decide +kernel)
  have f_139 := hts (.fieldLink RX6 139 "CastDesk$Troupe" "ill" "[I") (by decide +kernel)
  have iX4 : ∀ w ∈ wsX40, w ∈ wsX6_work := by decide +kernel
  have iX6 : ∀ w ∈ wsX60, w ∈ wsX6_work := by decide +kernel
  have hl := lv_entry ([.ref (h 0), .int (nI d)]) (n := 3) (Nat.le_of_ble_eq_true rfl)
  rw [lg_entry_eq]
  generalize (lg_sl ([.ref (h 0), .int (nI d)]) ++ List.replicate (3 - (lg_sl ([.ref (h 0), .int (nI d)])).length) Slot.unset).toArray = ls at hl ⊢
  have hl : lv_has ls 3 [(0, .ref (h 0)), (1, .int (nI d))] := hl
  have hn8 : nv (S 27 0) ≤ 8 := by have := (iv_27 hI).1.2; omega
  refine lv_iload_n hx hb dX6_work_0 rfl (lv_at hl 1 rfl) ?_
  refine lv_iconst (v := nI 0) hx hb dX6_work_1 (by decide) ?_
  have M_2 := c_X6_needDay l d 0 (by omega) (by omega)
  refine cd_rov (va_runS (As := [.int (nI d), .int (nI 0)]) (rest := []) ⟨hx, hb, hml, hown, hts⟩ M_2 (va_cwS 2 hts gX6_work_X6_needDay rfl rfl rfl (by decide +kernel) ⟨Nat.le_of_ble_eq_true rfl, Nat.le_of_ble_eq_true rfl⟩) ⟨nuB.bl, fun U hU hW => ⟨rfl, trivial⟩⟩ rfl rfl hl.1 rfl (lv_room (Nat.le_of_ble_eq_true rfl)) dX6_work_2 (by exact ⟨Nat.zero_le _, Nat.zero_le _⟩)) ?_
  refine lv_aload_n hx hb dX6_work_5 rfl (lv_at hl 0 rfl) ?_
  refine lv_aload_n hx hb dX6_work_6 rfl (lv_at hl 0 rfl) ?_
  refine va_get (D := D) (ci := 6) (v := .ref (h 1)) (C := RX6) (T := TX6) (N := 8) hx hb hts iX6 hown hK hP 0 rfl rfl 0 (by decide) f_10 (fun _ h9 => h9) rfl dX6_work_7 ?_
  refine va_get (D := D) (ci := 4) (v := .ref (h 4)) (C := RX4) (T := TX4) (N := 3) hx hb hts iX4 hown hK hP 1 rfl rfl 2 (by decide) f_139 (fun _ h9 => h9) rfl dX6_work_10 ?_
  refine lv_iload_n hx hb dX6_work_13 rfl (lv_at hl 1 rfl) ?_
  refine cd_iald (f := S 4) hx hb hK hP 4 rfl (by omega) (by decide) dX6_work_14 ?_
  have b_14 := iv_4 hI d (by omega)
  refine cd_tp (y := nI (nv (S 4 d))) b_14.1 ?_
  have b_14 := b_14.2
  have M_15 := c_X6_bestCast l D cy h S J hI (nv (S 4 d)) (by omega) hJ s.heap.size
  refine cd_fri (S := qS) (W1 := fun u_15 => (wC cy h S u_15)) (ws' := fun u_15 => (wC cy h S u_15)) (wc := (wC cy h S J)) (wr := []) (va_runV (As := [.int (nI (nv (S 4 d)))]) (rest := []) ⟨hx, hb, hml, hown, hts⟩ M_15 (cwV 1 hts gX6_work_X6_bestCast rfl rfl rfl (by decide +kernel) ⟨Nat.le_of_ble_eq_true rfl, Nat.le_of_ble_eq_true rfl⟩) ⟨wrB.bl, va_recv hK hP (ci := 6) (q0 := 0) rfl rfl, fun U hU hW => ⟨rfl, by rw [hU], by rw [hU]; exact hP, hG.warm hW, hD.weaken (fun _ _ _ _ => trivial)⟩⟩ rfl rfl hl.1 rfl (lv_room (Nat.le_of_ble_eq_true rfl)) dX6_work_15 (by exact ⟨Nat.zero_le _, Nat.zero_le _⟩)) hP hD hS hA [0, 1, 2, 3, 4, 5, 6, 7, 8, 9, 10, 11, 12, 13, 14, 15, 16, 17, 18, 19, 20, 21, 22, 23, 24, 25, 26] [] [0, 1, 2, 3, 4, 5, 6, 7, 8, 9, 10, 11, 12, 13, 14, 15, 16, 17, 18, 19, 20, 21, 22, 23, 24, 25, 26] rfl rfl (by decide) (by decide) (by decide) (fun _ => rfl) (fun r_15 u_15 H locs hw_15 hP hD hS => ?_)
  obtain ⟨hr_15, hw_15⟩ := hw_15
  subst hr_15
  have hP : va_P D vwCl (wC cy h S u_15) H := hP
  have hD : va_D A (wC cy h S u_15) := hD
  refine lv_istore_n (lv' := [(2, .int (bcI S (nv (S 4 d)))), (0, .ref (h 0)), (1, .int (nI d))]) hx hb dX6_work_18 rfl hl (by decide) rfl (fun ls hl => ?_)
  refine lv_iload_n hx hb dX6_work_19 rfl (lv_at hl 0 rfl) ?_
  refine lv_iconst (v := (-1)) hx hb dX6_work_20 (by decide) ?_
  refine lv_icmp_ne (tgt := 28) hx hb dX6_work_21 (by decide) (fun c_21 => ?_) (fun c_21 => ?_)
  · obtain ⟨b, hb0, hb4, hbe, hbk⟩ := bcI_rng hI c_21
    have hl : lv_has ls 3 [(2, .int (nI (kk S (dg (nv (S 27 0)) b) (nv (S 27 0))))), (0, .ref (h 0)), (1, .int (nI d))] := Eq.mp (congrArg (fun z9 : Int32 => lv_has ls 3 [(2, .int z9), (0, .ref (h 0)), (1, .int (nI d))]) (show (bcI S (nv (S 4 d)) : Int32) = nI (kk S (dg (nv (S 27 0)) b) (nv (S 27 0))) from hbe)) hl
    refine lv_iload_n hx hb dX6_work_28 rfl (lv_at hl 0 rfl) ?_
    have M_29 := c_X1_workOf l (kk S (dg (nv (S 27 0)) b) (nv (S 27 0))) (by omega)
    refine cd_roi (va_runS (As := [.int (nI (kk S (dg (nv (S 27 0)) b) (nv (S 27 0))))]) (rest := []) ⟨hx, hb, hml, hown, hts⟩ M_29 (va_cwS 1 hts gX6_work_X1_workOf rfl rfl rfl (by decide +kernel) ⟨Nat.le_of_ble_eq_true rfl, Nat.le_of_ble_eq_true rfl⟩) ⟨nuB.bl, fun U hU hW => ⟨rfl, trivial⟩⟩ rfl rfl hl.1 rfl (lv_room (Nat.le_of_ble_eq_true rfl)) dX6_work_29 (by exact ⟨Nat.zero_le _, Nat.zero_le _⟩)) (fun r_29 hr_29 => ?_)
    subst hr_29
    exact W.iret (v := nI ((kk S (dg (nv (S 27 0)) b) (nv (S 27 0))) / 2 ^ 16 &&& 15)) hx hb hr (fun t ht hW => ⟨⟨_, u_15, rfl, (⟨by rw [key_w hn8 hb4]; unfold bcW; rw [hb0], hw_15⟩), by rw [ht]; exact hP, hD⟩, hS.F ht⟩) hS.2.2 dX6_work_32
  · refine lv_iconst (v := (-1)) hx hb dX6_work_24 (by decide) ?_
    refine lv_goto (tgt := 32) hx hb dX6_work_25 (by decide) ?_
    exact W.iret (v := (-1)) hx hb hr (fun t ht hW => ⟨⟨_, u_15, rfl, (⟨by unfold bcW; rw [bcI_no hI c_21], hw_15⟩), by rw [ht]; exact hP, hD⟩, hS.F ht⟩) hS.2.2 dX6_work_32
end
section
set_option maxHeartbeats 4000000 in
set_option maxRecDepth 100000 in
theorem c_X6_strainByAll (l : Launch) (D : va_G) (cy : qT) (h : Nat → Nat) (S : qS) (J : qS) (hI : Inv S) (d : Nat) (hd1 : d ≤ 1000) (hJ : jk J) (sz : Nat) : Met l yX6_strainByAll wsX6_strainByAll ({ frames := 11, cells := 0, slots := 0, locals := 285 }) (va_Pc [.ref (h 0), .int (nI d)] (wrB D cy (wC cy h S J) sz)) (va_Qi (fun (r9 : Int32) (u : qS) => r9 = bcS S (nv (S 4 d)) ∧ jk u) (wrQ D (va_A (wC cy h S J) sz) (fun u : qS => (wC cy h S u))) (va_A (wC cy h S J) sz)) 0 0 (va_A (wC cy h S J) sz) := by
  refine Met.ofW (cc := cX6_strainByAll) (maxL := 2) (ret := (some .int)) (by decide) rfl ?_
  intro pp e9 s m9 args9 bl9 meth9 c9 s9 B hml hv
  obtain ⟨rfl, hsz, hP, hG, hD0⟩ := hv
  have hx := B.exec
  have hb := B.bytes
  have hr := B.returns
  have hts := atoms_spec (ws := wsX6_strainByAll) B.pre
  have hown : s.vm.findClass RX6 = some m9.cls := findClass_of_methodNamed B.named
  have hlocks := B.notSynchronized
  have hK := hG.K
  subst hsz
  have hD := hD0.self (sz := s.heap.size)
  generalize hAe : (va_A (wC cy h S J) s.heap.size) = A at hD ⊢
  have hA : ∀ q : Nat, s.heap.size ≤ q → A q := fun q h9 => by rw [← hAe]; exact Or.inr h9
  have hS : va_S A s.heap s.heap [] := va_S.rf
  have hP : va_P D vwCl (wC cy h S J) s.heap := hP
  have f_10 := hts (.fieldLink RX6 10 "CastDesk" "troupe" "LCastDesk$Troupe;") (by decide +kernel)
  have f_139 := hts (.fieldLink RX6 139 "CastDesk$Troupe" "ill" "[I") (by decide +kernel)
  have f_33 := hts (.fieldLink RX6 33 "CastDesk" "casting" "LCastDesk$Casting;") (by decide +kernel)
  have f_51 := hts (.fieldLink RX6 51 "CastDesk" "partCount" "I") (by decide +kernel)
  have iX4 : ∀ w ∈ wsX40, w ∈ wsX6_strainByAll := by decide +kernel
  have iX6 : ∀ w ∈ wsX60, w ∈ wsX6_strainByAll := by decide +kernel
  have hl := lv_entry ([.ref (h 0), .int (nI d)]) (n := 2) (Nat.le_of_ble_eq_true rfl)
  rw [lg_entry_eq]
  generalize (lg_sl ([.ref (h 0), .int (nI d)]) ++ List.replicate (2 - (lg_sl ([.ref (h 0), .int (nI d)])).length) Slot.unset).toArray = ls at hl ⊢
  have hl : lv_has ls 2 [(0, .ref (h 0)), (1, .int (nI d))] := hl
  have hn8 : nv (S 27 0) ≤ 8 := by have := (iv_27 hI).1.2; omega
  refine lv_iload_n hx hb dX6_strainByAll_0 rfl (lv_at hl 1 rfl) ?_
  refine lv_iconst (v := nI 0) hx hb dX6_strainByAll_1 (by decide) ?_
  have M_2 := c_X6_needDay l d 0 (by omega) (by omega)
  refine cd_rov (va_runS (As := [.int (nI d), .int (nI 0)]) (rest := []) ⟨hx, hb, hml, hown, hts⟩ M_2 (va_cwS 2 hts gX6_strainByAll_X6_needDay rfl rfl rfl (by decide +kernel) ⟨Nat.le_of_ble_eq_true rfl, Nat.le_of_ble_eq_true rfl⟩) ⟨nuB.bl, fun U hU hW => ⟨rfl, trivial⟩⟩ rfl rfl hl.1 rfl (lv_room (Nat.le_of_ble_eq_true rfl)) dX6_strainByAll_2 (by exact ⟨Nat.zero_le _, Nat.zero_le _⟩)) ?_
  refine lv_aload_n hx hb dX6_strainByAll_5 rfl (lv_at hl 0 rfl) ?_
  refine lv_aload_n hx hb dX6_strainByAll_6 rfl (lv_at hl 0 rfl) ?_
  refine va_get (D := D) (ci := 6) (v := .ref (h 1)) (C := RX6) (T := TX6) (N := 8) hx hb hts iX6 hown hK hP 0 rfl rfl 0 (by decide) f_10 (fun _ h9 => h9) rfl dX6_strainByAll_7 ?_
  refine va_get (D := D) (ci := 4) (v := .ref (h 4)) (C := RX4) (T := TX4) (N := 3) hx hb hts iX4 hown hK hP 1 rfl rfl 2 (by decide) f_139 (fun _ h9 => h9) rfl dX6_strainByAll_10 ?_
  refine lv_iload_n hx hb dX6_strainByAll_13 rfl (lv_at hl 1 rfl) ?_
  refine cd_iald (f := S 4) hx hb hK hP 4 rfl (by omega) (by decide) dX6_strainByAll_14 ?_
  have b_14 := iv_4 hI d (by omega)
  refine cd_tp (y := nI (nv (S 4 d))) b_14.1 ?_
  have b_14 := b_14.2
  have M_15 := c_X6_offerActors l D cy h S J hI (nv (S 4 d)) (by omega) s.heap.size
  refine cd_frv (S := Unit) (W1 := fun u => (wC cy h S (va_up (va_up (va_up J 13 (ofA S (nv (S 4 d)) (clF (J 13) 32) (nv (S 27 0) * 4))) 12 (fun _ => nI (ofB S (nv (S 4 d)) (nv (S 27 0) * 4)))) 14 (ofK S (nv (S 4 d)) (J 14) (nv (S 27 0) * 4))))) (ws' := fun u => (wC cy h S (va_up (va_up (va_up J 13 (ofA S (nv (S 4 d)) (clF ((J 13)) 32) (nv (S 27 0) * 4))) 12 (fun _ => nI (ofB S (nv (S 4 d)) (nv (S 27 0) * 4)))) 14 (ofK S (nv (S 4 d)) ((J 14)) (nv (S 27 0) * 4))))) (wc := (wC cy h S J)) (wr := []) (va_runV (As := [.int (nI (nv (S 4 d)))]) (rest := []) ⟨hx, hb, hml, hown, hts⟩ M_15 (cwV 1 hts gX6_strainByAll_X6_offerActors rfl rfl rfl (by decide +kernel) ⟨Nat.le_of_ble_eq_true rfl, Nat.le_of_ble_eq_true rfl⟩) ⟨wrB.bl, va_recv hK hP (ci := 6) (q0 := 0) rfl rfl, fun U hU hW => ⟨rfl, by rw [hU], by rw [hU]; exact hP, hG.warm hW, hD.weaken (fun _ _ _ _ => trivial)⟩⟩ rfl rfl hl.1 rfl (lv_room (Nat.le_of_ble_eq_true rfl)) dX6_strainByAll_15 (by exact ⟨Nat.zero_le _, Nat.zero_le _⟩)) hP hD hS hA [0, 1, 2, 3, 4, 5, 6, 7, 8, 9, 10, 11, 12, 13, 14, 15, 16, 17, 18, 19, 20, 21, 22, 23, 24, 25, 26] [] [0, 1, 2, 3, 4, 5, 6, 7, 8, 9, 10, 11, 12, 13, 14, 15, 16, 17, 18, 19, 20, 21, 22, 23, 24, 25, 26] rfl rfl (by decide) (by decide) (by decide) (fun _ => rfl) (fun _ H locs hw_15 hP hD hS => ?_)
  have hP : va_P D vwCl (wC cy h S (va_up (va_up (va_up J 13 (ofA S (nv (S 4 d)) (clF ((J 13)) 32) (nv (S 27 0) * 4))) 12 (fun _ => nI (ofB S (nv (S 4 d)) (nv (S 27 0) * 4)))) 14 (ofK S (nv (S 4 d)) ((J 14)) (nv (S 27 0) * 4)))) H := hP
  have hD : va_D A (wC cy h S (va_up (va_up (va_up J 13 (ofA S (nv (S 4 d)) (clF ((J 13)) 32) (nv (S 27 0) * 4))) 12 (fun _ => nI (ofB S (nv (S 4 d)) (nv (S 27 0) * 4)))) 14 (ofK S (nv (S 4 d)) ((J 14)) (nv (S 27 0) * 4)))) := hD
  refine lv_aload_n hx hb dX6_strainByAll_18 rfl (lv_at hl 0 rfl) ?_
  refine va_get (D := D) (ci := 6) (v := .ref (h 12)) (C := RX6) (T := TX6) (N := 8) hx hb hts iX6 hown hK hP 0 rfl rfl 3 (by decide) f_33 (fun _ h9 => h9) rfl dX6_strainByAll_19 ?_
  refine lv_aload_n hx hb dX6_strainByAll_22 rfl (lv_at hl 0 rfl) ?_
  refine va_get (D := D) (ci := 6) (v := .int (S 27 0)) (C := RX6) (T := TX6) (N := 8) hx hb hts iX6 hown hK hP 0 rfl rfl 6 (by decide) f_51 (fun _ h9 => h9) rfl dX6_strainByAll_23 ?_
  have b_23 := (iv_27 hI).1
  refine cd_tp (y := nI (nv (S 27 0))) b_23.1 ?_
  have b_23 := b_23.2
  have M_26 := c_X1_leastStrain l D cy h (va_up (va_up (va_up J 13 (ofA S (nv (S 4 d)) (clF ((J 13)) 32) (nv (S 27 0) * 4))) 12 (fun _ => nI (ofB S (nv (S 4 d)) (nv (S 27 0) * 4)))) 14 (ofK S (nv (S 4 d)) ((J 14)) (nv (S 27 0) * 4))) (nv (S 27 0)) hn8 (ofA_ok hI _ _ (fun i h9 => if_pos h9) _)
  have hPc := hP.sub (ws' := (wX1 cy h (va_up (va_up (va_up J 13 (ofA S (nv (S 4 d)) (clF ((J 13)) 32) (nv (S 27 0) * 4))) 12 (fun _ => nI (ofB S (nv (S 4 d)) (nv (S 27 0) * 4)))) 14 (ofK S (nv (S 4 d)) ((J 14)) (nv (S 27 0) * 4))))) [12, 13, 14, 15] rfl
  refine cd_roi (va_runV (As := [.int (nI (nv (S 27 0)))]) (rest := []) ⟨hx, hb, hml, hown, hts⟩ M_26 (cwV 1 hts gX6_strainByAll_X1_leastStrain rfl rfl rfl (by decide +kernel) ⟨Nat.le_of_ble_eq_true rfl, Nat.le_of_ble_eq_true rfl⟩) ⟨roB.bl, va_recv hK hP (ci := 1) (q0 := 12) rfl rfl, fun U hU hW => ⟨rfl, by rw [hU]; exact hPc, hG.warm hW⟩⟩ rfl rfl hl.1 rfl (lv_room (Nat.le_of_ble_eq_true rfl)) dX6_strainByAll_26 (by exact ⟨Nat.zero_le _, Nat.zero_le _⟩)) (fun r_26 hr_26 => ?_)
  subst hr_26
  refine cd_tp (y := lfF ((ofA S (nv (S 4 d)) (clF ((J 13)) 32) (nv (S 27 0) * 4))) (nv (S 27 0)) 8 0 0) rfl ?_
  exact W.iret (v := lfF ((ofA S (nv (S 4 d)) (clF ((J 13)) 32) (nv (S 27 0) * 4))) (nv (S 27 0)) 8 0 0) hx hb hr (fun t ht hW => ⟨⟨_, (va_up (va_up (va_up J 13 (ofA S (nv (S 4 d)) (clF ((J 13)) 32) (nv (S 27 0) * 4))) 12 (fun _ => nI (ofB S (nv (S 4 d)) (nv (S 27 0) * 4)))) 14 (ofK S (nv (S 4 d)) ((J 14)) (nv (S 27 0) * 4))), rfl, (⟨bc_3 hI _ (fun i h9 => if_pos h9), hJ⟩), by rw [ht]; exact hP, hD⟩, hS.F ht⟩) hS.2.2 dX6_strainByAll_29
end
section
set_option maxHeartbeats 4000000 in
set_option maxRecDepth 100000 in
theorem c_X6_actorFor (l : Launch) (D : va_G) (cy : qT) (h : Nat → Nat) (S : qS) (J : qS) (hI : Inv S) (d : Nat) (p : Nat) (hd1 : d ≤ 1000) (hp1 : p < 8) (hJ : jk J) (sz : Nat) : Met l yX6_actorFor wsX6_actorFor ({ frames := 4, cells := 0, slots := 0, locals := 95 }) (va_Pc [.ref (h 0), .int (nI d), .int (nI p)] (wrB D cy (wC cy h S J) sz)) (va_Qi (fun (r9 : Int32) (u : qS) => r9 = bcA S (nv (S 4 d)) p ∧ jk u) (wrQ D (va_A (wC cy h S J) sz) (fun u : qS => (wC cy h S u))) (va_A (wC cy h S J) sz)) 0 0 (va_A (wC cy h S J) sz) := by
  refine Met.ofW (cc := cX6_actorFor) (maxL := 4) (ret := (some .int)) (by decide) rfl ?_
  intro pp e9 s m9 args9 bl9 meth9 c9 s9 B hml hv
  obtain ⟨rfl, hsz, hP, hG, hD0⟩ := hv
  have hx := B.exec
  have hb := B.bytes
  have hr := B.returns
  have hts := atoms_spec (ws := wsX6_actorFor) B.pre
  have hown : s.vm.findClass RX6 = some m9.cls := findClass_of_methodNamed B.named
  have hlocks := B.notSynchronized
  have hK := hG.K
  subst hsz
  have hD := hD0.self (sz := s.heap.size)
  generalize hAe : (va_A (wC cy h S J) s.heap.size) = A at hD ⊢
  have hA : ∀ q : Nat, s.heap.size ≤ q → A q := fun q h9 => by rw [← hAe]; exact Or.inr h9
  have hS : va_S A s.heap s.heap [] := va_S.rf
  have hP : va_P D vwCl (wC cy h S J) s.heap := hP
  have f_10 := hts (.fieldLink RX6 10 "CastDesk" "troupe" "LCastDesk$Troupe;") (by decide +kernel)
  have f_139 := hts (.fieldLink RX6 139 "CastDesk$Troupe" "ill" "[I") (by decide +kernel)
  have f_51 := hts (.fieldLink RX6 51 "CastDesk" "partCount" "I") (by decide +kernel)
  have iX4 : ∀ w ∈ wsX40, w ∈ wsX6_actorFor := by decide +kernel
  have iX6 : ∀ w ∈ wsX60, w ∈ wsX6_actorFor := by decide +kernel
  have hl := lv_entry ([.ref (h 0), .int (nI d), .int (nI p)]) (n := 4) (Nat.le_of_ble_eq_true rfl)
  rw [lg_entry_eq]
  generalize (lg_sl ([.ref (h 0), .int (nI d), .int (nI p)]) ++ List.replicate (4 - (lg_sl ([.ref (h 0), .int (nI d), .int (nI p)])).length) Slot.unset).toArray = ls at hl ⊢
  have hl : lv_has ls 4 [(0, .ref (h 0)), (1, .int (nI d)), (2, .int (nI p))] := hl
  have hn8 : nv (S 27 0) ≤ 8 := by have := (iv_27 hI).1.2; omega
  refine lv_iload_n hx hb dX6_actorFor_0 rfl (lv_at hl 2 rfl) ?_
  have M_1 := c_X6_needPart l p (by omega)
  refine cd_rov (va_runS (As := [.int (nI p)]) (rest := []) ⟨hx, hb, hml, hown, hts⟩ M_1 (va_cwS 1 hts gX6_actorFor_X6_needPart rfl rfl rfl (by decide +kernel) ⟨Nat.le_of_ble_eq_true rfl, Nat.le_of_ble_eq_true rfl⟩) ⟨nuB.bl, fun U hU hW => ⟨rfl, trivial⟩⟩ rfl rfl hl.1 rfl (lv_room (Nat.le_of_ble_eq_true rfl)) dX6_actorFor_1 (by exact ⟨Nat.zero_le _, Nat.zero_le _⟩)) ?_
  refine lv_iload_n hx hb dX6_actorFor_4 rfl (lv_at hl 1 rfl) ?_
  refine lv_iconst (v := nI 0) hx hb dX6_actorFor_5 (by decide) ?_
  have M_6 := c_X6_needDay l d 0 (by omega) (by omega)
  refine cd_rov (va_runS (As := [.int (nI d), .int (nI 0)]) (rest := []) ⟨hx, hb, hml, hown, hts⟩ M_6 (va_cwS 2 hts gX6_actorFor_X6_needDay rfl rfl rfl (by decide +kernel) ⟨Nat.le_of_ble_eq_true rfl, Nat.le_of_ble_eq_true rfl⟩) ⟨nuB.bl, fun U hU hW => ⟨rfl, trivial⟩⟩ rfl rfl hl.1 rfl (lv_room (Nat.le_of_ble_eq_true rfl)) dX6_actorFor_6 (by exact ⟨Nat.zero_le _, Nat.zero_le _⟩)) ?_
  refine lv_aload_n hx hb dX6_actorFor_9 rfl (lv_at hl 0 rfl) ?_
  refine lv_aload_n hx hb dX6_actorFor_10 rfl (lv_at hl 0 rfl) ?_
  refine va_get (D := D) (ci := 6) (v := .ref (h 1)) (C := RX6) (T := TX6) (N := 8) hx hb hts iX6 hown hK hP 0 rfl rfl 0 (by decide) f_10 (fun _ h9 => h9) rfl dX6_actorFor_11 ?_
  refine va_get (D := D) (ci := 4) (v := .ref (h 4)) (C := RX4) (T := TX4) (N := 3) hx hb hts iX4 hown hK hP 1 rfl rfl 2 (by decide) f_139 (fun _ h9 => h9) rfl dX6_actorFor_14 ?_
  refine lv_iload_n hx hb dX6_actorFor_17 rfl (lv_at hl 1 rfl) ?_
  refine cd_iald (f := S 4) hx hb hK hP 4 rfl (by omega) (by decide) dX6_actorFor_18 ?_
  have b_18 := iv_4 hI d (by omega)
  refine cd_tp (y := nI (nv (S 4 d))) b_18.1 ?_
  have b_18 := b_18.2
  have M_19 := c_X6_bestCast l D cy h S J hI (nv (S 4 d)) (by omega) hJ s.heap.size
  refine cd_fri (S := qS) (W1 := fun u_19 => (wC cy h S u_19)) (ws' := fun u_19 => (wC cy h S u_19)) (wc := (wC cy h S J)) (wr := []) (va_runV (As := [.int (nI (nv (S 4 d)))]) (rest := []) ⟨hx, hb, hml, hown, hts⟩ M_19 (cwV 1 hts gX6_actorFor_X6_bestCast rfl rfl rfl (by decide +kernel) ⟨Nat.le_of_ble_eq_true rfl, Nat.le_of_ble_eq_true rfl⟩) ⟨wrB.bl, va_recv hK hP (ci := 6) (q0 := 0) rfl rfl, fun U hU hW => ⟨rfl, by rw [hU], by rw [hU]; exact hP, hG.warm hW, hD.weaken (fun _ _ _ _ => trivial)⟩⟩ rfl rfl hl.1 rfl (lv_room (Nat.le_of_ble_eq_true rfl)) dX6_actorFor_19 (by exact ⟨Nat.zero_le _, Nat.zero_le _⟩)) hP hD hS hA [0, 1, 2, 3, 4, 5, 6, 7, 8, 9, 10, 11, 12, 13, 14, 15, 16, 17, 18, 19, 20, 21, 22, 23, 24, 25, 26] [] [0, 1, 2, 3, 4, 5, 6, 7, 8, 9, 10, 11, 12, 13, 14, 15, 16, 17, 18, 19, 20, 21, 22, 23, 24, 25, 26] rfl rfl (by decide) (by decide) (by decide) (fun _ => rfl) (fun r_19 u_19 H locs hw_19 hP hD hS => ?_)
  obtain ⟨hr_19, hw_19⟩ := hw_19
  subst hr_19
  have hP : va_P D vwCl (wC cy h S u_19) H := hP
  have hD : va_D A (wC cy h S u_19) := hD
  refine lv_istore_n (lv' := [(3, .int (bcI S (nv (S 4 d)))), (0, .ref (h 0)), (1, .int (nI d)), (2, .int (nI p))]) hx hb dX6_actorFor_22 rfl hl (by decide) rfl (fun ls hl => ?_)
  refine lv_iload_n hx hb dX6_actorFor_23 rfl (lv_at hl 0 rfl) ?_
  refine lv_iconst (v := (-1)) hx hb dX6_actorFor_24 (by decide) ?_
  refine lv_icmp_eq (tgt := 36) hx hb dX6_actorFor_25 (by decide) (fun c_25 => ?_) (fun c_25 => ?_)
  · refine lv_iconst (v := (-1)) hx hb dX6_actorFor_36 (by decide) ?_
    refine lv_goto (tgt := 46) hx hb dX6_actorFor_37 (by decide) ?_
    exact W.iret (v := (-1)) hx hb hr (fun t ht hW => ⟨⟨_, u_19, rfl, (⟨by unfold bcA; rw [bcI_no hI c_25], hw_19⟩), by rw [ht]; exact hP, hD⟩, hS.F ht⟩) hS.2.2 dX6_actorFor_46
  · obtain ⟨b, hb0, hb4, hbe, hbk⟩ := bcI_rng hI c_25
    have hl : lv_has ls 4 [(3, .int (nI (kk S (dg (nv (S 27 0)) b) (nv (S 27 0))))), (0, .ref (h 0)), (1, .int (nI d)), (2, .int (nI p))] := Eq.mp (congrArg (fun z9 : Int32 => lv_has ls 4 [(3, .int z9), (0, .ref (h 0)), (1, .int (nI d)), (2, .int (nI p))]) (show (bcI S (nv (S 4 d)) : Int32) = nI (kk S (dg (nv (S 27 0)) b) (nv (S 27 0))) from hbe)) hl
    refine lv_iload_n hx hb dX6_actorFor_28 rfl (lv_at hl 3 rfl) ?_
    refine lv_aload_n hx hb dX6_actorFor_29 rfl (lv_at hl 1 rfl) ?_
    refine va_get (D := D) (ci := 6) (v := .int (S 27 0)) (C := RX6) (T := TX6) (N := 8) hx hb hts iX6 hown hK hP 0 rfl rfl 6 (by decide) f_51 (fun _ h9 => h9) rfl dX6_actorFor_30 ?_
    have b_30 := (iv_27 hI).1
    refine cd_tp (y := nI (nv (S 27 0))) b_30.1 ?_
    have b_30 := b_30.2
    refine cd_icmp_lt (tgt := 40) hx hb dX6_actorFor_33 (by decide) (by omega) (by omega) (fun c_33 => ?_) (fun c_33 => ?_)
    · refine lv_aload_n hx hb dX6_actorFor_40 rfl (lv_at hl 1 rfl) ?_
      refine lv_iload_n hx hb dX6_actorFor_41 rfl (lv_at hl 0 rfl) ?_
      refine lv_iload_n hx hb dX6_actorFor_42 rfl (lv_at hl 3 rfl) ?_
      have M_43 := c_X6_actorIn l D cy h S u_19 hI (kk S (dg (nv (S 27 0)) b) (nv (S 27 0))) p (by omega) (by omega)
      refine cd_roi (va_runV (As := [.int (nI (kk S (dg (nv (S 27 0)) b) (nv (S 27 0)))), .int (nI p)]) (rest := []) ⟨hx, hb, hml, hown, hts⟩ M_43 (cwV 2 hts gX6_actorFor_X6_actorIn rfl rfl rfl (by decide +kernel) ⟨Nat.le_of_ble_eq_true rfl, Nat.le_of_ble_eq_true rfl⟩) ⟨roB.bl, va_recv hK hP (ci := 6) (q0 := 0) rfl rfl, fun U hU hW => ⟨rfl, by rw [hU]; exact hP, hG.warm hW⟩⟩ rfl rfl hl.1 rfl (lv_room (Nat.le_of_ble_eq_true rfl)) dX6_actorFor_43 (by exact ⟨Nat.zero_le _, Nat.zero_le _⟩)) (fun r_43 hr_43 => ?_)
      subst hr_43
      exact W.iret (v := acI S p ((kk S (dg (nv (S 27 0)) b) (nv (S 27 0))) / 2 ^ ((7 - p) * 2) &&& 3)) hx hb hr (fun t ht hW => ⟨⟨_, u_19, rfl, (⟨(bcA_at hI hb0 (by omega)).1, hw_19⟩), by rw [ht]; exact hP, hD⟩, hS.F ht⟩) hS.2.2 dX6_actorFor_46
    · refine lv_iconst (v := (-1)) hx hb dX6_actorFor_36 (by decide) ?_
      refine lv_goto (tgt := 46) hx hb dX6_actorFor_37 (by decide) ?_
      exact W.iret (v := (-1)) hx hb hr (fun t ht hW => ⟨⟨_, u_19, rfl, (⟨by unfold bcA; rw [hb0]; exact (if_neg (show ¬ p < nv (S 27 0) by omega)).symm, hw_19⟩), by rw [ht]; exact hP, hD⟩, hS.F ht⟩) hS.2.2 dX6_actorFor_46
end
section
set_option maxHeartbeats 4000000 in
set_option maxRecDepth 100000 in
theorem c_X6_chain (l : Launch) (D : va_G) (cy : qT) (h : Nat → Nat) (S : qS) (J : qS) (hI : Inv S) (a : Nat) (d : Nat) (ha1 : a < 12) (hd1 : d ≤ 1000) (hJ : jk J) (sz : Nat) : Met l yX6_chain wsX6_chain ({ frames := 4, cells := 0, slots := 0, locals := 95 }) (va_Pc [.ref (h 0), .int (nI a), .int (nI d)] (wrB D cy (wC cy h S J) sz)) (va_Qi (fun (r9 : Int32) (u : qS) => r9 = chI S (nv (S 4 d)) a ∧ jk u) (wrQ D (va_A (wC cy h S J) sz) (fun u : qS => (wC cy h S u))) (va_A (wC cy h S J) sz)) 0 0 (va_A (wC cy h S J) sz) := by
  refine Met.ofW (cc := cX6_chain) (maxL := 5) (ret := (some .int)) (by decide) rfl ?_
  intro pp e9 s m9 args9 bl9 meth9 c9 s9 B hml hv
  obtain ⟨rfl, hsz, hP, hG, hD0⟩ := hv
  have hx := B.exec
  have hb := B.bytes
  have hr := B.returns
  have hts := atoms_spec (ws := wsX6_chain) B.pre
  have hown : s.vm.findClass RX6 = some m9.cls := findClass_of_methodNamed B.named
  have hlocks := B.notSynchronized
  have hK := hG.K
  subst hsz
  have hD := hD0.self (sz := s.heap.size)
  generalize hAe : (va_A (wC cy h S J) s.heap.size) = A at hD ⊢
  have hA : ∀ q : Nat, s.heap.size ≤ q → A q := fun q h9 => by rw [← hAe]; exact Or.inr h9
  have hS : va_S A s.heap s.heap [] := va_S.rf
  have hP : va_P D vwCl (wC cy h S J) s.heap := hP
  have f_10 := hts (.fieldLink RX6 10 "CastDesk" "troupe" "LCastDesk$Troupe;") (by decide +kernel)
  have f_139 := hts (.fieldLink RX6 139 "CastDesk$Troupe" "ill" "[I") (by decide +kernel)
  have iX4 : ∀ w ∈ wsX40, w ∈ wsX6_chain := by decide +kernel
  have iX6 : ∀ w ∈ wsX60, w ∈ wsX6_chain := by decide +kernel
  have hl := lv_entry ([.ref (h 0), .int (nI a), .int (nI d)]) (n := 5) (Nat.le_of_ble_eq_true rfl)
  rw [lg_entry_eq]
  generalize (lg_sl ([.ref (h 0), .int (nI a), .int (nI d)]) ++ List.replicate (5 - (lg_sl ([.ref (h 0), .int (nI a), .int (nI d)])).length) Slot.unset).toArray = ls at hl ⊢
  have hl : lv_has ls 5 [(0, .ref (h 0)), (1, .int (nI a)), (2, .int (nI d))] := hl
  refine lv_iload_n hx hb dX6_chain_0 rfl (lv_at hl 1 rfl) ?_
  have M_1 := c_X6_needActor l a (by omega)
  refine cd_rov (va_runS (As := [.int (nI a)]) (rest := []) ⟨hx, hb, hml, hown, hts⟩ M_1 (va_cwS 1 hts gX6_chain_X6_needActor rfl rfl rfl (by decide +kernel) ⟨Nat.le_of_ble_eq_true rfl, Nat.le_of_ble_eq_true rfl⟩) ⟨nuB.bl, fun U hU hW => ⟨rfl, trivial⟩⟩ rfl rfl hl.1 rfl (lv_room (Nat.le_of_ble_eq_true rfl)) dX6_chain_1 (by exact ⟨Nat.zero_le _, Nat.zero_le _⟩)) ?_
  refine lv_iload_n hx hb dX6_chain_4 rfl (lv_at hl 2 rfl) ?_
  refine lv_iconst (v := nI 0) hx hb dX6_chain_5 (by decide) ?_
  have M_6 := c_X6_needDay l d 0 (by omega) (by omega)
  refine cd_rov (va_runS (As := [.int (nI d), .int (nI 0)]) (rest := []) ⟨hx, hb, hml, hown, hts⟩ M_6 (va_cwS 2 hts gX6_chain_X6_needDay rfl rfl rfl (by decide +kernel) ⟨Nat.le_of_ble_eq_true rfl, Nat.le_of_ble_eq_true rfl⟩) ⟨nuB.bl, fun U hU hW => ⟨rfl, trivial⟩⟩ rfl rfl hl.1 rfl (lv_room (Nat.le_of_ble_eq_true rfl)) dX6_chain_6 (by exact ⟨Nat.zero_le _, Nat.zero_le _⟩)) ?_
  refine lv_aload_n hx hb dX6_chain_9 rfl (lv_at hl 0 rfl) ?_
  refine lv_aload_n hx hb dX6_chain_10 rfl (lv_at hl 0 rfl) ?_
  refine va_get (D := D) (ci := 6) (v := .ref (h 1)) (C := RX6) (T := TX6) (N := 8) hx hb hts iX6 hown hK hP 0 rfl rfl 0 (by decide) f_10 (fun _ h9 => h9) rfl dX6_chain_11 ?_
  refine va_get (D := D) (ci := 4) (v := .ref (h 4)) (C := RX4) (T := TX4) (N := 3) hx hb hts iX4 hown hK hP 1 rfl rfl 2 (by decide) f_139 (fun _ h9 => h9) rfl dX6_chain_14 ?_
  refine lv_iload_n hx hb dX6_chain_17 rfl (lv_at hl 2 rfl) ?_
  refine cd_iald (f := S 4) hx hb hK hP 4 rfl (by omega) (by decide) dX6_chain_18 ?_
  have b_18 := iv_4 hI d (by omega)
  refine cd_tp (y := nI (nv (S 4 d))) b_18.1 ?_
  have b_18 := b_18.2
  have M_19 := c_X6_bestCast l D cy h S J hI (nv (S 4 d)) (by omega) hJ s.heap.size
  refine cd_fri (S := qS) (W1 := fun u_19 => (wC cy h S u_19)) (ws' := fun u_19 => (wC cy h S u_19)) (wc := (wC cy h S J)) (wr := []) (va_runV (As := [.int (nI (nv (S 4 d)))]) (rest := []) ⟨hx, hb, hml, hown, hts⟩ M_19 (cwV 1 hts gX6_chain_X6_bestCast rfl rfl rfl (by decide +kernel) ⟨Nat.le_of_ble_eq_true rfl, Nat.le_of_ble_eq_true rfl⟩) ⟨wrB.bl, va_recv hK hP (ci := 6) (q0 := 0) rfl rfl, fun U hU hW => ⟨rfl, by rw [hU], by rw [hU]; exact hP, hG.warm hW, hD.weaken (fun _ _ _ _ => trivial)⟩⟩ rfl rfl hl.1 rfl (lv_room (Nat.le_of_ble_eq_true rfl)) dX6_chain_19 (by exact ⟨Nat.zero_le _, Nat.zero_le _⟩)) hP hD hS hA [0, 1, 2, 3, 4, 5, 6, 7, 8, 9, 10, 11, 12, 13, 14, 15, 16, 17, 18, 19, 20, 21, 22, 23, 24, 25, 26] [] [0, 1, 2, 3, 4, 5, 6, 7, 8, 9, 10, 11, 12, 13, 14, 15, 16, 17, 18, 19, 20, 21, 22, 23, 24, 25, 26] rfl rfl (by decide) (by decide) (by decide) (fun _ => rfl) (fun r_19 u_19 H locs hw_19 hP hD hS => ?_)
  obtain ⟨hr_19, hw_19⟩ := hw_19
  subst hr_19
  have hP : va_P D vwCl (wC cy h S u_19) H := hP
  have hD : va_D A (wC cy h S u_19) := hD
  refine lv_istore_n (lv' := [(3, .int (bcI S (nv (S 4 d)))), (0, .ref (h 0)), (1, .int (nI a)), (2, .int (nI d))]) hx hb dX6_chain_22 rfl hl (by decide) rfl (fun ls hl => ?_)
  refine lv_aload_n hx hb dX6_chain_23 rfl (lv_at hl 1 rfl) ?_
  refine lv_aload_n hx hb dX6_chain_24 rfl (lv_at hl 1 rfl) ?_
  refine va_get (D := D) (ci := 6) (v := .ref (h 1)) (C := RX6) (T := TX6) (N := 8) hx hb hts iX6 hown hK hP 0 rfl rfl 0 (by decide) f_10 (fun _ h9 => h9) rfl dX6_chain_25 ?_
  refine va_get (D := D) (ci := 4) (v := .ref (h 4)) (C := RX4) (T := TX4) (N := 3) hx hb hts iX4 hown hK hP 1 rfl rfl 2 (by decide) f_139 (fun _ h9 => h9) rfl dX6_chain_28 ?_
  refine lv_iload_n hx hb dX6_chain_31 rfl (lv_at hl 3 rfl) ?_
  refine cd_iald (f := S 4) hx hb hK hP 4 rfl (by omega) (by decide) dX6_chain_32 ?_
  have b_32 := iv_4 hI d (by omega)
  refine cd_tp (y := nI (nv (S 4 d))) b_32.1 ?_
  have b_32 := b_32.2
  refine lv_iload_n hx hb dX6_chain_33 rfl (lv_at hl 2 rfl) ?_
  have M_34 := c_X6_with l (nv (S 4 d)) a (by omega)
  refine cd_roi (va_runS (As := [.int (nI (nv (S 4 d))), .int (nI a)]) (rest := [.ref (h 0)]) ⟨hx, hb, hml, hown, hts⟩ M_34 (va_cwS 2 hts gX6_chain_X6_with rfl rfl rfl (by decide +kernel) ⟨Nat.le_of_ble_eq_true rfl, Nat.le_of_ble_eq_true rfl⟩) ⟨nuB.bl, fun U hU hW => ⟨rfl, trivial⟩⟩ rfl rfl hl.1 rfl (lv_room (Nat.le_of_ble_eq_true rfl)) dX6_chain_34 (by exact ⟨Nat.zero_le _, Nat.zero_le _⟩)) (fun r_34 hr_34 => ?_)
  subst hr_34
  have M_37 := c_X6_bestCast l D cy h S u_19 hI ((nv (S 4 d)) ||| 2 ^ a) (or_lt (n := 12) (by omega) (by omega)) hw_19 H.size
  refine cd_fri (S := qS) (W1 := fun u_37 => (wC cy h S u_37)) (ws' := fun u_37 => (wC cy h S u_37)) (wc := (wC cy h S u_19)) (wr := []) (va_runV (As := [.int (nI ((nv (S 4 d)) ||| 2 ^ a))]) (rest := []) ⟨hx, hb, hml, hown, hts⟩ M_37 (cwV 1 hts gX6_chain_X6_bestCast rfl rfl rfl (by decide +kernel) ⟨Nat.le_of_ble_eq_true rfl, Nat.le_of_ble_eq_true rfl⟩) ⟨wrB.bl, va_recv hK hP (ci := 6) (q0 := 0) rfl rfl, fun U hU hW => ⟨rfl, by rw [hU], by rw [hU]; exact hP, hG.warm hW, hD.weaken (fun _ _ _ _ => trivial)⟩⟩ rfl rfl hl.1 rfl (lv_room (Nat.le_of_ble_eq_true rfl)) dX6_chain_37 (by exact ⟨Nat.zero_le _, Nat.zero_le _⟩)) hP hD hS hA [0, 1, 2, 3, 4, 5, 6, 7, 8, 9, 10, 11, 12, 13, 14, 15, 16, 17, 18, 19, 20, 21, 22, 23, 24, 25, 26] [] [0, 1, 2, 3, 4, 5, 6, 7, 8, 9, 10, 11, 12, 13, 14, 15, 16, 17, 18, 19, 20, 21, 22, 23, 24, 25, 26] rfl rfl (by decide) (by decide) (by decide) (fun _ => rfl) (fun r_37 u_37 H locs hw_37 hP hD hS => ?_)
  obtain ⟨hr_37, hw_37⟩ := hw_37
  subst hr_37
  have hP : va_P D vwCl (wC cy h S u_37) H := hP
  have hD : va_D A (wC cy h S u_37) := hD
  refine lv_istore (lv' := [(4, .int (bcI S ((nv (S 4 d)) ||| 2 ^ a))), (3, .int (bcI S (nv (S 4 d)))), (0, .ref (h 0)), (1, .int (nI a)), (2, .int (nI d))]) hx hb dX6_chain_40 hl (by decide) rfl (fun ls hl => ?_)
  refine lv_iload_n hx hb dX6_chain_42 rfl (lv_at hl 1 rfl) ?_
  refine lv_iconst (v := (-1)) hx hb dX6_chain_43 (by decide) ?_
  refine lv_icmp_eq (tgt := 53) hx hb dX6_chain_44 (by decide) (fun c_44 => ?_) (fun c_44 => ?_)
  · refine lv_iconst (v := (-1)) hx hb dX6_chain_53 (by decide) ?_
    refine lv_goto (tgt := 64) hx hb dX6_chain_54 (by decide) ?_
    exact W.iret (v := (-1)) hx hb hr (fun t ht hW => ⟨⟨_, u_37, rfl, (⟨by unfold chI; rw [bcI_no hI c_44], hw_37⟩), by rw [ht]; exact hP, hD⟩, hS.F ht⟩) hS.2.2 dX6_chain_64
  · obtain ⟨b, hb0, hb4, hbe, hbk⟩ := bcI_rng hI c_44
    have hl : lv_has ls 5 [(4, .int (bcI S ((nv (S 4 d)) ||| 2 ^ a))), (3, .int (nI (kk S (dg (nv (S 27 0)) b) (nv (S 27 0))))), (0, .ref (h 0)), (1, .int (nI a)), (2, .int (nI d))] := Eq.mp (congrArg (fun z9 : Int32 => lv_has ls 5 [(4, .int (bcI S ((nv (S 4 d)) ||| 2 ^ a))), (3, .int z9), (0, .ref (h 0)), (1, .int (nI a)), (2, .int (nI d))]) (show (bcI S (nv (S 4 d)) : Int32) = nI (kk S (dg (nv (S 27 0)) b) (nv (S 27 0))) from hbe)) hl
    refine lv_iload hx hb dX6_chain_47 (lv_at hl 0 rfl) ?_
    refine lv_iconst (v := (-1)) hx hb dX6_chain_49 (by decide) ?_
    refine lv_icmp_ne (tgt := 57) hx hb dX6_chain_50 (by decide) (fun c_50 => ?_) (fun c_50 => ?_)
    · obtain ⟨z, hz0, hz4, hze, hzk⟩ := bcI_rng hI c_50
      have hl : lv_has ls 5 [(4, .int (nI (kk S (dg (nv (S 27 0)) z) (nv (S 27 0))))), (3, .int (nI (kk S (dg (nv (S 27 0)) b) (nv (S 27 0))))), (0, .ref (h 0)), (1, .int (nI a)), (2, .int (nI d))] := Eq.mp (congrArg (fun z9 : Int32 => lv_has ls 5 [(4, .int z9), (3, .int (nI (kk S (dg (nv (S 27 0)) b) (nv (S 27 0))))), (0, .ref (h 0)), (1, .int (nI a)), (2, .int (nI d))]) (show (bcI S ((nv (S 4 d)) ||| 2 ^ a) : Int32) = nI (kk S (dg (nv (S 27 0)) z) (nv (S 27 0))) from hze)) hl
      refine lv_aload_n hx hb dX6_chain_57 rfl (lv_at hl 2 rfl) ?_
      refine lv_iload_n hx hb dX6_chain_58 rfl (lv_at hl 1 rfl) ?_
      refine lv_iload hx hb dX6_chain_59 (lv_at hl 0 rfl) ?_
      have M_61 := c_X6_countOthers l D cy h S u_37 hI (kk S (dg (nv (S 27 0)) b) (nv (S 27 0))) (kk S (dg (nv (S 27 0)) z) (nv (S 27 0))) (by omega) (by omega)
      refine cd_roi (va_runV (As := [.int (nI (kk S (dg (nv (S 27 0)) b) (nv (S 27 0)))), .int (nI (kk S (dg (nv (S 27 0)) z) (nv (S 27 0))))]) (rest := []) ⟨hx, hb, hml, hown, hts⟩ M_61 (cwV 2 hts gX6_chain_X6_countOthers rfl rfl rfl (by decide +kernel) ⟨Nat.le_of_ble_eq_true rfl, Nat.le_of_ble_eq_true rfl⟩) ⟨roB.bl, va_recv hK hP (ci := 6) (q0 := 0) rfl rfl, fun U hU hW => ⟨rfl, by rw [hU]; exact hP, hG.warm hW⟩⟩ rfl rfl hl.1 rfl (lv_room (Nat.le_of_ble_eq_true rfl)) dX6_chain_61 (by exact ⟨Nat.zero_le _, Nat.zero_le _⟩)) (fun r_61 hr_61 => ?_)
      subst hr_61
      exact W.iret (v := nI (coN S (kk S (dg (nv (S 27 0)) b) (nv (S 27 0))) (kk S (dg (nv (S 27 0)) z) (nv (S 27 0))) (nv (S 27 0)))) hx hb hr (fun t ht hW => ⟨⟨_, u_37, rfl, (⟨by rw [coN_ch hI hb0 hz0 _ (Nat.le_refl _)]; unfold chI; rw [hb0, hz0], hw_37⟩), by rw [ht]; exact hP, hD⟩, hS.F ht⟩) hS.2.2 dX6_chain_64
    · refine lv_iconst (v := (-1)) hx hb dX6_chain_53 (by decide) ?_
      refine lv_goto (tgt := 64) hx hb dX6_chain_54 (by decide) ?_
      exact W.iret (v := (-1)) hx hb hr (fun t ht hW => ⟨⟨_, u_37, rfl, (⟨by unfold chI; rw [hb0, bcI_no hI c_50], hw_37⟩), by rw [ht]; exact hP, hD⟩, hS.F ht⟩) hS.2.2 dX6_chain_64
end
