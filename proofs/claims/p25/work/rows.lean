section
-- ===== PART A: goes FIRST, ahead of the names: the tables' words, and 'selects' of the private methods out of them =====
/-- a private method of a class that the tables say can be made, by its rows of tables_1 -/
def lw_okq (q : MethodName × Nat) : Prop := (q.1.cls ≠ "java/lang/invoke/MethodHandle" ∧ q.1.cls ≠ "java/lang/invoke/VarHandle") ∧ Cond.instantiable q.1.cls q.2 ∈ tables_1 ∧ Cond.privateMethod q.1 ∈ tables_1 ∧ Cond.instanceMethod q.1 ∈ tables_1
theorem lw_p0 : lw_okq (⟨"java/lang/Throwable", "fillInStackTrace", "(I)Ljava/lang/Throwable;"⟩, 6) := ⟨⟨by decide +kernel, by decide +kernel⟩, List.mem_of_getElem? (i := 303) (by decide +kernel), List.mem_of_getElem? (i := 301) (by decide +kernel), List.mem_of_getElem? (i := 302) (by decide +kernel)⟩
theorem lw_p1 : lw_okq (⟨"RingHerd", "passTick", "()V"⟩, 11) := ⟨⟨by decide +kernel, by decide +kernel⟩, List.mem_of_getElem? (i := 17) (by decide +kernel), List.mem_of_getElem? (i := 379) (by decide +kernel), List.mem_of_getElem? (i := 380) (by decide +kernel)⟩
theorem lw_p2 : lw_okq (⟨"RingHerd$Herd", "shift", "(LRingHerd$Grain;I)V"⟩, 7) := ⟨⟨by decide +kernel, by decide +kernel⟩, List.mem_of_getElem? (i := 25) (by decide +kernel), List.mem_of_getElem? (i := 419) (by decide +kernel), List.mem_of_getElem? (i := 420) (by decide +kernel)⟩
theorem lw_p3 : lw_okq (⟨"RingHerd$Herd", "partnerOf", "(II)I"⟩, 7) := ⟨⟨by decide +kernel, by decide +kernel⟩, List.mem_of_getElem? (i := 25) (by decide +kernel), List.mem_of_getElem? (i := 432) (by decide +kernel), List.mem_of_getElem? (i := 433) (by decide +kernel)⟩
theorem lw_p4 : lw_okq (⟨"RingHerd$Herd", "meet", "(LRingHerd$Grain;LRingHerd$Grain;)V"⟩, 7) := ⟨⟨by decide +kernel, by decide +kernel⟩, List.mem_of_getElem? (i := 25) (by decide +kernel), List.mem_of_getElem? (i := 436) (by decide +kernel), List.mem_of_getElem? (i := 437) (by decide +kernel)⟩
theorem lw_p5 : lw_okq (⟨"RingHerd$Herd", "stick", "(LRingHerd$Grain;LRingHerd$Grain;)V"⟩, 7) := ⟨⟨by decide +kernel, by decide +kernel⟩, List.mem_of_getElem? (i := 25) (by decide +kernel), List.mem_of_getElem? (i := 441) (by decide +kernel), List.mem_of_getElem? (i := 442) (by decide +kernel)⟩
theorem lw_p6 : lw_okq (⟨"RingHerd$Herd", "breakUp", "(LRingHerd$Grain;)V"⟩, 7) := ⟨⟨by decide +kernel, by decide +kernel⟩, List.mem_of_getElem? (i := 25) (by decide +kernel), List.mem_of_getElem? (i := 448) (by decide +kernel), List.mem_of_getElem? (i := 449) (by decide +kernel)⟩
theorem lw_p7 : lw_okq (⟨"RingHerd$Herd", "bump", "(LRingHerd$Grain;LRingHerd$Grain;)V"⟩, 7) := ⟨⟨by decide +kernel, by decide +kernel⟩, List.mem_of_getElem? (i := 25) (by decide +kernel), List.mem_of_getElem? (i := 452) (by decide +kernel), List.mem_of_getElem? (i := 453) (by decide +kernel)⟩
def lw_privs_1 : List (MethodName × Nat) := [(⟨"java/lang/Throwable", "fillInStackTrace", "(I)Ljava/lang/Throwable;"⟩, 6), (⟨"RingHerd", "passTick", "()V"⟩, 11), (⟨"RingHerd$Herd", "shift", "(LRingHerd$Grain;I)V"⟩, 7), (⟨"RingHerd$Herd", "partnerOf", "(II)I"⟩, 7), (⟨"RingHerd$Herd", "meet", "(LRingHerd$Grain;LRingHerd$Grain;)V"⟩, 7), (⟨"RingHerd$Herd", "stick", "(LRingHerd$Grain;LRingHerd$Grain;)V"⟩, 7), (⟨"RingHerd$Herd", "breakUp", "(LRingHerd$Grain;)V"⟩, 7), (⟨"RingHerd$Herd", "bump", "(LRingHerd$Grain;LRingHerd$Grain;)V"⟩, 7)]
theorem lw_r1 : ∀ q ∈ lw_privs_1, lw_okq q := List.forall_mem_cons.mpr ⟨lw_p0, List.forall_mem_cons.mpr ⟨lw_p1, List.forall_mem_cons.mpr ⟨lw_p2, List.forall_mem_cons.mpr ⟨lw_p3, List.forall_mem_cons.mpr ⟨lw_p4, List.forall_mem_cons.mpr ⟨lw_p5, List.forall_mem_cons.mpr ⟨lw_p6, List.forall_mem_cons.mpr ⟨lw_p7, fun _ h => absurd h List.not_mem_nil⟩⟩⟩⟩⟩⟩⟩⟩
def lw_privs : List (MethodName × Nat) := lw_privs_1
def lw_tbl : List Cond := k2_sels lw_privs ++ tables_1
theorem lw_privs_ok : ∀ q ∈ lw_privs, lw_okq q := lw_r1
end
section
/-! ===== BEGIN words of one list among another's, by their places ===== -/
theorem goodIn_r {big : List Cond} (ws : List Cond) (ps : List Nat) (hp : ws = ps.filterMap (fun i => big[i]?)) (h : ws.all goodWord = true) : GoodIn big ws := by
  intro w hw
  have h1 := List.all_eq_true.mp h w hw
  rw [hp] at hw
  obtain ⟨i, -, hi⟩ := List.mem_filterMap.mp hw
  have hm : w ∈ big := by first | exact List.mem_of_getElem? hi | exact List.getElem?_mem hi
  exact ⟨hm, good_of_word h1⟩
theorem goodIn_app {big a b : List Cond} (ha : GoodIn big a) (hb : GoodIn big b) : GoodIn big (a ++ b) := fun w h => (List.mem_append.mp h).elim (ha w) (hb w)
theorem goodIn_ca {big a b : List Cond} {c : Cond} (ha : GoodIn big (c :: a)) (hb : GoodIn big b) : GoodIn big (c :: (a ++ b)) := fun w h => (List.mem_cons.mp h).elim (fun e => ha w (List.mem_cons.mpr (Or.inl e))) (fun h => (List.mem_append.mp h).elim (fun h => ha w (List.mem_cons.mpr (Or.inr h))) (hb w))
theorem goodIn_sub {big ws : List Cond} (hm : ∀ w ∈ ws, w ∈ big) (h : ws.all goodWord = true) : GoodIn big ws := fun w hw => ⟨hm w hw, good_of_word (List.all_eq_true.mp h w hw)⟩
/-! ===== END ===== -/

/-! ===== BEGIN exceptions that leave a method, and their catching by the caller (launches without stack traces) ===== -/
section VXA
/-! The laws vx_back, vx_callV, vx_callS, vx_callSW, vx_throw0, vx_throwS follow proofs of the library, with one case more: JvmDerived/Free/Laws.lean (Back.of_free), Shelf42/LK1.lean (callV, callS), Shelf/KitTraced.lean (throwNew0V, throwNewS). -/
/-- where a method has thrown q: the class by its name, the cell, what was written, the world -/
def vx_T (XC : String → State → State → Prop) (st : State) (q : Addr) (t : State) (mc ms : Nat) (free : Addr → Prop) : Prop :=
  ∃ (E : String) (ce : Cell) (L : List Loc), XC E st t ∧ t.heap[q]? = some ce ∧ ce.vm = .none ∧ st.vm.findClass E = some ce.cls ∧ st.WarmedH t.vm ∧ st.sameButNew ({ t with vm := st.vm } : State) L mc ms ∧ ∀ z ∈ L, free z.base
def vx_Q (Qc : Array Value → State → Outcome → State → Prop) (XC : String → State → State → Prop) (mc ms : Nat) (free : Addr → Prop) : Array Value → State → Outcome → State → Prop := fun a st o t =>
  (Qc a st o t ∧ ∃ L, FrameEnd st o t L mc ms ∧ ∀ q ∈ L, free q.base) ∨ ∃ q, o = .threw q ∧ vx_T XC st q t mc ms free
/-- a callee that returns or throws -/
def vx_Met (l : Launch) (y : MethodName) (ws : List Cond) (rm : Room) (Pc : Array Value → State → Prop) (Qc : Array Value → State → Outcome → State → Prop) (XC : String → State → State → Prop) (mc ms : Nat) (free : Addr → Prop) : Prop :=
  MetFree l y (headSpec ws rm) Pc (fun _ _ _ _ _ => True) (vx_Q Qc XC mc ms free)
def vx_Post (XC : String → State → State → Prop) (mc ms : Nat) (free : Addr → Prop) : Pt → Array Value → Addr → Pt → Prop := fun A a q B =>
  ∃ (g : JFrame) (mk : MethodId) (t : State) (L : List Loc) (E : String) (ce : Cell), B.U.heap = t.heap ∧ B.U.vm = t.vm ∧ XC E (A.U.calling g mk a) t ∧ t.heap[q]? = some ce ∧ ce.vm = .none ∧ A.U.vm.findClass E = some ce.cls ∧ B.locs = A.locs ++ L ∧ (∀ z ∈ L, free z.base) ∧ B.cells = A.cells + mc ∧ B.slots = A.slots + ms
def vx_Back (l : Launch) (R : Room) (p : Program) (e : Env) (below : List Frame) (s : State) (sargs : Array Value) (y : MethodName) (len W9 : Nat)
    (Pre : Pt → Array Value → Prop) (Post : Pt → Array Value → Option Value → Pt → Prop) (PostX : Pt → Array Value → Addr → Pt → Prop) : Prop :=
  ∀ (m : MethodId) (meth : Method) (c : Code) (A : Pt) (g : JFrame) (ig : Instr) (mk : MethodId) (a : Array Value),
    Stand p l e R s m sargs below meth c A.U A.locs A.cells A.slots → g.method = m → g.locals.size = c.maxLocals → decode c.code g.pc = .ok (ig, len) →
    2 * g.monitorRoom + (g.stack.map fun v => v.category).sum ≤ W9 → A.U.methodNamed? y = some mk → Pre A a →
    (∃ (v : Option Value) (B : Pt), Stand p l e R s m sargs below meth c B.U B.locs B.cells B.slots ∧ Post A a v B ∧
      Steps p.tables e below (doInvoke e (A.U.setTop g) [] mk a).1 (B.U.setTop { g with pc := g.pc + len, stack := v.toList ++ g.stack })) ∨
    (∃ (q : Addr) (B : Pt), Stand p l e R s m sargs below meth c B.U B.locs B.cells B.slots ∧ PostX A a q B ∧
      Steps p.tables e below (doInvoke e (A.U.setTop g) [] mk a).1 ((B.U.setTop g).pushFrame (.throwing q)))
section Payer
variable {l : Launch} {R : Room} {p : Program} {e : Env} {below : List Frame} {s : State} {sargs : Array Value} {y : MethodName} {len W9 : Nat}
theorem vx_back {ws : List Cond} {rm : Room} {Pc : Array Value → State → Prop} {Qc : Array Value → State → Outcome → State → Prop} {XC : String → State → State → Prop} {mc ms : Nat} {free : Addr → Prop} {bytes : ByteArray} {maxL : Nat} {ret : Option FieldType}
    (hM : vx_Met l y ws rm Pc Qc XC mc ms free) (hblind : FrameBlind Pc) (hrc : rm.cells = mc) (hrs : rm.slots = ms)
    (hframes : rm.frames + 1 ≤ R.frames) (hlocals : W9 + (maxL + 11) + rm.locals ≤ R.locals)
    (hws : ∀ w ∈ ws, ∀ a' U, s.WarmedH U.vm → w.before a' U = true) (hcode : Cond.code y bytes maxL ret ∈ ws) (hinit : ∀ a' U, s.WarmedH U.vm → (Cond.initialized y.cls).before a' U = true) :
    vx_Back l R p e below s sargs y len W9 (PreOf R mc ms Pc) (PostOf Qc mc ms free) (vx_Post XC mc ms free) := by
  intro m meth c A g ig mk a X hg hsize hdg hW hn hp
  have h1 : (headSpec ws rm).pre.before a A.U = true := atoms_intro fun w hw => hws w hw _ _ X.warmed
  have h2 : (Cond.code y bytes maxL ret).before a A.U = true := hws _ hcode _ _ X.warmed
  have h3 : (Cond.initialized y.cls).before a A.U = true := hinit _ _ X.warmed
  have h4 : A.cells + (headSpec ws rm).room.cells ≤ R.cells := by rw [show (headSpec ws rm).room.cells = mc from hrc]; exact hp.1
  have h5 : A.slots + (headSpec ws rm).room.slots ≤ R.slots := by rw [show (headSpec ws rm).room.slots = ms from hrs]; exact hp.2.1
  have hPc : Pc a (A.U.calling g mk a) := hblind _ _ _ _ hp.2.2
  obtain ⟨U, Ls, c0, s0⟩ := A
  dsimp only [Pt.U, Pt.locs, Pt.cells, Pt.slots] at h1 h2 h3 h4 h5 X hn hPc ⊢
  obtain ⟨methY, cY, hmY, hcY, -, hlY, -, -, -, -⟩ := Cond.code_spec hn h2
  obtain ⟨kY, hkY, -⟩ := className_of_methodNamed hn
  have hinitY : kY.init = .initialized := Cond.initialized_spec (findClass_of_methodNamed hn) hkY h3
  have h : At U g.method c below := by rw [hg]; exact X.here
  have hlocals9 : W9 + (maxL + 11) + (headSpec ws rm).room.locals ≤ R.locals := hlocals
  have happ : (headSpec ws rm).appliesLoose y e.platform (U.calling g mk a) = true :=
    Spec.appliesLoose_calling (g := g) h hdg hn hkY hinitY
      (X.room_calling (g := g) (R' := (headSpec ws rm).room) hsize hmY hcY hframes (by rw [hlY]; omega) h4 h5) h1
  obtain ⟨mid, hmid⟩ := h.above
  have hfr : (U.setTop g).frames = (.java g :: mid) ++ below := by rw [State.frames_setTop' g h.top, hmid]; rfl
  obtain ⟨o, s₂, hsteps, -, hend, hq⟩ := Steps.callFree hM p X.admits X.cas X.clock (acts := []) hfr happ hPc trivial
  have hq' : vx_Q Qc XC mc ms free a (U.calling g mk a) o s₂ := hq
  rw [State.frames_setTop' g h.top] at hend
  obtain ⟨g₀, hg0⟩ := Option.isSome_iff_exists.mp h.top
  obtain ⟨r, hr⟩ := State.topJava?_eq_some.mp hg0
  have hr' : (({ U with heap := s₂.heap, slotsUsed := s₂.slotsUsed } : State).setVm s₂.vm).frames = .java g₀ :: r := hr
  rcases hq' with ⟨hqc, L, hfe, hL⟩ | ⟨q, rfl, E, ce, L, hx, hce, hcv, hcl, hW₂, hsm, hL⟩
  · obtain ⟨⟨v, rfl⟩, hW₂, e2, q2, q3, q4, q5, q6⟩ := id hfe
    have e3 : s₂ = ({ (U.calling g mk a).setFrames s₂.frames with heap := s₂.heap, slotsUsed := s₂.slotsUsed } : State).setVm s₂.vm := by
      have : s₂ = ({ s₂ with vm := (U.calling g mk a).vm } : State).setVm s₂.vm := rfl
      rw [e2] at this
      exact this
    obtain ⟨c₂, i₂, len₂, hc₂, hd₂, hf₂⟩ := hend
    have hW' : U.WarmedH s₂.vm := hW₂
    have hcc : c₂ = c := by
      have h1 : s₂.code? g.method = U.code? g.method := by
        rw [State.code?_eq, State.code?_eq, hW'.alike.method?]
      exact Option.some.inj (hc₂.symm.trans (h1.trans h.code))
    subst hcc
    have hlen : len₂ = len := by rw [hdg] at hd₂; cases hd₂; rfl
    subst hlen
    have hs₂ : s₂ = (({ U with heap := s₂.heap, slotsUsed := s₂.slotsUsed } : State).setVm s₂.vm).setTop { g with pc := g.pc + len₂, stack := v.toList ++ g.stack } := by
      refine e3.trans ?_
      rw [hf₂, State.calling_eq h.top, State.setFrames_setFrames, State.setTop_of_frames _ hr', hr]
      rfl
    have hsame : U.sameButNew ({ U with heap := s₂.heap, slotsUsed := s₂.slotsUsed } : State) L mc ms := by
      refine ⟨?_, q2, q3, q4, q5, q6⟩
      obtain ⟨t, ht, -⟩ := State.frames_cons hr
      show ({ U with heap := s₂.heap, slotsUsed := s₂.slotsUsed } : State) = { U.setFrames U.frames with heap := s₂.heap, slotsUsed := s₂.slotsUsed }
      rw [State.setFrames_self ht]
    subst hg
    refine Or.inl ⟨v, ⟨(({ U with heap := s₂.heap, slotsUsed := s₂.slotsUsed } : State).setVm s₂.vm), Ls ++ L, c0 + mc, s0 + ms⟩,
      ⟨X.admits, X.cas, X.clock, X.frames, X.room, X.hears, X.method, X.code, (X.here.setHeapUsed s₂.heap s₂.slotsUsed).setVm hW'.alike, X.tail, State.WarmedH.trans X.warmed hW', X.limits, X.bytes, X.same.trans (hsame.setVm s.vm)⟩,
      ⟨g, mk, s₂, L, rfl, rfl, hqc, rfl, hL, rfl, rfl⟩, ?_⟩
    show Steps p.tables e below _ ((({ U with heap := s₂.heap, slotsUsed := s₂.slotsUsed } : State).setVm s₂.vm).setTop { g with pc := g.pc + len₂, stack := v.toList ++ g.stack })
    rw [← hs₂]
    exact hsteps
  · obtain ⟨e2, q2, q3, q4, q5, q6⟩ := id hsm
    have e3 : s₂ = ({ (U.calling g mk a).setFrames s₂.frames with heap := s₂.heap, slotsUsed := s₂.slotsUsed } : State).setVm s₂.vm := by
      have : s₂ = ({ s₂ with vm := (U.calling g mk a).vm } : State).setVm s₂.vm := rfl
      rw [e2] at this
      exact this
    have hf₂ : s₂.frames = .throwing q :: .java g :: U.frames.tail := hend
    have hW' : U.WarmedH s₂.vm := hW₂
    have hs₂ : s₂ = ((({ U with heap := s₂.heap, slotsUsed := s₂.slotsUsed } : State).setVm s₂.vm).setTop g).pushFrame (.throwing q) := by
      refine e3.trans ?_
      rw [hf₂, State.calling_eq h.top, State.setFrames_setFrames, State.pushFrame, State.frames_setTop _ hr', State.setTop_of_frames _ hr', State.setFrames_setFrames, hr]
      rfl
    have hsame : U.sameButNew ({ U with heap := s₂.heap, slotsUsed := s₂.slotsUsed } : State) L mc ms := by
      refine ⟨?_, q2, q3, q4, q5, q6⟩
      obtain ⟨t, ht, -⟩ := State.frames_cons hr
      show ({ U with heap := s₂.heap, slotsUsed := s₂.slotsUsed } : State) = { U.setFrames U.frames with heap := s₂.heap, slotsUsed := s₂.slotsUsed }
      rw [State.setFrames_self ht]
    subst hg
    refine Or.inr ⟨q, ⟨(({ U with heap := s₂.heap, slotsUsed := s₂.slotsUsed } : State).setVm s₂.vm), Ls ++ L, c0 + mc, s0 + ms⟩,
      ⟨X.admits, X.cas, X.clock, X.frames, X.room, X.hears, X.method, X.code, (X.here.setHeapUsed s₂.heap s₂.slotsUsed).setVm hW'.alike, X.tail, State.WarmedH.trans X.warmed hW', X.limits, X.bytes, X.same.trans (hsame.setVm s.vm)⟩,
      ⟨g, mk, s₂, L, E, ce, rfl, rfl, hx, hce, hcv, hcl, rfl, hL, rfl, rfl⟩, ?_⟩
    show Steps p.tables e below _ (((({ U with heap := s₂.heap, slotsUsed := s₂.slotsUsed } : State).setVm s₂.vm).setTop g).pushFrame (.throwing q))
    rw [← hs₂]
    exact hsteps
end Payer
section Calls
variable {p : Program} {l : Launch} {e : Env} {R : Room} {s : State} {m : MethodId} {args : Array Value} {below : List Frame} {meth : Method} {c : Code} {T : State} {locs : List Loc} {cells slots : Nat}
theorem vx_callV (X : Stand p l e R s m args below meth c T locs cells slots) (hexec : p.tables.exec = Jvm.exec) {own C : String} {index : Nat} {y : MethodName} {bytes : ByteArray} {maxL : Nat} {ret : Option FieldType}
    (hown : s.vm.findClass own = some m.cls) (hlink : (Cond.methodLink own index y).before args s = true) (hinst : (Cond.instanceMethod y).before args s = true) (hsel : (Cond.selects C y y).before args s = true)
    (hcode : (Cond.code y bytes maxL ret).before args s = true) (hy : y.cls ≠ "java/lang/invoke/MethodHandle" ∧ y.cls ≠ "java/lang/invoke/VarHandle")
    {W9 : Nat} {Pre : Pt → Array Value → Prop} {Post : Pt → Array Value → Option Value → Pt → Prop} {PostX : Pt → Array Value → Addr → Pt → Prop} (hK : vx_Back l R p e below s args y 3 W9 Pre Post PostX)
    {b : Addr} {cellB : Cell} (hcell : T.heap[b]? = some cellB) (hobj : cellB.vm.isStatics = false) (hcls : s.vm.findClass C = some cellB.cls)
    {g : JFrame} (hg : g.method = m) (hsize : g.locals.size = c.maxLocals) {argsL rest : List Value} (hlen : ∀ sig, parseMethodDescriptor y.desc = some sig → argsL.length = sig.parameters.length)
    (hstack : g.stack = argsL.reverse ++ .ref b :: rest) (hW : 2 * g.monitorRoom + (rest.map fun v => v.category).sum ≤ W9) (hdg : decode c.code g.pc = .ok (.invokevirtual index, 3))
    (hpre : ∀ vm₁, s.WarmedH vm₁ → Pre ⟨T.setVm vm₁, locs, cells, slots⟩ (Value.ref b :: argsL).toArray) :
    (∃ (v : Option Value) (vm₁ : Vm) (B : Pt), s.WarmedH vm₁ ∧ Stand p l e R s m args below meth c B.U B.locs B.cells B.slots ∧ Post ⟨T.setVm vm₁, locs, cells, slots⟩ (Value.ref b :: argsL).toArray v B ∧
      ∀ target, Steps p.tables e below (B.U.setTop { g with pc := g.pc + 3, stack := v.toList ++ rest }) target → Steps p.tables e below (T.setTop g) target) ∨
    (∃ (q : Addr) (vm₁ : Vm) (B : Pt), s.WarmedH vm₁ ∧ Stand p l e R s m args below meth c B.U B.locs B.cells B.slots ∧ PostX ⟨T.setVm vm₁, locs, cells, slots⟩ (Value.ref b :: argsL).toArray q B ∧
      Steps p.tables e below (T.setTop g) ((B.U.setTop { g with stack := rest }).pushFrame (.throwing q))) := by
  obtain ⟨mk, methM, hnamed, hmethM, hstM, habM⟩ := Cond.instanceMethod_spec hinst
  obtain ⟨methM', cM, hmethM', -, -, -, -, -, -, hsigM⟩ := Cond.code_spec hnamed hcode
  cases hmethM.symm.trans hmethM'
  obtain ⟨c2, r2, m2, q1, q2, q3, q4, kP, hkP, hkPi⟩ := Cond.selects_spec hsel
  cases hcls.symm.trans q1
  cases (State.methodFound?_of_named hnamed hy).symm.trans q2
  cases hnamed.symm.trans q3
  have hselP : selectMethod e.platform s.vm cellB.cls mk = .method mk := by rw [Launch.admits_selectMethod X.admits]; exact q4
  obtain ⟨vm₁, X₁, hstep₁⟩ := X.invokevirtual hexec hown hlink hnamed hmethM hstM hkP hkPi hy (a := b) (cell := cellB) hcell
    (fun z h => by rw [h] at hobj; cases hobj) hselP hmethM habM hkP hkPi (g := g) hg (argsL := argsL) (rest := rest) (hlen _ hsigM) hstack hdg
  rcases hK m meth c ⟨T.setVm vm₁, locs, cells, slots⟩ { g with stack := rest } (.invokevirtual index) mk (Value.ref b :: argsL).toArray X₁ hg hsize hdg hW (X₁.named hnamed) (hpre vm₁ X₁.warmed) with ⟨v, B, X', hpost, hsteps⟩ | ⟨q, B, X', hpost, hsteps⟩
  · exact Or.inl ⟨v, vm₁, B, X₁.warmed, X', hpost, fun target h => hstep₁ _ fun acts => by rw [doInvoke_state]; exact hsteps.trans h⟩
  · exact Or.inr ⟨q, vm₁, B, X₁.warmed, X', hpost, hstep₁ _ fun acts => by rw [doInvoke_state]; exact hsteps⟩
theorem vx_callS (X : Stand p l e R s m args below meth c T locs cells slots) (hexec : p.tables.exec = Jvm.exec) {own : String} {index : Nat} {y : MethodName} {bytes : ByteArray} {maxL : Nat} {ret : Option FieldType}
    (hown : s.vm.findClass own = some m.cls) (hlink : (Cond.methodLink own index y).before args s = true) (hstat : (Cond.static y).before args s = true) (hinit : (Cond.initialized y.cls).before args s = true)
    (hcode : (Cond.code y bytes maxL ret).before args s = true) (hy : y.cls ≠ "java/lang/invoke/MethodHandle" ∧ y.cls ≠ "java/lang/invoke/VarHandle")
    {W9 : Nat} {Pre : Pt → Array Value → Prop} {Post : Pt → Array Value → Option Value → Pt → Prop} {PostX : Pt → Array Value → Addr → Pt → Prop} (hK : vx_Back l R p e below s args y 3 W9 Pre Post PostX)
    {g : JFrame} (hg : g.method = m) (hsize : g.locals.size = c.maxLocals) {argsL rest : List Value} (hlen : ∀ sig, parseMethodDescriptor y.desc = some sig → argsL.length = sig.parameters.length)
    (hstack : g.stack = argsL.reverse ++ rest) (hW : 2 * g.monitorRoom + (rest.map fun v => v.category).sum ≤ W9) (hdg : decode c.code g.pc = .ok (.invokestatic index, 3))
    (hpre : ∀ vm₁, s.WarmedH vm₁ → Pre ⟨T.setVm vm₁, locs, cells, slots⟩ argsL.toArray) :
    (∃ (v : Option Value) (vm₁ : Vm) (B : Pt), s.WarmedH vm₁ ∧ Stand p l e R s m args below meth c B.U B.locs B.cells B.slots ∧ Post ⟨T.setVm vm₁, locs, cells, slots⟩ argsL.toArray v B ∧
      ∀ target, Steps p.tables e below (B.U.setTop { g with pc := g.pc + 3, stack := v.toList ++ rest }) target → Steps p.tables e below (T.setTop g) target) ∨
    (∃ (q : Addr) (vm₁ : Vm) (B : Pt), s.WarmedH vm₁ ∧ Stand p l e R s m args below meth c B.U B.locs B.cells B.slots ∧ PostX ⟨T.setVm vm₁, locs, cells, slots⟩ argsL.toArray q B ∧
      Steps p.tables e below (T.setTop g) ((B.U.setTop { g with stack := rest }).pushFrame (.throwing q))) := by
  obtain ⟨mk, hnamed⟩ := Cond.code_named hcode
  obtain ⟨methM, cM, hmethM, -, -, -, -, -, -, hsigM⟩ := Cond.code_spec hnamed hcode
  have hstatic : methM.isStatic = true := Cond.static_spec hnamed hmethM hstat
  obtain ⟨kP, hkP, -⟩ := className_of_methodNamed hnamed
  have hinitP : kP.init = .initialized := Cond.initialized_spec (findClass_of_methodNamed hnamed) hkP hinit
  obtain ⟨vm₁, X₁, hstep₁⟩ := X.invokestatic hexec hown hlink hnamed hmethM hstatic hkP hinitP hy (g := g) hg (argsL := argsL) (rest := rest) (hlen _ hsigM) hstack hdg
  rcases hK m meth c ⟨T.setVm vm₁, locs, cells, slots⟩ { g with stack := rest } (.invokestatic index) mk argsL.toArray X₁ hg hsize hdg hW (X₁.named hnamed) (hpre vm₁ X₁.warmed) with ⟨v, B, X', hpost, hsteps⟩ | ⟨q, B, X', hpost, hsteps⟩
  · exact Or.inl ⟨v, vm₁, B, X₁.warmed, X', hpost, fun target h => hstep₁ _ fun acts => by rw [doInvoke_state]; exact hsteps.trans h⟩
  · exact Or.inr ⟨q, vm₁, B, X₁.warmed, X', hpost, hstep₁ _ fun acts => by rw [doInvoke_state]; exact hsteps⟩
end Calls
theorem vx_cls {s : State} {T : State} {vm₁ : Vm} {E : String} {k : ClassId} (hW : s.WarmedH vm₁) (h : (T.setVm vm₁).vm.findClass E = some k) : s.vm.findClass E = some k := by
  have h1 : vm₁.findClass E = some k := h
  rw [hW.alike.findClass] at h1
  exact h1
/-- the method's frame g, with q thrown over it -/
def vx_W (p : Program) (l : Launch) (e : Env) (R : Room) (s : State) (m : MethodId) (args : Array Value) (below : List Frame) (meth : Method) (c : Code) (H : Heap) (locs : List Loc) (cells slots : Nat) (Q : State → Prop) (g : JFrame) (q : Addr) : Prop :=
  ∀ T : State, T.heap = H → Stand p l e R s m args below meth c T locs cells slots → ∃ t, Steps p.tables e below ((T.setTop g).pushFrame (.throwing q)) t ∧ Q t
def vx_Run (p : Program) (l : Launch) (e : Env) (R : Room) (s : State) (m : MethodId) (args : Array Value) (below : List Frame) (meth : Method) (c : Code) (H : Heap) (locs : List Loc) (cells slots mc ms : Nat) (g : JFrame) (rest : List Value) (Qa : State → Outcome → State → Prop) (XC : String → State → State → Prop) (free : Addr → Prop) : Prop :=
  ∀ T : State, T.heap = H → Stand p l e R s m args below meth c T locs cells slots →
    (∃ (v : Option Value) (st₀ t T' : State) (L : List Loc), st₀.heap = H ∧ Stand p l e R s m args below meth c T' (locs ++ L) (cells + mc) (slots + ms) ∧ (∀ q ∈ L, free q.base) ∧ T'.heap = t.heap ∧ T'.vm = t.vm ∧ Qa st₀ (.returned v) t ∧
      Goes p e below T g T' { g with pc := g.pc + 3, stack := v.toList ++ rest }) ∨
    (∃ (q : Addr) (st₀ t T' : State) (L : List Loc) (E : String) (ce : Cell), st₀.heap = H ∧ Stand p l e R s m args below meth c T' (locs ++ L) (cells + mc) (slots + ms) ∧ (∀ z ∈ L, free z.base) ∧ T'.heap = t.heap ∧ T'.vm = t.vm ∧ XC E st₀ t ∧ t.heap[q]? = some ce ∧ ce.vm = .none ∧ s.vm.findClass E = some ce.cls ∧
      Steps p.tables e below (T.setTop g) ((T'.setTop { g with stack := rest }).pushFrame (.throwing q)))
def vx_X {S : Type} (px : S → Prop) (B : String → S → State → Prop) (A : Nat → Prop) : String → State → State → Prop := fun E st t => ∃ u : S, px u ∧ B E u t ∧ va_F A st t
section Runs
variable {p : Program} {l : Launch} {e : Env} {R : Room} {s : State} {m : MethodId} {args : Array Value} {below : List Frame} {meth : Method} {c : Code} {H : Heap} {locs : List Loc} {cells slots : Nat}
variable {y : MethodName} {bytes cc : ByteArray} {maxL nL mc ms n index : Nat} {ret : Option FieldType} {ws : List Cond} {rm : Room} {Pc : Array Value → State → Prop} {Qc : Array Value → State → Outcome → State → Prop} {XC : String → State → State → Prop} {free : Addr → Prop} {Ts : List Cond} {own C : String} {b : Addr} {As rest : List Value} {g : JFrame}
theorem vx_callBack (cb : CallB R s args own index y bytes maxL ret ws rm mc ms n) (hM : vx_Met l y ws rm Pc Qc XC mc ms free) (hbl : FrameBlind Pc) : vx_Back l R p e below s args y 3 8 (PreOf R mc ms Pc) (PostOf Qc mc ms free) (vx_Post XC mc ms free) := by
  obtain ⟨hrc, hrs, hfr, hlo, hws, hcw, -, hini, -⟩ := cb
  exact vx_back (bytes := bytes) (maxL := maxL) (ret := ret) hM hbl hrc hrs hfr hlo hws hcw (fun a' U hW => word_at hW (Or.inl (by first | rfl | simp [Cond.onTables, Cond.keeps, Cond.steady])) hini)
theorem vx_runV (S : CallFix p m c cc nL s args Ts own) (hM : vx_Met l y ws rm Pc Qc XC mc ms free) (cw : CallW R s args own C index y bytes maxL ret ws rm mc ms n) (hp : PreV s H C b Pc As)
    (hg : g.method = m) (hn : As.length = n) (hsize : g.locals.size = nL) (hstack : g.stack = As.reverse ++ .ref b :: rest) (hW : 2 * g.monitorRoom + (rest.map fun v => v.category).sum ≤ 8) (hdg : decode cc g.pc = .ok (.invokevirtual index, 3)) (hf : cells + mc ≤ R.cells ∧ slots + ms ≤ R.slots) :
    vx_Run p l e R s m args below meth c H locs cells slots mc ms g rest (Qc (Value.ref b :: As).toArray) XC free := by
  have hK : vx_Back l R p e below s args y 3 8 (PreOf R mc ms Pc) (PostOf Qc mc ms free) (vx_Post XC mc ms free) := vx_callBack cw.1 hM hp.1
  obtain ⟨⟨-, -, -, -, -, -, hcode, -, hy, hlen, hl⟩, hin, hse⟩ := cw
  obtain ⟨hx, hb, hml, ho, -⟩ := S
  obtain ⟨-, ⟨cellB, hcB, hoB, hclB⟩, hPc⟩ := hp
  intro T hT X
  rcases vx_callV X hx (C := C) (bytes := bytes) (maxL := maxL) (ret := ret) ho hl hin hse hcode hy hK (by rw [hT]; exact hcB) hoB hclB hg (hsize.trans hml.symm) (argsL := As) (rest := rest) (fun sig h => hn.trans (hlen sig h)) hstack hW (by rw [hb]; exact hdg)
    (fun vm₁ hW₁ => ⟨hf.1, hf.2, hPc (T.setVm vm₁) hT hW₁⟩) with ⟨v, vm₁, ⟨U', l2, c2, s2⟩, hW₁, X', ⟨g', mk, t, L, e1, e2, hq, h1, hL, h2, h3⟩, st⟩ | ⟨q, vm₁, ⟨U', l2, c2, s2⟩, hW₁, X', ⟨g', mk, t, L, E, ce, e1, e2, hq, hce, hcv, hcl, h1, hL, h2, h3⟩, st⟩
  · dsimp only [Pt.U, Pt.locs, Pt.cells, Pt.slots] at X' e1 e2 h1 h2 h3 st
    subst h1; subst h2; subst h3
    exact Or.inl ⟨v, (T.setVm vm₁).calling g' mk (Value.ref b :: As).toArray, t, U', L, hT, X', hL, e1, e2, hq, st⟩
  · dsimp only [Pt.U, Pt.locs, Pt.cells, Pt.slots] at X' e1 e2 h1 h2 h3 st hcl
    subst h1; subst h2; subst h3
    exact Or.inr ⟨q, (T.setVm vm₁).calling g' mk (Value.ref b :: As).toArray, t, U', L, E, ce, hT, X', hL, e1, e2, hq, hce, hcv, vx_cls hW₁ hcl, st⟩
theorem vx_runS (S : CallFix p m c cc nL s args Ts own) (hM : vx_Met l y ws rm Pc Qc XC mc ms free) (cw : CallB R s args own index y bytes maxL ret ws rm mc ms n ∧ (Cond.static y).before args s = true) (hp : PreS s H Pc As)
    (hg : g.method = m) (hn : As.length = n) (hsize : g.locals.size = nL) (hstack : g.stack = As.reverse ++ rest) (hW : 2 * g.monitorRoom + (rest.map fun v => v.category).sum ≤ 8) (hdg : decode cc g.pc = .ok (.invokestatic index, 3)) (hf : cells + mc ≤ R.cells ∧ slots + ms ≤ R.slots) :
    vx_Run p l e R s m args below meth c H locs cells slots mc ms g rest (Qc As.toArray) XC free := by
  have hK : vx_Back l R p e below s args y 3 8 (PreOf R mc ms Pc) (PostOf Qc mc ms free) (vx_Post XC mc ms free) := vx_callBack cw.1 hM hp.1
  obtain ⟨⟨-, -, -, -, -, -, hcode, hini, hy, hlen, hl⟩, hstt⟩ := cw
  obtain ⟨hx, hb, hml, ho, -⟩ := S
  intro T hT X
  rcases vx_callS X hx (bytes := bytes) (maxL := maxL) (ret := ret) ho hl hstt hini hcode hy hK hg (hsize.trans hml.symm) (argsL := As) (rest := rest) (fun sig h => hn.trans (hlen sig h)) hstack hW (by rw [hb]; exact hdg)
    (fun vm₁ hW₁ => ⟨hf.1, hf.2, hp.2 (T.setVm vm₁) hT hW₁⟩) with ⟨v, vm₁, ⟨U', l2, c2, s2⟩, hW₁, X', ⟨g', mk, t, L, e1, e2, hq, h1, hL, h2, h3⟩, st⟩ | ⟨q, vm₁, ⟨U', l2, c2, s2⟩, hW₁, X', ⟨g', mk, t, L, E, ce, e1, e2, hq, hce, hcv, hcl, h1, hL, h2, h3⟩, st⟩
  · dsimp only [Pt.U, Pt.locs, Pt.cells, Pt.slots] at X' e1 e2 h1 h2 h3 st
    subst h1; subst h2; subst h3
    exact Or.inl ⟨v, (T.setVm vm₁).calling g' mk As.toArray, t, U', L, hT, X', hL, e1, e2, hq, st⟩
  · dsimp only [Pt.U, Pt.locs, Pt.cells, Pt.slots] at X' e1 e2 h1 h2 h3 st hcl
    subst h1; subst h2; subst h3
    exact Or.inr ⟨q, (T.setVm vm₁).calling g' mk As.toArray, t, U', L, E, ce, hT, X', hL, e1, e2, hq, hce, hcv, vx_cls hW₁ hcl, st⟩
end Runs
section Rows
variable {p : Program} {l : Launch} {e : Env} {R : Room} {s : State} {m : MethodId} {args : Array Value} {below : List Frame} {meth : Method} {c : Code} {H : Heap} {locs : List Loc} {cells slots : Nat} {Q : State → Prop}
variable {mc ms : Nat} {free : Addr → Prop} {A0 A1 : Nat → Prop} {H0 : Heap} {a : Array Value} {pc : Nat} {ls : Array Slot} {st0 rest : List Value}
theorem vx_keep {st₀ t T' : State} {L : List Loc} (h0 : st₀.heap = H) (e1 : T'.heap = t.heap) (hS : va_S A0 H0 H locs) (hA : ∀ q, q < H.size → A1 q → A0 q) (hf : ∀ q, free q → A0 q) (hL : ∀ q ∈ L, free q.base) (hF : va_F A1 st₀ t) :
    H.size ≤ T'.heap.size ∧ (∀ q : Nat, q < H.size → ¬ A1 q → T'.heap[q]? = H[q]?) ∧ va_S A0 H0 T'.heap (locs ++ L) := by
  obtain ⟨hz, hk⟩ := hF
  rw [h0] at hz hk
  exact ⟨by rw [e1]; exact hz, fun q h1 h2 => by rw [e1]; exact hk q h1 h2,
    ⟨Nat.le_trans hS.1 (by rw [e1]; exact hz), fun q h1 h2 => by rw [e1, hk q (Nat.lt_of_lt_of_le h1 hS.1) (fun z => h2 (hA q (Nat.lt_of_lt_of_le h1 hS.1) z))]; exact hS.2.1 q h1 h2, fun q hq => by
      rcases List.mem_append.mp hq with h | h
      · exact hS.2.2 q h
      · exact hf _ (hL q h)⟩⟩
theorem vx_calli {S SX : Type} {post : Int32 → S → Prop} {px : SX → Prop} {B : S → State → Prop} {BX : String → SX → State → Prop} {AX : Nat → Prop} (hr : vx_Run p l e R s m args below meth c H locs cells slots mc ms (F0 m pc ls st0) rest (va_Qi post B A1 a) (vx_X px BX AX) free) (hS : va_S A0 H0 H locs) (hA : ∀ q, q < H.size → A1 q → A0 q) (hf : ∀ q, free q → A0 q) (hAX : ∀ q, q < H.size → AX q → A0 q)
    (kx : ∀ (E : String) (ce : Cell) (q9 : Addr) (u : SX) (t : State) (H1 : Heap) (locs1 : List Loc), t.heap = H1 → s.vm.Alike t.vm → px u → BX E u t → H.size ≤ H1.size → (∀ q : Nat, q < H.size → ¬ AX q → H1[q]? = H[q]?) → va_S A0 H0 H1 locs1 → H1[q9]? = some ce → ce.vm = .none → s.vm.findClass E = some ce.cls → vx_W p l e R s m args below meth c H1 locs1 (cells + mc) (slots + ms) Q (F0 m pc ls rest) q9)
    (kk : ∀ (r : Int32) (u : S) (t : State) (H1 : Heap) (locs1 : List Loc), t.heap = H1 → s.vm.Alike t.vm → post r u → B u t → H.size ≤ H1.size → (∀ q : Nat, q < H.size → ¬ A1 q → H1[q]? = H[q]?) → va_S A0 H0 H1 locs1 → W p l e R s m args below meth c H1 locs1 (cells + mc) (slots + ms) Q (F0 m (pc + 3) ls (.int r :: rest))) : W p l e R s m args below meth c H locs cells slots Q (F0 m pc ls st0) := by
  intro T hT X
  rcases hr T hT X with ⟨v, st₀, t, T', L, h0, X', hL, e1, e2, ⟨⟨r, u, hv, hp, hb⟩, hF⟩, st⟩ | ⟨q, st₀, t, T', L, E, ce, h0, X', hL, e1, e2, ⟨u, hp, hb, hF⟩, hce, hcv, hcl, st⟩
  · cases hv
    obtain ⟨k1, k2, k3⟩ := vx_keep h0 e1 hS hA hf hL hF
    obtain ⟨t2, a1, b1⟩ := kk r u t T'.heap (locs ++ L) e1.symm (by rw [← e2]; exact X'.warmed.alike) hp hb k1 k2 k3 T' rfl X'
    exact ⟨t2, st t2 a1, b1⟩
  · obtain ⟨k1, k2, k3⟩ := vx_keep h0 e1 hS hAX hf hL hF
    obtain ⟨t2, a1, b1⟩ := kx E ce q u t T'.heap (locs ++ L) e1.symm (by rw [← e2]; exact X'.warmed.alike) hp hb k1 k2 k3 (by rw [e1]; exact hce) hcv hcl T' rfl X'
    exact ⟨t2, st.trans a1, b1⟩
theorem vx_calll {S SX : Type} {post : Int64 → S → Prop} {px : SX → Prop} {B : S → State → Prop} {BX : String → SX → State → Prop} {AX : Nat → Prop} (hr : vx_Run p l e R s m args below meth c H locs cells slots mc ms (F0 m pc ls st0) rest (va_Ql post B A1 a) (vx_X px BX AX) free) (hS : va_S A0 H0 H locs) (hA : ∀ q, q < H.size → A1 q → A0 q) (hf : ∀ q, free q → A0 q) (hAX : ∀ q, q < H.size → AX q → A0 q)
    (kx : ∀ (E : String) (ce : Cell) (q9 : Addr) (u : SX) (t : State) (H1 : Heap) (locs1 : List Loc), t.heap = H1 → s.vm.Alike t.vm → px u → BX E u t → H.size ≤ H1.size → (∀ q : Nat, q < H.size → ¬ AX q → H1[q]? = H[q]?) → va_S A0 H0 H1 locs1 → H1[q9]? = some ce → ce.vm = .none → s.vm.findClass E = some ce.cls → vx_W p l e R s m args below meth c H1 locs1 (cells + mc) (slots + ms) Q (F0 m pc ls rest) q9)
    (kk : ∀ (r : Int64) (u : S) (t : State) (H1 : Heap) (locs1 : List Loc), t.heap = H1 → s.vm.Alike t.vm → post r u → B u t → H.size ≤ H1.size → (∀ q : Nat, q < H.size → ¬ A1 q → H1[q]? = H[q]?) → va_S A0 H0 H1 locs1 → W p l e R s m args below meth c H1 locs1 (cells + mc) (slots + ms) Q (F0 m (pc + 3) ls (.long r :: rest))) : W p l e R s m args below meth c H locs cells slots Q (F0 m pc ls st0) := by
  intro T hT X
  rcases hr T hT X with ⟨v, st₀, t, T', L, h0, X', hL, e1, e2, ⟨⟨r, u, hv, hp, hb⟩, hF⟩, st⟩ | ⟨q, st₀, t, T', L, E, ce, h0, X', hL, e1, e2, ⟨u, hp, hb, hF⟩, hce, hcv, hcl, st⟩
  · cases hv
    obtain ⟨k1, k2, k3⟩ := vx_keep h0 e1 hS hA hf hL hF
    obtain ⟨t2, a1, b1⟩ := kk r u t T'.heap (locs ++ L) e1.symm (by rw [← e2]; exact X'.warmed.alike) hp hb k1 k2 k3 T' rfl X'
    exact ⟨t2, st t2 a1, b1⟩
  · obtain ⟨k1, k2, k3⟩ := vx_keep h0 e1 hS hAX hf hL hF
    obtain ⟨t2, a1, b1⟩ := kx E ce q u t T'.heap (locs ++ L) e1.symm (by rw [← e2]; exact X'.warmed.alike) hp hb k1 k2 k3 (by rw [e1]; exact hce) hcv hcl T' rfl X'
    exact ⟨t2, st.trans a1, b1⟩
theorem vx_callf {S SX : Type} {post : UInt32 → S → Prop} {px : SX → Prop} {B : S → State → Prop} {BX : String → SX → State → Prop} {AX : Nat → Prop} (hr : vx_Run p l e R s m args below meth c H locs cells slots mc ms (F0 m pc ls st0) rest (va_Qf post B A1 a) (vx_X px BX AX) free) (hS : va_S A0 H0 H locs) (hA : ∀ q, q < H.size → A1 q → A0 q) (hf : ∀ q, free q → A0 q) (hAX : ∀ q, q < H.size → AX q → A0 q)
    (kx : ∀ (E : String) (ce : Cell) (q9 : Addr) (u : SX) (t : State) (H1 : Heap) (locs1 : List Loc), t.heap = H1 → s.vm.Alike t.vm → px u → BX E u t → H.size ≤ H1.size → (∀ q : Nat, q < H.size → ¬ AX q → H1[q]? = H[q]?) → va_S A0 H0 H1 locs1 → H1[q9]? = some ce → ce.vm = .none → s.vm.findClass E = some ce.cls → vx_W p l e R s m args below meth c H1 locs1 (cells + mc) (slots + ms) Q (F0 m pc ls rest) q9)
    (kk : ∀ (r : UInt32) (u : S) (t : State) (H1 : Heap) (locs1 : List Loc), t.heap = H1 → s.vm.Alike t.vm → post r u → B u t → H.size ≤ H1.size → (∀ q : Nat, q < H.size → ¬ A1 q → H1[q]? = H[q]?) → va_S A0 H0 H1 locs1 → W p l e R s m args below meth c H1 locs1 (cells + mc) (slots + ms) Q (F0 m (pc + 3) ls (.float r :: rest))) : W p l e R s m args below meth c H locs cells slots Q (F0 m pc ls st0) := by
  intro T hT X
  rcases hr T hT X with ⟨v, st₀, t, T', L, h0, X', hL, e1, e2, ⟨⟨r, u, hv, hp, hb⟩, hF⟩, st⟩ | ⟨q, st₀, t, T', L, E, ce, h0, X', hL, e1, e2, ⟨u, hp, hb, hF⟩, hce, hcv, hcl, st⟩
  · cases hv
    obtain ⟨k1, k2, k3⟩ := vx_keep h0 e1 hS hA hf hL hF
    obtain ⟨t2, a1, b1⟩ := kk r u t T'.heap (locs ++ L) e1.symm (by rw [← e2]; exact X'.warmed.alike) hp hb k1 k2 k3 T' rfl X'
    exact ⟨t2, st t2 a1, b1⟩
  · obtain ⟨k1, k2, k3⟩ := vx_keep h0 e1 hS hAX hf hL hF
    obtain ⟨t2, a1, b1⟩ := kx E ce q u t T'.heap (locs ++ L) e1.symm (by rw [← e2]; exact X'.warmed.alike) hp hb k1 k2 k3 (by rw [e1]; exact hce) hcv hcl T' rfl X'
    exact ⟨t2, st.trans a1, b1⟩
theorem vx_calld {S SX : Type} {post : UInt64 → S → Prop} {px : SX → Prop} {B : S → State → Prop} {BX : String → SX → State → Prop} {AX : Nat → Prop} (hr : vx_Run p l e R s m args below meth c H locs cells slots mc ms (F0 m pc ls st0) rest (va_Qd post B A1 a) (vx_X px BX AX) free) (hS : va_S A0 H0 H locs) (hA : ∀ q, q < H.size → A1 q → A0 q) (hf : ∀ q, free q → A0 q) (hAX : ∀ q, q < H.size → AX q → A0 q)
    (kx : ∀ (E : String) (ce : Cell) (q9 : Addr) (u : SX) (t : State) (H1 : Heap) (locs1 : List Loc), t.heap = H1 → s.vm.Alike t.vm → px u → BX E u t → H.size ≤ H1.size → (∀ q : Nat, q < H.size → ¬ AX q → H1[q]? = H[q]?) → va_S A0 H0 H1 locs1 → H1[q9]? = some ce → ce.vm = .none → s.vm.findClass E = some ce.cls → vx_W p l e R s m args below meth c H1 locs1 (cells + mc) (slots + ms) Q (F0 m pc ls rest) q9)
    (kk : ∀ (r : UInt64) (u : S) (t : State) (H1 : Heap) (locs1 : List Loc), t.heap = H1 → s.vm.Alike t.vm → post r u → B u t → H.size ≤ H1.size → (∀ q : Nat, q < H.size → ¬ A1 q → H1[q]? = H[q]?) → va_S A0 H0 H1 locs1 → W p l e R s m args below meth c H1 locs1 (cells + mc) (slots + ms) Q (F0 m (pc + 3) ls (.double r :: rest))) : W p l e R s m args below meth c H locs cells slots Q (F0 m pc ls st0) := by
  intro T hT X
  rcases hr T hT X with ⟨v, st₀, t, T', L, h0, X', hL, e1, e2, ⟨⟨r, u, hv, hp, hb⟩, hF⟩, st⟩ | ⟨q, st₀, t, T', L, E, ce, h0, X', hL, e1, e2, ⟨u, hp, hb, hF⟩, hce, hcv, hcl, st⟩
  · cases hv
    obtain ⟨k1, k2, k3⟩ := vx_keep h0 e1 hS hA hf hL hF
    obtain ⟨t2, a1, b1⟩ := kk r u t T'.heap (locs ++ L) e1.symm (by rw [← e2]; exact X'.warmed.alike) hp hb k1 k2 k3 T' rfl X'
    exact ⟨t2, st t2 a1, b1⟩
  · obtain ⟨k1, k2, k3⟩ := vx_keep h0 e1 hS hAX hf hL hF
    obtain ⟨t2, a1, b1⟩ := kx E ce q u t T'.heap (locs ++ L) e1.symm (by rw [← e2]; exact X'.warmed.alike) hp hb k1 k2 k3 (by rw [e1]; exact hce) hcv hcl T' rfl X'
    exact ⟨t2, st.trans a1, b1⟩
theorem vx_callv {S SX : Type} {post : S → Prop} {px : SX → Prop} {B : S → State → Prop} {BX : String → SX → State → Prop} {AX : Nat → Prop} (hr : vx_Run p l e R s m args below meth c H locs cells slots mc ms (F0 m pc ls st0) rest (va_Qv post B A1 a) (vx_X px BX AX) free) (hS : va_S A0 H0 H locs) (hA : ∀ q, q < H.size → A1 q → A0 q) (hf : ∀ q, free q → A0 q) (hAX : ∀ q, q < H.size → AX q → A0 q)
    (kx : ∀ (E : String) (ce : Cell) (q9 : Addr) (u : SX) (t : State) (H1 : Heap) (locs1 : List Loc), t.heap = H1 → s.vm.Alike t.vm → px u → BX E u t → H.size ≤ H1.size → (∀ q : Nat, q < H.size → ¬ AX q → H1[q]? = H[q]?) → va_S A0 H0 H1 locs1 → H1[q9]? = some ce → ce.vm = .none → s.vm.findClass E = some ce.cls → vx_W p l e R s m args below meth c H1 locs1 (cells + mc) (slots + ms) Q (F0 m pc ls rest) q9)
    (kk : ∀ (u : S) (t : State) (H1 : Heap) (locs1 : List Loc), t.heap = H1 → s.vm.Alike t.vm → post u → B u t → H.size ≤ H1.size → (∀ q : Nat, q < H.size → ¬ A1 q → H1[q]? = H[q]?) → va_S A0 H0 H1 locs1 → W p l e R s m args below meth c H1 locs1 (cells + mc) (slots + ms) Q (F0 m (pc + 3) ls (rest))) : W p l e R s m args below meth c H locs cells slots Q (F0 m pc ls st0) := by
  intro T hT X
  rcases hr T hT X with ⟨v, st₀, t, T', L, h0, X', hL, e1, e2, ⟨⟨u, hv, hp, hb⟩, hF⟩, st⟩ | ⟨q, st₀, t, T', L, E, ce, h0, X', hL, e1, e2, ⟨u, hp, hb, hF⟩, hce, hcv, hcl, st⟩
  · cases hv
    obtain ⟨k1, k2, k3⟩ := vx_keep h0 e1 hS hA hf hL hF
    obtain ⟨t2, a1, b1⟩ := kk u t T'.heap (locs ++ L) e1.symm (by rw [← e2]; exact X'.warmed.alike) hp hb k1 k2 k3 T' rfl X'
    exact ⟨t2, st t2 a1, b1⟩
  · obtain ⟨k1, k2, k3⟩ := vx_keep h0 e1 hS hAX hf hL hF
    obtain ⟨t2, a1, b1⟩ := kx E ce q u t T'.heap (locs ++ L) e1.symm (by rw [← e2]; exact X'.warmed.alike) hp hb k1 k2 k3 (by rw [e1]; exact hce) hcv hcl T' rfl X'
    exact ⟨t2, st.trans a1, b1⟩
/-- caught by the row x of this method's table; the rows ahead don't take it -/
theorem vx_catch {own name : String} {E : String} {ce : Cell} {q : Addr} (hown : s.vm.findClass own = some m.cls) (pre : List ExceptionTableEntry) (x : ExceptionTableEntry) (suf : List ExceptionTableEntry) (hsplit : c.exceptionTable.toList = pre ++ x :: suf)
    (hpass : ∀ z ∈ pre, covers z pc = false ∨ (z.catchType ≠ 0 ∧ ∃ nm : String, (Cond.classLink own z.catchType nm).before args s = true ∧ va_Nc E nm s)) (hx : covers x pc = true) (h0 : x.catchType ≠ 0)
    (hlink : (Cond.classLink own x.catchType name).before args s = true) (hcast : (Cond.castable E name).before args s = true) (hcell : H[q]? = some ce) (hv : ce.vm = .none) (hcl : s.vm.findClass E = some ce.cls)
    (kk : W p l e R s m args below meth c H locs cells slots Q (F0 m x.handlerPc ls [.ref q])) : vx_W p l e R s m args below meth c H locs cells slots Q (F0 m pc ls rest) q := by
  intro T hT X
  have hpl : e.platform.magicAccessors = ({} : Platform).magicAccessors := by rw [X.admits.platform]
  obtain ⟨c3, c4, hc3, hc4, hasg⟩ := Cond.castable_spec hcast
  cases Option.some.inj (hc3.symm.trans hcl)
  obtain ⟨c5, hc5, hcl5⟩ := Cond.classLink_spec hown hlink e.platform hpl
  cases Option.some.inj (hc4.symm.trans hc5)
  obtain ⟨vm', X', st⟩ := X.thenCaughtThrough q (g := F0 m pc ls rest) rfl (Steps.refl _) (by rw [hT]; exact hcell) (by rw [hv]; rfl) (by obtain ⟨k9, h9, -⟩ := Vm.findClass_spec hcl; exact ⟨k9, h9⟩) pre x suf hsplit
    (fun z hz => by
      rcases hpass z hz with h | ⟨hz0, nm, hl1, hn1⟩
      · exact Or.inl h
      · obtain ⟨c6, hc6, hcl6⟩ := Cond.classLink_spec hown hl1 e.platform hpl
        obtain ⟨a8, b8, h1, h2, h3⟩ := hn1
        cases Option.some.inj (h1.symm.trans hcl)
        cases Option.some.inj (h2.symm.trans hc6)
        exact Or.inr ⟨hz0, _, hcl6, h3⟩) hx (Or.inr ⟨h0, c4, hcl5, hasg⟩)
  obtain ⟨t, a1, b1⟩ := kk (T.setVm vm') hT X'
  exact ⟨t, st.trans a1, b1⟩
end Rows
section Ends
variable {p : Program} {l : Launch} {e : Env} {R : Room} {s : State} {m : MethodId} {args : Array Value} {below : List Frame} {meth : Method} {c : Code} {H : Heap} {locs : List Loc} {cells slots : Nat} {Q : State → Prop}
variable {mc ms : Nat} {free : Addr → Prop} {A0 A1 : Nat → Prop} {H0 : Heap} {a : Array Value} {ls : Array Slot} {st0 rest : List Value}
variable {Qc : Array Value → State → Outcome → State → Prop} {XC : String → State → State → Prop}
/-- what a body that may throw owes at its end -/
def vx_MQ (below : List Frame) (Qc : Array Value → State → Outcome → State → Prop) (XC : String → State → State → Prop) (a : Array Value) (s : State) (mc ms : Nat) (free : Addr → Prop) : State → Prop := fun t =>
  ∃ o, t.status = .running ∧ Ended t below o ∧ vx_Q Qc XC mc ms free a s o t
theorem vx_ret {g : JFrame} {mc ms : Nat} (k : W p l e R s m args below meth c H locs cells slots (MQ below Qc args s mc ms free) g) : W p l e R s m args below meth c H locs cells slots (vx_MQ below Qc XC args s mc ms free) g := by
  intro T hT X
  obtain ⟨t, a1, o, b1, b2, b3, b4⟩ := k T hT X
  exact ⟨t, a1, o, b1, b2, Or.inl ⟨b3, b4⟩⟩
/-- not caught here: it goes on to the caller -/
theorem vx_widen {g : JFrame} {q : Addr} {k n : Nat} (h1 : cells ≤ k) (h2 : slots ≤ n) (kk : vx_W p l e R s m args below meth c H locs k n Q g q) : vx_W p l e R s m args below meth c H locs cells slots Q g q := fun T hT X => kk T hT (stand_widen X h1 h2)
theorem vx_out {pc : Nat} {E : String} {ce : Cell} {q : Addr} {mc ms : Nat} (hout : ∀ x ∈ c.exceptionTable.toList, covers x pc = false) (hlocks : meth.locks = false) (hcell : H[q]? = some ce) (hv : ce.vm = .none) (hcl : s.vm.findClass E = some ce.cls)
    (hx : ∀ t : State, t.heap = H → s.vm.Alike t.vm → XC E s t) (hf : ∀ z ∈ locs, free z.base) (hc : cells ≤ mc) (hs : slots ≤ ms) :
    vx_W p l e R s m args below meth c H locs cells slots (vx_MQ below Qc XC args s mc ms free) (F0 m pc ls rest) q := by
  intro T hT X
  obtain ⟨st1, hrun, hend, hW, hsm⟩ := X.leaveThrown q (g := F0 m pc ls rest) rfl rfl rfl hout hlocks
  have hcell9 : (T.setFrames (.throwing q :: below)).heap[q]? = some ce := by
    show T.heap[q]? = some ce
    rw [hT]; exact hcell
  exact ⟨_, st1, .threw q, hrun, hend, Or.inr ⟨q, rfl, E, ce, locs, hx _ hT hW.alike, hcell9, hv, hcl, hW, hsm.mono hc hs, hf⟩⟩
theorem vx_frame {U : State} {k n : Nat} (h : s.sameButNew ({ U with vm := s.vm } : State) locs k n) : s.heap.size ≤ U.heap.size ∧ ∀ q : Nat, q < s.heap.size → (∀ z ∈ locs, z.base ≠ q) → U.heap[q]? = s.heap[q]? := by
  obtain ⟨-, h2, -, -, -, h6⟩ := h
  refine ⟨h2, fun q hq hz => ?_⟩
  obtain ⟨c9, e1, e2, e3, e4⟩ := h6 q _ (Array.getElem?_eq_getElem hq)
  have hs : c9.slots = (s.heap[q]).slots := Array.ext_getElem? fun i => e4 i fun hm => hz _ hm rfl
  have h9 : c9 = s.heap[q] := by
    rw [hs] at e2
    exact e2
  have e5 : U.heap[q]? = some c9 := e1
  rw [e5, h9, Array.getElem?_eq_getElem hq]
/-- the words of a throw but the four that speak of the heap -/
def vx_no (w : Cond) : Bool := decide (w ≠ .isRef (.static Bundle.tN "UNASSIGNED_STACK" Bundle.steD)) && decide (w ≠ .isRef (.static Bundle.tN "SUPPRESSED_SENTINEL" Bundle.listD)) && decide (w ≠ .laysStatic Bundle.tN "UNASSIGNED_STACK" Bundle.steD) && decide (w ≠ .laysStatic Bundle.tN "SUPPRESSED_SENTINEL" Bundle.listD)
def vx_at0 (own : String) (ic : Nat) (X : String) (names : List String) : List Cond := (Bundle.ownAtoms0 own ic X names).filter vx_no
def vx_atS (own : String) (ic : Nat) (X : String) (names : List String) : List Cond := (Bundle.ownAtoms own ic X names).filter vx_no
/-- a word that the tables alone decide, or a good one -/
def vx_ot (w : Cond) : Bool := w.onTables || goodWord w
theorem vx_ot_at {args a' : Array Value} {s U : State} {w : Cond} (hW : s.WarmedH U.vm) (hvm : s.vm = U.vm) (hg : vx_ot w = true) (h : w.before args s = true) : w.before a' U = true := by
  simp only [vx_ot, Bool.or_eq_true] at hg
  rcases hg with hg | hg
  · exact va_tabs hg hvm h
  · exact word_at hW (good_of_word hg) h
/-- a list's words: the good ones out of the method's own list, the others by premises of their own -/
theorem vx_hat {args : Array Value} {s : State} {L B : List Cond} (h1 : ∀ w ∈ L.filter goodWord, w.before args s = true) (h2 : ∀ w ∈ L.filter (fun w => !goodWord w), w ∈ B) (h3 : ∀ w ∈ B, w.before args s = true) : ∀ w ∈ L, w.before args s = true := by
  intro w hw
  by_cases g : goodWord w = true
  · exact h1 w (List.mem_filter.mpr ⟨hw, g⟩)
  · refine h3 w (h2 w (List.mem_filter.mpr ⟨hw, ?_⟩))
    show (!goodWord w) = true
    cases hgw : goodWord w
    · rfl
    · exact absurd hgw g
theorem vx_c {args : Array Value} {s : State} {w : Cond} {B : List Cond} (h : w.before args s = true) (t : ∀ w ∈ B, w.before args s = true) : ∀ w' ∈ w :: B, w'.before args s = true := fun w' h' => (List.mem_cons.mp h').elim (fun e => by rw [e]; exact h) (t w')
theorem vx_n {args : Array Value} {s : State} : ∀ w ∈ ([] : List Cond), w.before args s = true := fun _ h => nomatch h
theorem vx_own {args : Array Value} {s : State} {L : List Cond} (h1 : ∀ w ∈ L.filter vx_no, w.before args s = true)
    (hU : (Cond.isRef (.static Bundle.tN "UNASSIGNED_STACK" Bundle.steD)).before args s = true) (hN : (Cond.isRef (.static Bundle.tN "SUPPRESSED_SENTINEL" Bundle.listD)).before args s = true)
    (lU : (Cond.laysStatic Bundle.tN "UNASSIGNED_STACK" Bundle.steD).before args s = true) (lN : (Cond.laysStatic Bundle.tN "SUPPRESSED_SENTINEL" Bundle.listD).before args s = true) : ∀ w ∈ L, w.before args s = true := by
  intro w hw
  by_cases e1 : w = .isRef (.static Bundle.tN "UNASSIGNED_STACK" Bundle.steD)
  · rw [e1]; exact hU
  · by_cases e2 : w = .isRef (.static Bundle.tN "SUPPRESSED_SENTINEL" Bundle.listD)
    · rw [e2]; exact hN
    · by_cases e3 : w = .laysStatic Bundle.tN "UNASSIGNED_STACK" Bundle.steD
      · rw [e3]; exact lU
      · by_cases e4 : w = .laysStatic Bundle.tN "SUPPRESSED_SENTINEL" Bundle.listD
        · rw [e4]; exact lN
        · exact h1 w (List.mem_filter.mpr ⟨hw, by unfold vx_no; rw [decide_eq_true e1, decide_eq_true e2, decide_eq_true e3, decide_eq_true e4]; rfl⟩)
/-- where a static field lies, its class's statics cell in H -/
def vx_L (C n d : String) (A : Nat → Prop) (U : State) (H : Heap) : Prop := ∃ (c : ClassId) (k : Class) (i : Nat) (f : Field) (a : Nat) (cell : Cell), U.vm.findClass C = some c ∧ U.fieldFound? C n d = some (c, k, i, f) ∧ f.isStatic = true ∧ k.statics = some a ∧ H[a]? = some cell ∧ cell.vm.isStatics = true ∧ cell.cls = c ∧ f.slot < cell.slots.size ∧ k.staticTypes[f.slot]? = some f.type ∧ ¬ A a
theorem vx_L.moved {C n d : String} {A : Nat → Prop} {u U : State} {H : Heap} (hvm : u.vm.Alike U.vm) (h : vx_L C n d A u H) : vx_L C n d A U H := by
  obtain ⟨c, k, i, f, a, cell, h1, h2, h3, h4, h5, h6, h7, h8, h9, h10⟩ := h
  obtain ⟨k', hi', he⟩ := State.fieldFound?_setVm hvm h2
  exact ⟨c, k', i, f, a, cell, by rw [hvm.findClass]; exact h1, hi', h3, by rw [he]; exact h4, h5, h6, h7, h8, by rw [he]; exact h9, h10⟩
theorem vx_L.kept {C n d : String} {A : Nat → Prop} {U : State} {H H1 : Heap} (h : vx_L C n d A U H) (hq : ∀ a : Nat, a < H.size → ¬ A a → H1[a]? = H[a]?) : vx_L C n d A U H1 := by
  obtain ⟨c, k, i, f, a, cell, h1, h2, h3, h4, h5, h6, h7, h8, h9, h10⟩ := h
  exact ⟨c, k, i, f, a, cell, h1, h2, h3, h4, by rw [hq a (Array.getElem?_eq_some_iff.mp h5).1 h10]; exact h5, h6, h7, h8, h9, h10⟩
theorem vx_L.narrow {C n d : String} {A B : Nat → Prop} {U : State} {H : Heap} (h : vx_L C n d A U H) (hAB : ∀ q, B q → A q) : vx_L C n d B U H := by
  obtain ⟨c, k, i, f, a, cell, h1, h2, h3, h4, h5, h6, h7, h8, h9, h10⟩ := h
  exact ⟨c, k, i, f, a, cell, h1, h2, h3, h4, h5, h6, h7, h8, h9, fun z => h10 (hAB _ z)⟩
theorem vx_L.word {C n d : String} {A : Nat → Prop} {s : State} {args : Array Value} (h : vx_L C n d A s s.heap) : (Cond.laysStatic C n d).before args s = true := by
  obtain ⟨c, k, i, f, a, cell, h1, h2, h3, h4, h5, h6, h7, h8, h9, -⟩ := h
  show (Cond.laysStatic C n d).holds args s none s [] = true
  exact Cond.laysStatic_of h1 h2 h3 h4 h5 h6 h7 h8 h9
/-- .. and what it holds: null or some reference -/
def vx_Zq (C n d : String) (A : Nat → Prop) (U : State) (H : Heap) : Prop := va_Zq C n d A U H ∧ vx_L C n d A U H
theorem vx_Zq.moved {C n d : String} {A : Nat → Prop} {u U : State} {H : Heap} (hvm : u.vm.Alike U.vm) (h : vx_Zq C n d A u H) : vx_Zq C n d A U H := ⟨va_Zq.moved hvm h.1, vx_L.moved hvm h.2⟩
theorem vx_Zq.kept {C n d : String} {A : Nat → Prop} {U : State} {H H1 : Heap} (h : vx_Zq C n d A U H) (hq : ∀ a : Nat, a < H.size → ¬ A a → H1[a]? = H[a]?) : vx_Zq C n d A U H1 := ⟨va_Zq.kept h.1 hq, vx_L.kept h.2 hq⟩
theorem vx_Zq.narrow {C n d : String} {A B : Nat → Prop} {U : State} {H : Heap} (h : vx_Zq C n d A U H) (hAB : ∀ q, B q → A q) : vx_Zq C n d B U H := ⟨va_Zq.narrow h.1 hAB, vx_L.narrow h.2 hAB⟩
theorem vx_Zqof {args : Array Value} {s : State} {C n d : String} {A : Nat → Prop} (hl : (Cond.laysStatic C n d).before args s = true) (hini : (Cond.initialized C).before args s = true) (h : (Cond.isRef (.static C n d)).before args s = true) (hA : ∀ a : Nat, a < s.heap.size → ¬ A a) : vx_Zq C n d A s s.heap := by
  refine ⟨va_Zqof hl hini h hA, ?_⟩
  obtain ⟨c, k, i, f, a, cell, h1, h2, h3, h4, h5, h6, h7, h8, h9⟩ := Cond.laysStatic_spec hl
  exact ⟨c, k, i, f, a, cell, h1, h2, h3, h4, h5, h6, h7, h8, h9, hA a (Array.getElem?_eq_some_iff.mp h5).1⟩
theorem vx_isRef {C n d : String} {v : Value} {A : Nat → Prop} {s : State} {args : Array Value} (h : va_Z C n d v A s s.heap) (hv : v.isRef = true) : (Cond.isRef (.static C n d)).before args s = true := by
  obtain ⟨cf, kf, fi, f, a, cell, h1, h2, h3, h4, h5, h6, h7, -⟩ := h
  have he : (Term.static C n d).eval args s none [] s = some v := by
    simp [Term.eval, State.fieldNamed?, h1, h2, h4, h5, h6, h7]
  simp only [Cond.before, Cond.holds, Cond.value, he]
  cases v <;> simp_all [Value.isRef]
theorem vx_isRefq {C n d : String} {A : Nat → Prop} {s : State} {args : Array Value} (h : va_Zq C n d A s s.heap) : (Cond.isRef (.static C n d)).before args s = true := by
  rcases h with h | ⟨t, h⟩
  · exact vx_isRef h rfl
  · exact vx_isRef h rfl
/-- the same frame, seen from here: as if the method were called anew in this heap -/
theorem vx_rebase {T : State} (X : Stand p l e R s m args below meth c T locs cells slots) {R' : Room} (hf : R'.frames ≤ R.frames) (hl : R'.locals ≤ R.locals) (hc : cells + R'.cells ≤ R.cells) (hs : slots + R'.slots ≤ R.slots) :
    Stand p l e R' ((T.setVm s.vm).setFrames (.invoking m args :: below)) m args below meth c T [] 0 0 := by
  have htop : (T.setVm s.vm).topJava?.isSome := X.here.top
  have hF : ((T.setVm s.vm).setFrames (.invoking m args :: below)).frames = .invoking m args :: below := State.frames_setFrames _ (State.cur_lt_of_top htop)
  obtain ⟨g₀, hg0⟩ := Option.isSome_iff_exists.mp htop
  obtain ⟨r, hr⟩ := State.topJava?_eq_some.mp hg0
  have hl9 : e.platform.stackLimits (T.setVm s.vm).me = e.platform.stackLimits s.me := X.limits
  have hb9 : (T.setVm s.vm).me.stackBytes = s.me.stackBytes := X.bytes
  refine ⟨X.admits, X.cas, X.clock, hF, ?_, X.hears, X.method, X.code, X.here, X.tail, X.warmed, ?_, ?_, ?_⟩
  · have h := X.room
    have hU : ((T.setVm s.vm).setFrames (.invoking m args :: below)).localsInUse = s.localsInUse := by
      rw [State.localsInUse_invoking hF (meth := meth) (c := c) X.method X.code, State.localsInUse_invoking X.frames X.method X.code]
    simp only [State.hasRoom, Bool.and_eq_true, decide_eq_true_eq] at h ⊢
    obtain ⟨⟨⟨⟨h1, h2, h3, h4, h5, h6⟩, h7⟩, h8⟩, h9⟩ := h
    rw [X.frames, List.length_cons] at h2 h3
    have q1 := X.heapSize
    have q2 := X.used
    simp only [hF, hU, List.length_cons, State.stackLimits_setFrames, State.stackBytes_setFrames, hl9, hb9]
    refine ⟨⟨⟨⟨by omega, by omega, by omega, by omega, by omega, h6⟩, ?_⟩, ?_⟩, X.book⟩
    · show T.heap.size + R'.cells ≤ e.platform.maxCells
      omega
    · show T.slotsUsed + R'.slots ≤ e.platform.maxSlots
      omega
  · rw [State.stackLimits_setFrames]; rfl
  · rw [State.stackBytes_setFrames]; rfl
  · refine ⟨?_, Nat.le_refl _, Nat.le_refl _, ?_, ?_, fun a c9 h9 => ⟨c9, h9, rfl, rfl, fun _ _ => rfl⟩⟩
    · obtain ⟨t, ht, -⟩ := State.frames_cons hr
      show T.setVm s.vm = { ((T.setVm s.vm).setFrames (.invoking m args :: below)).setFrames (T.setVm s.vm).frames with heap := T.heap, slotsUsed := T.slotsUsed }
      rw [State.setFrames_setFrames, State.setFrames_self ht]
      rfl
    · show T.slotsUsed = T.slotsUsed + ((T.heap.toList.drop T.heap.size).map (·.slots.size)).sum
      rw [List.drop_eq_nil_of_le (Nat.le_of_eq Array.length_toList)]
      rfl
    · show ((T.heap.toList.drop T.heap.size).map (·.slots.size)).sum ≤ 0
      rw [List.drop_eq_nil_of_le (Nat.le_of_eq Array.length_toList)]
      exact Nat.le_refl _
/-- 'throw new E()': new; dup; invokespecial; athrow -/
theorem vx_throw0 {cc : ByteArray} {pc : Nat} (hexec : p.tables.exec = Jvm.exec) (hb : c.code = cc) (hl : l.stackTraces = false) {own cls : String} {names : List String} {ik ic mc ms : Nat} {A : Nat → Prop}
    (hown : s.vm.findClass own = some m.cls) (hcls : Bundle.fit cls = true) (hnames : ∀ n ∈ names, Bundle.fit n = true)
    (hk : (Cond.classLink own ik cls).before args s = true) (hini : (Cond.initialized cls).before args s = true) (hat : ∀ w ∈ vx_at0 own ic cls names, w.before args s = true)
    (hgood : ∀ w ∈ Cond.classLink own ik cls :: Cond.initialized cls :: vx_at0 own ic cls names, vx_ot w = true)
    (hU : vx_Zq Bundle.tN "UNASSIGNED_STACK" Bundle.steD A s s.heap) (hN : vx_Zq Bundle.tN "SUPPRESSED_SENTINEL" Bundle.listD A s s.heap) (hS : va_S A s.heap H locs) (hsize : ls.size = c.maxLocals)
    (d0 : decode cc pc = .ok (.new ik, 3)) (d3 : decode cc (pc + 3) = .ok (.dup, 1)) (d4 : decode cc (pc + 4) = .ok (.invokespecial ic, 3)) (d7 : decode cc (pc + 7) = .ok (.athrow, 1))
    (hout : ∀ x ∈ c.exceptionTable.toList, covers x (pc + 7) = false)
    (hRframes : names.length + 3 < R.frames) (hRlocals : (rest.map fun v => v.category).sum + (13 * (names.length + 1) + 42) ≤ R.locals) (hRcells : cells + 1 ≤ R.cells) (hRslots : slots + 6 ≤ R.slots) (hlocks : meth.locks = false)
    (hx : ∀ t : State, s.vm.Alike t.vm → H.size ≤ t.heap.size → (∀ q : Nat, q < H.size → t.heap[q]? = H[q]?) → XC cls s t)
    (hf : ∀ z ∈ locs, free z.base) (hc : cells + 1 ≤ mc) (hs : slots + 6 ≤ ms) :
    W p l e R s m args below meth c H locs cells slots (vx_MQ below Qc XC args s mc ms free) (F0 m pc ls rest) := by
  intro T hT X
  have htr : e.platform.stackTraces = false := (show e.platform.stackTraces = l.stackTraces by rw [X.admits.platform]).trans hl
  have Y := vx_rebase X (R' := { frames := R.frames, locals := R.locals, cells := 1, slots := 6 }) (Nat.le_refl _) (Nat.le_refl _) hRcells hRslots
  obtain ⟨s', hA⟩ : ∃ z, z = (T.setVm s.vm).setFrames (.invoking m args :: below) := ⟨_, rfl⟩
  rw [← hA] at Y
  have hvm : s'.vm = s.vm := by rw [hA]; rfl
  have hhp : s'.heap = H := by rw [hA]; exact hT
  have hW0 : s.WarmedH s'.vm := by rw [hvm]; exact State.WarmedH.refl s
  have hat' : ∀ w ∈ vx_at0 own ic cls names, w.before args s' = true := fun w hw => vx_ot_at hW0 hvm.symm (hgood w (List.mem_cons_of_mem _ (List.mem_cons_of_mem _ hw))) (hat w hw)
  have hk' : (Cond.classLink own ik cls).before args s' = true := vx_ot_at hW0 hvm.symm (hgood _ List.mem_cons_self) hk
  have hini' : (Cond.initialized cls).before args s' = true := vx_ot_at hW0 hvm.symm (hgood _ (List.mem_cons_of_mem _ List.mem_cons_self)) hini
  have hU' : vx_Zq Bundle.tN "UNASSIGNED_STACK" Bundle.steD A s' s'.heap := by rw [hhp]; exact vx_Zq.moved hW0.alike (hU.kept hS.2.1)
  have hN' : vx_Zq Bundle.tN "SUPPRESSED_SENTINEL" Bundle.listD A s' s'.heap := by rw [hhp]; exact vx_Zq.moved hW0.alike (hN.kept hS.2.1)
  have h : ∀ w ∈ Bundle.ownAtoms0 own ic cls names, w.before args s' = true := vx_own hat' (vx_isRefq hU'.1) (vx_isRefq hN'.1) hU'.2.word hN'.2.word
  have hown' : s'.vm.findClass own = some m.cls := by rw [hvm]; exact hown
  have hins : (Cond.instantiable cls 6).before args s' = true := h _ (by simp [Bundle.ownAtoms0])
  obtain ⟨vm₁, cX, kX, hfX, hkX, -, -, X₁, st1⟩ := Y.newCold hexec (own := own) (C := cls) (index := ik) (n := 6) hown' hk' hins hini'
    (g := F0 m pc ls rest) rfl (by rw [hb]; exact d0) (Nat.le_refl _) (Nat.le_refl _)
  generalize hT1 : (T.setVm vm₁).pushCell { cls := cX, slots := kX.instanceTypes.map defaultValue, vm := .none } = T1 at X₁ st1
  have hcat : (Value.ref T.heap.size).category = 1 := rfl
  have hcellA : T1.heap[T.heap.size]? = some (freshCell cX kX) := by rw [← hT1]; exact State.heap_pushCell_size _ _
  have d3' : decode c.code (pc + 3) = .ok (.dup, 1) := by rw [hb]; exact d3
  obtain ⟨U, hsteps, hrun, hend, hW, hsame, ce, hce, hO⟩ := X₁.ctorThrow0 hexec htr (own := own) (cls := cls) (names := names) (ic := ic) hown' hcls hnames h (fun x hx => nomatch hx) hfX hkX hcellA (by rw [hhp, hT]; exact Nat.le_refl _)
    (g := { method := m, pc := pc + 4, locals := ls, stack := .ref T.heap.size :: .ref T.heap.size :: rest, locked := none }) rfl hsize rfl rfl (rest := rest) rfl
    (by rw [hb]; exact d4) (by rw [hb]; exact d7) hout hRframes (by simp only [List.map_cons, List.sum_cons, hcat]; omega) hlocks
  obtain ⟨f1, f2⟩ := vx_frame hsame
  rw [hhp] at f1 f2
  have hWs : s.WarmedH U.vm := State.WarmedH.trans hW0 hW
  have hcl : s.vm.findClass cls = some ce.cls := by
    have h9 := hO.cls
    rw [hvm] at h9
    exact h9
  have hall : s.sameButNew ({ U with vm := s.vm } : State) locs mc ms := by
    subst hA
    obtain ⟨e1, e2⟩ := hsame
    rw [State.setFrames_setFrames] at e1
    have h2 : (T.setVm s.vm).sameButNew ({ U with vm := s.vm } : State) [] (0 + 1) (0 + 6) := ⟨e1, e2⟩
    have h3 := X.same.trans h2
    rw [List.append_nil] at h3
    exact h3.mono hc hs
  refine ⟨U, ?_, .threw T.heap.size, hrun, hend, Or.inr ⟨T.heap.size, rfl, cls, ce, locs, hx U hWs.alike f1 (fun q hq => f2 q hq (fun z hz => nomatch hz)), hce, hO.vm, hcl, hWs, hall, hf⟩⟩
  refine st1 _ ?_
  show Steps p.tables e below (T1.setTop { method := m, pc := pc + 3, locals := ls, stack := .ref T.heap.size :: rest, locked := none }) _
  jvm_step X₁.here [X₁.here.top, hexec, d3', Value.category]
  exact hsteps
/-- 'throw new E("text")': new; dup; ldc; invokespecial; athrow -/
theorem vx_throwS {cc : ByteArray} {pc : Nat} (hexec : p.tables.exec = Jvm.exec) (hb : c.code = cc) (hl : l.stackTraces = false) {own cls text : String} {names : List String} {ik is ic mc ms sa : Nat} {A : Nat → Prop}
    (hown : s.vm.findClass own = some m.cls) (hcls : Bundle.fit cls = true) (hnames : ∀ n ∈ names, Bundle.fit n = true)
    (hk : (Cond.classLink own ik cls).before args s = true) (hini : (Cond.initialized cls).before args s = true) (hstr : vk_R own is text sa s) (hat : ∀ w ∈ vx_atS own ic cls names, w.before args s = true)
    (hgood : ∀ w ∈ Cond.classLink own ik cls :: Cond.initialized cls :: vx_atS own ic cls names, vx_ot w = true)
    (hU : vx_Zq Bundle.tN "UNASSIGNED_STACK" Bundle.steD A s s.heap) (hN : vx_Zq Bundle.tN "SUPPRESSED_SENTINEL" Bundle.listD A s s.heap) (hS : va_S A s.heap H locs) (hsize : ls.size = c.maxLocals)
    (d0 : decode cc pc = .ok (.new ik, 3)) (d3 : decode cc (pc + 3) = .ok (.dup, 1)) (d4 : decode cc (pc + 4) = .ok (.ldc is, 2)) (d6 : decode cc (pc + 6) = .ok (.invokespecial ic, 3)) (d9 : decode cc (pc + 9) = .ok (.athrow, 1))
    (hout : ∀ x ∈ c.exceptionTable.toList, covers x (pc + 9) = false)
    (hRframes : names.length + 3 < R.frames) (hRlocals : (rest.map fun v => v.category).sum + (13 * (names.length + 1) + 43) ≤ R.locals) (hRcells : cells + 1 ≤ R.cells) (hRslots : slots + 6 ≤ R.slots) (hlocks : meth.locks = false)
    (hx : ∀ t : State, s.vm.Alike t.vm → H.size ≤ t.heap.size → (∀ q : Nat, q < H.size → t.heap[q]? = H[q]?) → XC cls s t)
    (hf : ∀ z ∈ locs, free z.base) (hc : cells + 1 ≤ mc) (hs : slots + 6 ≤ ms) :
    W p l e R s m args below meth c H locs cells slots (vx_MQ below Qc XC args s mc ms free) (F0 m pc ls rest) := by
  intro T hT X
  have htr : e.platform.stackTraces = false := (show e.platform.stackTraces = l.stackTraces by rw [X.admits.platform]).trans hl
  have Y := vx_rebase X (R' := { frames := R.frames, locals := R.locals, cells := 1, slots := 6 }) (Nat.le_refl _) (Nat.le_refl _) hRcells hRslots
  obtain ⟨s', hA⟩ : ∃ z, z = (T.setVm s.vm).setFrames (.invoking m args :: below) := ⟨_, rfl⟩
  rw [← hA] at Y
  have hvm : s'.vm = s.vm := by rw [hA]; rfl
  have hhp : s'.heap = H := by rw [hA]; exact hT
  have hW0 : s.WarmedH s'.vm := by rw [hvm]; exact State.WarmedH.refl s
  have hat' : ∀ w ∈ vx_atS own ic cls names, w.before args s' = true := fun w hw => vx_ot_at hW0 hvm.symm (hgood w (List.mem_cons_of_mem _ (List.mem_cons_of_mem _ hw))) (hat w hw)
  have hk' : (Cond.classLink own ik cls).before args s' = true := vx_ot_at hW0 hvm.symm (hgood _ List.mem_cons_self) hk
  have hini' : (Cond.initialized cls).before args s' = true := vx_ot_at hW0 hvm.symm (hgood _ (List.mem_cons_of_mem _ List.mem_cons_self)) hini
  have hU' : vx_Zq Bundle.tN "UNASSIGNED_STACK" Bundle.steD A s' s'.heap := by rw [hhp]; exact vx_Zq.moved hW0.alike (hU.kept hS.2.1)
  have hN' : vx_Zq Bundle.tN "SUPPRESSED_SENTINEL" Bundle.listD A s' s'.heap := by rw [hhp]; exact vx_Zq.moved hW0.alike (hN.kept hS.2.1)
  have h : ∀ w ∈ Bundle.ownAtoms own ic cls names, w.before args s' = true := vx_own hat' (vx_isRefq hU'.1) (vx_isRefq hN'.1) hU'.2.word hN'.2.word
  have hown' : s'.vm.findClass own = some m.cls := by rw [hvm]; exact hown
  have hins : (Cond.instantiable cls 6).before args s' = true := h _ (by simp [Bundle.ownAtoms])
  obtain ⟨vm₁, cX, kX, hfX, hkX, -, -, X₁, st1⟩ := Y.newCold hexec (own := own) (C := cls) (index := ik) (n := 6) hown' hk' hins hini'
    (g := F0 m pc ls rest) rfl (by rw [hb]; exact d0) (Nat.le_refl _) (Nat.le_refl _)
  generalize hT1 : (T.setVm vm₁).pushCell { cls := cX, slots := kX.instanceTypes.map defaultValue, vm := .none } = T1 at X₁ st1
  have hcat : (Value.ref T.heap.size).category = 1 := rfl
  have hcellA : T1.heap[T.heap.size]? = some (freshCell cX kX) := by rw [← hT1]; exact State.heap_pushCell_size _ _
  have d3' : decode c.code (pc + 3) = .ok (.dup, 1) := by rw [hb]; exact d3
  have d4' : decode c.code (pc + 4) = .ok (.ldc is, 2) := by rw [hb]; exact d4
  have hstr' : vk_R own is text sa s' := vk_R.warm hW0 hstr
  obtain ⟨U, hsteps, hrun, hend, hW, hsame, ce, hce, hO⟩ := X₁.ctorThrowS hexec htr (own := own) (cls := cls) (names := names) (ic := ic) hown' hcls hnames h (fun x hx => nomatch hx) hfX hkX hcellA (by rw [hhp, hT]; exact Nat.le_refl _) (msg := .ref sa) rfl
    (g := { method := m, pc := pc + 6, locals := ls, stack := .ref sa :: .ref T.heap.size :: .ref T.heap.size :: rest, locked := none }) rfl hsize rfl rfl (rest := rest) rfl
    (by rw [hb]; exact d6) (by rw [hb]; exact d9) hout hRframes (by simp only [List.map_cons, List.sum_cons, hcat]; omega) hlocks
  obtain ⟨f1, f2⟩ := vx_frame hsame
  rw [hhp] at f1 f2
  have hWs : s.WarmedH U.vm := State.WarmedH.trans hW0 hW
  have hcl : s.vm.findClass cls = some ce.cls := by
    have h9 := hO.cls
    rw [hvm] at h9
    exact h9
  have hall : s.sameButNew ({ U with vm := s.vm } : State) locs mc ms := by
    subst hA
    obtain ⟨e1, e2⟩ := hsame
    rw [State.setFrames_setFrames] at e1
    have h2 : (T.setVm s.vm).sameButNew ({ U with vm := s.vm } : State) [] (0 + 1) (0 + 6) := ⟨e1, e2⟩
    have h3 := X.same.trans h2
    rw [List.append_nil] at h3
    exact h3.mono hc hs
  refine ⟨U, ?_, .threw T.heap.size, hrun, hend, Or.inr ⟨T.heap.size, rfl, cls, ce, locs, hx U hWs.alike f1 (fun q hq => f2 q hq (fun z hz => nomatch hz)), hce, hO.vm, hcl, hWs, hall, hf⟩⟩
  refine st1 _ ?_
  show Steps p.tables e below (T1.setTop { method := m, pc := pc + 3, locals := ls, stack := .ref T.heap.size :: rest, locked := none }) _
  jvm_step X₁.here [X₁.here.top, hexec, d3', Value.category]
  exact X₁.ldcString hexec (own := own) (text := text) (index := is) (a := sa) hown' hstr'.1 hstr'.2
    (g := { method := m, pc := pc + 4, locals := ls, stack := .ref T.heap.size :: .ref T.heap.size :: rest, locked := none }) rfl d4' _ hsteps
/-- 'throw new E("text")', the text by a wide index -/
theorem vx_throwSW {cc : ByteArray} {pc : Nat} (hexec : p.tables.exec = Jvm.exec) (hb : c.code = cc) (hl : l.stackTraces = false) {own cls text : String} {names : List String} {ik is ic mc ms sa : Nat} {A : Nat → Prop}
    (hown : s.vm.findClass own = some m.cls) (hcls : Bundle.fit cls = true) (hnames : ∀ n ∈ names, Bundle.fit n = true)
    (hk : (Cond.classLink own ik cls).before args s = true) (hini : (Cond.initialized cls).before args s = true) (hstr : vk_R own is text sa s) (hat : ∀ w ∈ vx_atS own ic cls names, w.before args s = true)
    (hgood : ∀ w ∈ Cond.classLink own ik cls :: Cond.initialized cls :: vx_atS own ic cls names, vx_ot w = true)
    (hU : vx_Zq Bundle.tN "UNASSIGNED_STACK" Bundle.steD A s s.heap) (hN : vx_Zq Bundle.tN "SUPPRESSED_SENTINEL" Bundle.listD A s s.heap) (hS : va_S A s.heap H locs) (hsize : ls.size = c.maxLocals)
    (d0 : decode cc pc = .ok (.new ik, 3)) (d3 : decode cc (pc + 3) = .ok (.dup, 1)) (d4 : decode cc (pc + 4) = .ok (.ldc_w is, 3)) (d7 : decode cc (pc + 7) = .ok (.invokespecial ic, 3)) (d10 : decode cc (pc + 10) = .ok (.athrow, 1))
    (hout : ∀ x ∈ c.exceptionTable.toList, covers x (pc + 10) = false)
    (hRframes : names.length + 3 < R.frames) (hRlocals : (rest.map fun v => v.category).sum + (13 * (names.length + 1) + 43) ≤ R.locals) (hRcells : cells + 1 ≤ R.cells) (hRslots : slots + 6 ≤ R.slots) (hlocks : meth.locks = false)
    (hx : ∀ t : State, s.vm.Alike t.vm → H.size ≤ t.heap.size → (∀ q : Nat, q < H.size → t.heap[q]? = H[q]?) → XC cls s t)
    (hf : ∀ z ∈ locs, free z.base) (hc : cells + 1 ≤ mc) (hs : slots + 6 ≤ ms) :
    W p l e R s m args below meth c H locs cells slots (vx_MQ below Qc XC args s mc ms free) (F0 m pc ls rest) := by
  intro T hT X
  have htr : e.platform.stackTraces = false := (show e.platform.stackTraces = l.stackTraces by rw [X.admits.platform]).trans hl
  have Y := vx_rebase X (R' := { frames := R.frames, locals := R.locals, cells := 1, slots := 6 }) (Nat.le_refl _) (Nat.le_refl _) hRcells hRslots
  obtain ⟨s', hA⟩ : ∃ z, z = (T.setVm s.vm).setFrames (.invoking m args :: below) := ⟨_, rfl⟩
  rw [← hA] at Y
  have hvm : s'.vm = s.vm := by rw [hA]; rfl
  have hhp : s'.heap = H := by rw [hA]; exact hT
  have hW0 : s.WarmedH s'.vm := by rw [hvm]; exact State.WarmedH.refl s
  have hat' : ∀ w ∈ vx_atS own ic cls names, w.before args s' = true := fun w hw => vx_ot_at hW0 hvm.symm (hgood w (List.mem_cons_of_mem _ (List.mem_cons_of_mem _ hw))) (hat w hw)
  have hk' : (Cond.classLink own ik cls).before args s' = true := vx_ot_at hW0 hvm.symm (hgood _ List.mem_cons_self) hk
  have hini' : (Cond.initialized cls).before args s' = true := vx_ot_at hW0 hvm.symm (hgood _ (List.mem_cons_of_mem _ List.mem_cons_self)) hini
  have hU' : vx_Zq Bundle.tN "UNASSIGNED_STACK" Bundle.steD A s' s'.heap := by rw [hhp]; exact vx_Zq.moved hW0.alike (hU.kept hS.2.1)
  have hN' : vx_Zq Bundle.tN "SUPPRESSED_SENTINEL" Bundle.listD A s' s'.heap := by rw [hhp]; exact vx_Zq.moved hW0.alike (hN.kept hS.2.1)
  have h : ∀ w ∈ Bundle.ownAtoms own ic cls names, w.before args s' = true := vx_own hat' (vx_isRefq hU'.1) (vx_isRefq hN'.1) hU'.2.word hN'.2.word
  have hown' : s'.vm.findClass own = some m.cls := by rw [hvm]; exact hown
  have hins : (Cond.instantiable cls 6).before args s' = true := h _ (by simp [Bundle.ownAtoms])
  obtain ⟨vm₁, cX, kX, hfX, hkX, -, -, X₁, st1⟩ := Y.newCold hexec (own := own) (C := cls) (index := ik) (n := 6) hown' hk' hins hini'
    (g := F0 m pc ls rest) rfl (by rw [hb]; exact d0) (Nat.le_refl _) (Nat.le_refl _)
  generalize hT1 : (T.setVm vm₁).pushCell { cls := cX, slots := kX.instanceTypes.map defaultValue, vm := .none } = T1 at X₁ st1
  have hcat : (Value.ref T.heap.size).category = 1 := rfl
  have hcellA : T1.heap[T.heap.size]? = some (freshCell cX kX) := by rw [← hT1]; exact State.heap_pushCell_size _ _
  have d3' : decode c.code (pc + 3) = .ok (.dup, 1) := by rw [hb]; exact d3
  have d4' : decode c.code (pc + 4) = .ok (.ldc_w is, 3) := by rw [hb]; exact d4
  have hstr' : vk_R own is text sa s' := vk_R.warm hW0 hstr
  obtain ⟨U, hsteps, hrun, hend, hW, hsame, ce, hce, hO⟩ := X₁.ctorThrowS hexec htr (own := own) (cls := cls) (names := names) (ic := ic) hown' hcls hnames h (fun x hx => nomatch hx) hfX hkX hcellA (by rw [hhp, hT]; exact Nat.le_refl _) (msg := .ref sa) rfl
    (g := { method := m, pc := pc + 7, locals := ls, stack := .ref sa :: .ref T.heap.size :: .ref T.heap.size :: rest, locked := none }) rfl hsize rfl rfl (rest := rest) rfl
    (by rw [hb]; exact d7) (by rw [hb]; exact d10) hout hRframes (by simp only [List.map_cons, List.sum_cons, hcat]; omega) hlocks
  obtain ⟨f1, f2⟩ := vx_frame hsame
  rw [hhp] at f1 f2
  have hWs : s.WarmedH U.vm := State.WarmedH.trans hW0 hW
  have hcl : s.vm.findClass cls = some ce.cls := by
    have h9 := hO.cls
    rw [hvm] at h9
    exact h9
  have hall : s.sameButNew ({ U with vm := s.vm } : State) locs mc ms := by
    subst hA
    obtain ⟨e1, e2⟩ := hsame
    rw [State.setFrames_setFrames] at e1
    have h2 : (T.setVm s.vm).sameButNew ({ U with vm := s.vm } : State) [] (0 + 1) (0 + 6) := ⟨e1, e2⟩
    have h3 := X.same.trans h2
    rw [List.append_nil] at h3
    exact h3.mono hc hs
  refine ⟨U, ?_, .threw T.heap.size, hrun, hend, Or.inr ⟨T.heap.size, rfl, cls, ce, locs, hx U hWs.alike f1 (fun q hq => f2 q hq (fun z hz => nomatch hz)), hce, hO.vm, hcl, hWs, hall, hf⟩⟩
  refine st1 _ ?_
  show Steps p.tables e below (T1.setTop { method := m, pc := pc + 3, locals := ls, stack := .ref T.heap.size :: rest, locked := none }) _
  jvm_step X₁.here [X₁.here.top, hexec, d3', Value.category]
  exact X₁.ldcStringW hexec (own := own) (text := text) (index := is) (a := sa) hown' hstr'.1 hstr'.2
    (g := { method := m, pc := pc + 4, locals := ls, stack := .ref T.heap.size :: .ref T.heap.size :: rest, locked := none }) rfl d4' _ hsteps
end Ends
section Bodies
variable {l : Launch}
theorem vx_ofW {y : MethodName} {ws ws' : List Cond} {rm : Room} {Pc : Array Value → State → Prop} {Qc : Array Value → State → Outcome → State → Prop} {XC : String → State → State → Prop} {mc ms : Nat} {free : Addr → Prop} {cc : ByteArray} {maxL : Nat} {ret : Option FieldType}
    (hy : plainName y.cls = true) (hw : ws = Cond.code y cc maxL ret :: ws')
    (body : ∀ p e s m args below meth c s₁, BodyLoose p l y (headSpec ws rm) cc maxL ret e s m args below meth c s₁ → c.maxLocals = maxL → (∀ x ∈ c.exceptionTable.toList, False) → Pc args s →
      W p l e (headSpec ws rm).room s m args below meth c s.heap [] 0 0 (vx_MQ below Qc XC args s mc ms free) (entryFrame m args maxL)) : vx_Met l y ws rm Pc Qc XC mc ms free := by
  refine MetFree.of_bodyS (code := cc) (maxLocals := maxL) (ret := ret) hy ?_ ?_
  · intro args s m h hn
    obtain ⟨meth, c, h1, h2, h3, h4, h5, h6, -, -⟩ := Cond.code_spec hn (atoms_spec (ws := ws) h _ (by rw [hw]; exact List.mem_cons_self))
    exact ⟨meth, c, h1, h2, h3, h4, h5, h6⟩
  · intro p e s m args below meth c s₁ B hml hP _
    have hh0 : s₁.heap = s.heap := by rw [B.state]; rfl
    have ht : ∀ x ∈ c.exceptionTable.toList, False := by
      obtain ⟨meth9, c9, h1, h2, -, -, -, -, h7, -⟩ := Cond.code_spec B.named (atoms_spec (ws := ws) B.pre _ (by rw [hw]; exact List.mem_cons_self))
      cases Option.some.inj (h1.symm.trans B.method)
      cases Option.some.inj (h2.symm.trans (Stand.of_body B).code)
      intro x hx
      rw [Array.isEmpty_iff.mp h7] at hx
      cases hx
    obtain ⟨t, a1, o, b1, b2, b3⟩ := body p e s m args below meth c s₁ B hml ht hP s₁ hh0 (Stand.of_body B)
    exact ⟨t, o, a1, b1, b2, b3⟩
/-- the table of a body with handlers -/
theorem vx_table {p : Program} {x y : MethodName} {S : Spec} {cc bytes : ByteArray} {maxL maxL' : Nat} {ret ret' : Option FieldType} {e : Env} {s s₁ : State} {m : MethodId} {args : Array Value} {below : List Frame} {meth : Method} {c : Code} {hh : List (Nat × Nat × Nat × Nat)}
    (B : BodyLoose p l y S cc maxL ret e s m args below meth c s₁) (h : (Cond.codeWith y bytes maxL' ret' hh).before args s = true) : c.exceptionTable.toList = tableOf hh := by
  obtain ⟨m9, meth9, c9, hn9, h1, h2, -, -, h6, -⟩ := Cond.codeWith_spec h
  cases Option.some.inj (hn9.symm.trans B.named)
  cases Option.some.inj (h1.symm.trans B.method)
  cases Option.some.inj (h2.symm.trans (Stand.of_body B).code)
  rw [← h6, table_eq]
end Bodies
end VXA
/-! ===== END ===== -/
/-! ===== BEGIN a static call of a method with an exception table ===== -/
section VXS
variable {p : Program} {l : Launch} {e : Env} {R : Room} {s : State} {m : MethodId} {args : Array Value} {below : List Frame} {meth : Method} {c : Code} {T : State} {H : Heap} {locs : List Loc} {cells slots : Nat}
abbrev vx_CSW (R : Room) (s : State) (args : Array Value) (own : String) (index : Nat) (y : MethodName) (bytes : ByteArray) (maxL : Nat) (ret : Option FieldType) (hh : List (Nat × Nat × Nat × Nat)) (ws : List Cond) (rm : Room) (mc ms n : Nat) : Prop :=
  (rm.cells = mc ∧ rm.slots = ms ∧ rm.frames + 1 ≤ R.frames ∧ 8 + (maxL + 11) + rm.locals ≤ R.locals ∧ (∀ w ∈ ws, ∀ (a' : Array Value) (U : State), s.WarmedH U.vm → w.before a' U = true) ∧ Cond.codeWith y bytes maxL ret hh ∈ ws) ∧
  (Cond.codeWith y bytes maxL ret hh).before args s = true ∧ (Cond.initialized y.cls).before args s = true ∧ (y.cls ≠ "java/lang/invoke/MethodHandle" ∧ y.cls ≠ "java/lang/invoke/VarHandle") ∧
  (∀ sig, parseMethodDescriptor y.desc = some sig → n = sig.parameters.length) ∧ (Cond.methodLink own index y).before args s = true ∧ (Cond.static y).before args s = true
theorem vx_cwSW {own : String} {index maxL mc ms : Nat} {y : MethodName} {bytes : ByteArray} {ret : Option FieldType} {hh : List (Nat × Nat × Nat × Nat)} {Ts ws ws' : List Cond} {rm : Room} (n : Nat) (ht : ∀ w ∈ Ts, w.before args s = true) (hT : GoodIn Ts (va_wsS own index y ws)) (hw : ws = Cond.codeWith y bytes maxL ret hh :: ws') (hrc : rm.cells = mc) (hrs : rm.slots = ms)
    (hd : y.cls ≠ "java/lang/invoke/MethodHandle" ∧ y.cls ≠ "java/lang/invoke/VarHandle" ∧ (parseMethodDescriptor y.desc).map (fun d => d.parameters.length) = some n) (hR : rm.frames + 1 ≤ R.frames ∧ 8 + (maxL + 11) + rm.locals ≤ R.locals) :
    vx_CSW R s args own index y bytes maxL ret hh ws rm mc ms n := by
  have ok : ∀ w ∈ va_wsS own index y ws, w.before args s = true := fun w h => ht w (hT w h).1
  have hG : GoodIn Ts ws := fun w h => hT w (by unfold va_wsS; exact List.mem_append_right _ h)
  have hc : Cond.codeWith y bytes maxL ret hh ∈ ws := by rw [hw]; exact List.mem_cons_self
  refine ⟨⟨hrc, hrs, hR.1, hR.2, pay_in ht hG, hc⟩, ht _ (hG _ hc).1, ok _ (by simp [va_wsS]), ⟨hd.1, hd.2.1⟩, fun sig h => ?_, ok _ (by simp [va_wsS]), ok _ (by simp [va_wsS])⟩
  have h2 := hd.2.2
  rw [h] at h2
  exact (Option.some.inj h2).symm
theorem vx_callSW (X : Stand p l e R s m args below meth c T locs cells slots) (hexec : p.tables.exec = Jvm.exec) {own : String} {index : Nat} {y : MethodName} {bytes : ByteArray} {maxL : Nat} {ret : Option FieldType} {hh : List (Nat × Nat × Nat × Nat)}
    (hown : s.vm.findClass own = some m.cls) (hlink : (Cond.methodLink own index y).before args s = true) (hstat : (Cond.static y).before args s = true) (hinit : (Cond.initialized y.cls).before args s = true)
    (hcode : (Cond.codeWith y bytes maxL ret hh).before args s = true) (hy : y.cls ≠ "java/lang/invoke/MethodHandle" ∧ y.cls ≠ "java/lang/invoke/VarHandle")
    {W9 : Nat} {Pre : Pt → Array Value → Prop} {Post : Pt → Array Value → Option Value → Pt → Prop} (hK : Back l R p e below s args y 3 W9 Pre Post)
    {g : JFrame} (hg : g.method = m) (hsize : g.locals.size = c.maxLocals) {argsL rest : List Value} (hlen : ∀ sig, parseMethodDescriptor y.desc = some sig → argsL.length = sig.parameters.length)
    (hstack : g.stack = argsL.reverse ++ rest) (hW : 2 * g.monitorRoom + (rest.map fun v => v.category).sum ≤ W9) (hdg : decode c.code g.pc = .ok (.invokestatic index, 3))
    (hpre : ∀ vm₁, s.WarmedH vm₁ → Pre ⟨T.setVm vm₁, locs, cells, slots⟩ argsL.toArray) :
    ∃ (v : Option Value) (vm₁ : Vm) (B : Pt), s.WarmedH vm₁ ∧ Stand p l e R s m args below meth c B.U B.locs B.cells B.slots ∧ Post ⟨T.setVm vm₁, locs, cells, slots⟩ argsL.toArray v B ∧
      ∀ target, Steps p.tables e below (B.U.setTop { g with pc := g.pc + 3, stack := v.toList ++ rest }) target → Steps p.tables e below (T.setTop g) target := by
  obtain ⟨mk, methM, cM, hnamed, hmethM, -, -, -, -, -, -, hsigM⟩ := Cond.codeWith_spec hcode
  have hstatic : methM.isStatic = true := Cond.static_spec hnamed hmethM hstat
  obtain ⟨kP, hkP, -⟩ := className_of_methodNamed hnamed
  have hinitP : kP.init = .initialized := Cond.initialized_spec (findClass_of_methodNamed hnamed) hkP hinit
  obtain ⟨vm₁, X₁, hstep₁⟩ := X.invokestatic hexec hown hlink hnamed hmethM hstatic hkP hinitP hy (g := g) hg (argsL := argsL) (rest := rest) (hlen _ hsigM) hstack hdg
  obtain ⟨v, B, X', hpost, hsteps⟩ := hK m meth c ⟨T.setVm vm₁, locs, cells, slots⟩ { g with stack := rest } (.invokestatic index) mk argsL.toArray X₁ hg hsize hdg hW (X₁.named hnamed) (hpre vm₁ X₁.warmed)
  exact ⟨v, vm₁, B, X₁.warmed, X', hpost, fun target h => hstep₁ _ fun acts => by rw [doInvoke_state]; exact hsteps.trans h⟩
theorem vx_runSW {y : MethodName} {bytes cc : ByteArray} {maxL nL mc ms n index : Nat} {ret : Option FieldType} {hh : List (Nat × Nat × Nat × Nat)} {ws : List Cond} {rm : Room} {Pc : Array Value → State → Prop} {Qc : Array Value → State → Outcome → State → Prop} {free : Addr → Prop} {Ts : List Cond} {own : String} {As rest : List Value} {g : JFrame}
    (S : CallFix p m c cc nL s args Ts own) (hM : Met l y ws rm Pc Qc mc ms free) (cw : vx_CSW R s args own index y bytes maxL ret hh ws rm mc ms n) (hp : PreS s H Pc As)
    (hg : g.method = m) (hn : As.length = n) (hsize : g.locals.size = nL) (hstack : g.stack = As.reverse ++ rest) (hW : 2 * g.monitorRoom + (rest.map fun v => v.category).sum ≤ 8) (hdg : decode cc g.pc = .ok (.invokestatic index, 3)) (hf : cells + mc ≤ R.cells ∧ slots + ms ≤ R.slots) :
    va_Run p l e R s m args below meth c H locs cells slots mc ms g rest (Qc As.toArray) (free) := by
  obtain ⟨⟨hrc, hrs, hfr, hlo, hws, hcw⟩, hcode, hini, hy, hlen, hl, hstt⟩ := cw
  have hK : Back l R p e below s args y 3 8 (PreOf R mc ms Pc) (PostOf Qc mc ms free) := va_backW (hh := hh) (bytes := bytes) (maxL := maxL) (ret := ret) hM hp.1 hrc hrs hfr hlo hws hcw (fun a' U hW => word_at hW (Or.inl (by first | rfl | simp [Cond.onTables, Cond.keeps, Cond.steady])) hini)
  obtain ⟨hx, hb, hml, ho, -⟩ := S
  intro T hT X
  obtain ⟨v, vm₁, ⟨U', l2, c2, s2⟩, hW₁, X', ⟨g', mk, t, L, e1, e2, hq, h1, hL, h2, h3⟩, st⟩ := vx_callSW X hx (hh := hh) (bytes := bytes) (maxL := maxL) (ret := ret) ho hl hstt hini hcode hy hK hg (hsize.trans hml.symm) (argsL := As) (rest := rest) (fun sig h => hn.trans (hlen sig h)) hstack hW (by rw [hb]; exact hdg)
    (fun vm₁ hW₁ => ⟨hf.1, hf.2, hp.2 (T.setVm vm₁) hT hW₁⟩)
  dsimp only [Pt.U, Pt.locs, Pt.cells, Pt.slots] at X' e1 e2 h1 h2 h3 st
  subst h1; subst h2; subst h3
  exact ⟨v, (T.setVm vm₁).calling g' mk As.toArray, t, U', L, hT, X', hL, e1, e2, hq, st⟩
/-- not caught here, past rows that name other classes: it goes on to the caller -/
theorem vx_outP {p : Program} {l : Launch} {e : Env} {R : Room} {s : State} {m : MethodId} {args : Array Value} {below : List Frame} {meth : Method} {c : Code} {H : Heap} {locs : List Loc} {cells slots : Nat} {free : Addr → Prop} {ls : Array Slot} {rest : List Value} {Qc : Array Value → State → Outcome → State → Prop} {XC : String → State → State → Prop}
    {pc : Nat} {own E : String} {ce : Cell} {q : Addr} {mc ms : Nat} (hown : s.vm.findClass own = some m.cls) (hlocks : meth.locks = false)
    (hpass : ∀ z ∈ c.exceptionTable.toList, covers z pc = false ∨ (z.catchType ≠ 0 ∧ ∃ nm : String, (Cond.classLink own z.catchType nm).before args s = true ∧ va_Nc E nm s)) (hcell : H[q]? = some ce) (hv : ce.vm = .none) (hcl : s.vm.findClass E = some ce.cls)
    (hx : ∀ t : State, t.heap = H → s.vm.Alike t.vm → XC E s t) (hf : ∀ z ∈ locs, free z.base) (hc : cells ≤ mc) (hs : slots ≤ ms) :
    vx_W p l e R s m args below meth c H locs cells slots (vx_MQ below Qc XC args s mc ms free) (F0 m pc ls rest) q := by
  intro T hT X
  have hpl : e.platform.magicAccessors = ({} : Platform).magicAccessors := by rw [X.admits.platform]
  obtain ⟨vm', hW', X', st⟩ := X.outThrough hlocks q (g := F0 m pc ls rest) rfl rfl rfl (cell := ce) (by rw [hT]; exact hcell) (by rw [hv]; rfl)
    (by obtain ⟨k9, h9, -⟩ := Vm.findClass_spec hcl; exact ⟨k9, h9⟩) (fun z hz => by
      rcases hpass z hz with h | ⟨hz0, nm, hl1, hn1⟩
      · exact Or.inl h
      · obtain ⟨c6, hc6, hcl6⟩ := Cond.classLink_spec hown hl1 e.platform hpl
        obtain ⟨a8, b8, h1, h2, h3⟩ := hn1
        cases Option.some.inj (h1.symm.trans hcl)
        cases Option.some.inj (h2.symm.trans hc6)
        exact Or.inr ⟨hz0, _, hcl6, h3⟩)
  obtain ⟨g₀, hfr⟩ := X'.frames_eq
  have hcell9 : ((T.setVm vm').setFrames (.throwing q :: below)).heap[q]? = some ce := by
    show T.heap[q]? = some ce
    rw [hT]; exact hcell
  have hend : Ended ((T.setVm vm').setFrames (.throwing q :: below)) below (.threw q) := State.frames_setFrames _ (State.cur_lt_of_frames hfr)
  refine ⟨(T.setVm vm').setFrames (.throwing q :: below), ?_, .threw q, X'.here.running, hend, Or.inr ⟨q, rfl, E, ce, locs, hx _ hT (X'.ends _).1.alike, hcell9, hv, hcl, (X'.ends _).1, (X'.ends _).2.mono hc hs, hf⟩⟩
  rw [X.pushThrowing_eq]
  exact st
/-- a thing of a world lies in the heap -/
theorem vx_lt {D : va_G} {cl : List vw_C} {ws : va_W} {H1 : Heap} (h : va_P D cl ws H1) {k : Nat} {q : Nat × va_E} (hk : ws[k]? = some q) : q.1 < H1.size := (h k q hk).lt
end VXS
/-! ===== END ===== -/
/-! ===== BEGIN methods with a table of their own: called by a name, returning or throwing ===== -/
section VXH
/-! vx_backW, vx_callVX, vx_callSX, vx_callVW, vx_runVW, vx_runVX, vx_runSX, vx_ofWH follow the same proofs as their sisters above (Free/Laws.lean, Shelf42/LK1.lean); vx_outP calls Shelf42/NT130.lean (outThrough). -/
section
variable {l : Launch} {R : Room} {p : Program} {e : Env} {below : List Frame} {s : State} {sargs : Array Value} {y : MethodName} {len W9 : Nat}
theorem vx_backW {ws : List Cond} {rm : Room} {Pc : Array Value → State → Prop} {Qc : Array Value → State → Outcome → State → Prop} {XC : String → State → State → Prop} {mc ms : Nat} {free : Addr → Prop} {bytes : ByteArray} {maxL : Nat} {ret : Option FieldType} {hh : List (Nat × Nat × Nat × Nat)}
    (hM : vx_Met l y ws rm Pc Qc XC mc ms free) (hblind : FrameBlind Pc) (hrc : rm.cells = mc) (hrs : rm.slots = ms)
    (hframes : rm.frames + 1 ≤ R.frames) (hlocals : W9 + (maxL + 11) + rm.locals ≤ R.locals)
    (hws : ∀ w ∈ ws, ∀ a' U, s.WarmedH U.vm → w.before a' U = true) (hcode : Cond.codeWith y bytes maxL ret hh ∈ ws) (hinit : ∀ a' U, s.WarmedH U.vm → (Cond.initialized y.cls).before a' U = true) :
    vx_Back l R p e below s sargs y len W9 (PreOf R mc ms Pc) (PostOf Qc mc ms free) (vx_Post XC mc ms free) := by
  intro m meth c A g ig mk a X hg hsize hdg hW hn hp
  have h1 : (headSpec ws rm).pre.before a A.U = true := atoms_intro fun w hw => hws w hw _ _ X.warmed
  have h2 : (Cond.codeWith y bytes maxL ret hh).before a A.U = true := hws _ hcode _ _ X.warmed
  have h3 : (Cond.initialized y.cls).before a A.U = true := hinit _ _ X.warmed
  have h4 : A.cells + (headSpec ws rm).room.cells ≤ R.cells := by rw [show (headSpec ws rm).room.cells = mc from hrc]; exact hp.1
  have h5 : A.slots + (headSpec ws rm).room.slots ≤ R.slots := by rw [show (headSpec ws rm).room.slots = ms from hrs]; exact hp.2.1
  have hPc : Pc a (A.U.calling g mk a) := hblind _ _ _ _ hp.2.2
  obtain ⟨U, Ls, c0, s0⟩ := A
  dsimp only [Pt.U, Pt.locs, Pt.cells, Pt.slots] at h1 h2 h3 h4 h5 X hn hPc ⊢
  obtain ⟨m9, methY, cY, hn9, hmY, hcY, -, hlY, -⟩ := Cond.codeWith_spec h2
  cases Option.some.inj (hn9.symm.trans hn)
  obtain ⟨kY, hkY, -⟩ := className_of_methodNamed hn
  have hinitY : kY.init = .initialized := Cond.initialized_spec (findClass_of_methodNamed hn) hkY h3
  have h : At U g.method c below := by rw [hg]; exact X.here
  have hlocals9 : W9 + (maxL + 11) + (headSpec ws rm).room.locals ≤ R.locals := hlocals
  have happ : (headSpec ws rm).appliesLoose y e.platform (U.calling g mk a) = true :=
    Spec.appliesLoose_calling (g := g) h hdg hn hkY hinitY
      (X.room_calling (g := g) (R' := (headSpec ws rm).room) hsize hmY hcY hframes (by rw [hlY]; omega) h4 h5) h1
  obtain ⟨mid, hmid⟩ := h.above
  have hfr : (U.setTop g).frames = (.java g :: mid) ++ below := by rw [State.frames_setTop' g h.top, hmid]; rfl
  obtain ⟨o, s₂, hsteps, -, hend, hq⟩ := Steps.callFree hM p X.admits X.cas X.clock (acts := []) hfr happ hPc trivial
  have hq' : vx_Q Qc XC mc ms free a (U.calling g mk a) o s₂ := hq
  rw [State.frames_setTop' g h.top] at hend
  obtain ⟨g₀, hg0⟩ := Option.isSome_iff_exists.mp h.top
  obtain ⟨r, hr⟩ := State.topJava?_eq_some.mp hg0
  have hr' : (({ U with heap := s₂.heap, slotsUsed := s₂.slotsUsed } : State).setVm s₂.vm).frames = .java g₀ :: r := hr
  rcases hq' with ⟨hqc, L, hfe, hL⟩ | ⟨q, rfl, E, ce, L, hx, hce, hcv, hcl, hW₂, hsm, hL⟩
  · obtain ⟨⟨v, rfl⟩, hW₂, e2, q2, q3, q4, q5, q6⟩ := id hfe
    have e3 : s₂ = ({ (U.calling g mk a).setFrames s₂.frames with heap := s₂.heap, slotsUsed := s₂.slotsUsed } : State).setVm s₂.vm := by
      have : s₂ = ({ s₂ with vm := (U.calling g mk a).vm } : State).setVm s₂.vm := rfl
      rw [e2] at this
      exact this
    obtain ⟨c₂, i₂, len₂, hc₂, hd₂, hf₂⟩ := hend
    have hW' : U.WarmedH s₂.vm := hW₂
    have hcc : c₂ = c := by
      have h1 : s₂.code? g.method = U.code? g.method := by
        rw [State.code?_eq, State.code?_eq, hW'.alike.method?]
      exact Option.some.inj (hc₂.symm.trans (h1.trans h.code))
    subst hcc
    have hlen : len₂ = len := by rw [hdg] at hd₂; cases hd₂; rfl
    subst hlen
    have hs₂ : s₂ = (({ U with heap := s₂.heap, slotsUsed := s₂.slotsUsed } : State).setVm s₂.vm).setTop { g with pc := g.pc + len₂, stack := v.toList ++ g.stack } := by
      refine e3.trans ?_
      rw [hf₂, State.calling_eq h.top, State.setFrames_setFrames, State.setTop_of_frames _ hr', hr]
      rfl
    have hsame : U.sameButNew ({ U with heap := s₂.heap, slotsUsed := s₂.slotsUsed } : State) L mc ms := by
      refine ⟨?_, q2, q3, q4, q5, q6⟩
      obtain ⟨t, ht, -⟩ := State.frames_cons hr
      show ({ U with heap := s₂.heap, slotsUsed := s₂.slotsUsed } : State) = { U.setFrames U.frames with heap := s₂.heap, slotsUsed := s₂.slotsUsed }
      rw [State.setFrames_self ht]
    subst hg
    refine Or.inl ⟨v, ⟨(({ U with heap := s₂.heap, slotsUsed := s₂.slotsUsed } : State).setVm s₂.vm), Ls ++ L, c0 + mc, s0 + ms⟩,
      ⟨X.admits, X.cas, X.clock, X.frames, X.room, X.hears, X.method, X.code, (X.here.setHeapUsed s₂.heap s₂.slotsUsed).setVm hW'.alike, X.tail, State.WarmedH.trans X.warmed hW', X.limits, X.bytes, X.same.trans (hsame.setVm s.vm)⟩,
      ⟨g, mk, s₂, L, rfl, rfl, hqc, rfl, hL, rfl, rfl⟩, ?_⟩
    show Steps p.tables e below _ ((({ U with heap := s₂.heap, slotsUsed := s₂.slotsUsed } : State).setVm s₂.vm).setTop { g with pc := g.pc + len₂, stack := v.toList ++ g.stack })
    rw [← hs₂]
    exact hsteps
  · obtain ⟨e2, q2, q3, q4, q5, q6⟩ := id hsm
    have e3 : s₂ = ({ (U.calling g mk a).setFrames s₂.frames with heap := s₂.heap, slotsUsed := s₂.slotsUsed } : State).setVm s₂.vm := by
      have : s₂ = ({ s₂ with vm := (U.calling g mk a).vm } : State).setVm s₂.vm := rfl
      rw [e2] at this
      exact this
    have hf₂ : s₂.frames = .throwing q :: .java g :: U.frames.tail := hend
    have hW' : U.WarmedH s₂.vm := hW₂
    have hs₂ : s₂ = ((({ U with heap := s₂.heap, slotsUsed := s₂.slotsUsed } : State).setVm s₂.vm).setTop g).pushFrame (.throwing q) := by
      refine e3.trans ?_
      rw [hf₂, State.calling_eq h.top, State.setFrames_setFrames, State.pushFrame, State.frames_setTop _ hr', State.setTop_of_frames _ hr', State.setFrames_setFrames, hr]
      rfl
    have hsame : U.sameButNew ({ U with heap := s₂.heap, slotsUsed := s₂.slotsUsed } : State) L mc ms := by
      refine ⟨?_, q2, q3, q4, q5, q6⟩
      obtain ⟨t, ht, -⟩ := State.frames_cons hr
      show ({ U with heap := s₂.heap, slotsUsed := s₂.slotsUsed } : State) = { U.setFrames U.frames with heap := s₂.heap, slotsUsed := s₂.slotsUsed }
      rw [State.setFrames_self ht]
    subst hg
    refine Or.inr ⟨q, ⟨(({ U with heap := s₂.heap, slotsUsed := s₂.slotsUsed } : State).setVm s₂.vm), Ls ++ L, c0 + mc, s0 + ms⟩,
      ⟨X.admits, X.cas, X.clock, X.frames, X.room, X.hears, X.method, X.code, (X.here.setHeapUsed s₂.heap s₂.slotsUsed).setVm hW'.alike, X.tail, State.WarmedH.trans X.warmed hW', X.limits, X.bytes, X.same.trans (hsame.setVm s.vm)⟩,
      ⟨g, mk, s₂, L, E, ce, rfl, rfl, hx, hce, hcv, hcl, rfl, hL, rfl, rfl⟩, ?_⟩
    show Steps p.tables e below _ (((({ U with heap := s₂.heap, slotsUsed := s₂.slotsUsed } : State).setVm s₂.vm).setTop g).pushFrame (.throwing q))
    rw [← hs₂]
    exact hsteps
end
variable {p : Program} {l : Launch} {e : Env} {R : Room} {s : State} {m : MethodId} {args : Array Value} {below : List Frame} {meth : Method} {c : Code} {T : State} {H : Heap} {locs : List Loc} {cells slots : Nat}
theorem vx_callVX (X : Stand p l e R s m args below meth c T locs cells slots) (hexec : p.tables.exec = Jvm.exec) {own C : String} {index : Nat} {y : MethodName} {bytes : ByteArray} {maxL : Nat} {ret : Option FieldType} {hh : List (Nat × Nat × Nat × Nat)}
    (hown : s.vm.findClass own = some m.cls) (hlink : (Cond.methodLink own index y).before args s = true) (hinst : (Cond.instanceMethod y).before args s = true) (hsel : (Cond.selects C y y).before args s = true)
    (hcode : (Cond.codeWith y bytes maxL ret hh).before args s = true) (hy : y.cls ≠ "java/lang/invoke/MethodHandle" ∧ y.cls ≠ "java/lang/invoke/VarHandle")
    {W9 : Nat} {Pre : Pt → Array Value → Prop} {Post : Pt → Array Value → Option Value → Pt → Prop} {PostX : Pt → Array Value → Addr → Pt → Prop} (hK : vx_Back l R p e below s args y 3 W9 Pre Post PostX)
    {b : Addr} {cellB : Cell} (hcell : T.heap[b]? = some cellB) (hobj : cellB.vm.isStatics = false) (hcls : s.vm.findClass C = some cellB.cls)
    {g : JFrame} (hg : g.method = m) (hsize : g.locals.size = c.maxLocals) {argsL rest : List Value} (hlen : ∀ sig, parseMethodDescriptor y.desc = some sig → argsL.length = sig.parameters.length)
    (hstack : g.stack = argsL.reverse ++ .ref b :: rest) (hW : 2 * g.monitorRoom + (rest.map fun v => v.category).sum ≤ W9) (hdg : decode c.code g.pc = .ok (.invokevirtual index, 3))
    (hpre : ∀ vm₁, s.WarmedH vm₁ → Pre ⟨T.setVm vm₁, locs, cells, slots⟩ (Value.ref b :: argsL).toArray) :
    (∃ (v : Option Value) (vm₁ : Vm) (B : Pt), s.WarmedH vm₁ ∧ Stand p l e R s m args below meth c B.U B.locs B.cells B.slots ∧ Post ⟨T.setVm vm₁, locs, cells, slots⟩ (Value.ref b :: argsL).toArray v B ∧
      ∀ target, Steps p.tables e below (B.U.setTop { g with pc := g.pc + 3, stack := v.toList ++ rest }) target → Steps p.tables e below (T.setTop g) target) ∨
    (∃ (q : Addr) (vm₁ : Vm) (B : Pt), s.WarmedH vm₁ ∧ Stand p l e R s m args below meth c B.U B.locs B.cells B.slots ∧ PostX ⟨T.setVm vm₁, locs, cells, slots⟩ (Value.ref b :: argsL).toArray q B ∧
      Steps p.tables e below (T.setTop g) ((B.U.setTop { g with stack := rest }).pushFrame (.throwing q))) := by
  obtain ⟨mk, methM, hnamed, hmethM, hstM, habM⟩ := Cond.instanceMethod_spec hinst
  obtain ⟨m8, methM', cM, hn8, hmethM', -, -, -, -, -, -, hsigM⟩ := Cond.codeWith_spec hcode
  cases Option.some.inj (hn8.symm.trans hnamed)
  cases hmethM.symm.trans hmethM'
  obtain ⟨c2, r2, m2, q1, q2, q3, q4, kP, hkP, hkPi⟩ := Cond.selects_spec hsel
  cases hcls.symm.trans q1
  cases (State.methodFound?_of_named hnamed hy).symm.trans q2
  cases hnamed.symm.trans q3
  have hselP : selectMethod e.platform s.vm cellB.cls mk = .method mk := by rw [Launch.admits_selectMethod X.admits]; exact q4
  obtain ⟨vm₁, X₁, hstep₁⟩ := X.invokevirtual hexec hown hlink hnamed hmethM hstM hkP hkPi hy (a := b) (cell := cellB) hcell
    (fun z h => by rw [h] at hobj; cases hobj) hselP hmethM habM hkP hkPi (g := g) hg (argsL := argsL) (rest := rest) (hlen _ hsigM) hstack hdg
  rcases hK m meth c ⟨T.setVm vm₁, locs, cells, slots⟩ { g with stack := rest } (.invokevirtual index) mk (Value.ref b :: argsL).toArray X₁ hg hsize hdg hW (X₁.named hnamed) (hpre vm₁ X₁.warmed) with ⟨v, B, X', hpost, hsteps⟩ | ⟨q, B, X', hpost, hsteps⟩
  · exact Or.inl ⟨v, vm₁, B, X₁.warmed, X', hpost, fun target h => hstep₁ _ fun acts => by rw [doInvoke_state]; exact hsteps.trans h⟩
  · exact Or.inr ⟨q, vm₁, B, X₁.warmed, X', hpost, hstep₁ _ fun acts => by rw [doInvoke_state]; exact hsteps⟩
theorem vx_callSX (X : Stand p l e R s m args below meth c T locs cells slots) (hexec : p.tables.exec = Jvm.exec) {own : String} {index : Nat} {y : MethodName} {bytes : ByteArray} {maxL : Nat} {ret : Option FieldType} {hh : List (Nat × Nat × Nat × Nat)}
    (hown : s.vm.findClass own = some m.cls) (hlink : (Cond.methodLink own index y).before args s = true) (hstat : (Cond.static y).before args s = true) (hinit : (Cond.initialized y.cls).before args s = true)
    (hcode : (Cond.codeWith y bytes maxL ret hh).before args s = true) (hy : y.cls ≠ "java/lang/invoke/MethodHandle" ∧ y.cls ≠ "java/lang/invoke/VarHandle")
    {W9 : Nat} {Pre : Pt → Array Value → Prop} {Post : Pt → Array Value → Option Value → Pt → Prop} {PostX : Pt → Array Value → Addr → Pt → Prop} (hK : vx_Back l R p e below s args y 3 W9 Pre Post PostX)
    {g : JFrame} (hg : g.method = m) (hsize : g.locals.size = c.maxLocals) {argsL rest : List Value} (hlen : ∀ sig, parseMethodDescriptor y.desc = some sig → argsL.length = sig.parameters.length)
    (hstack : g.stack = argsL.reverse ++ rest) (hW : 2 * g.monitorRoom + (rest.map fun v => v.category).sum ≤ W9) (hdg : decode c.code g.pc = .ok (.invokestatic index, 3))
    (hpre : ∀ vm₁, s.WarmedH vm₁ → Pre ⟨T.setVm vm₁, locs, cells, slots⟩ argsL.toArray) :
    (∃ (v : Option Value) (vm₁ : Vm) (B : Pt), s.WarmedH vm₁ ∧ Stand p l e R s m args below meth c B.U B.locs B.cells B.slots ∧ Post ⟨T.setVm vm₁, locs, cells, slots⟩ argsL.toArray v B ∧
      ∀ target, Steps p.tables e below (B.U.setTop { g with pc := g.pc + 3, stack := v.toList ++ rest }) target → Steps p.tables e below (T.setTop g) target) ∨
    (∃ (q : Addr) (vm₁ : Vm) (B : Pt), s.WarmedH vm₁ ∧ Stand p l e R s m args below meth c B.U B.locs B.cells B.slots ∧ PostX ⟨T.setVm vm₁, locs, cells, slots⟩ argsL.toArray q B ∧
      Steps p.tables e below (T.setTop g) ((B.U.setTop { g with stack := rest }).pushFrame (.throwing q))) := by
  obtain ⟨mk, methM, cM, hnamed, hmethM, -, -, -, -, -, -, hsigM⟩ := Cond.codeWith_spec hcode
  have hstatic : methM.isStatic = true := Cond.static_spec hnamed hmethM hstat
  obtain ⟨kP, hkP, -⟩ := className_of_methodNamed hnamed
  have hinitP : kP.init = .initialized := Cond.initialized_spec (findClass_of_methodNamed hnamed) hkP hinit
  obtain ⟨vm₁, X₁, hstep₁⟩ := X.invokestatic hexec hown hlink hnamed hmethM hstatic hkP hinitP hy (g := g) hg (argsL := argsL) (rest := rest) (hlen _ hsigM) hstack hdg
  rcases hK m meth c ⟨T.setVm vm₁, locs, cells, slots⟩ { g with stack := rest } (.invokestatic index) mk argsL.toArray X₁ hg hsize hdg hW (X₁.named hnamed) (hpre vm₁ X₁.warmed) with ⟨v, B, X', hpost, hsteps⟩ | ⟨q, B, X', hpost, hsteps⟩
  · exact Or.inl ⟨v, vm₁, B, X₁.warmed, X', hpost, fun target h => hstep₁ _ fun acts => by rw [doInvoke_state]; exact hsteps.trans h⟩
  · exact Or.inr ⟨q, vm₁, B, X₁.warmed, X', hpost, hstep₁ _ fun acts => by rw [doInvoke_state]; exact hsteps⟩
theorem vx_callVW (X : Stand p l e R s m args below meth c T locs cells slots) (hexec : p.tables.exec = Jvm.exec) {own C : String} {index : Nat} {y : MethodName} {bytes : ByteArray} {maxL : Nat} {ret : Option FieldType} {hh : List (Nat × Nat × Nat × Nat)}
    (hown : s.vm.findClass own = some m.cls) (hlink : (Cond.methodLink own index y).before args s = true) (hinst : (Cond.instanceMethod y).before args s = true) (hsel : (Cond.selects C y y).before args s = true)
    (hcode : (Cond.codeWith y bytes maxL ret hh).before args s = true) (hy : y.cls ≠ "java/lang/invoke/MethodHandle" ∧ y.cls ≠ "java/lang/invoke/VarHandle")
    {W9 : Nat} {Pre : Pt → Array Value → Prop} {Post : Pt → Array Value → Option Value → Pt → Prop} (hK : Back l R p e below s args y 3 W9 Pre Post)
    {b : Addr} {cellB : Cell} (hcell : T.heap[b]? = some cellB) (hobj : cellB.vm.isStatics = false) (hcls : s.vm.findClass C = some cellB.cls)
    {g : JFrame} (hg : g.method = m) (hsize : g.locals.size = c.maxLocals) {argsL rest : List Value} (hlen : ∀ sig, parseMethodDescriptor y.desc = some sig → argsL.length = sig.parameters.length)
    (hstack : g.stack = argsL.reverse ++ .ref b :: rest) (hW : 2 * g.monitorRoom + (rest.map fun v => v.category).sum ≤ W9) (hdg : decode c.code g.pc = .ok (.invokevirtual index, 3))
    (hpre : ∀ vm₁, s.WarmedH vm₁ → Pre ⟨T.setVm vm₁, locs, cells, slots⟩ (Value.ref b :: argsL).toArray) :
    ∃ (v : Option Value) (vm₁ : Vm) (B : Pt), s.WarmedH vm₁ ∧ Stand p l e R s m args below meth c B.U B.locs B.cells B.slots ∧ Post ⟨T.setVm vm₁, locs, cells, slots⟩ (Value.ref b :: argsL).toArray v B ∧
      ∀ target, Steps p.tables e below (B.U.setTop { g with pc := g.pc + 3, stack := v.toList ++ rest }) target → Steps p.tables e below (T.setTop g) target := by
  obtain ⟨mk, methM, hnamed, hmethM, hstM, habM⟩ := Cond.instanceMethod_spec hinst
  obtain ⟨m8, methM', cM, hn8, hmethM', -, -, -, -, -, -, hsigM⟩ := Cond.codeWith_spec hcode
  cases Option.some.inj (hn8.symm.trans hnamed)
  cases hmethM.symm.trans hmethM'
  obtain ⟨c2, r2, m2, q1, q2, q3, q4, kP, hkP, hkPi⟩ := Cond.selects_spec hsel
  cases hcls.symm.trans q1
  cases (State.methodFound?_of_named hnamed hy).symm.trans q2
  cases hnamed.symm.trans q3
  have hselP : selectMethod e.platform s.vm cellB.cls mk = .method mk := by rw [Launch.admits_selectMethod X.admits]; exact q4
  obtain ⟨vm₁, X₁, hstep₁⟩ := X.invokevirtual hexec hown hlink hnamed hmethM hstM hkP hkPi hy (a := b) (cell := cellB) hcell
    (fun z h => by rw [h] at hobj; cases hobj) hselP hmethM habM hkP hkPi (g := g) hg (argsL := argsL) (rest := rest) (hlen _ hsigM) hstack hdg
  obtain ⟨v, B, X', hpost, hsteps⟩ := hK m meth c ⟨T.setVm vm₁, locs, cells, slots⟩ { g with stack := rest } (.invokevirtual index) mk (Value.ref b :: argsL).toArray X₁ hg hsize hdg hW (X₁.named hnamed) (hpre vm₁ X₁.warmed)
  exact ⟨v, vm₁, B, X₁.warmed, X', hpost, fun target h => hstep₁ _ fun acts => by rw [doInvoke_state]; exact hsteps.trans h⟩
abbrev vx_CVW (R : Room) (s : State) (args : Array Value) (own C : String) (index : Nat) (y : MethodName) (bytes : ByteArray) (maxL : Nat) (ret : Option FieldType) (hh : List (Nat × Nat × Nat × Nat)) (ws : List Cond) (rm : Room) (mc ms n : Nat) : Prop :=
  (rm.cells = mc ∧ rm.slots = ms ∧ rm.frames + 1 ≤ R.frames ∧ 8 + (maxL + 11) + rm.locals ≤ R.locals ∧ (∀ w ∈ ws, ∀ (a' : Array Value) (U : State), s.WarmedH U.vm → w.before a' U = true) ∧ Cond.codeWith y bytes maxL ret hh ∈ ws) ∧
  (Cond.codeWith y bytes maxL ret hh).before args s = true ∧ (Cond.initialized y.cls).before args s = true ∧ (y.cls ≠ "java/lang/invoke/MethodHandle" ∧ y.cls ≠ "java/lang/invoke/VarHandle") ∧
  (∀ sig, parseMethodDescriptor y.desc = some sig → n = sig.parameters.length) ∧ (Cond.methodLink own index y).before args s = true ∧ (Cond.instanceMethod y).before args s = true ∧ (Cond.selects C y y).before args s = true
theorem vx_cwVW {own C : String} {index maxL mc ms : Nat} {y : MethodName} {bytes : ByteArray} {ret : Option FieldType} {hh : List (Nat × Nat × Nat × Nat)} {Ts ws ws' : List Cond} {rm : Room} (n : Nat) (ht : ∀ w ∈ Ts, w.before args s = true) (hT : GoodIn Ts (wsV own index C y ws)) (hw : ws = Cond.codeWith y bytes maxL ret hh :: ws') (hrc : rm.cells = mc) (hrs : rm.slots = ms)
    (hd : y.cls = C ∧ y.cls ≠ "java/lang/invoke/MethodHandle" ∧ y.cls ≠ "java/lang/invoke/VarHandle" ∧ (parseMethodDescriptor y.desc).map (fun d => d.parameters.length) = some n) (hR : rm.frames + 1 ≤ R.frames ∧ 8 + (maxL + 11) + rm.locals ≤ R.locals) :
    vx_CVW R s args own C index y bytes maxL ret hh ws rm mc ms n := by
  obtain ⟨hC, hd⟩ := hd
  subst hC
  have ok : ∀ w ∈ wsV own index y.cls y ws, w.before args s = true := fun w h => ht w (hT w h).1
  have hG : GoodIn Ts ws := fun w h => hT w (by unfold wsV; exact List.mem_append_right _ h)
  have hc : Cond.codeWith y bytes maxL ret hh ∈ ws := by rw [hw]; exact List.mem_cons_self
  refine ⟨⟨hrc, hrs, hR.1, hR.2, pay_in ht hG, hc⟩, ht _ (hG _ hc).1, ok _ (by simp [wsV]), ⟨hd.1, hd.2.1⟩, fun sig h => ?_, ok _ (by simp [wsV]), ok _ (by simp [wsV]), ok _ (by simp [wsV])⟩
  have h2 := hd.2.2
  rw [h] at h2
  exact (Option.some.inj h2).symm
theorem vx_runVW {y : MethodName} {bytes cc : ByteArray} {maxL nL mc ms n index : Nat} {ret : Option FieldType} {hh : List (Nat × Nat × Nat × Nat)} {ws : List Cond} {rm : Room} {Pc : Array Value → State → Prop} {Qc : Array Value → State → Outcome → State → Prop} {free : Addr → Prop} {Ts : List Cond} {own C : String} {b : Addr} {As rest : List Value} {g : JFrame}
    (S : CallFix p m c cc nL s args Ts own) (hM : Met l y ws rm Pc Qc mc ms free) (cw : vx_CVW R s args own C index y bytes maxL ret hh ws rm mc ms n) (hp : PreV s H C b Pc As)
    (hg : g.method = m) (hn : As.length = n) (hsize : g.locals.size = nL) (hstack : g.stack = As.reverse ++ .ref b :: rest) (hW : 2 * g.monitorRoom + (rest.map fun v => v.category).sum ≤ 8) (hdg : decode cc g.pc = .ok (.invokevirtual index, 3)) (hf : cells + mc ≤ R.cells ∧ slots + ms ≤ R.slots) :
    va_Run p l e R s m args below meth c H locs cells slots mc ms g rest (Qc (Value.ref b :: As).toArray) free := by
  obtain ⟨⟨hrc, hrs, hfr, hlo, hws, hcw⟩, hcode, hini, hy, hlen, hl, hin, hse⟩ := cw
  have hK : Back l R p e below s args y 3 8 (PreOf R mc ms Pc) (PostOf Qc mc ms free) := va_backW (hh := hh) (bytes := bytes) (maxL := maxL) (ret := ret) hM hp.1 hrc hrs hfr hlo hws hcw (fun a' U hW => word_at hW (Or.inl (by first | rfl | simp [Cond.onTables, Cond.keeps, Cond.steady])) hini)
  obtain ⟨hx, hb, hml, ho, -⟩ := S
  obtain ⟨-, ⟨cellB, hcB, hoB, hclB⟩, hPc⟩ := hp
  intro T hT X
  obtain ⟨v, vm₁, ⟨U', l2, c2, s2⟩, hW₁, X', ⟨g', mk, t, L, e1, e2, hq, h1, hL, h2, h3⟩, st⟩ := vx_callVW X hx (C := C) (hh := hh) (bytes := bytes) (maxL := maxL) (ret := ret) ho hl hin hse hcode hy hK (by rw [hT]; exact hcB) hoB hclB hg (hsize.trans hml.symm) (argsL := As) (rest := rest) (fun sig h => hn.trans (hlen sig h)) hstack hW (by rw [hb]; exact hdg)
    (fun vm₁ hW₁ => ⟨hf.1, hf.2, hPc (T.setVm vm₁) hT hW₁⟩)
  dsimp only [Pt.U, Pt.locs, Pt.cells, Pt.slots] at X' e1 e2 h1 h2 h3 st
  subst h1; subst h2; subst h3
  exact ⟨v, (T.setVm vm₁).calling g' mk (Value.ref b :: As).toArray, t, U', L, hT, X', hL, e1, e2, hq, st⟩
section
variable {y : MethodName} {bytes cc : ByteArray} {maxL nL mc ms n index : Nat} {ret : Option FieldType} {ws : List Cond} {rm : Room} {Pc : Array Value → State → Prop} {Qc : Array Value → State → Outcome → State → Prop} {XC : String → State → State → Prop} {free : Addr → Prop} {Ts : List Cond} {own C : String} {b : Addr} {As rest : List Value} {g : JFrame}
theorem vx_runVX {hh : List (Nat × Nat × Nat × Nat)} (S : CallFix p m c cc nL s args Ts own) (hM : vx_Met l y ws rm Pc Qc XC mc ms free) (cw : vx_CVW R s args own C index y bytes maxL ret hh ws rm mc ms n) (hp : PreV s H C b Pc As)
    (hg : g.method = m) (hn : As.length = n) (hsize : g.locals.size = nL) (hstack : g.stack = As.reverse ++ .ref b :: rest) (hW : 2 * g.monitorRoom + (rest.map fun v => v.category).sum ≤ 8) (hdg : decode cc g.pc = .ok (.invokevirtual index, 3)) (hf : cells + mc ≤ R.cells ∧ slots + ms ≤ R.slots) :
    vx_Run p l e R s m args below meth c H locs cells slots mc ms g rest (Qc (Value.ref b :: As).toArray) XC free := by
  obtain ⟨⟨hrc, hrs, hfr, hlo, hws, hcw⟩, hcode, hini, hy, hlen, hl, hin, hse⟩ := cw
  have hK : vx_Back l R p e below s args y 3 8 (PreOf R mc ms Pc) (PostOf Qc mc ms free) (vx_Post XC mc ms free) := vx_backW (hh := hh) (bytes := bytes) (maxL := maxL) (ret := ret) hM hp.1 hrc hrs hfr hlo hws hcw (fun a' U hW => word_at hW (Or.inl (by first | rfl | simp [Cond.onTables, Cond.keeps, Cond.steady])) hini)
  obtain ⟨hx, hb, hml, ho, -⟩ := S
  obtain ⟨-, ⟨cellB, hcB, hoB, hclB⟩, hPc⟩ := hp
  intro T hT X
  rcases vx_callVX X hx (C := C) (hh := hh) (bytes := bytes) (maxL := maxL) (ret := ret) ho hl hin hse hcode hy hK (by rw [hT]; exact hcB) hoB hclB hg (hsize.trans hml.symm) (argsL := As) (rest := rest) (fun sig h => hn.trans (hlen sig h)) hstack hW (by rw [hb]; exact hdg)
    (fun vm₁ hW₁ => ⟨hf.1, hf.2, hPc (T.setVm vm₁) hT hW₁⟩) with ⟨v, vm₁, ⟨U', l2, c2, s2⟩, hW₁, X', ⟨g', mk, t, L, e1, e2, hq, h1, hL, h2, h3⟩, st⟩ | ⟨q, vm₁, ⟨U', l2, c2, s2⟩, hW₁, X', ⟨g', mk, t, L, E, ce, e1, e2, hq, hce, hcv, hcl, h1, hL, h2, h3⟩, st⟩
  · dsimp only [Pt.U, Pt.locs, Pt.cells, Pt.slots] at X' e1 e2 h1 h2 h3 st
    subst h1; subst h2; subst h3
    exact Or.inl ⟨v, (T.setVm vm₁).calling g' mk (Value.ref b :: As).toArray, t, U', L, hT, X', hL, e1, e2, hq, st⟩
  · dsimp only [Pt.U, Pt.locs, Pt.cells, Pt.slots] at X' e1 e2 h1 h2 h3 st hcl
    subst h1; subst h2; subst h3
    exact Or.inr ⟨q, (T.setVm vm₁).calling g' mk (Value.ref b :: As).toArray, t, U', L, E, ce, hT, X', hL, e1, e2, hq, hce, hcv, vx_cls hW₁ hcl, st⟩
theorem vx_runSX {hh : List (Nat × Nat × Nat × Nat)} (S : CallFix p m c cc nL s args Ts own) (hM : vx_Met l y ws rm Pc Qc XC mc ms free) (cw : vx_CSW R s args own index y bytes maxL ret hh ws rm mc ms n) (hp : PreS s H Pc As)
    (hg : g.method = m) (hn : As.length = n) (hsize : g.locals.size = nL) (hstack : g.stack = As.reverse ++ rest) (hW : 2 * g.monitorRoom + (rest.map fun v => v.category).sum ≤ 8) (hdg : decode cc g.pc = .ok (.invokestatic index, 3)) (hf : cells + mc ≤ R.cells ∧ slots + ms ≤ R.slots) :
    vx_Run p l e R s m args below meth c H locs cells slots mc ms g rest (Qc As.toArray) XC free := by
  obtain ⟨⟨hrc, hrs, hfr, hlo, hws, hcw⟩, hcode, hini, hy, hlen, hl, hstt⟩ := cw
  have hK : vx_Back l R p e below s args y 3 8 (PreOf R mc ms Pc) (PostOf Qc mc ms free) (vx_Post XC mc ms free) := vx_backW (hh := hh) (bytes := bytes) (maxL := maxL) (ret := ret) hM hp.1 hrc hrs hfr hlo hws hcw (fun a' U hW => word_at hW (Or.inl (by first | rfl | simp [Cond.onTables, Cond.keeps, Cond.steady])) hini)
  obtain ⟨hx, hb, hml, ho, -⟩ := S
  intro T hT X
  rcases vx_callSX X hx (hh := hh) (bytes := bytes) (maxL := maxL) (ret := ret) ho hl hstt hini hcode hy hK hg (hsize.trans hml.symm) (argsL := As) (rest := rest) (fun sig h => hn.trans (hlen sig h)) hstack hW (by rw [hb]; exact hdg)
    (fun vm₁ hW₁ => ⟨hf.1, hf.2, hp.2 (T.setVm vm₁) hT hW₁⟩) with ⟨v, vm₁, ⟨U', l2, c2, s2⟩, hW₁, X', ⟨g', mk, t, L, e1, e2, hq, h1, hL, h2, h3⟩, st⟩ | ⟨q, vm₁, ⟨U', l2, c2, s2⟩, hW₁, X', ⟨g', mk, t, L, E, ce, e1, e2, hq, hce, hcv, hcl, h1, hL, h2, h3⟩, st⟩
  · dsimp only [Pt.U, Pt.locs, Pt.cells, Pt.slots] at X' e1 e2 h1 h2 h3 st
    subst h1; subst h2; subst h3
    exact Or.inl ⟨v, (T.setVm vm₁).calling g' mk As.toArray, t, U', L, hT, X', hL, e1, e2, hq, st⟩
  · dsimp only [Pt.U, Pt.locs, Pt.cells, Pt.slots] at X' e1 e2 h1 h2 h3 st hcl
    subst h1; subst h2; subst h3
    exact Or.inr ⟨q, (T.setVm vm₁).calling g' mk As.toArray, t, U', L, E, ce, hT, X', hL, e1, e2, hq, hce, hcv, vx_cls hW₁ hcl, st⟩
end
end VXH
theorem vx_ofWH {l : Launch} {y : MethodName} {ws ws' : List Cond} {rm : Room} {Pc : Array Value → State → Prop} {Qc : Array Value → State → Outcome → State → Prop} {XC : String → State → State → Prop} {mc ms : Nat} {free : Addr → Prop} {cc : ByteArray} {maxL : Nat} {ret : Option FieldType} {hh : List (Nat × Nat × Nat × Nat)}
    (hy : plainName y.cls = true) (hw : ws = Cond.codeWith y cc maxL ret hh :: ws')
    (body : ∀ p e s m args below meth c s₁, BodyLoose p l y (headSpec ws rm) cc maxL ret e s m args below meth c s₁ → c.maxLocals = maxL → Pc args s →
      W p l e (headSpec ws rm).room s m args below meth c s.heap [] 0 0 (vx_MQ below Qc XC args s mc ms free) (entryFrame m args maxL)) : vx_Met l y ws rm Pc Qc XC mc ms free := by
  refine MetFree.of_bodyS (code := cc) (maxLocals := maxL) (ret := ret) hy ?_ ?_
  · intro args s m h hn
    obtain ⟨m9, meth, c, hn9, h1, h2, h3, h4, -, h5, h6, -⟩ := Cond.codeWith_spec (atoms_spec (ws := ws) h _ (by rw [hw]; exact List.mem_cons_self))
    cases hn.symm.trans hn9
    exact ⟨meth, c, h1, h2, h3, h4, h5, h6⟩
  · intro p e s m args below meth c s₁ B hml hP _
    have hh0 : s₁.heap = s.heap := by rw [B.state]; rfl
    obtain ⟨t, a1, o, b1, b2, b3⟩ := body p e s m args below meth c s₁ B hml hP s₁ hh0 (Stand.of_body B)
    exact ⟨t, o, a1, b1, b2, b3⟩
/-! ===== END ===== -/
end
section
/-! ===== BEGIN printed: names, fields, word lists, decode rows ===== -/
def RX0 : String := "RingHerd$Claim"
def TX0 : u_T := fun k => match k with
  | 0 => ("RingHerd$Claim", "frame", "I", false)
  | 1 => ("RingHerd$Claim", "from", "I", false)
  | 2 => ("RingHerd$Claim", "to", "I", false)
  | _ => ("RingHerd$Claim", "most", "I", false)
def tyX0 : Nat → FieldType := fun k => match k with
  | 0 => .int
  | 1 => .int
  | 2 => .int
  | _ => .int
abbrev wsX00 : List Cond := u_ws RX0 TX0 4
theorem nmX0 : ∀ a, a < 4 → ∀ b, b < 4 → a ≠ b → (TX0 a).2.1 ≠ (TX0 b).2.1 := by decide +kernel
theorem tyX0_ok : ∀ k, k < 4 → parseFieldDescriptor (TX0 k).2.2.1 = some (tyX0 k) := by decide +kernel
abbrev cX0_init : ByteArray := prog_2_method_1_code
def yX0_init : MethodName := ⟨RX0, "<init>", "()V"⟩
def RX1 : String := "RingHerd$Frame"
def TX1 : u_T := fun k => match k with
  | 0 => ("RingHerd$Frame", "masses", "[I", true)
  | _ => ("RingHerd$Frame", "takenAt", "I", false)
def tyX1 : Nat → FieldType := fun k => match k with
  | 0 => .array .int
  | _ => .int
abbrev wsX10 : List Cond := u_ws RX1 TX1 2
theorem nmX1 : ∀ a, a < 2 → ∀ b, b < 2 → a ≠ b → (TX1 a).2.1 ≠ (TX1 b).2.1 := by decide +kernel
theorem tyX1_ok : ∀ k, k < 2 → parseFieldDescriptor (TX1 k).2.2.1 = some (tyX1 k) := by decide +kernel
abbrev cX1_init : ByteArray := prog_3_method_1_code
def yX1_init : MethodName := ⟨RX1, "<init>", "()V"⟩
def RX2 : String := "RingHerd$Grain"
def TX2 : u_T := fun k => match k with
  | 0 => ("RingHerd$Grain", "lane", "I", false)
  | 1 => ("RingHerd$Grain", "angle", "I", false)
  | 2 => ("RingHerd$Grain", "mass", "I", false)
  | 3 => ("RingHerd$Grain", "unrest", "I", false)
  | 4 => ("RingHerd$Grain", "darkness", "I", false)
  | 5 => ("RingHerd$Grain", "there", "Z", false)
  | _ => ("RingHerd$Grain", "met", "Z", false)
def tyX2 : Nat → FieldType := fun k => match k with
  | 0 => .int
  | 1 => .int
  | 2 => .int
  | 3 => .int
  | 4 => .int
  | 5 => .boolean
  | _ => .boolean
abbrev wsX20 : List Cond := u_ws RX2 TX2 7
theorem nmX2 : ∀ a, a < 7 → ∀ b, b < 7 → a ≠ b → (TX2 a).2.1 ≠ (TX2 b).2.1 := by decide +kernel
theorem tyX2_ok : ∀ k, k < 7 → parseFieldDescriptor (TX2 k).2.2.1 = some (tyX2 k) := by decide +kernel
abbrev cX2_init : ByteArray := prog_4_method_1_code
def yX2_init : MethodName := ⟨RX2, "<init>", "()V"⟩
abbrev cX2_carried : ByteArray := prog_4_method_2_code
def yX2_carried : MethodName := ⟨RX2, "carried", "()J"⟩
abbrev cX2_isNear : ByteArray := prog_4_method_3_code
def yX2_isNear : MethodName := ⟨RX2, "isNear", "(IIII)Z"⟩
abbrev cX2_mayMeet : ByteArray := prog_4_method_4_code
def yX2_mayMeet : MethodName := ⟨RX2, "mayMeet", "()Z"⟩
def RX3 : String := "RingHerd$Herd"
def TX3 : u_T := fun k => match k with
  | 0 => ("RingHerd$Herd", "planet", "LRingHerd$Planet;", true)
  | 1 => ("RingHerd$Herd", "ledger", "LRingHerd$Ledger;", true)
  | 2 => ("RingHerd$Herd", "grains", "[LRingHerd$Grain;", true)
  | 3 => ("RingHerd$Herd", "grainCount", "I", false)
  | 4 => ("RingHerd$Herd", "firstBound", "I", false)
  | 5 => ("RingHerd$Herd", "secondBound", "I", false)
  | _ => ("RingHerd$Herd", "spring", "I", false)
def tyX3 : Nat → FieldType := fun k => match k with
  | 0 => .object "RingHerd$Planet"
  | 1 => .object "RingHerd$Ledger"
  | 2 => .array (.object "RingHerd$Grain")
  | 3 => .int
  | 4 => .int
  | 5 => .int
  | _ => .int
abbrev wsX30 : List Cond := u_ws RX3 TX3 7
theorem nmX3 : ∀ a, a < 7 → ∀ b, b < 7 → a ≠ b → (TX3 a).2.1 ≠ (TX3 b).2.1 := by decide +kernel
theorem tyX3_ok : ∀ k, k < 7 → parseFieldDescriptor (TX3 k).2.2.1 = some (tyX3 k) := by decide +kernel
abbrev cX3_init : ByteArray := prog_5_method_1_code
def yX3_init : MethodName := ⟨RX3, "<init>", "()V"⟩
abbrev cX3_put : ByteArray := prog_5_method_2_code
def yX3_put : MethodName := ⟨RX3, "put", "(IIII)I"⟩
abbrev cX3_countThere : ByteArray := prog_5_method_3_code
def yX3_countThere : MethodName := ⟨RX3, "countThere", "()I"⟩
abbrev cX3_massThere : ByteArray := prog_5_method_4_code
def yX3_massThere : MethodName := ⟨RX3, "massThere", "()I"⟩
abbrev cX3_momentumThere : ByteArray := prog_5_method_5_code
def yX3_momentumThere : MethodName := ⟨RX3, "momentumThere", "()J"⟩
abbrev cX3_weighLanes : ByteArray := prog_5_method_6_code
def yX3_weighLanes : MethodName := ⟨RX3, "weighLanes", "([I)V"⟩
abbrev cX3_goRound : ByteArray := prog_5_method_7_code
def yX3_goRound : MethodName := ⟨RX3, "goRound", "()V"⟩
abbrev cX3_yieldTo : ByteArray := prog_5_method_8_code
def yX3_yieldTo : MethodName := ⟨RX3, "yieldTo", "(LRingHerd$Moon;)V"⟩
abbrev cX3_meetAll : ByteArray := prog_5_method_9_code
def yX3_meetAll : MethodName := ⟨RX3, "meetAll", "()V"⟩
abbrev cX3_darken : ByteArray := prog_5_method_10_code
def yX3_darken : MethodName := ⟨RX3, "darken", "()V"⟩
abbrev cX3_partnerOf : ByteArray := prog_5_method_11_code
def yX3_partnerOf : MethodName := ⟨RX3, "partnerOf", "(II)I"⟩
abbrev cX3_meet : ByteArray := prog_5_method_12_code
def yX3_meet : MethodName := ⟨RX3, "meet", "(LRingHerd$Grain;LRingHerd$Grain;)V"⟩
abbrev cX3_stick : ByteArray := prog_5_method_13_code
def yX3_stick : MethodName := ⟨RX3, "stick", "(LRingHerd$Grain;LRingHerd$Grain;)V"⟩
abbrev cX3_blend : ByteArray := prog_5_method_14_code
def yX3_blend : MethodName := ⟨RX3, "blend", "(LRingHerd$Grain;ILRingHerd$Grain;I)I"⟩
abbrev cX3_breakUp : ByteArray := prog_5_method_15_code
def yX3_breakUp : MethodName := ⟨RX3, "breakUp", "(LRingHerd$Grain;)V"⟩
abbrev cX3_bump : ByteArray := prog_5_method_16_code
def yX3_bump : MethodName := ⟨RX3, "bump", "(LRingHerd$Grain;LRingHerd$Grain;)V"⟩
abbrev cX3_shift : ByteArray := prog_5_method_17_code
def yX3_shift : MethodName := ⟨RX3, "shift", "(LRingHerd$Grain;I)V"⟩
def RX4 : String := "RingHerd$Ledger"
def TX4 : u_T := fun k => match k with
  | 0 => ("RingHerd$Ledger", "stuck", "I", false)
  | 1 => ("RingHerd$Ledger", "broken", "I", false)
  | 2 => ("RingHerd$Ledger", "bumps", "I", false)
  | 3 => ("RingHerd$Ledger", "rained", "I", false)
  | 4 => ("RingHerd$Ledger", "escaped", "I", false)
  | 5 => ("RingHerd$Ledger", "putMass", "I", false)
  | 6 => ("RingHerd$Ledger", "rainedMass", "I", false)
  | 7 => ("RingHerd$Ledger", "escapedMass", "I", false)
  | 8 => ("RingHerd$Ledger", "putMomentum", "J", false)
  | 9 => ("RingHerd$Ledger", "rainedMomentum", "J", false)
  | 10 => ("RingHerd$Ledger", "escapedMomentum", "J", false)
  | 11 => ("RingHerd$Ledger", "givenByMoons", "J", false)
  | _ => ("RingHerd$Ledger", "heat", "J", false)
def tyX4 : Nat → FieldType := fun k => match k with
  | 0 => .int
  | 1 => .int
  | 2 => .int
  | 3 => .int
  | 4 => .int
  | 5 => .int
  | 6 => .int
  | 7 => .int
  | 8 => .long
  | 9 => .long
  | 10 => .long
  | 11 => .long
  | _ => .long
abbrev wsX40 : List Cond := u_ws RX4 TX4 13
theorem nmX4 : ∀ a, a < 13 → ∀ b, b < 13 → a ≠ b → (TX4 a).2.1 ≠ (TX4 b).2.1 := by decide +kernel
theorem tyX4_ok : ∀ k, k < 13 → parseFieldDescriptor (TX4 k).2.2.1 = some (tyX4 k) := by decide +kernel
abbrev cX4_init : ByteArray := prog_6_method_1_code
def yX4_init : MethodName := ⟨RX4, "<init>", "()V"⟩
def RX5 : String := "RingHerd$Moon"
def TX5 : u_T := fun k => match k with
  | 0 => ("RingHerd$Moon", "lane", "I", false)
  | 1 => ("RingHerd$Moon", "angle", "I", false)
  | _ => ("RingHerd$Moon", "width", "I", false)
def tyX5 : Nat → FieldType := fun k => match k with
  | 0 => .int
  | 1 => .int
  | _ => .int
abbrev wsX50 : List Cond := u_ws RX5 TX5 3
theorem nmX5 : ∀ a, a < 3 → ∀ b, b < 3 → a ≠ b → (TX5 a).2.1 ≠ (TX5 b).2.1 := by decide +kernel
theorem tyX5_ok : ∀ k, k < 3 → parseFieldDescriptor (TX5 k).2.2.1 = some (tyX5 k) := by decide +kernel
abbrev cX5_init : ByteArray := prog_7_method_1_code
def yX5_init : MethodName := ⟨RX5, "<init>", "()V"⟩
def RX6 : String := "RingHerd$Planet"
def TX6 : u_T := fun k => match k with
  | _ => ("RingHerd$Planet", "flatness", "I", false)
def tyX6 : Nat → FieldType := fun k => match k with
  | _ => .int
abbrev wsX60 : List Cond := u_ws RX6 TX6 1
theorem nmX6 : ∀ a, a < 1 → ∀ b, b < 1 → a ≠ b → (TX6 a).2.1 ≠ (TX6 b).2.1 := by decide +kernel
theorem tyX6_ok : ∀ k, k < 1 → parseFieldDescriptor (TX6 k).2.2.1 = some (tyX6 k) := by decide +kernel
abbrev cX6_init : ByteArray := prog_8_method_1_code
def yX6_init : MethodName := ⟨RX6, "<init>", "()V"⟩
abbrev cX6_speedIn : ByteArray := prog_8_method_2_code
def yX6_speedIn : MethodName := ⟨RX6, "speedIn", "(I)I"⟩
def RX7 : String := "RingHerd"
def TX7 : u_T := fun k => match k with
  | 0 => ("RingHerd", "herd", "LRingHerd$Herd;", true)
  | 1 => ("RingHerd", "moons", "[LRingHerd$Moon;", true)
  | 2 => ("RingHerd", "moonCount", "I", false)
  | 3 => ("RingHerd", "frames", "[LRingHerd$Frame;", true)
  | 4 => ("RingHerd", "frameCount", "I", false)
  | 5 => ("RingHerd", "claims", "[LRingHerd$Claim;", true)
  | 6 => ("RingHerd", "claimCount", "I", false)
  | 7 => ("RingHerd", "ticksGone", "I", false)
  | 8 => ("RingHerd", "laneMasses", "[I", true)
  | 9 => ("RingHerd", "gapFirsts", "[I", true)
  | _ => ("RingHerd", "gapLasts", "[I", true)
def tyX7 : Nat → FieldType := fun k => match k with
  | 0 => .object "RingHerd$Herd"
  | 1 => .array (.object "RingHerd$Moon")
  | 2 => .int
  | 3 => .array (.object "RingHerd$Frame")
  | 4 => .int
  | 5 => .array (.object "RingHerd$Claim")
  | 6 => .int
  | 7 => .int
  | 8 => .array .int
  | 9 => .array .int
  | _ => .array .int
abbrev wsX70 : List Cond := u_ws RX7 TX7 11
theorem nmX7 : ∀ a, a < 11 → ∀ b, b < 11 → a ≠ b → (TX7 a).2.1 ≠ (TX7 b).2.1 := by decide +kernel
theorem tyX7_ok : ∀ k, k < 11 → parseFieldDescriptor (TX7 k).2.2.1 = some (tyX7 k) := by decide +kernel
abbrev cX7_init : ByteArray := prog_1_method_1_code
def yX7_init : MethodName := ⟨RX7, "<init>", "()V"⟩
abbrev cX7_grain : ByteArray := prog_1_method_2_code
def yX7_grain : MethodName := ⟨RX7, "grain", "(IIII)I"⟩
abbrev cX7_moon : ByteArray := prog_1_method_3_code
def yX7_moon : MethodName := ⟨RX7, "moon", "(III)I"⟩
abbrev cX7_flatness : ByteArray := prog_1_method_4_code
def yX7_flatness : MethodName := ⟨RX7, "flatness", "(I)I"⟩
abbrev cX7_bounds : ByteArray := prog_1_method_5_code
def yX7_bounds : MethodName := ⟨RX7, "bounds", "(III)V"⟩
abbrev cX7_tick : ByteArray := prog_1_method_6_code
def yX7_tick : MethodName := ⟨RX7, "tick", "(I)I"⟩
abbrev cX7_told : ByteArray := prog_1_method_10_code
def yX7_told : MethodName := ⟨RX7, "told", "(II)I"⟩
abbrev cX7_angle : ByteArray := prog_1_method_11_code
def yX7_angle : MethodName := ⟨RX7, "angle", "(I)I"⟩
abbrev cX7_speed : ByteArray := prog_1_method_12_code
def yX7_speed : MethodName := ⟨RX7, "speed", "(I)I"⟩
abbrev cX7_count : ByteArray := prog_1_method_13_code
def yX7_count : MethodName := ⟨RX7, "count", "(I)I"⟩
abbrev cX7_mass : ByteArray := prog_1_method_14_code
def yX7_mass : MethodName := ⟨RX7, "mass", "(I)I"⟩
abbrev cX7_sum : ByteArray := prog_1_method_15_code
def yX7_sum : MethodName := ⟨RX7, "sum", "(I)I"⟩
abbrev cX7_momentum : ByteArray := prog_1_method_16_code
def yX7_momentum : MethodName := ⟨RX7, "momentum", "(I)J"⟩
abbrev cX7_momentumByLanes : ByteArray := prog_1_method_17_code
def yX7_momentumByLanes : MethodName := ⟨RX7, "momentumByLanes", "()J"⟩
abbrev cX7_requireRange : ByteArray := prog_1_method_24_code
def yX7_requireRange : MethodName := ⟨RX7, "requireRange", "(III)V"⟩
abbrev cX7_requireLane : ByteArray := prog_1_method_25_code
def yX7_requireLane : MethodName := ⟨RX7, "requireLane", "(I)V"⟩
abbrev cX7_requirePlace : ByteArray := prog_1_method_26_code
def yX7_requirePlace : MethodName := ⟨RX7, "requirePlace", "(III)V"⟩
abbrev cX7_requireNumber : ByteArray := prog_1_method_27_code
def yX7_requireNumber : MethodName := ⟨RX7, "requireNumber", "(II)V"⟩
abbrev cX7_radiusOf : ByteArray := prog_1_method_28_code
def yX7_radiusOf : MethodName := ⟨RX7, "radiusOf", "(I)I"⟩
abbrev cX7_turned : ByteArray := prog_1_method_29_code
def yX7_turned : MethodName := ⟨RX7, "turned", "(II)I"⟩
abbrev cX7_anglesApart : ByteArray := prog_1_method_30_code
def yX7_anglesApart : MethodName := ⟨RX7, "anglesApart", "(II)I"⟩
abbrev cX7_widthOf : ByteArray := prog_1_method_31_code
def yX7_widthOf : MethodName := ⟨RX7, "widthOf", "(I)I"⟩
abbrev cX7_passTick : ByteArray := prog_1_method_32_code
def yX7_passTick : MethodName := ⟨RX7, "passTick", "()V"⟩
def RX8 : String := "RingHerdModel"
def TX8 : u_T := fun k => match k with
  | _ => ("", "", "", false)
def tyX8 : Nat → FieldType := fun k => match k with
  | _ => .int
abbrev wsX80 : List Cond := u_ws RX8 TX8 0
theorem nmX8 : ∀ a, a < 0 → ∀ b, b < 0 → a ≠ b → (TX8 a).2.1 ≠ (TX8 b).2.1 := by decide +kernel
theorem tyX8_ok : ∀ k, k < 0 → parseFieldDescriptor (TX8 k).2.2.1 = some (tyX8 k) := by decide +kernel
def RJ9 : String := "java/lang/Math"
def TJ9 : u_T := fun k => match k with
  | _ => ("", "", "", false)
def tyJ9 : Nat → FieldType := fun k => match k with
  | _ => .int
abbrev wsJ90 : List Cond := u_ws RJ9 TJ9 0
theorem nmJ9 : ∀ a, a < 0 → ∀ b, b < 0 → a ≠ b → (TJ9 a).2.1 ≠ (TJ9 b).2.1 := by decide +kernel
theorem tyJ9_ok : ∀ k, k < 0 → parseFieldDescriptor (TJ9 k).2.2.1 = some (tyJ9 k) := by decide +kernel
abbrev cJ9_abs_0f7a4 : ByteArray := prog_15_method_59_code
def yJ9_abs_0f7a4 : MethodName := ⟨RJ9, "abs", "(I)I"⟩
abbrev cJ9_min_7cf53 : ByteArray := prog_15_method_69_code
def yJ9_min_7cf53 : MethodName := ⟨RJ9, "min", "(II)I"⟩
def RJ0 : String := "java/lang/String"
def TJ0 : u_T := fun k => match k with
  | _ => ("", "", "", false)
def tyJ0 : Nat → FieldType := fun k => match k with
  | _ => .int
abbrev wsJ00 : List Cond := u_ws RJ0 TJ0 0
theorem nmJ0 : ∀ a, a < 0 → ∀ b, b < 0 → a ≠ b → (TJ0 a).2.1 ≠ (TJ0 b).2.1 := by decide +kernel
theorem tyJ0_ok : ∀ k, k < 0 → parseFieldDescriptor (TJ0 k).2.2.1 = some (tyJ0 k) := by decide +kernel
def RL : String := "RingHerdLaw"
abbrev cL_cell : ByteArray := method_2_code
def yL_cell : MethodName := ⟨RL, "cell", "([II)I"⟩
abbrev cL_low : ByteArray := method_3_code
def yL_low : MethodName := ⟨RL, "low", "(II)I"⟩
abbrev cL_speed : ByteArray := method_4_code
def yL_speed : MethodName := ⟨RL, "speed", "([II)I"⟩
abbrev cL_apart : ByteArray := method_5_code
def yL_apart : MethodName := ⟨RL, "apart", "(II)I"⟩
abbrev cL_comes : ByteArray := method_6_code
def yL_comes : MethodName := ⟨RL, "comes", "([I[I[I[III)J"⟩
abbrev cL_moment : ByteArray := method_7_code
def yL_moment : MethodName := ⟨RL, "moment", "([I[II)J"⟩
abbrev cL_law : ByteArray := code
def yL_law : MethodName := ⟨RL, "law", "([I)Z"⟩
abbrev vwCl : List vw_C := [(RX0, TX0, 4), (RX1, TX1, 2), (RX2, TX2, 7), (RX3, TX3, 7), (RX4, TX4, 13), (RX5, TX5, 3), (RX6, TX6, 1), (RX7, TX7, 11)]
end
section
/-- all the words of the tables that stay good: every method's list is its own code and these -/
def aw : List Cond := lw_tbl.filter goodWord
theorem aw_i (i : Nat) {w : Cond} (h : lw_tbl[i]? = some w) (hg : goodWord w = true) : w ∈ aw := List.mem_filter.mpr ⟨List.mem_of_getElem? h, hg⟩
theorem m_0 : (Cond.initialized "RingHerdLaw") ∈ aw := aw_i 8 (by decide +kernel) (by decide +kernel)
theorem m_1 : (Cond.initialized "RingHerd") ∈ aw := aw_i 9 (by decide +kernel) (by decide +kernel)
theorem m_2 : (Cond.initialized "RingHerd$Herd") ∈ aw := aw_i 10 (by decide +kernel) (by decide +kernel)
theorem m_3 : (Cond.initialized "RingHerd$Planet") ∈ aw := aw_i 11 (by decide +kernel) (by decide +kernel)
theorem m_4 : (Cond.initialized "RingHerd$Ledger") ∈ aw := aw_i 12 (by decide +kernel) (by decide +kernel)
theorem m_5 : (Cond.initialized "RingHerd$Grain") ∈ aw := aw_i 13 (by decide +kernel) (by decide +kernel)
theorem m_6 : (Cond.initialized "RingHerd$Moon") ∈ aw := aw_i 14 (by decide +kernel) (by decide +kernel)
theorem m_7 : (Cond.initialized "RingHerd$Frame") ∈ aw := aw_i 15 (by decide +kernel) (by decide +kernel)
theorem m_8 : (Cond.initialized "RingHerd$Claim") ∈ aw := aw_i 16 (by decide +kernel) (by decide +kernel)
theorem m_9 : (Cond.initialized "java/lang/Throwable") ∈ aw := aw_i 17 (by decide +kernel) (by decide +kernel)
theorem m_10 : (Cond.initialized "java/lang/Exception") ∈ aw := aw_i 18 (by decide +kernel) (by decide +kernel)
theorem m_11 : (Cond.initialized "java/lang/RuntimeException") ∈ aw := aw_i 19 (by decide +kernel) (by decide +kernel)
theorem m_12 : (Cond.initialized "java/lang/IllegalArgumentException") ∈ aw := aw_i 20 (by decide +kernel) (by decide +kernel)
theorem m_13 : (Cond.initialized "java/lang/IllegalStateException") ∈ aw := aw_i 21 (by decide +kernel) (by decide +kernel)
theorem m_14 : (Cond.initialized "java/lang/Math") ∈ aw := aw_i 22 (by decide +kernel) (by decide +kernel)
theorem m_15 : (Cond.initialized "java/lang/IndexOutOfBoundsException") ∈ aw := aw_i 23 (by decide +kernel) (by decide +kernel)
theorem m_16 : (Cond.classLink "RingHerdLaw" (11 : Nat) "RingHerd") ∈ aw := aw_i 24 (by decide +kernel) (by decide +kernel)
theorem m_17 : (Cond.instantiable "RingHerd" (11 : Nat)) ∈ aw := aw_i 25 (by decide +kernel) (by decide +kernel)
theorem m_18 : (Cond.methodLink "RingHerdLaw" (13 : Nat) ({ cls := "RingHerd", name := "<init>", desc := "()V" } : Jvm.MethodName)) ∈ aw := aw_i 26 (by decide +kernel) (by decide +kernel)
theorem m_19 : (Cond.instanceMethod ({ cls := "RingHerd", name := "<init>", desc := "()V" } : Jvm.MethodName)) ∈ aw := aw_i 27 (by decide +kernel) (by decide +kernel)
theorem m_20 : (Cond.code ({ cls := "RingHerd", name := "<init>", desc := "()V" } : Jvm.MethodName) prog_1_method_1_code (2 : Nat) (Option.none : Option Jvm.ClassFile.FieldType)) ∈ aw := aw_i 28 (by decide +kernel) (by decide +kernel)
theorem m_21 : (Cond.methodLink "RingHerd" (3 : Nat) ({ cls := "java/lang/Object", name := "<init>", desc := "()V" } : Jvm.MethodName)) ∈ aw := aw_i 29 (by decide +kernel) (by decide +kernel)
theorem m_22 : (Cond.instanceMethod ({ cls := "java/lang/Object", name := "<init>", desc := "()V" } : Jvm.MethodName)) ∈ aw := aw_i 30 (by decide +kernel) (by decide +kernel)
theorem m_23 : (Cond.code ({ cls := "java/lang/Object", name := "<init>", desc := "()V" } : Jvm.MethodName) object_method_1_code (1 : Nat) (Option.none : Option Jvm.ClassFile.FieldType)) ∈ aw := aw_i 31 (by decide +kernel) (by decide +kernel)
theorem m_24 : (Cond.classLink "RingHerd" (9 : Nat) "RingHerd$Herd") ∈ aw := aw_i 32 (by decide +kernel) (by decide +kernel)
theorem m_25 : (Cond.instantiable "RingHerd$Herd" (7 : Nat)) ∈ aw := aw_i 33 (by decide +kernel) (by decide +kernel)
theorem m_26 : (Cond.methodLink "RingHerd" (11 : Nat) ({ cls := "RingHerd$Herd", name := "<init>", desc := "()V" } : Jvm.MethodName)) ∈ aw := aw_i 34 (by decide +kernel) (by decide +kernel)
theorem m_27 : (Cond.instanceMethod ({ cls := "RingHerd$Herd", name := "<init>", desc := "()V" } : Jvm.MethodName)) ∈ aw := aw_i 35 (by decide +kernel) (by decide +kernel)
theorem m_28 : (Cond.code ({ cls := "RingHerd$Herd", name := "<init>", desc := "()V" } : Jvm.MethodName) prog_5_method_1_code (2 : Nat) (Option.none : Option Jvm.ClassFile.FieldType)) ∈ aw := aw_i 36 (by decide +kernel) (by decide +kernel)
theorem m_29 : (Cond.methodLink "RingHerd$Herd" (3 : Nat) ({ cls := "java/lang/Object", name := "<init>", desc := "()V" } : Jvm.MethodName)) ∈ aw := aw_i 37 (by decide +kernel) (by decide +kernel)
theorem m_30 : (Cond.classLink "RingHerd$Herd" (9 : Nat) "RingHerd$Planet") ∈ aw := aw_i 38 (by decide +kernel) (by decide +kernel)
theorem m_31 : (Cond.instantiable "RingHerd$Planet" (1 : Nat)) ∈ aw := aw_i 39 (by decide +kernel) (by decide +kernel)
theorem m_33 : (Cond.instanceMethod ({ cls := "RingHerd$Planet", name := "<init>", desc := "()V" } : Jvm.MethodName)) ∈ aw := aw_i 41 (by decide +kernel) (by decide +kernel)
theorem m_34 : (Cond.code ({ cls := "RingHerd$Planet", name := "<init>", desc := "()V" } : Jvm.MethodName) prog_8_method_1_code (1 : Nat) (Option.none : Option Jvm.ClassFile.FieldType)) ∈ aw := aw_i 42 (by decide +kernel) (by decide +kernel)
theorem m_35 : (Cond.methodLink "RingHerd$Planet" (3 : Nat) ({ cls := "java/lang/Object", name := "<init>", desc := "()V" } : Jvm.MethodName)) ∈ aw := aw_i 43 (by decide +kernel) (by decide +kernel)
theorem m_36 : (Cond.fieldLink "RingHerd$Planet" (14 : Nat) "RingHerd$Planet" "flatness" "I") ∈ aw := aw_i 44 (by decide +kernel) (by decide +kernel)
theorem m_37 : (Cond.fieldLink "RingHerd" (91 : Nat) "RingHerd$Planet" "flatness" "I") ∈ aw := aw_i 45 (by decide +kernel) (by decide +kernel)
theorem m_38 : (Cond.lays "RingHerd$Planet" "RingHerd$Planet" "flatness" "I") ∈ aw := aw_i 46 (by decide +kernel) (by decide +kernel)
theorem m_41 : (Cond.classLink "RingHerd$Herd" (18 : Nat) "RingHerd$Ledger") ∈ aw := aw_i 49 (by decide +kernel) (by decide +kernel)
theorem m_42 : (Cond.instantiable "RingHerd$Ledger" (13 : Nat)) ∈ aw := aw_i 50 (by decide +kernel) (by decide +kernel)
theorem m_44 : (Cond.instanceMethod ({ cls := "RingHerd$Ledger", name := "<init>", desc := "()V" } : Jvm.MethodName)) ∈ aw := aw_i 52 (by decide +kernel) (by decide +kernel)
theorem m_45 : (Cond.code ({ cls := "RingHerd$Ledger", name := "<init>", desc := "()V" } : Jvm.MethodName) prog_6_method_1_code (1 : Nat) (Option.none : Option Jvm.ClassFile.FieldType)) ∈ aw := aw_i 53 (by decide +kernel) (by decide +kernel)
theorem m_46 : (Cond.methodLink "RingHerd$Ledger" (1 : Nat) ({ cls := "java/lang/Object", name := "<init>", desc := "()V" } : Jvm.MethodName)) ∈ aw := aw_i 54 (by decide +kernel) (by decide +kernel)
theorem m_47 : (Cond.fieldLink "RingHerd" (191 : Nat) "RingHerd$Ledger" "stuck" "I") ∈ aw := aw_i 55 (by decide +kernel) (by decide +kernel)
theorem m_48 : (Cond.fieldLink "RingHerd$Herd" (137 : Nat) "RingHerd$Ledger" "stuck" "I") ∈ aw := aw_i 56 (by decide +kernel) (by decide +kernel)
theorem m_49 : (Cond.fieldLink "RingHerd" (196 : Nat) "RingHerd$Ledger" "broken" "I") ∈ aw := aw_i 57 (by decide +kernel) (by decide +kernel)
theorem m_50 : (Cond.fieldLink "RingHerd$Herd" (143 : Nat) "RingHerd$Ledger" "broken" "I") ∈ aw := aw_i 58 (by decide +kernel) (by decide +kernel)
theorem m_51 : (Cond.fieldLink "RingHerd" (199 : Nat) "RingHerd$Ledger" "bumps" "I") ∈ aw := aw_i 59 (by decide +kernel) (by decide +kernel)
theorem m_52 : (Cond.fieldLink "RingHerd$Herd" (146 : Nat) "RingHerd$Ledger" "bumps" "I") ∈ aw := aw_i 60 (by decide +kernel) (by decide +kernel)
theorem m_53 : (Cond.fieldLink "RingHerd" (202 : Nat) "RingHerd$Ledger" "rained" "I") ∈ aw := aw_i 61 (by decide +kernel) (by decide +kernel)
theorem m_54 : (Cond.fieldLink "RingHerd$Herd" (149 : Nat) "RingHerd$Ledger" "rained" "I") ∈ aw := aw_i 62 (by decide +kernel) (by decide +kernel)
theorem m_55 : (Cond.fieldLink "RingHerd" (205 : Nat) "RingHerd$Ledger" "escaped" "I") ∈ aw := aw_i 63 (by decide +kernel) (by decide +kernel)
theorem m_56 : (Cond.fieldLink "RingHerd$Herd" (158 : Nat) "RingHerd$Ledger" "escaped" "I") ∈ aw := aw_i 64 (by decide +kernel) (by decide +kernel)
theorem m_57 : (Cond.fieldLink "RingHerd$Herd" (61 : Nat) "RingHerd$Ledger" "putMass" "I") ∈ aw := aw_i 65 (by decide +kernel) (by decide +kernel)
theorem m_58 : (Cond.fieldLink "RingHerd" (219 : Nat) "RingHerd$Ledger" "putMass" "I") ∈ aw := aw_i 66 (by decide +kernel) (by decide +kernel)
theorem m_59 : (Cond.fieldLink "RingHerd" (213 : Nat) "RingHerd$Ledger" "rainedMass" "I") ∈ aw := aw_i 67 (by decide +kernel) (by decide +kernel)
theorem m_60 : (Cond.fieldLink "RingHerd$Herd" (152 : Nat) "RingHerd$Ledger" "rainedMass" "I") ∈ aw := aw_i 68 (by decide +kernel) (by decide +kernel)
theorem m_61 : (Cond.fieldLink "RingHerd" (216 : Nat) "RingHerd$Ledger" "escapedMass" "I") ∈ aw := aw_i 69 (by decide +kernel) (by decide +kernel)
theorem m_62 : (Cond.fieldLink "RingHerd$Herd" (161 : Nat) "RingHerd$Ledger" "escapedMass" "I") ∈ aw := aw_i 70 (by decide +kernel) (by decide +kernel)
theorem m_63 : (Cond.fieldLink "RingHerd$Herd" (64 : Nat) "RingHerd$Ledger" "putMomentum" "J") ∈ aw := aw_i 71 (by decide +kernel) (by decide +kernel)
theorem m_64 : (Cond.fieldLink "RingHerd" (235 : Nat) "RingHerd$Ledger" "putMomentum" "J") ∈ aw := aw_i 72 (by decide +kernel) (by decide +kernel)
theorem m_65 : (Cond.fieldLink "RingHerd" (228 : Nat) "RingHerd$Ledger" "rainedMomentum" "J") ∈ aw := aw_i 73 (by decide +kernel) (by decide +kernel)
theorem m_66 : (Cond.fieldLink "RingHerd$Herd" (155 : Nat) "RingHerd$Ledger" "rainedMomentum" "J") ∈ aw := aw_i 74 (by decide +kernel) (by decide +kernel)
theorem m_67 : (Cond.fieldLink "RingHerd" (232 : Nat) "RingHerd$Ledger" "escapedMomentum" "J") ∈ aw := aw_i 75 (by decide +kernel) (by decide +kernel)
theorem m_68 : (Cond.fieldLink "RingHerd$Herd" (164 : Nat) "RingHerd$Ledger" "escapedMomentum" "J") ∈ aw := aw_i 76 (by decide +kernel) (by decide +kernel)
theorem m_69 : (Cond.fieldLink "RingHerd$Herd" (100 : Nat) "RingHerd$Ledger" "givenByMoons" "J") ∈ aw := aw_i 77 (by decide +kernel) (by decide +kernel)
theorem m_70 : (Cond.fieldLink "RingHerd" (238 : Nat) "RingHerd$Ledger" "givenByMoons" "J") ∈ aw := aw_i 78 (by decide +kernel) (by decide +kernel)
theorem m_71 : (Cond.fieldLink "RingHerd$Herd" (140 : Nat) "RingHerd$Ledger" "heat" "J") ∈ aw := aw_i 79 (by decide +kernel) (by decide +kernel)
theorem m_72 : (Cond.fieldLink "RingHerd" (241 : Nat) "RingHerd$Ledger" "heat" "J") ∈ aw := aw_i 80 (by decide +kernel) (by decide +kernel)
theorem m_73 : (Cond.lays "RingHerd$Ledger" "RingHerd$Ledger" "stuck" "I") ∈ aw := aw_i 81 (by decide +kernel) (by decide +kernel)
theorem m_75 : (Cond.lays "RingHerd$Ledger" "RingHerd$Ledger" "broken" "I") ∈ aw := aw_i 83 (by decide +kernel) (by decide +kernel)
theorem m_77 : (Cond.lays "RingHerd$Ledger" "RingHerd$Ledger" "bumps" "I") ∈ aw := aw_i 85 (by decide +kernel) (by decide +kernel)
theorem m_79 : (Cond.lays "RingHerd$Ledger" "RingHerd$Ledger" "rained" "I") ∈ aw := aw_i 87 (by decide +kernel) (by decide +kernel)
theorem m_81 : (Cond.lays "RingHerd$Ledger" "RingHerd$Ledger" "escaped" "I") ∈ aw := aw_i 89 (by decide +kernel) (by decide +kernel)
theorem m_83 : (Cond.lays "RingHerd$Ledger" "RingHerd$Ledger" "putMass" "I") ∈ aw := aw_i 91 (by decide +kernel) (by decide +kernel)
theorem m_85 : (Cond.lays "RingHerd$Ledger" "RingHerd$Ledger" "rainedMass" "I") ∈ aw := aw_i 93 (by decide +kernel) (by decide +kernel)
theorem m_87 : (Cond.lays "RingHerd$Ledger" "RingHerd$Ledger" "escapedMass" "I") ∈ aw := aw_i 95 (by decide +kernel) (by decide +kernel)
theorem m_89 : (Cond.lays "RingHerd$Ledger" "RingHerd$Ledger" "putMomentum" "J") ∈ aw := aw_i 97 (by decide +kernel) (by decide +kernel)
theorem m_91 : (Cond.lays "RingHerd$Ledger" "RingHerd$Ledger" "rainedMomentum" "J") ∈ aw := aw_i 99 (by decide +kernel) (by decide +kernel)
theorem m_93 : (Cond.lays "RingHerd$Ledger" "RingHerd$Ledger" "escapedMomentum" "J") ∈ aw := aw_i 101 (by decide +kernel) (by decide +kernel)
theorem m_95 : (Cond.lays "RingHerd$Ledger" "RingHerd$Ledger" "givenByMoons" "J") ∈ aw := aw_i 103 (by decide +kernel) (by decide +kernel)
theorem m_97 : (Cond.lays "RingHerd$Ledger" "RingHerd$Ledger" "heat" "J") ∈ aw := aw_i 105 (by decide +kernel) (by decide +kernel)
theorem m_100 : (Cond.classLink "RingHerd$Herd" (25 : Nat) "RingHerd$Grain") ∈ aw := aw_i 108 (by decide +kernel) (by decide +kernel)
theorem m_102 : (Cond.instantiable "RingHerd$Grain" (7 : Nat)) ∈ aw := aw_i 110 (by decide +kernel) (by decide +kernel)
theorem m_104 : (Cond.instanceMethod ({ cls := "RingHerd$Grain", name := "<init>", desc := "()V" } : Jvm.MethodName)) ∈ aw := aw_i 112 (by decide +kernel) (by decide +kernel)
theorem m_105 : (Cond.code ({ cls := "RingHerd$Grain", name := "<init>", desc := "()V" } : Jvm.MethodName) prog_4_method_1_code (1 : Nat) (Option.none : Option Jvm.ClassFile.FieldType)) ∈ aw := aw_i 113 (by decide +kernel) (by decide +kernel)
theorem m_106 : (Cond.methodLink "RingHerd$Grain" (3 : Nat) ({ cls := "java/lang/Object", name := "<init>", desc := "()V" } : Jvm.MethodName)) ∈ aw := aw_i 114 (by decide +kernel) (by decide +kernel)
theorem m_107 : (Cond.fieldLink "RingHerd$Grain" (15 : Nat) "RingHerd$Grain" "lane" "I") ∈ aw := aw_i 115 (by decide +kernel) (by decide +kernel)
theorem m_108 : (Cond.fieldLink "RingHerd$Herd" (45 : Nat) "RingHerd$Grain" "lane" "I") ∈ aw := aw_i 116 (by decide +kernel) (by decide +kernel)
theorem m_109 : (Cond.fieldLink "RingHerd" (158 : Nat) "RingHerd$Grain" "lane" "I") ∈ aw := aw_i 117 (by decide +kernel) (by decide +kernel)
theorem m_110 : (Cond.fieldLink "RingHerd$Herd" (48 : Nat) "RingHerd$Grain" "angle" "I") ∈ aw := aw_i 118 (by decide +kernel) (by decide +kernel)
theorem m_111 : (Cond.fieldLink "RingHerd$Grain" (24 : Nat) "RingHerd$Grain" "angle" "I") ∈ aw := aw_i 119 (by decide +kernel) (by decide +kernel)
theorem m_112 : (Cond.fieldLink "RingHerd" (161 : Nat) "RingHerd$Grain" "angle" "I") ∈ aw := aw_i 120 (by decide +kernel) (by decide +kernel)
theorem m_113 : (Cond.fieldLink "RingHerd$Grain" (9 : Nat) "RingHerd$Grain" "mass" "I") ∈ aw := aw_i 121 (by decide +kernel) (by decide +kernel)
theorem m_114 : (Cond.fieldLink "RingHerd$Herd" (51 : Nat) "RingHerd$Grain" "mass" "I") ∈ aw := aw_i 122 (by decide +kernel) (by decide +kernel)
theorem m_115 : (Cond.fieldLink "RingHerd" (162 : Nat) "RingHerd$Grain" "mass" "I") ∈ aw := aw_i 123 (by decide +kernel) (by decide +kernel)
theorem m_116 : (Cond.fieldLink "RingHerd$Herd" (54 : Nat) "RingHerd$Grain" "unrest" "I") ∈ aw := aw_i 124 (by decide +kernel) (by decide +kernel)
theorem m_117 : (Cond.fieldLink "RingHerd" (165 : Nat) "RingHerd$Grain" "unrest" "I") ∈ aw := aw_i 125 (by decide +kernel) (by decide +kernel)
theorem m_118 : (Cond.fieldLink "RingHerd$Herd" (117 : Nat) "RingHerd$Grain" "darkness" "I") ∈ aw := aw_i 126 (by decide +kernel) (by decide +kernel)
theorem m_119 : (Cond.fieldLink "RingHerd" (168 : Nat) "RingHerd$Grain" "darkness" "I") ∈ aw := aw_i 127 (by decide +kernel) (by decide +kernel)
theorem m_120 : (Cond.fieldLink "RingHerd$Herd" (57 : Nat) "RingHerd$Grain" "there" "Z") ∈ aw := aw_i 128 (by decide +kernel) (by decide +kernel)
theorem m_121 : (Cond.fieldLink "RingHerd$Grain" (31 : Nat) "RingHerd$Grain" "there" "Z") ∈ aw := aw_i 129 (by decide +kernel) (by decide +kernel)
theorem m_122 : (Cond.fieldLink "RingHerd" (171 : Nat) "RingHerd$Grain" "there" "Z") ∈ aw := aw_i 130 (by decide +kernel) (by decide +kernel)
theorem m_123 : (Cond.fieldLink "RingHerd$Grain" (35 : Nat) "RingHerd$Grain" "met" "Z") ∈ aw := aw_i 131 (by decide +kernel) (by decide +kernel)
theorem m_124 : (Cond.fieldLink "RingHerd$Herd" (103 : Nat) "RingHerd$Grain" "met" "Z") ∈ aw := aw_i 132 (by decide +kernel) (by decide +kernel)
theorem m_125 : (Cond.lays "RingHerd$Grain" "RingHerd$Grain" "lane" "I") ∈ aw := aw_i 133 (by decide +kernel) (by decide +kernel)
theorem m_127 : (Cond.lays "RingHerd$Grain" "RingHerd$Grain" "angle" "I") ∈ aw := aw_i 135 (by decide +kernel) (by decide +kernel)
theorem m_129 : (Cond.lays "RingHerd$Grain" "RingHerd$Grain" "mass" "I") ∈ aw := aw_i 137 (by decide +kernel) (by decide +kernel)
theorem m_131 : (Cond.lays "RingHerd$Grain" "RingHerd$Grain" "unrest" "I") ∈ aw := aw_i 139 (by decide +kernel) (by decide +kernel)
theorem m_133 : (Cond.lays "RingHerd$Grain" "RingHerd$Grain" "darkness" "I") ∈ aw := aw_i 141 (by decide +kernel) (by decide +kernel)
theorem m_135 : (Cond.lays "RingHerd$Grain" "RingHerd$Grain" "there" "Z") ∈ aw := aw_i 143 (by decide +kernel) (by decide +kernel)
theorem m_137 : (Cond.lays "RingHerd$Grain" "RingHerd$Grain" "met" "Z") ∈ aw := aw_i 145 (by decide +kernel) (by decide +kernel)
theorem m_140 : (Cond.fieldLink "RingHerd$Herd" (12 : Nat) "RingHerd$Herd" "planet" "LRingHerd$Planet;") ∈ aw := aw_i 148 (by decide +kernel) (by decide +kernel)
theorem m_141 : (Cond.fieldLink "RingHerd" (87 : Nat) "RingHerd$Herd" "planet" "LRingHerd$Planet;") ∈ aw := aw_i 149 (by decide +kernel) (by decide +kernel)
theorem m_142 : (Cond.fieldLink "RingHerd$Herd" (21 : Nat) "RingHerd$Herd" "ledger" "LRingHerd$Ledger;") ∈ aw := aw_i 150 (by decide +kernel) (by decide +kernel)
theorem m_143 : (Cond.fieldLink "RingHerd" (187 : Nat) "RingHerd$Herd" "ledger" "LRingHerd$Ledger;") ∈ aw := aw_i 151 (by decide +kernel) (by decide +kernel)
theorem m_144 : (Cond.fieldLink "RingHerd$Herd" (27 : Nat) "RingHerd$Herd" "grains" "[LRingHerd$Grain;") ∈ aw := aw_i 152 (by decide +kernel) (by decide +kernel)
theorem m_145 : (Cond.fieldLink "RingHerd" (154 : Nat) "RingHerd$Herd" "grains" "[LRingHerd$Grain;") ∈ aw := aw_i 153 (by decide +kernel) (by decide +kernel)
theorem m_146 : (Cond.fieldLink "RingHerd$Herd" (42 : Nat) "RingHerd$Herd" "grainCount" "I") ∈ aw := aw_i 154 (by decide +kernel) (by decide +kernel)
theorem m_147 : (Cond.fieldLink "RingHerd" (54 : Nat) "RingHerd$Herd" "grainCount" "I") ∈ aw := aw_i 155 (by decide +kernel) (by decide +kernel)
theorem m_148 : (Cond.fieldLink "RingHerd$Herd" (32 : Nat) "RingHerd$Herd" "firstBound" "I") ∈ aw := aw_i 156 (by decide +kernel) (by decide +kernel)
theorem m_149 : (Cond.fieldLink "RingHerd" (96 : Nat) "RingHerd$Herd" "firstBound" "I") ∈ aw := aw_i 157 (by decide +kernel) (by decide +kernel)
theorem m_150 : (Cond.fieldLink "RingHerd$Herd" (36 : Nat) "RingHerd$Herd" "secondBound" "I") ∈ aw := aw_i 158 (by decide +kernel) (by decide +kernel)
theorem m_151 : (Cond.fieldLink "RingHerd" (99 : Nat) "RingHerd$Herd" "secondBound" "I") ∈ aw := aw_i 159 (by decide +kernel) (by decide +kernel)
theorem m_152 : (Cond.fieldLink "RingHerd$Herd" (39 : Nat) "RingHerd$Herd" "spring" "I") ∈ aw := aw_i 160 (by decide +kernel) (by decide +kernel)
theorem m_153 : (Cond.fieldLink "RingHerd" (102 : Nat) "RingHerd$Herd" "spring" "I") ∈ aw := aw_i 161 (by decide +kernel) (by decide +kernel)
theorem m_154 : (Cond.laysFinal "RingHerd$Herd" "RingHerd$Herd" "planet" "LRingHerd$Planet;") ∈ aw := aw_i 162 (by decide +kernel) (by decide +kernel)
theorem m_156 : (Cond.laysFinal "RingHerd$Herd" "RingHerd$Herd" "ledger" "LRingHerd$Ledger;") ∈ aw := aw_i 164 (by decide +kernel) (by decide +kernel)
theorem m_158 : (Cond.laysFinal "RingHerd$Herd" "RingHerd$Herd" "grains" "[LRingHerd$Grain;") ∈ aw := aw_i 166 (by decide +kernel) (by decide +kernel)
theorem m_160 : (Cond.lays "RingHerd$Herd" "RingHerd$Herd" "grainCount" "I") ∈ aw := aw_i 168 (by decide +kernel) (by decide +kernel)
theorem m_162 : (Cond.lays "RingHerd$Herd" "RingHerd$Herd" "firstBound" "I") ∈ aw := aw_i 170 (by decide +kernel) (by decide +kernel)
theorem m_164 : (Cond.lays "RingHerd$Herd" "RingHerd$Herd" "secondBound" "I") ∈ aw := aw_i 172 (by decide +kernel) (by decide +kernel)
theorem m_166 : (Cond.lays "RingHerd$Herd" "RingHerd$Herd" "spring" "I") ∈ aw := aw_i 174 (by decide +kernel) (by decide +kernel)
theorem m_169 : (Cond.classLink "RingHerd" (16 : Nat) "RingHerd$Moon") ∈ aw := aw_i 177 (by decide +kernel) (by decide +kernel)
theorem m_171 : (Cond.instantiable "RingHerd$Moon" (3 : Nat)) ∈ aw := aw_i 179 (by decide +kernel) (by decide +kernel)
theorem m_173 : (Cond.instanceMethod ({ cls := "RingHerd$Moon", name := "<init>", desc := "()V" } : Jvm.MethodName)) ∈ aw := aw_i 181 (by decide +kernel) (by decide +kernel)
theorem m_174 : (Cond.code ({ cls := "RingHerd$Moon", name := "<init>", desc := "()V" } : Jvm.MethodName) prog_7_method_1_code (1 : Nat) (Option.none : Option Jvm.ClassFile.FieldType)) ∈ aw := aw_i 182 (by decide +kernel) (by decide +kernel)
theorem m_175 : (Cond.methodLink "RingHerd$Moon" (1 : Nat) ({ cls := "java/lang/Object", name := "<init>", desc := "()V" } : Jvm.MethodName)) ∈ aw := aw_i 183 (by decide +kernel) (by decide +kernel)
theorem m_176 : (Cond.fieldLink "RingHerd" (74 : Nat) "RingHerd$Moon" "lane" "I") ∈ aw := aw_i 184 (by decide +kernel) (by decide +kernel)
theorem m_177 : (Cond.fieldLink "RingHerd$Herd" (80 : Nat) "RingHerd$Moon" "lane" "I") ∈ aw := aw_i 185 (by decide +kernel) (by decide +kernel)
theorem m_178 : (Cond.fieldLink "RingHerd" (77 : Nat) "RingHerd$Moon" "angle" "I") ∈ aw := aw_i 186 (by decide +kernel) (by decide +kernel)
theorem m_179 : (Cond.fieldLink "RingHerd$Herd" (83 : Nat) "RingHerd$Moon" "angle" "I") ∈ aw := aw_i 187 (by decide +kernel) (by decide +kernel)
theorem m_180 : (Cond.fieldLink "RingHerd" (84 : Nat) "RingHerd$Moon" "width" "I") ∈ aw := aw_i 188 (by decide +kernel) (by decide +kernel)
theorem m_181 : (Cond.fieldLink "RingHerd$Herd" (84 : Nat) "RingHerd$Moon" "width" "I") ∈ aw := aw_i 189 (by decide +kernel) (by decide +kernel)
theorem m_182 : (Cond.lays "RingHerd$Moon" "RingHerd$Moon" "lane" "I") ∈ aw := aw_i 190 (by decide +kernel) (by decide +kernel)
theorem m_184 : (Cond.lays "RingHerd$Moon" "RingHerd$Moon" "angle" "I") ∈ aw := aw_i 192 (by decide +kernel) (by decide +kernel)
theorem m_186 : (Cond.lays "RingHerd$Moon" "RingHerd$Moon" "width" "I") ∈ aw := aw_i 194 (by decide +kernel) (by decide +kernel)
theorem m_189 : (Cond.classLink "RingHerd" (23 : Nat) "RingHerd$Frame") ∈ aw := aw_i 197 (by decide +kernel) (by decide +kernel)
theorem m_191 : (Cond.instantiable "RingHerd$Frame" (2 : Nat)) ∈ aw := aw_i 199 (by decide +kernel) (by decide +kernel)
theorem m_193 : (Cond.instanceMethod ({ cls := "RingHerd$Frame", name := "<init>", desc := "()V" } : Jvm.MethodName)) ∈ aw := aw_i 201 (by decide +kernel) (by decide +kernel)
theorem m_194 : (Cond.code ({ cls := "RingHerd$Frame", name := "<init>", desc := "()V" } : Jvm.MethodName) prog_3_method_1_code (1 : Nat) (Option.none : Option Jvm.ClassFile.FieldType)) ∈ aw := aw_i 202 (by decide +kernel) (by decide +kernel)
theorem m_195 : (Cond.methodLink "RingHerd$Frame" (3 : Nat) ({ cls := "java/lang/Object", name := "<init>", desc := "()V" } : Jvm.MethodName)) ∈ aw := aw_i 203 (by decide +kernel) (by decide +kernel)
theorem m_196 : (Cond.fieldLink "RingHerd$Frame" (9 : Nat) "RingHerd$Frame" "masses" "[I") ∈ aw := aw_i 204 (by decide +kernel) (by decide +kernel)
theorem m_197 : (Cond.laysFinal "RingHerd$Frame" "RingHerd$Frame" "masses" "[I") ∈ aw := aw_i 205 (by decide +kernel) (by decide +kernel)
theorem m_199 : (Cond.lays "RingHerd$Frame" "RingHerd$Frame" "takenAt" "I") ∈ aw := aw_i 207 (by decide +kernel) (by decide +kernel)
theorem m_202 : (Cond.arrayClass Jvm.ClassFile.FieldType.int) ∈ aw := aw_i 210 (by decide +kernel) (by decide +kernel)
theorem m_203 : (Cond.classLink "RingHerd" (30 : Nat) "RingHerd$Claim") ∈ aw := aw_i 211 (by decide +kernel) (by decide +kernel)
theorem m_205 : (Cond.instantiable "RingHerd$Claim" (4 : Nat)) ∈ aw := aw_i 213 (by decide +kernel) (by decide +kernel)
theorem m_207 : (Cond.instanceMethod ({ cls := "RingHerd$Claim", name := "<init>", desc := "()V" } : Jvm.MethodName)) ∈ aw := aw_i 215 (by decide +kernel) (by decide +kernel)
theorem m_208 : (Cond.code ({ cls := "RingHerd$Claim", name := "<init>", desc := "()V" } : Jvm.MethodName) prog_2_method_1_code (1 : Nat) (Option.none : Option Jvm.ClassFile.FieldType)) ∈ aw := aw_i 216 (by decide +kernel) (by decide +kernel)
theorem m_209 : (Cond.methodLink "RingHerd$Claim" (3 : Nat) ({ cls := "java/lang/Object", name := "<init>", desc := "()V" } : Jvm.MethodName)) ∈ aw := aw_i 217 (by decide +kernel) (by decide +kernel)
theorem m_210 : (Cond.lays "RingHerd$Claim" "RingHerd$Claim" "frame" "I") ∈ aw := aw_i 218 (by decide +kernel) (by decide +kernel)
theorem m_212 : (Cond.lays "RingHerd$Claim" "RingHerd$Claim" "from" "I") ∈ aw := aw_i 220 (by decide +kernel) (by decide +kernel)
theorem m_214 : (Cond.lays "RingHerd$Claim" "RingHerd$Claim" "to" "I") ∈ aw := aw_i 222 (by decide +kernel) (by decide +kernel)
theorem m_216 : (Cond.lays "RingHerd$Claim" "RingHerd$Claim" "most" "I") ∈ aw := aw_i 224 (by decide +kernel) (by decide +kernel)
theorem m_219 : (Cond.fieldLink "RingHerd" (12 : Nat) "RingHerd" "herd" "LRingHerd$Herd;") ∈ aw := aw_i 227 (by decide +kernel) (by decide +kernel)
theorem m_220 : (Cond.fieldLink "RingHerd" (18 : Nat) "RingHerd" "moons" "[LRingHerd$Moon;") ∈ aw := aw_i 228 (by decide +kernel) (by decide +kernel)
theorem m_221 : (Cond.fieldLink "RingHerd" (69 : Nat) "RingHerd" "moonCount" "I") ∈ aw := aw_i 229 (by decide +kernel) (by decide +kernel)
theorem m_222 : (Cond.fieldLink "RingHerd" (25 : Nat) "RingHerd" "frames" "[LRingHerd$Frame;") ∈ aw := aw_i 230 (by decide +kernel) (by decide +kernel)
theorem m_223 : (Cond.fieldLink "RingHerd" (32 : Nat) "RingHerd" "claims" "[LRingHerd$Claim;") ∈ aw := aw_i 231 (by decide +kernel) (by decide +kernel)
theorem m_224 : (Cond.fieldLink "RingHerd" (105 : Nat) "RingHerd" "ticksGone" "I") ∈ aw := aw_i 232 (by decide +kernel) (by decide +kernel)
theorem m_225 : (Cond.fieldLink "RingHerd" (37 : Nat) "RingHerd" "laneMasses" "[I") ∈ aw := aw_i 233 (by decide +kernel) (by decide +kernel)
theorem m_226 : (Cond.fieldLink "RingHerd" (41 : Nat) "RingHerd" "gapFirsts" "[I") ∈ aw := aw_i 234 (by decide +kernel) (by decide +kernel)
theorem m_227 : (Cond.fieldLink "RingHerd" (44 : Nat) "RingHerd" "gapLasts" "[I") ∈ aw := aw_i 235 (by decide +kernel) (by decide +kernel)
theorem m_228 : (Cond.laysFinal "RingHerd" "RingHerd" "herd" "LRingHerd$Herd;") ∈ aw := aw_i 236 (by decide +kernel) (by decide +kernel)
theorem m_230 : (Cond.laysFinal "RingHerd" "RingHerd" "moons" "[LRingHerd$Moon;") ∈ aw := aw_i 238 (by decide +kernel) (by decide +kernel)
theorem m_232 : (Cond.lays "RingHerd" "RingHerd" "moonCount" "I") ∈ aw := aw_i 240 (by decide +kernel) (by decide +kernel)
theorem m_234 : (Cond.laysFinal "RingHerd" "RingHerd" "frames" "[LRingHerd$Frame;") ∈ aw := aw_i 242 (by decide +kernel) (by decide +kernel)
theorem m_236 : (Cond.lays "RingHerd" "RingHerd" "frameCount" "I") ∈ aw := aw_i 244 (by decide +kernel) (by decide +kernel)
theorem m_238 : (Cond.laysFinal "RingHerd" "RingHerd" "claims" "[LRingHerd$Claim;") ∈ aw := aw_i 246 (by decide +kernel) (by decide +kernel)
theorem m_240 : (Cond.lays "RingHerd" "RingHerd" "claimCount" "I") ∈ aw := aw_i 248 (by decide +kernel) (by decide +kernel)
theorem m_242 : (Cond.lays "RingHerd" "RingHerd" "ticksGone" "I") ∈ aw := aw_i 250 (by decide +kernel) (by decide +kernel)
theorem m_244 : (Cond.laysFinal "RingHerd" "RingHerd" "laneMasses" "[I") ∈ aw := aw_i 252 (by decide +kernel) (by decide +kernel)
theorem m_246 : (Cond.laysFinal "RingHerd" "RingHerd" "gapFirsts" "[I") ∈ aw := aw_i 254 (by decide +kernel) (by decide +kernel)
theorem m_248 : (Cond.laysFinal "RingHerd" "RingHerd" "gapLasts" "[I") ∈ aw := aw_i 256 (by decide +kernel) (by decide +kernel)
theorem m_251 : (Cond.methodLink "RingHerdLaw" (28 : Nat) ({ cls := "RingHerd", name := "grain", desc := "(IIII)I" } : Jvm.MethodName)) ∈ aw := aw_i 259 (by decide +kernel) (by decide +kernel)
theorem m_252 : (Cond.instanceMethod ({ cls := "RingHerd", name := "grain", desc := "(IIII)I" } : Jvm.MethodName)) ∈ aw := aw_i 260 (by decide +kernel) (by decide +kernel)
theorem m_253 : (Cond.selects "RingHerd" ({ cls := "RingHerd", name := "grain", desc := "(IIII)I" } : Jvm.MethodName) ({ cls := "RingHerd", name := "grain", desc := "(IIII)I" } : Jvm.MethodName)) ∈ aw := aw_i 261 (by decide +kernel) (by decide +kernel)
theorem m_254 : (Cond.code ({ cls := "RingHerd", name := "grain", desc := "(IIII)I" } : Jvm.MethodName) prog_1_method_2_code (5 : Nat) (Option.some Jvm.ClassFile.FieldType.int)) ∈ aw := aw_i 262 (by decide +kernel) (by decide +kernel)
theorem m_255 : (Cond.methodLink "RingHerd" (47 : Nat) ({ cls := "RingHerd", name := "requirePlace", desc := "(III)V" } : Jvm.MethodName)) ∈ aw := aw_i 263 (by decide +kernel) (by decide +kernel)
theorem m_256 : (Cond.static ({ cls := "RingHerd", name := "requirePlace", desc := "(III)V" } : Jvm.MethodName)) ∈ aw := aw_i 264 (by decide +kernel) (by decide +kernel)
theorem m_257 : (Cond.code ({ cls := "RingHerd", name := "requirePlace", desc := "(III)V" } : Jvm.MethodName) prog_1_method_26_code (3 : Nat) (Option.none : Option Jvm.ClassFile.FieldType)) ∈ aw := aw_i 265 (by decide +kernel) (by decide +kernel)
theorem m_258 : (Cond.methodLink "RingHerd" (132 : Nat) ({ cls := "RingHerd", name := "requireLane", desc := "(I)V" } : Jvm.MethodName)) ∈ aw := aw_i 266 (by decide +kernel) (by decide +kernel)
theorem m_259 : (Cond.static ({ cls := "RingHerd", name := "requireLane", desc := "(I)V" } : Jvm.MethodName)) ∈ aw := aw_i 267 (by decide +kernel) (by decide +kernel)
theorem m_260 : (Cond.code ({ cls := "RingHerd", name := "requireLane", desc := "(I)V" } : Jvm.MethodName) prog_1_method_25_code (1 : Nat) (Option.none : Option Jvm.ClassFile.FieldType)) ∈ aw := aw_i 268 (by decide +kernel) (by decide +kernel)
theorem m_261 : (Cond.methodLink "RingHerd" (51 : Nat) ({ cls := "RingHerd", name := "requireRange", desc := "(III)V" } : Jvm.MethodName)) ∈ aw := aw_i 269 (by decide +kernel) (by decide +kernel)
theorem m_262 : (Cond.static ({ cls := "RingHerd", name := "requireRange", desc := "(III)V" } : Jvm.MethodName)) ∈ aw := aw_i 270 (by decide +kernel) (by decide +kernel)
theorem m_263 : (Cond.code ({ cls := "RingHerd", name := "requireRange", desc := "(III)V" } : Jvm.MethodName) prog_1_method_24_code (3 : Nat) (Option.none : Option Jvm.ClassFile.FieldType)) ∈ aw := aw_i 271 (by decide +kernel) (by decide +kernel)
theorem m_264 : (Cond.classLink "RingHerd" (175 : Nat) "java/lang/IllegalArgumentException") ∈ aw := aw_i 272 (by decide +kernel) (by decide +kernel)
theorem m_265 : (Cond.instantiable "java/lang/IllegalArgumentException" (6 : Nat)) ∈ aw := aw_i 273 (by decide +kernel) (by decide +kernel)
theorem m_273 : (Cond.selects "java/lang/IllegalArgumentException" ({ cls := "java/lang/Throwable", name := "fillInStackTrace", desc := "(I)Ljava/lang/Throwable;" } : Jvm.MethodName) ({ cls := "java/lang/Throwable", name := "fillInStackTrace", desc := "(I)Ljava/lang/Throwable;" } : Jvm.MethodName)) ∈ aw := aw_i 281 (by decide +kernel) (by decide +kernel)
theorem m_274 : (Cond.selects "java/lang/IllegalArgumentException" ({ cls := "java/lang/Throwable", name := "fillInStackTrace", desc := "()Ljava/lang/Throwable;" } : Jvm.MethodName) ({ cls := "java/lang/Throwable", name := "fillInStackTrace", desc := "()Ljava/lang/Throwable;" } : Jvm.MethodName)) ∈ aw := aw_i 282 (by decide +kernel) (by decide +kernel)
theorem m_275 : (Cond.lays "java/lang/IllegalArgumentException" "java/lang/Throwable" "cause" "Ljava/lang/Throwable;") ∈ aw := aw_i 283 (by decide +kernel) (by decide +kernel)
theorem m_276 : (Cond.lays "java/lang/Throwable" "java/lang/Throwable" "cause" "Ljava/lang/Throwable;") ∈ aw := aw_i 284 (by decide +kernel) (by decide +kernel)
theorem m_277 : (Cond.lays "java/lang/IllegalArgumentException" "java/lang/Throwable" "stackTrace" "[Ljava/lang/StackTraceElement;") ∈ aw := aw_i 285 (by decide +kernel) (by decide +kernel)
theorem m_278 : (Cond.lays "java/lang/Throwable" "java/lang/Throwable" "stackTrace" "[Ljava/lang/StackTraceElement;") ∈ aw := aw_i 286 (by decide +kernel) (by decide +kernel)
theorem m_279 : (Cond.lays "java/lang/IllegalArgumentException" "java/lang/Throwable" "suppressedExceptions" "Ljava/util/List;") ∈ aw := aw_i 287 (by decide +kernel) (by decide +kernel)
theorem m_280 : (Cond.lays "java/lang/Throwable" "java/lang/Throwable" "suppressedExceptions" "Ljava/util/List;") ∈ aw := aw_i 288 (by decide +kernel) (by decide +kernel)
theorem m_281 : (Cond.lays "java/lang/IllegalArgumentException" "java/lang/Throwable" "detailMessage" "Ljava/lang/String;") ∈ aw := aw_i 289 (by decide +kernel) (by decide +kernel)
theorem m_282 : (Cond.lays "java/lang/Throwable" "java/lang/Throwable" "detailMessage" "Ljava/lang/String;") ∈ aw := aw_i 290 (by decide +kernel) (by decide +kernel)
theorem m_283 : (Cond.lays "java/lang/IllegalArgumentException" "java/lang/Throwable" "backtrace" "Ljava/lang/Object;") ∈ aw := aw_i 291 (by decide +kernel) (by decide +kernel)
theorem m_284 : (Cond.lays "java/lang/Throwable" "java/lang/Throwable" "backtrace" "Ljava/lang/Object;") ∈ aw := aw_i 292 (by decide +kernel) (by decide +kernel)
theorem m_285 : (Cond.fieldLink "java/lang/Throwable" (198 : Nat) "java/lang/Throwable" "backtrace" "Ljava/lang/Object;") ∈ aw := aw_i 293 (by decide +kernel) (by decide +kernel)
theorem m_287 : (Cond.instanceMethod ({ cls := "java/lang/Throwable", name := "<init>", desc := "()V" } : Jvm.MethodName)) ∈ aw := aw_i 295 (by decide +kernel) (by decide +kernel)
theorem m_288 : (Cond.code ({ cls := "java/lang/Throwable", name := "<init>", desc := "()V" } : Jvm.MethodName) prog_18_method_1_code (1 : Nat) (Option.none : Option Jvm.ClassFile.FieldType)) ∈ aw := aw_i 296 (by decide +kernel) (by decide +kernel)
theorem m_289 : (Cond.methodLink "java/lang/Throwable" (1 : Nat) ({ cls := "java/lang/Object", name := "<init>", desc := "()V" } : Jvm.MethodName)) ∈ aw := aw_i 297 (by decide +kernel) (by decide +kernel)
theorem m_290 : (Cond.fieldLink "java/lang/Throwable" (13 : Nat) "java/lang/Throwable" "UNASSIGNED_STACK" "[Ljava/lang/StackTraceElement;") ∈ aw := aw_i 298 (by decide +kernel) (by decide +kernel)
theorem m_292 : (Cond.fieldLink "java/lang/Throwable" (20 : Nat) "java/lang/Throwable" "SUPPRESSED_SENTINEL" "Ljava/util/List;") ∈ aw := aw_i 300 (by decide +kernel) (by decide +kernel)
theorem m_294 : (Cond.methodLink "java/lang/Throwable" (27 : Nat) ({ cls := "java/lang/Throwable", name := "fillInStackTrace", desc := "()Ljava/lang/Throwable;" } : Jvm.MethodName)) ∈ aw := aw_i 302 (by decide +kernel) (by decide +kernel)
theorem m_295 : (Cond.instanceMethod ({ cls := "java/lang/Throwable", name := "fillInStackTrace", desc := "()Ljava/lang/Throwable;" } : Jvm.MethodName)) ∈ aw := aw_i 303 (by decide +kernel) (by decide +kernel)
theorem m_296 : (Cond.sameMethod "java/lang/Throwable" "java/lang/Throwable" "fillInStackTrace" "()Ljava/lang/Throwable;") ∈ aw := aw_i 304 (by decide +kernel) (by decide +kernel)
theorem m_297 : (Cond.selects "java/lang/IllegalStateException" ({ cls := "java/lang/Throwable", name := "fillInStackTrace", desc := "()Ljava/lang/Throwable;" } : Jvm.MethodName) ({ cls := "java/lang/Throwable", name := "fillInStackTrace", desc := "()Ljava/lang/Throwable;" } : Jvm.MethodName)) ∈ aw := aw_i 305 (by decide +kernel) (by decide +kernel)
theorem m_298 : (Cond.selects "java/lang/IndexOutOfBoundsException" ({ cls := "java/lang/Throwable", name := "fillInStackTrace", desc := "()Ljava/lang/Throwable;" } : Jvm.MethodName) ({ cls := "java/lang/Throwable", name := "fillInStackTrace", desc := "()Ljava/lang/Throwable;" } : Jvm.MethodName)) ∈ aw := aw_i 306 (by decide +kernel) (by decide +kernel)
theorem m_299 : (Cond.codeSync ({ cls := "java/lang/Throwable", name := "fillInStackTrace", desc := "()Ljava/lang/Throwable;" } : Jvm.MethodName) prog_18_method_18_code (1 : Nat) (Option.some (Jvm.ClassFile.FieldType.object "java/lang/Throwable"))) ∈ aw := aw_i 307 (by decide +kernel) (by decide +kernel)
theorem m_300 : (Cond.methodLink "java/lang/Throwable" (202 : Nat) ({ cls := "java/lang/Throwable", name := "fillInStackTrace", desc := "(I)Ljava/lang/Throwable;" } : Jvm.MethodName)) ∈ aw := aw_i 308 (by decide +kernel) (by decide +kernel)
theorem m_302 : (Cond.instanceMethod ({ cls := "java/lang/Throwable", name := "fillInStackTrace", desc := "(I)Ljava/lang/Throwable;" } : Jvm.MethodName)) ∈ aw := aw_i 310 (by decide +kernel) (by decide +kernel)
theorem m_303 : (Cond.instantiable "java/lang/Throwable" (6 : Nat)) ∈ aw := aw_i 311 (by decide +kernel) (by decide +kernel)
theorem m_304 : (Cond.native ({ cls := "java/lang/Throwable", name := "fillInStackTrace", desc := "(I)Ljava/lang/Throwable;" } : Jvm.MethodName)) ∈ aw := aw_i 312 (by decide +kernel) (by decide +kernel)
theorem m_306 : (Cond.methodLink "RingHerd" (179 : Nat) ({ cls := "java/lang/IllegalArgumentException", name := "<init>", desc := "(Ljava/lang/String;)V" } : Jvm.MethodName)) ∈ aw := aw_i 314 (by decide +kernel) (by decide +kernel)
theorem m_307 : (Cond.instanceMethod ({ cls := "java/lang/IllegalArgumentException", name := "<init>", desc := "(Ljava/lang/String;)V" } : Jvm.MethodName)) ∈ aw := aw_i 315 (by decide +kernel) (by decide +kernel)
theorem m_308 : (Cond.code ({ cls := "java/lang/IllegalArgumentException", name := "<init>", desc := "(Ljava/lang/String;)V" } : Jvm.MethodName) prog_12_method_2_code (2 : Nat) (Option.none : Option Jvm.ClassFile.FieldType)) ∈ aw := aw_i 316 (by decide +kernel) (by decide +kernel)
theorem m_309 : (Cond.methodLink "java/lang/IllegalArgumentException" (7 : Nat) ({ cls := "java/lang/RuntimeException", name := "<init>", desc := "(Ljava/lang/String;)V" } : Jvm.MethodName)) ∈ aw := aw_i 317 (by decide +kernel) (by decide +kernel)
theorem m_310 : (Cond.instanceMethod ({ cls := "java/lang/RuntimeException", name := "<init>", desc := "(Ljava/lang/String;)V" } : Jvm.MethodName)) ∈ aw := aw_i 318 (by decide +kernel) (by decide +kernel)
theorem m_311 : (Cond.code ({ cls := "java/lang/RuntimeException", name := "<init>", desc := "(Ljava/lang/String;)V" } : Jvm.MethodName) prog_16_method_2_code (2 : Nat) (Option.none : Option Jvm.ClassFile.FieldType)) ∈ aw := aw_i 319 (by decide +kernel) (by decide +kernel)
theorem m_312 : (Cond.methodLink "java/lang/RuntimeException" (7 : Nat) ({ cls := "java/lang/Exception", name := "<init>", desc := "(Ljava/lang/String;)V" } : Jvm.MethodName)) ∈ aw := aw_i 320 (by decide +kernel) (by decide +kernel)
theorem m_313 : (Cond.instanceMethod ({ cls := "java/lang/Exception", name := "<init>", desc := "(Ljava/lang/String;)V" } : Jvm.MethodName)) ∈ aw := aw_i 321 (by decide +kernel) (by decide +kernel)
theorem m_314 : (Cond.code ({ cls := "java/lang/Exception", name := "<init>", desc := "(Ljava/lang/String;)V" } : Jvm.MethodName) prog_11_method_2_code (2 : Nat) (Option.none : Option Jvm.ClassFile.FieldType)) ∈ aw := aw_i 322 (by decide +kernel) (by decide +kernel)
theorem m_315 : (Cond.methodLink "java/lang/Exception" (7 : Nat) ({ cls := "java/lang/Throwable", name := "<init>", desc := "(Ljava/lang/String;)V" } : Jvm.MethodName)) ∈ aw := aw_i 323 (by decide +kernel) (by decide +kernel)
theorem m_316 : (Cond.instanceMethod ({ cls := "java/lang/Throwable", name := "<init>", desc := "(Ljava/lang/String;)V" } : Jvm.MethodName)) ∈ aw := aw_i 324 (by decide +kernel) (by decide +kernel)
theorem m_317 : (Cond.code ({ cls := "java/lang/Throwable", name := "<init>", desc := "(Ljava/lang/String;)V" } : Jvm.MethodName) prog_18_method_2_code (2 : Nat) (Option.none : Option Jvm.ClassFile.FieldType)) ∈ aw := aw_i 325 (by decide +kernel) (by decide +kernel)
theorem m_319 : (Cond.fieldLink "java/lang/Throwable" (31 : Nat) "java/lang/Throwable" "detailMessage" "Ljava/lang/String;") ∈ aw := aw_i 327 (by decide +kernel) (by decide +kernel)
theorem m_320 : (Cond.fieldLink "java/lang/Throwable" (7 : Nat) "java/lang/Throwable" "cause" "Ljava/lang/Throwable;") ∈ aw := aw_i 328 (by decide +kernel) (by decide +kernel)
theorem m_321 : (Cond.fieldLink "java/lang/Throwable" (17 : Nat) "java/lang/Throwable" "stackTrace" "[Ljava/lang/StackTraceElement;") ∈ aw := aw_i 329 (by decide +kernel) (by decide +kernel)
theorem m_322 : (Cond.fieldLink "java/lang/Throwable" (24 : Nat) "java/lang/Throwable" "suppressedExceptions" "Ljava/util/List;") ∈ aw := aw_i 330 (by decide +kernel) (by decide +kernel)
theorem m_327 : (Cond.lays "java/lang/IllegalArgumentException" "java/lang/Throwable" "depth" "I") ∈ aw := aw_i 335 (by decide +kernel) (by decide +kernel)
theorem m_331 : (Cond.arrayClass Jvm.ClassFile.FieldType.byte) ∈ aw := aw_i 339 (by decide +kernel) (by decide +kernel)
theorem m_332 : (Cond.constant "RingHerd" (266 : Nat) (35999 : Int32)) ∈ aw := aw_i 340 (by decide +kernel) (by decide +kernel)
theorem m_333 : (Cond.classLink "RingHerd" (58 : Nat) "java/lang/IllegalStateException") ∈ aw := aw_i 341 (by decide +kernel) (by decide +kernel)
theorem m_334 : (Cond.instantiable "java/lang/IllegalStateException" (6 : Nat)) ∈ aw := aw_i 342 (by decide +kernel) (by decide +kernel)
theorem m_336 : (Cond.selects "java/lang/IllegalStateException" ({ cls := "java/lang/Throwable", name := "fillInStackTrace", desc := "(I)Ljava/lang/Throwable;" } : Jvm.MethodName) ({ cls := "java/lang/Throwable", name := "fillInStackTrace", desc := "(I)Ljava/lang/Throwable;" } : Jvm.MethodName)) ∈ aw := aw_i 344 (by decide +kernel) (by decide +kernel)
theorem m_337 : (Cond.lays "java/lang/IllegalStateException" "java/lang/Throwable" "cause" "Ljava/lang/Throwable;") ∈ aw := aw_i 345 (by decide +kernel) (by decide +kernel)
theorem m_338 : (Cond.lays "java/lang/IllegalStateException" "java/lang/Throwable" "stackTrace" "[Ljava/lang/StackTraceElement;") ∈ aw := aw_i 346 (by decide +kernel) (by decide +kernel)
theorem m_339 : (Cond.lays "java/lang/IllegalStateException" "java/lang/Throwable" "suppressedExceptions" "Ljava/util/List;") ∈ aw := aw_i 347 (by decide +kernel) (by decide +kernel)
theorem m_340 : (Cond.lays "java/lang/IllegalStateException" "java/lang/Throwable" "detailMessage" "Ljava/lang/String;") ∈ aw := aw_i 348 (by decide +kernel) (by decide +kernel)
theorem m_341 : (Cond.lays "java/lang/IllegalStateException" "java/lang/Throwable" "backtrace" "Ljava/lang/Object;") ∈ aw := aw_i 349 (by decide +kernel) (by decide +kernel)
theorem m_343 : (Cond.methodLink "RingHerd" (62 : Nat) ({ cls := "java/lang/IllegalStateException", name := "<init>", desc := "(Ljava/lang/String;)V" } : Jvm.MethodName)) ∈ aw := aw_i 351 (by decide +kernel) (by decide +kernel)
theorem m_344 : (Cond.instanceMethod ({ cls := "java/lang/IllegalStateException", name := "<init>", desc := "(Ljava/lang/String;)V" } : Jvm.MethodName)) ∈ aw := aw_i 352 (by decide +kernel) (by decide +kernel)
theorem m_345 : (Cond.code ({ cls := "java/lang/IllegalStateException", name := "<init>", desc := "(Ljava/lang/String;)V" } : Jvm.MethodName) prog_13_method_2_code (2 : Nat) (Option.none : Option Jvm.ClassFile.FieldType)) ∈ aw := aw_i 353 (by decide +kernel) (by decide +kernel)
theorem m_346 : (Cond.methodLink "java/lang/IllegalStateException" (7 : Nat) ({ cls := "java/lang/RuntimeException", name := "<init>", desc := "(Ljava/lang/String;)V" } : Jvm.MethodName)) ∈ aw := aw_i 354 (by decide +kernel) (by decide +kernel)
theorem m_347 : (Cond.lays "java/lang/IllegalStateException" "java/lang/Throwable" "depth" "I") ∈ aw := aw_i 355 (by decide +kernel) (by decide +kernel)
theorem m_349 : (Cond.methodLink "RingHerd" (65 : Nat) ({ cls := "RingHerd$Herd", name := "put", desc := "(IIII)I" } : Jvm.MethodName)) ∈ aw := aw_i 357 (by decide +kernel) (by decide +kernel)
theorem m_350 : (Cond.instanceMethod ({ cls := "RingHerd$Herd", name := "put", desc := "(IIII)I" } : Jvm.MethodName)) ∈ aw := aw_i 358 (by decide +kernel) (by decide +kernel)
theorem m_351 : (Cond.selects "RingHerd$Herd" ({ cls := "RingHerd$Herd", name := "put", desc := "(IIII)I" } : Jvm.MethodName) ({ cls := "RingHerd$Herd", name := "put", desc := "(IIII)I" } : Jvm.MethodName)) ∈ aw := aw_i 359 (by decide +kernel) (by decide +kernel)
theorem m_352 : (Cond.code ({ cls := "RingHerd$Herd", name := "put", desc := "(IIII)I" } : Jvm.MethodName) prog_5_method_2_code (6 : Nat) (Option.some Jvm.ClassFile.FieldType.int)) ∈ aw := aw_i 360 (by decide +kernel) (by decide +kernel)
theorem m_353 : (Cond.methodLink "RingHerd$Herd" (68 : Nat) ({ cls := "RingHerd$Grain", name := "carried", desc := "()J" } : Jvm.MethodName)) ∈ aw := aw_i 361 (by decide +kernel) (by decide +kernel)
theorem m_354 : (Cond.instanceMethod ({ cls := "RingHerd$Grain", name := "carried", desc := "()J" } : Jvm.MethodName)) ∈ aw := aw_i 362 (by decide +kernel) (by decide +kernel)
theorem m_355 : (Cond.selects "RingHerd$Grain" ({ cls := "RingHerd$Grain", name := "carried", desc := "()J" } : Jvm.MethodName) ({ cls := "RingHerd$Grain", name := "carried", desc := "()J" } : Jvm.MethodName)) ∈ aw := aw_i 363 (by decide +kernel) (by decide +kernel)
theorem m_356 : (Cond.code ({ cls := "RingHerd$Grain", name := "carried", desc := "()J" } : Jvm.MethodName) prog_4_method_2_code (1 : Nat) (Option.some Jvm.ClassFile.FieldType.long)) ∈ aw := aw_i 364 (by decide +kernel) (by decide +kernel)
theorem m_357 : (Cond.methodLink "RingHerdLaw" (24 : Nat) ({ cls := "RingHerd", name := "moon", desc := "(III)I" } : Jvm.MethodName)) ∈ aw := aw_i 365 (by decide +kernel) (by decide +kernel)
theorem m_358 : (Cond.instanceMethod ({ cls := "RingHerd", name := "moon", desc := "(III)I" } : Jvm.MethodName)) ∈ aw := aw_i 366 (by decide +kernel) (by decide +kernel)
theorem m_359 : (Cond.selects "RingHerd" ({ cls := "RingHerd", name := "moon", desc := "(III)I" } : Jvm.MethodName) ({ cls := "RingHerd", name := "moon", desc := "(III)I" } : Jvm.MethodName)) ∈ aw := aw_i 367 (by decide +kernel) (by decide +kernel)
theorem m_360 : (Cond.code ({ cls := "RingHerd", name := "moon", desc := "(III)I" } : Jvm.MethodName) prog_1_method_3_code (5 : Nat) (Option.some Jvm.ClassFile.FieldType.int)) ∈ aw := aw_i 368 (by decide +kernel) (by decide +kernel)
theorem m_362 : (Cond.methodLink "RingHerd" (80 : Nat) ({ cls := "RingHerd", name := "widthOf", desc := "(I)I" } : Jvm.MethodName)) ∈ aw := aw_i 370 (by decide +kernel) (by decide +kernel)
theorem m_363 : (Cond.static ({ cls := "RingHerd", name := "widthOf", desc := "(I)I" } : Jvm.MethodName)) ∈ aw := aw_i 371 (by decide +kernel) (by decide +kernel)
theorem m_364 : (Cond.code ({ cls := "RingHerd", name := "widthOf", desc := "(I)I" } : Jvm.MethodName) prog_1_method_31_code (3 : Nat) (Option.some Jvm.ClassFile.FieldType.int)) ∈ aw := aw_i 372 (by decide +kernel) (by decide +kernel)
theorem m_365 : (Cond.methodLink "RingHerdLaw" (36 : Nat) ({ cls := "RingHerd", name := "flatness", desc := "(I)I" } : Jvm.MethodName)) ∈ aw := aw_i 373 (by decide +kernel) (by decide +kernel)
theorem m_366 : (Cond.instanceMethod ({ cls := "RingHerd", name := "flatness", desc := "(I)I" } : Jvm.MethodName)) ∈ aw := aw_i 374 (by decide +kernel) (by decide +kernel)
theorem m_367 : (Cond.selects "RingHerd" ({ cls := "RingHerd", name := "flatness", desc := "(I)I" } : Jvm.MethodName) ({ cls := "RingHerd", name := "flatness", desc := "(I)I" } : Jvm.MethodName)) ∈ aw := aw_i 375 (by decide +kernel) (by decide +kernel)
theorem m_368 : (Cond.code ({ cls := "RingHerd", name := "flatness", desc := "(I)I" } : Jvm.MethodName) prog_1_method_4_code (3 : Nat) (Option.some Jvm.ClassFile.FieldType.int)) ∈ aw := aw_i 376 (by decide +kernel) (by decide +kernel)
theorem m_369 : (Cond.methodLink "RingHerdLaw" (40 : Nat) ({ cls := "RingHerd", name := "bounds", desc := "(III)V" } : Jvm.MethodName)) ∈ aw := aw_i 377 (by decide +kernel) (by decide +kernel)
theorem m_370 : (Cond.instanceMethod ({ cls := "RingHerd", name := "bounds", desc := "(III)V" } : Jvm.MethodName)) ∈ aw := aw_i 378 (by decide +kernel) (by decide +kernel)
theorem m_371 : (Cond.selects "RingHerd" ({ cls := "RingHerd", name := "bounds", desc := "(III)V" } : Jvm.MethodName) ({ cls := "RingHerd", name := "bounds", desc := "(III)V" } : Jvm.MethodName)) ∈ aw := aw_i 379 (by decide +kernel) (by decide +kernel)
theorem m_372 : (Cond.code ({ cls := "RingHerd", name := "bounds", desc := "(III)V" } : Jvm.MethodName) prog_1_method_5_code (4 : Nat) (Option.none : Option Jvm.ClassFile.FieldType)) ∈ aw := aw_i 380 (by decide +kernel) (by decide +kernel)
theorem m_373 : (Cond.methodLink "RingHerdLaw" (44 : Nat) ({ cls := "RingHerd", name := "tick", desc := "(I)I" } : Jvm.MethodName)) ∈ aw := aw_i 381 (by decide +kernel) (by decide +kernel)
theorem m_374 : (Cond.instanceMethod ({ cls := "RingHerd", name := "tick", desc := "(I)I" } : Jvm.MethodName)) ∈ aw := aw_i 382 (by decide +kernel) (by decide +kernel)
theorem m_375 : (Cond.selects "RingHerd" ({ cls := "RingHerd", name := "tick", desc := "(I)I" } : Jvm.MethodName) ({ cls := "RingHerd", name := "tick", desc := "(I)I" } : Jvm.MethodName)) ∈ aw := aw_i 383 (by decide +kernel) (by decide +kernel)
theorem m_376 : (Cond.code ({ cls := "RingHerd", name := "tick", desc := "(I)I" } : Jvm.MethodName) prog_1_method_6_code (3 : Nat) (Option.some Jvm.ClassFile.FieldType.int)) ∈ aw := aw_i 384 (by decide +kernel) (by decide +kernel)
theorem m_378 : (Cond.methodLink "RingHerd" (110 : Nat) ({ cls := "RingHerd", name := "passTick", desc := "()V" } : Jvm.MethodName)) ∈ aw := aw_i 386 (by decide +kernel) (by decide +kernel)
theorem m_380 : (Cond.instanceMethod ({ cls := "RingHerd", name := "passTick", desc := "()V" } : Jvm.MethodName)) ∈ aw := aw_i 388 (by decide +kernel) (by decide +kernel)
theorem m_381 : (Cond.code ({ cls := "RingHerd", name := "passTick", desc := "()V" } : Jvm.MethodName) prog_1_method_32_code (2 : Nat) (Option.none : Option Jvm.ClassFile.FieldType)) ∈ aw := aw_i 389 (by decide +kernel) (by decide +kernel)
theorem m_382 : (Cond.methodLink "RingHerd" (180 : Nat) ({ cls := "RingHerd$Planet", name := "speedIn", desc := "(I)I" } : Jvm.MethodName)) ∈ aw := aw_i 390 (by decide +kernel) (by decide +kernel)
theorem m_383 : (Cond.instanceMethod ({ cls := "RingHerd$Planet", name := "speedIn", desc := "(I)I" } : Jvm.MethodName)) ∈ aw := aw_i 391 (by decide +kernel) (by decide +kernel)
theorem m_384 : (Cond.selects "RingHerd$Planet" ({ cls := "RingHerd$Planet", name := "speedIn", desc := "(I)I" } : Jvm.MethodName) ({ cls := "RingHerd$Planet", name := "speedIn", desc := "(I)I" } : Jvm.MethodName)) ∈ aw := aw_i 392 (by decide +kernel) (by decide +kernel)
theorem m_385 : (Cond.code ({ cls := "RingHerd$Planet", name := "speedIn", desc := "(I)I" } : Jvm.MethodName) prog_8_method_2_code (3 : Nat) (Option.some Jvm.ClassFile.FieldType.int)) ∈ aw := aw_i 393 (by decide +kernel) (by decide +kernel)
theorem m_387 : (Cond.static ({ cls := "RingHerd", name := "radiusOf", desc := "(I)I" } : Jvm.MethodName)) ∈ aw := aw_i 395 (by decide +kernel) (by decide +kernel)
theorem m_388 : (Cond.code ({ cls := "RingHerd", name := "radiusOf", desc := "(I)I" } : Jvm.MethodName) prog_1_method_28_code (1 : Nat) (Option.some Jvm.ClassFile.FieldType.int)) ∈ aw := aw_i 396 (by decide +kernel) (by decide +kernel)
theorem m_389 : (Cond.constant "RingHerd$Planet" (13 : Nat) (36000 : Int32)) ∈ aw := aw_i 397 (by decide +kernel) (by decide +kernel)
theorem m_390 : (Cond.methodLink "RingHerd" (281 : Nat) ({ cls := "RingHerd", name := "turned", desc := "(II)I" } : Jvm.MethodName)) ∈ aw := aw_i 398 (by decide +kernel) (by decide +kernel)
theorem m_391 : (Cond.static ({ cls := "RingHerd", name := "turned", desc := "(II)I" } : Jvm.MethodName)) ∈ aw := aw_i 399 (by decide +kernel) (by decide +kernel)
theorem m_392 : (Cond.code ({ cls := "RingHerd", name := "turned", desc := "(II)I" } : Jvm.MethodName) prog_1_method_29_code (2 : Nat) (Option.some Jvm.ClassFile.FieldType.int)) ∈ aw := aw_i 400 (by decide +kernel) (by decide +kernel)
theorem m_393 : (Cond.constant "RingHerd" (272 : Nat) (36000 : Int32)) ∈ aw := aw_i 401 (by decide +kernel) (by decide +kernel)
theorem m_394 : (Cond.methodLink "RingHerd" (284 : Nat) ({ cls := "RingHerd$Herd", name := "goRound", desc := "()V" } : Jvm.MethodName)) ∈ aw := aw_i 402 (by decide +kernel) (by decide +kernel)
theorem m_395 : (Cond.instanceMethod ({ cls := "RingHerd$Herd", name := "goRound", desc := "()V" } : Jvm.MethodName)) ∈ aw := aw_i 403 (by decide +kernel) (by decide +kernel)
theorem m_396 : (Cond.selects "RingHerd$Herd" ({ cls := "RingHerd$Herd", name := "goRound", desc := "()V" } : Jvm.MethodName) ({ cls := "RingHerd$Herd", name := "goRound", desc := "()V" } : Jvm.MethodName)) ∈ aw := aw_i 404 (by decide +kernel) (by decide +kernel)
theorem m_397 : (Cond.code ({ cls := "RingHerd$Herd", name := "goRound", desc := "()V" } : Jvm.MethodName) prog_5_method_7_code (5 : Nat) (Option.none : Option Jvm.ClassFile.FieldType)) ∈ aw := aw_i 405 (by decide +kernel) (by decide +kernel)
theorem m_398 : (Cond.methodLink "RingHerd$Herd" (72 : Nat) ({ cls := "RingHerd$Planet", name := "speedIn", desc := "(I)I" } : Jvm.MethodName)) ∈ aw := aw_i 406 (by decide +kernel) (by decide +kernel)
theorem m_400 : (Cond.methodLink "RingHerd" (287 : Nat) ({ cls := "RingHerd$Herd", name := "yieldTo", desc := "(LRingHerd$Moon;)V" } : Jvm.MethodName)) ∈ aw := aw_i 408 (by decide +kernel) (by decide +kernel)
theorem m_401 : (Cond.instanceMethod ({ cls := "RingHerd$Herd", name := "yieldTo", desc := "(LRingHerd$Moon;)V" } : Jvm.MethodName)) ∈ aw := aw_i 409 (by decide +kernel) (by decide +kernel)
theorem m_402 : (Cond.selects "RingHerd$Herd" ({ cls := "RingHerd$Herd", name := "yieldTo", desc := "(LRingHerd$Moon;)V" } : Jvm.MethodName) ({ cls := "RingHerd$Herd", name := "yieldTo", desc := "(LRingHerd$Moon;)V" } : Jvm.MethodName)) ∈ aw := aw_i 410 (by decide +kernel) (by decide +kernel)
theorem m_403 : (Cond.code ({ cls := "RingHerd$Herd", name := "yieldTo", desc := "(LRingHerd$Moon;)V" } : Jvm.MethodName) prog_5_method_8_code (8 : Nat) (Option.none : Option Jvm.ClassFile.FieldType)) ∈ aw := aw_i 411 (by decide +kernel) (by decide +kernel)
theorem m_404 : (Cond.methodLink "RingHerd$Herd" (87 : Nat) ({ cls := "RingHerd$Grain", name := "isNear", desc := "(IIII)Z" } : Jvm.MethodName)) ∈ aw := aw_i 412 (by decide +kernel) (by decide +kernel)
theorem m_405 : (Cond.instanceMethod ({ cls := "RingHerd$Grain", name := "isNear", desc := "(IIII)Z" } : Jvm.MethodName)) ∈ aw := aw_i 413 (by decide +kernel) (by decide +kernel)
theorem m_406 : (Cond.selects "RingHerd$Grain" ({ cls := "RingHerd$Grain", name := "isNear", desc := "(IIII)Z" } : Jvm.MethodName) ({ cls := "RingHerd$Grain", name := "isNear", desc := "(IIII)Z" } : Jvm.MethodName)) ∈ aw := aw_i 414 (by decide +kernel) (by decide +kernel)
theorem m_407 : (Cond.code ({ cls := "RingHerd$Grain", name := "isNear", desc := "(IIII)Z" } : Jvm.MethodName) prog_4_method_3_code (5 : Nat) (Option.some Jvm.ClassFile.FieldType.boolean)) ∈ aw := aw_i 415 (by decide +kernel) (by decide +kernel)
theorem m_408 : (Cond.methodLink "RingHerd$Grain" (18 : Nat) ({ cls := "java/lang/Math", name := "abs", desc := "(I)I" } : Jvm.MethodName)) ∈ aw := aw_i 416 (by decide +kernel) (by decide +kernel)
theorem m_409 : (Cond.static ({ cls := "java/lang/Math", name := "abs", desc := "(I)I" } : Jvm.MethodName)) ∈ aw := aw_i 417 (by decide +kernel) (by decide +kernel)
theorem m_410 : (Cond.code ({ cls := "java/lang/Math", name := "abs", desc := "(I)I" } : Jvm.MethodName) prog_15_method_59_code (1 : Nat) (Option.some Jvm.ClassFile.FieldType.int)) ∈ aw := aw_i 418 (by decide +kernel) (by decide +kernel)
theorem m_412 : (Cond.static ({ cls := "RingHerd", name := "anglesApart", desc := "(II)I" } : Jvm.MethodName)) ∈ aw := aw_i 420 (by decide +kernel) (by decide +kernel)
theorem m_413 : (Cond.code ({ cls := "RingHerd", name := "anglesApart", desc := "(II)I" } : Jvm.MethodName) prog_1_method_30_code (3 : Nat) (Option.some Jvm.ClassFile.FieldType.int)) ∈ aw := aw_i 421 (by decide +kernel) (by decide +kernel)
theorem m_414 : (Cond.methodLink "RingHerd" (273 : Nat) ({ cls := "java/lang/Math", name := "abs", desc := "(I)I" } : Jvm.MethodName)) ∈ aw := aw_i 422 (by decide +kernel) (by decide +kernel)
theorem m_415 : (Cond.methodLink "RingHerd" (278 : Nat) ({ cls := "java/lang/Math", name := "min", desc := "(II)I" } : Jvm.MethodName)) ∈ aw := aw_i 423 (by decide +kernel) (by decide +kernel)
theorem m_416 : (Cond.static ({ cls := "java/lang/Math", name := "min", desc := "(II)I" } : Jvm.MethodName)) ∈ aw := aw_i 424 (by decide +kernel) (by decide +kernel)
theorem m_417 : (Cond.code ({ cls := "java/lang/Math", name := "min", desc := "(II)I" } : Jvm.MethodName) prog_15_method_69_code (2 : Nat) (Option.some Jvm.ClassFile.FieldType.int)) ∈ aw := aw_i 425 (by decide +kernel) (by decide +kernel)
theorem m_418 : (Cond.methodLink "RingHerd$Herd" (91 : Nat) ({ cls := "RingHerd$Herd", name := "shift", desc := "(LRingHerd$Grain;I)V" } : Jvm.MethodName)) ∈ aw := aw_i 426 (by decide +kernel) (by decide +kernel)
theorem m_420 : (Cond.instanceMethod ({ cls := "RingHerd$Herd", name := "shift", desc := "(LRingHerd$Grain;I)V" } : Jvm.MethodName)) ∈ aw := aw_i 428 (by decide +kernel) (by decide +kernel)
theorem m_421 : (Cond.code ({ cls := "RingHerd$Herd", name := "shift", desc := "(LRingHerd$Grain;I)V" } : Jvm.MethodName) prog_5_method_17_code (3 : Nat) (Option.none : Option Jvm.ClassFile.FieldType)) ∈ aw := aw_i 429 (by decide +kernel) (by decide +kernel)
theorem m_422 : (Cond.methodLink "RingHerd$Herd" (95 : Nat) ({ cls := "java/lang/Math", name := "min", desc := "(II)I" } : Jvm.MethodName)) ∈ aw := aw_i 430 (by decide +kernel) (by decide +kernel)
theorem m_423 : (Cond.methodLink "RingHerd" (291 : Nat) ({ cls := "RingHerd$Herd", name := "meetAll", desc := "()V" } : Jvm.MethodName)) ∈ aw := aw_i 431 (by decide +kernel) (by decide +kernel)
theorem m_424 : (Cond.instanceMethod ({ cls := "RingHerd$Herd", name := "meetAll", desc := "()V" } : Jvm.MethodName)) ∈ aw := aw_i 432 (by decide +kernel) (by decide +kernel)
theorem m_425 : (Cond.selects "RingHerd$Herd" ({ cls := "RingHerd$Herd", name := "meetAll", desc := "()V" } : Jvm.MethodName) ({ cls := "RingHerd$Herd", name := "meetAll", desc := "()V" } : Jvm.MethodName)) ∈ aw := aw_i 433 (by decide +kernel) (by decide +kernel)
theorem m_426 : (Cond.code ({ cls := "RingHerd$Herd", name := "meetAll", desc := "()V" } : Jvm.MethodName) prog_5_method_9_code (5 : Nat) (Option.none : Option Jvm.ClassFile.FieldType)) ∈ aw := aw_i 434 (by decide +kernel) (by decide +kernel)
theorem m_427 : (Cond.methodLink "RingHerd$Herd" (106 : Nat) ({ cls := "RingHerd$Grain", name := "mayMeet", desc := "()Z" } : Jvm.MethodName)) ∈ aw := aw_i 435 (by decide +kernel) (by decide +kernel)
theorem m_428 : (Cond.instanceMethod ({ cls := "RingHerd$Grain", name := "mayMeet", desc := "()Z" } : Jvm.MethodName)) ∈ aw := aw_i 436 (by decide +kernel) (by decide +kernel)
theorem m_429 : (Cond.selects "RingHerd$Grain" ({ cls := "RingHerd$Grain", name := "mayMeet", desc := "()Z" } : Jvm.MethodName) ({ cls := "RingHerd$Grain", name := "mayMeet", desc := "()Z" } : Jvm.MethodName)) ∈ aw := aw_i 437 (by decide +kernel) (by decide +kernel)
theorem m_430 : (Cond.code ({ cls := "RingHerd$Grain", name := "mayMeet", desc := "()Z" } : Jvm.MethodName) prog_4_method_4_code (1 : Nat) (Option.some Jvm.ClassFile.FieldType.boolean)) ∈ aw := aw_i 438 (by decide +kernel) (by decide +kernel)
theorem m_431 : (Cond.methodLink "RingHerd$Herd" (110 : Nat) ({ cls := "RingHerd$Herd", name := "partnerOf", desc := "(II)I" } : Jvm.MethodName)) ∈ aw := aw_i 439 (by decide +kernel) (by decide +kernel)
theorem m_433 : (Cond.instanceMethod ({ cls := "RingHerd$Herd", name := "partnerOf", desc := "(II)I" } : Jvm.MethodName)) ∈ aw := aw_i 441 (by decide +kernel) (by decide +kernel)
theorem m_434 : (Cond.code ({ cls := "RingHerd$Herd", name := "partnerOf", desc := "(II)I" } : Jvm.MethodName) prog_5_method_11_code (6 : Nat) (Option.some Jvm.ClassFile.FieldType.int)) ∈ aw := aw_i 442 (by decide +kernel) (by decide +kernel)
theorem m_435 : (Cond.methodLink "RingHerd$Herd" (113 : Nat) ({ cls := "RingHerd$Herd", name := "meet", desc := "(LRingHerd$Grain;LRingHerd$Grain;)V" } : Jvm.MethodName)) ∈ aw := aw_i 443 (by decide +kernel) (by decide +kernel)
theorem m_437 : (Cond.instanceMethod ({ cls := "RingHerd$Herd", name := "meet", desc := "(LRingHerd$Grain;LRingHerd$Grain;)V" } : Jvm.MethodName)) ∈ aw := aw_i 445 (by decide +kernel) (by decide +kernel)
theorem m_438 : (Cond.code ({ cls := "RingHerd$Herd", name := "meet", desc := "(LRingHerd$Grain;LRingHerd$Grain;)V" } : Jvm.MethodName) prog_5_method_12_code (5 : Nat) (Option.none : Option Jvm.ClassFile.FieldType)) ∈ aw := aw_i 446 (by decide +kernel) (by decide +kernel)
theorem m_439 : (Cond.methodLink "RingHerd$Herd" (120 : Nat) ({ cls := "java/lang/Math", name := "abs", desc := "(I)I" } : Jvm.MethodName)) ∈ aw := aw_i 447 (by decide +kernel) (by decide +kernel)
theorem m_440 : (Cond.methodLink "RingHerd$Herd" (123 : Nat) ({ cls := "RingHerd$Herd", name := "stick", desc := "(LRingHerd$Grain;LRingHerd$Grain;)V" } : Jvm.MethodName)) ∈ aw := aw_i 448 (by decide +kernel) (by decide +kernel)
theorem m_442 : (Cond.instanceMethod ({ cls := "RingHerd$Herd", name := "stick", desc := "(LRingHerd$Grain;LRingHerd$Grain;)V" } : Jvm.MethodName)) ∈ aw := aw_i 450 (by decide +kernel) (by decide +kernel)
theorem m_443 : (Cond.code ({ cls := "RingHerd$Herd", name := "stick", desc := "(LRingHerd$Grain;LRingHerd$Grain;)V" } : Jvm.MethodName) prog_5_method_13_code (7 : Nat) (Option.none : Option Jvm.ClassFile.FieldType)) ∈ aw := aw_i 451 (by decide +kernel) (by decide +kernel)
theorem m_444 : (Cond.methodLink "RingHerd$Herd" (133 : Nat) ({ cls := "RingHerd$Herd", name := "blend", desc := "(LRingHerd$Grain;ILRingHerd$Grain;I)I" } : Jvm.MethodName)) ∈ aw := aw_i 452 (by decide +kernel) (by decide +kernel)
theorem m_445 : (Cond.static ({ cls := "RingHerd$Herd", name := "blend", desc := "(LRingHerd$Grain;ILRingHerd$Grain;I)I" } : Jvm.MethodName)) ∈ aw := aw_i 453 (by decide +kernel) (by decide +kernel)
theorem m_446 : (Cond.code ({ cls := "RingHerd$Herd", name := "blend", desc := "(LRingHerd$Grain;ILRingHerd$Grain;I)I" } : Jvm.MethodName) prog_5_method_14_code (6 : Nat) (Option.some Jvm.ClassFile.FieldType.int)) ∈ aw := aw_i 454 (by decide +kernel) (by decide +kernel)
theorem m_447 : (Cond.methodLink "RingHerd$Herd" (126 : Nat) ({ cls := "RingHerd$Herd", name := "breakUp", desc := "(LRingHerd$Grain;)V" } : Jvm.MethodName)) ∈ aw := aw_i 455 (by decide +kernel) (by decide +kernel)
theorem m_449 : (Cond.instanceMethod ({ cls := "RingHerd$Herd", name := "breakUp", desc := "(LRingHerd$Grain;)V" } : Jvm.MethodName)) ∈ aw := aw_i 457 (by decide +kernel) (by decide +kernel)
theorem m_450 : (Cond.code ({ cls := "RingHerd$Herd", name := "breakUp", desc := "(LRingHerd$Grain;)V" } : Jvm.MethodName) prog_5_method_15_code (5 : Nat) (Option.none : Option Jvm.ClassFile.FieldType)) ∈ aw := aw_i 458 (by decide +kernel) (by decide +kernel)
theorem m_451 : (Cond.methodLink "RingHerd$Herd" (130 : Nat) ({ cls := "RingHerd$Herd", name := "bump", desc := "(LRingHerd$Grain;LRingHerd$Grain;)V" } : Jvm.MethodName)) ∈ aw := aw_i 459 (by decide +kernel) (by decide +kernel)
theorem m_453 : (Cond.instanceMethod ({ cls := "RingHerd$Herd", name := "bump", desc := "(LRingHerd$Grain;LRingHerd$Grain;)V" } : Jvm.MethodName)) ∈ aw := aw_i 461 (by decide +kernel) (by decide +kernel)
theorem m_454 : (Cond.code ({ cls := "RingHerd$Herd", name := "bump", desc := "(LRingHerd$Grain;LRingHerd$Grain;)V" } : Jvm.MethodName) prog_5_method_16_code (6 : Nat) (Option.none : Option Jvm.ClassFile.FieldType)) ∈ aw := aw_i 462 (by decide +kernel) (by decide +kernel)
theorem m_455 : (Cond.methodLink "RingHerd" (294 : Nat) ({ cls := "RingHerd$Herd", name := "darken", desc := "()V" } : Jvm.MethodName)) ∈ aw := aw_i 463 (by decide +kernel) (by decide +kernel)
theorem m_456 : (Cond.instanceMethod ({ cls := "RingHerd$Herd", name := "darken", desc := "()V" } : Jvm.MethodName)) ∈ aw := aw_i 464 (by decide +kernel) (by decide +kernel)
theorem m_457 : (Cond.selects "RingHerd$Herd" ({ cls := "RingHerd$Herd", name := "darken", desc := "()V" } : Jvm.MethodName) ({ cls := "RingHerd$Herd", name := "darken", desc := "()V" } : Jvm.MethodName)) ∈ aw := aw_i 465 (by decide +kernel) (by decide +kernel)
theorem m_458 : (Cond.code ({ cls := "RingHerd$Herd", name := "darken", desc := "()V" } : Jvm.MethodName) prog_5_method_10_code (5 : Nat) (Option.none : Option Jvm.ClassFile.FieldType)) ∈ aw := aw_i 466 (by decide +kernel) (by decide +kernel)
theorem m_459 : (Cond.methodLink "RingHerdLaw" (57 : Nat) ({ cls := "RingHerd", name := "told", desc := "(II)I" } : Jvm.MethodName)) ∈ aw := aw_i 467 (by decide +kernel) (by decide +kernel)
theorem m_460 : (Cond.instanceMethod ({ cls := "RingHerd", name := "told", desc := "(II)I" } : Jvm.MethodName)) ∈ aw := aw_i 468 (by decide +kernel) (by decide +kernel)
theorem m_461 : (Cond.selects "RingHerd" ({ cls := "RingHerd", name := "told", desc := "(II)I" } : Jvm.MethodName) ({ cls := "RingHerd", name := "told", desc := "(II)I" } : Jvm.MethodName)) ∈ aw := aw_i 469 (by decide +kernel) (by decide +kernel)
theorem m_462 : (Cond.code ({ cls := "RingHerd", name := "told", desc := "(II)I" } : Jvm.MethodName) prog_1_method_10_code (4 : Nat) (Option.some Jvm.ClassFile.FieldType.int)) ∈ aw := aw_i 470 (by decide +kernel) (by decide +kernel)
theorem m_463 : (Cond.methodLink "RingHerd" (128 : Nat) ({ cls := "RingHerd", name := "requireNumber", desc := "(II)V" } : Jvm.MethodName)) ∈ aw := aw_i 471 (by decide +kernel) (by decide +kernel)
theorem m_464 : (Cond.static ({ cls := "RingHerd", name := "requireNumber", desc := "(II)V" } : Jvm.MethodName)) ∈ aw := aw_i 472 (by decide +kernel) (by decide +kernel)
theorem m_465 : (Cond.code ({ cls := "RingHerd", name := "requireNumber", desc := "(II)V" } : Jvm.MethodName) prog_1_method_27_code (2 : Nat) (Option.none : Option Jvm.ClassFile.FieldType)) ∈ aw := aw_i 473 (by decide +kernel) (by decide +kernel)
theorem m_466 : (Cond.classLink "RingHerd" (267 : Nat) "java/lang/IndexOutOfBoundsException") ∈ aw := aw_i 474 (by decide +kernel) (by decide +kernel)
theorem m_467 : (Cond.instantiable "java/lang/IndexOutOfBoundsException" (6 : Nat)) ∈ aw := aw_i 475 (by decide +kernel) (by decide +kernel)
theorem m_469 : (Cond.selects "java/lang/IndexOutOfBoundsException" ({ cls := "java/lang/Throwable", name := "fillInStackTrace", desc := "(I)Ljava/lang/Throwable;" } : Jvm.MethodName) ({ cls := "java/lang/Throwable", name := "fillInStackTrace", desc := "(I)Ljava/lang/Throwable;" } : Jvm.MethodName)) ∈ aw := aw_i 477 (by decide +kernel) (by decide +kernel)
theorem m_470 : (Cond.lays "java/lang/IndexOutOfBoundsException" "java/lang/Throwable" "cause" "Ljava/lang/Throwable;") ∈ aw := aw_i 478 (by decide +kernel) (by decide +kernel)
theorem m_471 : (Cond.lays "java/lang/IndexOutOfBoundsException" "java/lang/Throwable" "stackTrace" "[Ljava/lang/StackTraceElement;") ∈ aw := aw_i 479 (by decide +kernel) (by decide +kernel)
theorem m_472 : (Cond.lays "java/lang/IndexOutOfBoundsException" "java/lang/Throwable" "suppressedExceptions" "Ljava/util/List;") ∈ aw := aw_i 480 (by decide +kernel) (by decide +kernel)
theorem m_473 : (Cond.lays "java/lang/IndexOutOfBoundsException" "java/lang/Throwable" "detailMessage" "Ljava/lang/String;") ∈ aw := aw_i 481 (by decide +kernel) (by decide +kernel)
theorem m_474 : (Cond.lays "java/lang/IndexOutOfBoundsException" "java/lang/Throwable" "backtrace" "Ljava/lang/Object;") ∈ aw := aw_i 482 (by decide +kernel) (by decide +kernel)
theorem m_476 : (Cond.methodLink "RingHerd" (271 : Nat) ({ cls := "java/lang/IndexOutOfBoundsException", name := "<init>", desc := "(Ljava/lang/String;)V" } : Jvm.MethodName)) ∈ aw := aw_i 484 (by decide +kernel) (by decide +kernel)
theorem m_477 : (Cond.instanceMethod ({ cls := "java/lang/IndexOutOfBoundsException", name := "<init>", desc := "(Ljava/lang/String;)V" } : Jvm.MethodName)) ∈ aw := aw_i 485 (by decide +kernel) (by decide +kernel)
theorem m_478 : (Cond.code ({ cls := "java/lang/IndexOutOfBoundsException", name := "<init>", desc := "(Ljava/lang/String;)V" } : Jvm.MethodName) prog_14_method_2_code (2 : Nat) (Option.none : Option Jvm.ClassFile.FieldType)) ∈ aw := aw_i 486 (by decide +kernel) (by decide +kernel)
theorem m_479 : (Cond.methodLink "java/lang/IndexOutOfBoundsException" (7 : Nat) ({ cls := "java/lang/RuntimeException", name := "<init>", desc := "(Ljava/lang/String;)V" } : Jvm.MethodName)) ∈ aw := aw_i 487 (by decide +kernel) (by decide +kernel)
theorem m_480 : (Cond.lays "java/lang/IndexOutOfBoundsException" "java/lang/Throwable" "depth" "I") ∈ aw := aw_i 488 (by decide +kernel) (by decide +kernel)
theorem m_483 : (Cond.methodLink "RingHerdLaw" (60 : Nat) ({ cls := "RingHerd", name := "angle", desc := "(I)I" } : Jvm.MethodName)) ∈ aw := aw_i 491 (by decide +kernel) (by decide +kernel)
theorem m_484 : (Cond.instanceMethod ({ cls := "RingHerd", name := "angle", desc := "(I)I" } : Jvm.MethodName)) ∈ aw := aw_i 492 (by decide +kernel) (by decide +kernel)
theorem m_485 : (Cond.selects "RingHerd" ({ cls := "RingHerd", name := "angle", desc := "(I)I" } : Jvm.MethodName) ({ cls := "RingHerd", name := "angle", desc := "(I)I" } : Jvm.MethodName)) ∈ aw := aw_i 493 (by decide +kernel) (by decide +kernel)
theorem m_486 : (Cond.code ({ cls := "RingHerd", name := "angle", desc := "(I)I" } : Jvm.MethodName) prog_1_method_11_code (2 : Nat) (Option.some Jvm.ClassFile.FieldType.int)) ∈ aw := aw_i 494 (by decide +kernel) (by decide +kernel)
theorem m_487 : (Cond.methodLink "RingHerdLaw" (80 : Nat) ({ cls := "RingHerd", name := "speed", desc := "(I)I" } : Jvm.MethodName)) ∈ aw := aw_i 495 (by decide +kernel) (by decide +kernel)
theorem m_488 : (Cond.instanceMethod ({ cls := "RingHerd", name := "speed", desc := "(I)I" } : Jvm.MethodName)) ∈ aw := aw_i 496 (by decide +kernel) (by decide +kernel)
theorem m_489 : (Cond.selects "RingHerd" ({ cls := "RingHerd", name := "speed", desc := "(I)I" } : Jvm.MethodName) ({ cls := "RingHerd", name := "speed", desc := "(I)I" } : Jvm.MethodName)) ∈ aw := aw_i 497 (by decide +kernel) (by decide +kernel)
theorem m_490 : (Cond.code ({ cls := "RingHerd", name := "speed", desc := "(I)I" } : Jvm.MethodName) prog_1_method_12_code (2 : Nat) (Option.some Jvm.ClassFile.FieldType.int)) ∈ aw := aw_i 498 (by decide +kernel) (by decide +kernel)
theorem m_491 : (Cond.methodLink "RingHerdLaw" (63 : Nat) ({ cls := "RingHerd", name := "count", desc := "(I)I" } : Jvm.MethodName)) ∈ aw := aw_i 499 (by decide +kernel) (by decide +kernel)
theorem m_492 : (Cond.instanceMethod ({ cls := "RingHerd", name := "count", desc := "(I)I" } : Jvm.MethodName)) ∈ aw := aw_i 500 (by decide +kernel) (by decide +kernel)
theorem m_493 : (Cond.selects "RingHerd" ({ cls := "RingHerd", name := "count", desc := "(I)I" } : Jvm.MethodName) ({ cls := "RingHerd", name := "count", desc := "(I)I" } : Jvm.MethodName)) ∈ aw := aw_i 501 (by decide +kernel) (by decide +kernel)
theorem m_494 : (Cond.code ({ cls := "RingHerd", name := "count", desc := "(I)I" } : Jvm.MethodName) prog_1_method_13_code (2 : Nat) (Option.some Jvm.ClassFile.FieldType.int)) ∈ aw := aw_i 502 (by decide +kernel) (by decide +kernel)
theorem m_495 : (Cond.methodLink "RingHerd" (183 : Nat) ({ cls := "RingHerd$Herd", name := "countThere", desc := "()I" } : Jvm.MethodName)) ∈ aw := aw_i 503 (by decide +kernel) (by decide +kernel)
theorem m_496 : (Cond.instanceMethod ({ cls := "RingHerd$Herd", name := "countThere", desc := "()I" } : Jvm.MethodName)) ∈ aw := aw_i 504 (by decide +kernel) (by decide +kernel)
theorem m_497 : (Cond.selects "RingHerd$Herd" ({ cls := "RingHerd$Herd", name := "countThere", desc := "()I" } : Jvm.MethodName) ({ cls := "RingHerd$Herd", name := "countThere", desc := "()I" } : Jvm.MethodName)) ∈ aw := aw_i 505 (by decide +kernel) (by decide +kernel)
theorem m_498 : (Cond.code ({ cls := "RingHerd$Herd", name := "countThere", desc := "()I" } : Jvm.MethodName) prog_5_method_3_code (6 : Nat) (Option.some Jvm.ClassFile.FieldType.int)) ∈ aw := aw_i 506 (by decide +kernel) (by decide +kernel)
theorem m_500 : (Cond.methodLink "RingHerdLaw" (77 : Nat) ({ cls := "RingHerd", name := "mass", desc := "(I)I" } : Jvm.MethodName)) ∈ aw := aw_i 508 (by decide +kernel) (by decide +kernel)
theorem m_501 : (Cond.instanceMethod ({ cls := "RingHerd", name := "mass", desc := "(I)I" } : Jvm.MethodName)) ∈ aw := aw_i 509 (by decide +kernel) (by decide +kernel)
theorem m_502 : (Cond.selects "RingHerd" ({ cls := "RingHerd", name := "mass", desc := "(I)I" } : Jvm.MethodName) ({ cls := "RingHerd", name := "mass", desc := "(I)I" } : Jvm.MethodName)) ∈ aw := aw_i 510 (by decide +kernel) (by decide +kernel)
theorem m_503 : (Cond.code ({ cls := "RingHerd", name := "mass", desc := "(I)I" } : Jvm.MethodName) prog_1_method_14_code (2 : Nat) (Option.some Jvm.ClassFile.FieldType.int)) ∈ aw := aw_i 511 (by decide +kernel) (by decide +kernel)
theorem m_504 : (Cond.methodLink "RingHerd" (124 : Nat) ({ cls := "RingHerd$Herd", name := "weighLanes", desc := "([I)V" } : Jvm.MethodName)) ∈ aw := aw_i 512 (by decide +kernel) (by decide +kernel)
theorem m_505 : (Cond.instanceMethod ({ cls := "RingHerd$Herd", name := "weighLanes", desc := "([I)V" } : Jvm.MethodName)) ∈ aw := aw_i 513 (by decide +kernel) (by decide +kernel)
theorem m_506 : (Cond.selects "RingHerd$Herd" ({ cls := "RingHerd$Herd", name := "weighLanes", desc := "([I)V" } : Jvm.MethodName) ({ cls := "RingHerd$Herd", name := "weighLanes", desc := "([I)V" } : Jvm.MethodName)) ∈ aw := aw_i 514 (by decide +kernel) (by decide +kernel)
theorem m_507 : (Cond.code ({ cls := "RingHerd$Herd", name := "weighLanes", desc := "([I)V" } : Jvm.MethodName) prog_5_method_6_code (6 : Nat) (Option.none : Option Jvm.ClassFile.FieldType)) ∈ aw := aw_i 515 (by decide +kernel) (by decide +kernel)
theorem m_508 : (Cond.methodLink "RingHerdLaw" (66 : Nat) ({ cls := "RingHerd", name := "sum", desc := "(I)I" } : Jvm.MethodName)) ∈ aw := aw_i 516 (by decide +kernel) (by decide +kernel)
theorem m_509 : (Cond.instanceMethod ({ cls := "RingHerd", name := "sum", desc := "(I)I" } : Jvm.MethodName)) ∈ aw := aw_i 517 (by decide +kernel) (by decide +kernel)
theorem m_510 : (Cond.selects "RingHerd" ({ cls := "RingHerd", name := "sum", desc := "(I)I" } : Jvm.MethodName) ({ cls := "RingHerd", name := "sum", desc := "(I)I" } : Jvm.MethodName)) ∈ aw := aw_i 518 (by decide +kernel) (by decide +kernel)
theorem m_511 : (Cond.code ({ cls := "RingHerd", name := "sum", desc := "(I)I" } : Jvm.MethodName) prog_1_method_15_code (2 : Nat) (Option.some Jvm.ClassFile.FieldType.int)) ∈ aw := aw_i 519 (by decide +kernel) (by decide +kernel)
theorem m_512 : (Cond.methodLink "RingHerd" (210 : Nat) ({ cls := "RingHerd$Herd", name := "massThere", desc := "()I" } : Jvm.MethodName)) ∈ aw := aw_i 520 (by decide +kernel) (by decide +kernel)
theorem m_513 : (Cond.instanceMethod ({ cls := "RingHerd$Herd", name := "massThere", desc := "()I" } : Jvm.MethodName)) ∈ aw := aw_i 521 (by decide +kernel) (by decide +kernel)
theorem m_514 : (Cond.selects "RingHerd$Herd" ({ cls := "RingHerd$Herd", name := "massThere", desc := "()I" } : Jvm.MethodName) ({ cls := "RingHerd$Herd", name := "massThere", desc := "()I" } : Jvm.MethodName)) ∈ aw := aw_i 522 (by decide +kernel) (by decide +kernel)
theorem m_515 : (Cond.code ({ cls := "RingHerd$Herd", name := "massThere", desc := "()I" } : Jvm.MethodName) prog_5_method_4_code (6 : Nat) (Option.some Jvm.ClassFile.FieldType.int)) ∈ aw := aw_i 523 (by decide +kernel) (by decide +kernel)
theorem m_517 : (Cond.methodLink "RingHerdLaw" (69 : Nat) ({ cls := "RingHerd", name := "momentum", desc := "(I)J" } : Jvm.MethodName)) ∈ aw := aw_i 525 (by decide +kernel) (by decide +kernel)
theorem m_518 : (Cond.instanceMethod ({ cls := "RingHerd", name := "momentum", desc := "(I)J" } : Jvm.MethodName)) ∈ aw := aw_i 526 (by decide +kernel) (by decide +kernel)
theorem m_519 : (Cond.selects "RingHerd" ({ cls := "RingHerd", name := "momentum", desc := "(I)J" } : Jvm.MethodName) ({ cls := "RingHerd", name := "momentum", desc := "(I)J" } : Jvm.MethodName)) ∈ aw := aw_i 527 (by decide +kernel) (by decide +kernel)
theorem m_520 : (Cond.code ({ cls := "RingHerd", name := "momentum", desc := "(I)J" } : Jvm.MethodName) prog_1_method_16_code (2 : Nat) (Option.some Jvm.ClassFile.FieldType.long)) ∈ aw := aw_i 528 (by decide +kernel) (by decide +kernel)
theorem m_521 : (Cond.methodLink "RingHerd" (224 : Nat) ({ cls := "RingHerd$Herd", name := "momentumThere", desc := "()J" } : Jvm.MethodName)) ∈ aw := aw_i 529 (by decide +kernel) (by decide +kernel)
theorem m_522 : (Cond.instanceMethod ({ cls := "RingHerd$Herd", name := "momentumThere", desc := "()J" } : Jvm.MethodName)) ∈ aw := aw_i 530 (by decide +kernel) (by decide +kernel)
theorem m_523 : (Cond.selects "RingHerd$Herd" ({ cls := "RingHerd$Herd", name := "momentumThere", desc := "()J" } : Jvm.MethodName) ({ cls := "RingHerd$Herd", name := "momentumThere", desc := "()J" } : Jvm.MethodName)) ∈ aw := aw_i 531 (by decide +kernel) (by decide +kernel)
theorem m_524 : (Cond.code ({ cls := "RingHerd$Herd", name := "momentumThere", desc := "()J" } : Jvm.MethodName) prog_5_method_5_code (7 : Nat) (Option.some Jvm.ClassFile.FieldType.long)) ∈ aw := aw_i 532 (by decide +kernel) (by decide +kernel)
theorem m_525 : (Cond.methodLink "RingHerdLaw" (73 : Nat) ({ cls := "RingHerd", name := "momentumByLanes", desc := "()J" } : Jvm.MethodName)) ∈ aw := aw_i 533 (by decide +kernel) (by decide +kernel)
theorem m_526 : (Cond.instanceMethod ({ cls := "RingHerd", name := "momentumByLanes", desc := "()J" } : Jvm.MethodName)) ∈ aw := aw_i 534 (by decide +kernel) (by decide +kernel)
theorem m_527 : (Cond.selects "RingHerd" ({ cls := "RingHerd", name := "momentumByLanes", desc := "()J" } : Jvm.MethodName) ({ cls := "RingHerd", name := "momentumByLanes", desc := "()J" } : Jvm.MethodName)) ∈ aw := aw_i 535 (by decide +kernel) (by decide +kernel)
theorem m_528 : (Cond.code ({ cls := "RingHerd", name := "momentumByLanes", desc := "()J" } : Jvm.MethodName) prog_1_method_17_code (4 : Nat) (Option.some Jvm.ClassFile.FieldType.long)) ∈ aw := aw_i 536 (by decide +kernel) (by decide +kernel)
theorem m_529 : (Cond.methodLink "RingHerd" (244 : Nat) ({ cls := "RingHerd", name := "radiusOf", desc := "(I)I" } : Jvm.MethodName)) ∈ aw := aw_i 537 (by decide +kernel) (by decide +kernel)
theorem m_530 : (Cond.methodLink "RingHerdLaw" (14 : Nat) ({ cls := "RingHerdLaw", name := "cell", desc := "([II)I" } : Jvm.MethodName)) ∈ aw := aw_i 538 (by decide +kernel) (by decide +kernel)
theorem m_531 : (Cond.static ({ cls := "RingHerdLaw", name := "cell", desc := "([II)I" } : Jvm.MethodName)) ∈ aw := aw_i 539 (by decide +kernel) (by decide +kernel)
theorem m_532 : (Cond.code ({ cls := "RingHerdLaw", name := "cell", desc := "([II)I" } : Jvm.MethodName) method_2_code (2 : Nat) (Option.some Jvm.ClassFile.FieldType.int)) ∈ aw := aw_i 540 (by decide +kernel) (by decide +kernel)
theorem m_533 : (Cond.constant "RingHerdLaw" (7 : Nat) (1000308323 : Int32)) ∈ aw := aw_i 541 (by decide +kernel) (by decide +kernel)
theorem m_534 : (Cond.constant "RingHerdLaw" (8 : Nat) (751363497 : Int32)) ∈ aw := aw_i 542 (by decide +kernel) (by decide +kernel)
theorem m_535 : (Cond.methodLink "RingHerdLaw" (20 : Nat) ({ cls := "RingHerdLaw", name := "low", desc := "(II)I" } : Jvm.MethodName)) ∈ aw := aw_i 543 (by decide +kernel) (by decide +kernel)
theorem m_536 : (Cond.static ({ cls := "RingHerdLaw", name := "low", desc := "(II)I" } : Jvm.MethodName)) ∈ aw := aw_i 544 (by decide +kernel) (by decide +kernel)
theorem m_537 : (Cond.code ({ cls := "RingHerdLaw", name := "low", desc := "(II)I" } : Jvm.MethodName) method_3_code (2 : Nat) (Option.some Jvm.ClassFile.FieldType.int)) ∈ aw := aw_i 545 (by decide +kernel) (by decide +kernel)
theorem m_538 : (Cond.constant "RingHerdLaw" (9 : Nat) (2147483647 : Int32)) ∈ aw := aw_i 546 (by decide +kernel) (by decide +kernel)
theorem m_539 : (Cond.methodLink "RingHerdLaw" (47 : Nat) ({ cls := "RingHerdLaw", name := "speed", desc := "([II)I" } : Jvm.MethodName)) ∈ aw := aw_i 547 (by decide +kernel) (by decide +kernel)
theorem m_540 : (Cond.static ({ cls := "RingHerdLaw", name := "speed", desc := "([II)I" } : Jvm.MethodName)) ∈ aw := aw_i 548 (by decide +kernel) (by decide +kernel)
theorem m_541 : (Cond.code ({ cls := "RingHerdLaw", name := "speed", desc := "([II)I" } : Jvm.MethodName) method_4_code (3 : Nat) (Option.some Jvm.ClassFile.FieldType.int)) ∈ aw := aw_i 549 (by decide +kernel) (by decide +kernel)
theorem m_542 : (Cond.constant "RingHerdLaw" (10 : Nat) (36000 : Int32)) ∈ aw := aw_i 550 (by decide +kernel) (by decide +kernel)
theorem m_543 : (Cond.methodLink "RingHerdLaw" (50 : Nat) ({ cls := "RingHerdLaw", name := "apart", desc := "(II)I" } : Jvm.MethodName)) ∈ aw := aw_i 551 (by decide +kernel) (by decide +kernel)
theorem m_544 : (Cond.static ({ cls := "RingHerdLaw", name := "apart", desc := "(II)I" } : Jvm.MethodName)) ∈ aw := aw_i 552 (by decide +kernel) (by decide +kernel)
theorem m_545 : (Cond.code ({ cls := "RingHerdLaw", name := "apart", desc := "(II)I" } : Jvm.MethodName) method_5_code (3 : Nat) (Option.some Jvm.ClassFile.FieldType.int)) ∈ aw := aw_i 553 (by decide +kernel) (by decide +kernel)
theorem m_546 : (Cond.methodLink "RingHerdLaw" (53 : Nat) ({ cls := "RingHerdLaw", name := "comes", desc := "([I[I[I[III)J" } : Jvm.MethodName)) ∈ aw := aw_i 554 (by decide +kernel) (by decide +kernel)
theorem m_547 : (Cond.static ({ cls := "RingHerdLaw", name := "comes", desc := "([I[I[I[III)J" } : Jvm.MethodName)) ∈ aw := aw_i 555 (by decide +kernel) (by decide +kernel)
theorem m_548 : (Cond.code ({ cls := "RingHerdLaw", name := "comes", desc := "([I[I[I[III)J" } : Jvm.MethodName) method_6_code (6 : Nat) (Option.some Jvm.ClassFile.FieldType.long)) ∈ aw := aw_i 556 (by decide +kernel) (by decide +kernel)
theorem m_549 : (Cond.methodLink "RingHerdLaw" (32 : Nat) ({ cls := "RingHerdLaw", name := "moment", desc := "([I[II)J" } : Jvm.MethodName)) ∈ aw := aw_i 557 (by decide +kernel) (by decide +kernel)
theorem m_550 : (Cond.static ({ cls := "RingHerdLaw", name := "moment", desc := "([I[II)J" } : Jvm.MethodName)) ∈ aw := aw_i 558 (by decide +kernel) (by decide +kernel)
theorem m_551 : (Cond.code ({ cls := "RingHerdLaw", name := "moment", desc := "([I[II)J" } : Jvm.MethodName) method_7_code (3 : Nat) (Option.some Jvm.ClassFile.FieldType.long)) ∈ aw := aw_i 559 (by decide +kernel) (by decide +kernel)
theorem m_552 : (Cond.sameMethod "java/lang/Throwable" "java/lang/Throwable" "fillInStackTrace" "(I)Ljava/lang/Throwable;") ∈ aw := aw_i 560 (by decide +kernel) (by decide +kernel)
end
section
theorem dX0_init_0 : decode cX0_init 0 = .ok (.aload_n 0, 1) := by decide +kernel
theorem dX0_init_1 : decode cX0_init 1 = .ok (.invokespecial 3, 3) := by decide +kernel
theorem dX0_init_4 : decode cX0_init 4 = .ok (.return_, 1) := by decide +kernel
theorem dX1_init_0 : decode cX1_init 0 = .ok (.aload_n 0, 1) := by decide +kernel
theorem dX1_init_1 : decode cX1_init 1 = .ok (.invokespecial 3, 3) := by decide +kernel
theorem dX1_init_4 : decode cX1_init 4 = .ok (.aload_n 0, 1) := by decide +kernel
theorem dX1_init_5 : decode cX1_init 5 = .ok (.bipush 64, 2) := by decide +kernel
theorem dX1_init_7 : decode cX1_init 7 = .ok (.newarray .int, 2) := by decide +kernel
theorem dX1_init_9 : decode cX1_init 9 = .ok (.putfield 9, 3) := by decide +kernel
theorem dX1_init_12 : decode cX1_init 12 = .ok (.return_, 1) := by decide +kernel
theorem dX2_init_0 : decode cX2_init 0 = .ok (.aload_n 0, 1) := by decide +kernel
theorem dX2_init_1 : decode cX2_init 1 = .ok (.invokespecial 3, 3) := by decide +kernel
theorem dX2_init_4 : decode cX2_init 4 = .ok (.return_, 1) := by decide +kernel
theorem dX2_carried_0 : decode cX2_carried 0 = .ok (.aload_n 0, 1) := by decide +kernel
theorem dX2_carried_1 : decode cX2_carried 1 = .ok (.getfield 9, 3) := by decide +kernel
theorem dX2_carried_4 : decode cX2_carried 4 = .ok (.i2l, 1) := by decide +kernel
theorem dX2_carried_5 : decode cX2_carried 5 = .ok (.aload_n 0, 1) := by decide +kernel
theorem dX2_carried_6 : decode cX2_carried 6 = .ok (.getfield 15, 3) := by decide +kernel
theorem dX2_carried_9 : decode cX2_carried 9 = .ok (.bipush 20, 2) := by decide +kernel
theorem dX2_carried_11 : decode cX2_carried 11 = .ok (.iadd, 1) := by decide +kernel
theorem dX2_carried_12 : decode cX2_carried 12 = .ok (.i2l, 1) := by decide +kernel
theorem dX2_carried_13 : decode cX2_carried 13 = .ok (.lmul, 1) := by decide +kernel
theorem dX2_carried_14 : decode cX2_carried 14 = .ok (.lreturn, 1) := by decide +kernel
theorem dX2_isNear_0 : decode cX2_isNear 0 = .ok (.aload_n 0, 1) := by decide +kernel
theorem dX2_isNear_1 : decode cX2_isNear 1 = .ok (.getfield 15, 3) := by decide +kernel
theorem dX2_isNear_4 : decode cX2_isNear 4 = .ok (.iload_n 1, 1) := by decide +kernel
theorem dX2_isNear_5 : decode cX2_isNear 5 = .ok (.isub, 1) := by decide +kernel
theorem dX2_isNear_6 : decode cX2_isNear 6 = .ok (.invokestatic 18, 3) := by decide +kernel
theorem dX2_isNear_9 : decode cX2_isNear 9 = .ok (.iload_n 3, 1) := by decide +kernel
theorem dX2_isNear_10 : decode cX2_isNear 10 = .ok (.if_icmp .gt 20, 3) := by decide +kernel
theorem dX2_isNear_13 : decode cX2_isNear 13 = .ok (.aload_n 0, 1) := by decide +kernel
theorem dX2_isNear_14 : decode cX2_isNear 14 = .ok (.getfield 24, 3) := by decide +kernel
theorem dX2_isNear_17 : decode cX2_isNear 17 = .ok (.iload_n 2, 1) := by decide +kernel
theorem dX2_isNear_18 : decode cX2_isNear 18 = .ok (.invokestatic 27, 3) := by decide +kernel
theorem dX2_isNear_21 : decode cX2_isNear 21 = .ok (.iload 4, 2) := by decide +kernel
theorem dX2_isNear_23 : decode cX2_isNear 23 = .ok (.if_icmp .gt 7, 3) := by decide +kernel
theorem dX2_isNear_26 : decode cX2_isNear 26 = .ok (.iconst 1, 1) := by decide +kernel
theorem dX2_isNear_27 : decode cX2_isNear 27 = .ok (.goto 4, 3) := by decide +kernel
theorem dX2_isNear_30 : decode cX2_isNear 30 = .ok (.iconst 0, 1) := by decide +kernel
theorem dX2_isNear_31 : decode cX2_isNear 31 = .ok (.ireturn, 1) := by decide +kernel
theorem dX2_mayMeet_0 : decode cX2_mayMeet 0 = .ok (.aload_n 0, 1) := by decide +kernel
theorem dX2_mayMeet_1 : decode cX2_mayMeet 1 = .ok (.getfield 31, 3) := by decide +kernel
theorem dX2_mayMeet_4 : decode cX2_mayMeet 4 = .ok (.ifCond .eq 14, 3) := by decide +kernel
theorem dX2_mayMeet_7 : decode cX2_mayMeet 7 = .ok (.aload_n 0, 1) := by decide +kernel
theorem dX2_mayMeet_8 : decode cX2_mayMeet 8 = .ok (.getfield 35, 3) := by decide +kernel
theorem dX2_mayMeet_11 : decode cX2_mayMeet 11 = .ok (.ifCond .ne 7, 3) := by decide +kernel
theorem dX2_mayMeet_14 : decode cX2_mayMeet 14 = .ok (.iconst 1, 1) := by decide +kernel
theorem dX2_mayMeet_15 : decode cX2_mayMeet 15 = .ok (.goto 4, 3) := by decide +kernel
theorem dX2_mayMeet_18 : decode cX2_mayMeet 18 = .ok (.iconst 0, 1) := by decide +kernel
theorem dX2_mayMeet_19 : decode cX2_mayMeet 19 = .ok (.ireturn, 1) := by decide +kernel
theorem dX3_init_0 : decode cX3_init 0 = .ok (.aload_n 0, 1) := by decide +kernel
theorem dX3_init_1 : decode cX3_init 1 = .ok (.invokespecial 3, 3) := by decide +kernel
theorem dX3_init_4 : decode cX3_init 4 = .ok (.aload_n 0, 1) := by decide +kernel
theorem dX3_init_5 : decode cX3_init 5 = .ok (.new 9, 3) := by decide +kernel
theorem dX3_init_8 : decode cX3_init 8 = .ok (.dup, 1) := by decide +kernel
theorem dX3_init_9 : decode cX3_init 9 = .ok (.invokespecial 11, 3) := by decide +kernel
theorem dX3_init_12 : decode cX3_init 12 = .ok (.putfield 12, 3) := by decide +kernel
theorem dX3_init_15 : decode cX3_init 15 = .ok (.aload_n 0, 1) := by decide +kernel
theorem dX3_init_16 : decode cX3_init 16 = .ok (.new 18, 3) := by decide +kernel
theorem dX3_init_19 : decode cX3_init 19 = .ok (.dup, 1) := by decide +kernel
theorem dX3_init_20 : decode cX3_init 20 = .ok (.invokespecial 20, 3) := by decide +kernel
theorem dX3_init_23 : decode cX3_init 23 = .ok (.putfield 21, 3) := by decide +kernel
theorem dX3_init_26 : decode cX3_init 26 = .ok (.aload_n 0, 1) := by decide +kernel
theorem dX3_init_27 : decode cX3_init 27 = .ok (.bipush 80, 2) := by decide +kernel
theorem dX3_init_29 : decode cX3_init 29 = .ok (.anewarray 25, 3) := by decide +kernel
theorem dX3_init_32 : decode cX3_init 32 = .ok (.putfield 27, 3) := by decide +kernel
theorem dX3_init_35 : decode cX3_init 35 = .ok (.iconst 0, 1) := by decide +kernel
theorem dX3_init_36 : decode cX3_init 36 = .ok (.istore_n 1, 1) := by decide +kernel
theorem dX3_init_37 : decode cX3_init 37 = .ok (.iload_n 1, 1) := by decide +kernel
theorem dX3_init_38 : decode cX3_init 38 = .ok (.bipush 80, 2) := by decide +kernel
theorem dX3_init_40 : decode cX3_init 40 = .ok (.if_icmp .ge 22, 3) := by decide +kernel
theorem dX3_init_43 : decode cX3_init 43 = .ok (.aload_n 0, 1) := by decide +kernel
theorem dX3_init_44 : decode cX3_init 44 = .ok (.getfield 27, 3) := by decide +kernel
theorem dX3_init_47 : decode cX3_init 47 = .ok (.iload_n 1, 1) := by decide +kernel
theorem dX3_init_48 : decode cX3_init 48 = .ok (.new 25, 3) := by decide +kernel
theorem dX3_init_51 : decode cX3_init 51 = .ok (.dup, 1) := by decide +kernel
theorem dX3_init_52 : decode cX3_init 52 = .ok (.invokespecial 31, 3) := by decide +kernel
theorem dX3_init_55 : decode cX3_init 55 = .ok (.aastore, 1) := by decide +kernel
theorem dX3_init_56 : decode cX3_init 56 = .ok (.iinc 1 1, 3) := by decide +kernel
theorem dX3_init_59 : decode cX3_init 59 = .ok (.goto (-22), 3) := by decide +kernel
theorem dX3_init_62 : decode cX3_init 62 = .ok (.aload_n 0, 1) := by decide +kernel
theorem dX3_init_63 : decode cX3_init 63 = .ok (.bipush 20, 2) := by decide +kernel
theorem dX3_init_65 : decode cX3_init 65 = .ok (.putfield 32, 3) := by decide +kernel
theorem dX3_init_68 : decode cX3_init 68 = .ok (.aload_n 0, 1) := by decide +kernel
theorem dX3_init_69 : decode cX3_init 69 = .ok (.bipush 80, 2) := by decide +kernel
theorem dX3_init_71 : decode cX3_init 71 = .ok (.putfield 36, 3) := by decide +kernel
theorem dX3_init_74 : decode cX3_init 74 = .ok (.aload_n 0, 1) := by decide +kernel
theorem dX3_init_75 : decode cX3_init 75 = .ok (.bipush 50, 2) := by decide +kernel
theorem dX3_init_77 : decode cX3_init 77 = .ok (.putfield 39, 3) := by decide +kernel
theorem dX3_init_80 : decode cX3_init 80 = .ok (.return_, 1) := by decide +kernel
theorem dX3_put_0 : decode cX3_put 0 = .ok (.aload_n 0, 1) := by decide +kernel
theorem dX3_put_1 : decode cX3_put 1 = .ok (.getfield 27, 3) := by decide +kernel
theorem dX3_put_4 : decode cX3_put 4 = .ok (.aload_n 0, 1) := by decide +kernel
theorem dX3_put_5 : decode cX3_put 5 = .ok (.getfield 42, 3) := by decide +kernel
theorem dX3_put_8 : decode cX3_put 8 = .ok (.aaload, 1) := by decide +kernel
theorem dX3_put_9 : decode cX3_put 9 = .ok (.astore 5, 2) := by decide +kernel
theorem dX3_put_11 : decode cX3_put 11 = .ok (.aload 5, 2) := by decide +kernel
theorem dX3_put_13 : decode cX3_put 13 = .ok (.iload_n 1, 1) := by decide +kernel
theorem dX3_put_14 : decode cX3_put 14 = .ok (.putfield 45, 3) := by decide +kernel
theorem dX3_put_17 : decode cX3_put 17 = .ok (.aload 5, 2) := by decide +kernel
theorem dX3_put_19 : decode cX3_put 19 = .ok (.iload_n 2, 1) := by decide +kernel
theorem dX3_put_20 : decode cX3_put 20 = .ok (.putfield 48, 3) := by decide +kernel
theorem dX3_put_23 : decode cX3_put 23 = .ok (.aload 5, 2) := by decide +kernel
theorem dX3_put_25 : decode cX3_put 25 = .ok (.iload_n 3, 1) := by decide +kernel
theorem dX3_put_26 : decode cX3_put 26 = .ok (.putfield 51, 3) := by decide +kernel
theorem dX3_put_29 : decode cX3_put 29 = .ok (.aload 5, 2) := by decide +kernel
theorem dX3_put_31 : decode cX3_put 31 = .ok (.iload 4, 2) := by decide +kernel
theorem dX3_put_33 : decode cX3_put 33 = .ok (.putfield 54, 3) := by decide +kernel
theorem dX3_put_36 : decode cX3_put 36 = .ok (.aload 5, 2) := by decide +kernel
theorem dX3_put_38 : decode cX3_put 38 = .ok (.iconst 1, 1) := by decide +kernel
theorem dX3_put_39 : decode cX3_put 39 = .ok (.putfield 57, 3) := by decide +kernel
theorem dX3_put_42 : decode cX3_put 42 = .ok (.aload_n 0, 1) := by decide +kernel
theorem dX3_put_43 : decode cX3_put 43 = .ok (.getfield 21, 3) := by decide +kernel
theorem dX3_put_46 : decode cX3_put 46 = .ok (.dup, 1) := by decide +kernel
theorem dX3_put_47 : decode cX3_put 47 = .ok (.getfield 61, 3) := by decide +kernel
theorem dX3_put_50 : decode cX3_put 50 = .ok (.iload_n 3, 1) := by decide +kernel
theorem dX3_put_51 : decode cX3_put 51 = .ok (.iadd, 1) := by decide +kernel
theorem dX3_put_52 : decode cX3_put 52 = .ok (.putfield 61, 3) := by decide +kernel
theorem dX3_put_55 : decode cX3_put 55 = .ok (.aload_n 0, 1) := by decide +kernel
theorem dX3_put_56 : decode cX3_put 56 = .ok (.getfield 21, 3) := by decide +kernel
theorem dX3_put_59 : decode cX3_put 59 = .ok (.dup, 1) := by decide +kernel
theorem dX3_put_60 : decode cX3_put 60 = .ok (.getfield 64, 3) := by decide +kernel
theorem dX3_put_63 : decode cX3_put 63 = .ok (.aload 5, 2) := by decide +kernel
theorem dX3_put_65 : decode cX3_put 65 = .ok (.invokevirtual 68, 3) := by decide +kernel
theorem dX3_put_68 : decode cX3_put 68 = .ok (.ladd, 1) := by decide +kernel
theorem dX3_put_69 : decode cX3_put 69 = .ok (.putfield 64, 3) := by decide +kernel
theorem dX3_put_72 : decode cX3_put 72 = .ok (.aload_n 0, 1) := by decide +kernel
theorem dX3_put_73 : decode cX3_put 73 = .ok (.dup, 1) := by decide +kernel
theorem dX3_put_74 : decode cX3_put 74 = .ok (.getfield 42, 3) := by decide +kernel
theorem dX3_put_77 : decode cX3_put 77 = .ok (.iconst 1, 1) := by decide +kernel
theorem dX3_put_78 : decode cX3_put 78 = .ok (.iadd, 1) := by decide +kernel
theorem dX3_put_79 : decode cX3_put 79 = .ok (.putfield 42, 3) := by decide +kernel
theorem dX3_put_82 : decode cX3_put 82 = .ok (.aload_n 0, 1) := by decide +kernel
theorem dX3_put_83 : decode cX3_put 83 = .ok (.getfield 42, 3) := by decide +kernel
theorem dX3_put_86 : decode cX3_put 86 = .ok (.iconst 1, 1) := by decide +kernel
theorem dX3_put_87 : decode cX3_put 87 = .ok (.isub, 1) := by decide +kernel
theorem dX3_put_88 : decode cX3_put 88 = .ok (.ireturn, 1) := by decide +kernel
theorem dX3_countThere_0 : decode cX3_countThere 0 = .ok (.iconst 0, 1) := by decide +kernel
theorem dX3_countThere_1 : decode cX3_countThere 1 = .ok (.istore_n 1, 1) := by decide +kernel
theorem dX3_countThere_2 : decode cX3_countThere 2 = .ok (.aload_n 0, 1) := by decide +kernel
theorem dX3_countThere_3 : decode cX3_countThere 3 = .ok (.getfield 27, 3) := by decide +kernel
theorem dX3_countThere_6 : decode cX3_countThere 6 = .ok (.astore_n 2, 1) := by decide +kernel
theorem dX3_countThere_7 : decode cX3_countThere 7 = .ok (.aload_n 2, 1) := by decide +kernel
theorem dX3_countThere_8 : decode cX3_countThere 8 = .ok (.arraylength, 1) := by decide +kernel
theorem dX3_countThere_9 : decode cX3_countThere 9 = .ok (.istore_n 3, 1) := by decide +kernel
theorem dX3_countThere_10 : decode cX3_countThere 10 = .ok (.iconst 0, 1) := by decide +kernel
theorem dX3_countThere_11 : decode cX3_countThere 11 = .ok (.istore 4, 2) := by decide +kernel
theorem dX3_countThere_13 : decode cX3_countThere 13 = .ok (.iload 4, 2) := by decide +kernel
theorem dX3_countThere_15 : decode cX3_countThere 15 = .ok (.iload_n 3, 1) := by decide +kernel
theorem dX3_countThere_16 : decode cX3_countThere 16 = .ok (.if_icmp .ge 26, 3) := by decide +kernel
theorem dX3_countThere_19 : decode cX3_countThere 19 = .ok (.aload_n 2, 1) := by decide +kernel
theorem dX3_countThere_20 : decode cX3_countThere 20 = .ok (.iload 4, 2) := by decide +kernel
theorem dX3_countThere_22 : decode cX3_countThere 22 = .ok (.aaload, 1) := by decide +kernel
theorem dX3_countThere_23 : decode cX3_countThere 23 = .ok (.astore 5, 2) := by decide +kernel
theorem dX3_countThere_25 : decode cX3_countThere 25 = .ok (.aload 5, 2) := by decide +kernel
theorem dX3_countThere_27 : decode cX3_countThere 27 = .ok (.getfield 57, 3) := by decide +kernel
theorem dX3_countThere_30 : decode cX3_countThere 30 = .ok (.ifCond .eq 6, 3) := by decide +kernel
theorem dX3_countThere_33 : decode cX3_countThere 33 = .ok (.iinc 1 1, 3) := by decide +kernel
theorem dX3_countThere_36 : decode cX3_countThere 36 = .ok (.iinc 4 1, 3) := by decide +kernel
theorem dX3_countThere_39 : decode cX3_countThere 39 = .ok (.goto (-26), 3) := by decide +kernel
theorem dX3_countThere_42 : decode cX3_countThere 42 = .ok (.iload_n 1, 1) := by decide +kernel
theorem dX3_countThere_43 : decode cX3_countThere 43 = .ok (.ireturn, 1) := by decide +kernel
theorem dX3_massThere_0 : decode cX3_massThere 0 = .ok (.iconst 0, 1) := by decide +kernel
theorem dX3_massThere_1 : decode cX3_massThere 1 = .ok (.istore_n 1, 1) := by decide +kernel
theorem dX3_massThere_2 : decode cX3_massThere 2 = .ok (.aload_n 0, 1) := by decide +kernel
theorem dX3_massThere_3 : decode cX3_massThere 3 = .ok (.getfield 27, 3) := by decide +kernel
theorem dX3_massThere_6 : decode cX3_massThere 6 = .ok (.astore_n 2, 1) := by decide +kernel
theorem dX3_massThere_7 : decode cX3_massThere 7 = .ok (.aload_n 2, 1) := by decide +kernel
theorem dX3_massThere_8 : decode cX3_massThere 8 = .ok (.arraylength, 1) := by decide +kernel
theorem dX3_massThere_9 : decode cX3_massThere 9 = .ok (.istore_n 3, 1) := by decide +kernel
theorem dX3_massThere_10 : decode cX3_massThere 10 = .ok (.iconst 0, 1) := by decide +kernel
theorem dX3_massThere_11 : decode cX3_massThere 11 = .ok (.istore 4, 2) := by decide +kernel
theorem dX3_massThere_13 : decode cX3_massThere 13 = .ok (.iload 4, 2) := by decide +kernel
theorem dX3_massThere_15 : decode cX3_massThere 15 = .ok (.iload_n 3, 1) := by decide +kernel
theorem dX3_massThere_16 : decode cX3_massThere 16 = .ok (.if_icmp .ge 31, 3) := by decide +kernel
theorem dX3_massThere_19 : decode cX3_massThere 19 = .ok (.aload_n 2, 1) := by decide +kernel
theorem dX3_massThere_20 : decode cX3_massThere 20 = .ok (.iload 4, 2) := by decide +kernel
theorem dX3_massThere_22 : decode cX3_massThere 22 = .ok (.aaload, 1) := by decide +kernel
theorem dX3_massThere_23 : decode cX3_massThere 23 = .ok (.astore 5, 2) := by decide +kernel
theorem dX3_massThere_25 : decode cX3_massThere 25 = .ok (.aload 5, 2) := by decide +kernel
theorem dX3_massThere_27 : decode cX3_massThere 27 = .ok (.getfield 57, 3) := by decide +kernel
theorem dX3_massThere_30 : decode cX3_massThere 30 = .ok (.ifCond .eq 11, 3) := by decide +kernel
theorem dX3_massThere_33 : decode cX3_massThere 33 = .ok (.iload_n 1, 1) := by decide +kernel
theorem dX3_massThere_34 : decode cX3_massThere 34 = .ok (.aload 5, 2) := by decide +kernel
theorem dX3_massThere_36 : decode cX3_massThere 36 = .ok (.getfield 51, 3) := by decide +kernel
theorem dX3_massThere_39 : decode cX3_massThere 39 = .ok (.iadd, 1) := by decide +kernel
theorem dX3_massThere_40 : decode cX3_massThere 40 = .ok (.istore_n 1, 1) := by decide +kernel
theorem dX3_massThere_41 : decode cX3_massThere 41 = .ok (.iinc 4 1, 3) := by decide +kernel
theorem dX3_massThere_44 : decode cX3_massThere 44 = .ok (.goto (-31), 3) := by decide +kernel
theorem dX3_massThere_47 : decode cX3_massThere 47 = .ok (.iload_n 1, 1) := by decide +kernel
theorem dX3_massThere_48 : decode cX3_massThere 48 = .ok (.ireturn, 1) := by decide +kernel
theorem dX3_momentumThere_0 : decode cX3_momentumThere 0 = .ok (.lconst 0, 1) := by decide +kernel
theorem dX3_momentumThere_1 : decode cX3_momentumThere 1 = .ok (.lstore_n 1, 1) := by decide +kernel
theorem dX3_momentumThere_2 : decode cX3_momentumThere 2 = .ok (.aload_n 0, 1) := by decide +kernel
theorem dX3_momentumThere_3 : decode cX3_momentumThere 3 = .ok (.getfield 27, 3) := by decide +kernel
theorem dX3_momentumThere_6 : decode cX3_momentumThere 6 = .ok (.astore_n 3, 1) := by decide +kernel
theorem dX3_momentumThere_7 : decode cX3_momentumThere 7 = .ok (.aload_n 3, 1) := by decide +kernel
theorem dX3_momentumThere_8 : decode cX3_momentumThere 8 = .ok (.arraylength, 1) := by decide +kernel
theorem dX3_momentumThere_9 : decode cX3_momentumThere 9 = .ok (.istore 4, 2) := by decide +kernel
theorem dX3_momentumThere_11 : decode cX3_momentumThere 11 = .ok (.iconst 0, 1) := by decide +kernel
theorem dX3_momentumThere_12 : decode cX3_momentumThere 12 = .ok (.istore 5, 2) := by decide +kernel
theorem dX3_momentumThere_14 : decode cX3_momentumThere 14 = .ok (.iload 5, 2) := by decide +kernel
theorem dX3_momentumThere_16 : decode cX3_momentumThere 16 = .ok (.iload 4, 2) := by decide +kernel
theorem dX3_momentumThere_18 : decode cX3_momentumThere 18 = .ok (.if_icmp .ge 31, 3) := by decide +kernel
theorem dX3_momentumThere_21 : decode cX3_momentumThere 21 = .ok (.aload_n 3, 1) := by decide +kernel
theorem dX3_momentumThere_22 : decode cX3_momentumThere 22 = .ok (.iload 5, 2) := by decide +kernel
theorem dX3_momentumThere_24 : decode cX3_momentumThere 24 = .ok (.aaload, 1) := by decide +kernel
theorem dX3_momentumThere_25 : decode cX3_momentumThere 25 = .ok (.astore 6, 2) := by decide +kernel
theorem dX3_momentumThere_27 : decode cX3_momentumThere 27 = .ok (.aload 6, 2) := by decide +kernel
theorem dX3_momentumThere_29 : decode cX3_momentumThere 29 = .ok (.getfield 57, 3) := by decide +kernel
theorem dX3_momentumThere_32 : decode cX3_momentumThere 32 = .ok (.ifCond .eq 11, 3) := by decide +kernel
theorem dX3_momentumThere_35 : decode cX3_momentumThere 35 = .ok (.lload_n 1, 1) := by decide +kernel
theorem dX3_momentumThere_36 : decode cX3_momentumThere 36 = .ok (.aload 6, 2) := by decide +kernel
theorem dX3_momentumThere_38 : decode cX3_momentumThere 38 = .ok (.invokevirtual 68, 3) := by decide +kernel
theorem dX3_momentumThere_41 : decode cX3_momentumThere 41 = .ok (.ladd, 1) := by decide +kernel
theorem dX3_momentumThere_42 : decode cX3_momentumThere 42 = .ok (.lstore_n 1, 1) := by decide +kernel
theorem dX3_momentumThere_43 : decode cX3_momentumThere 43 = .ok (.iinc 5 1, 3) := by decide +kernel
theorem dX3_momentumThere_46 : decode cX3_momentumThere 46 = .ok (.goto (-32), 3) := by decide +kernel
theorem dX3_momentumThere_49 : decode cX3_momentumThere 49 = .ok (.lload_n 1, 1) := by decide +kernel
theorem dX3_momentumThere_50 : decode cX3_momentumThere 50 = .ok (.lreturn, 1) := by decide +kernel
theorem dX3_weighLanes_0 : decode cX3_weighLanes 0 = .ok (.iconst 0, 1) := by decide +kernel
theorem dX3_weighLanes_1 : decode cX3_weighLanes 1 = .ok (.istore_n 2, 1) := by decide +kernel
theorem dX3_weighLanes_2 : decode cX3_weighLanes 2 = .ok (.iload_n 2, 1) := by decide +kernel
theorem dX3_weighLanes_3 : decode cX3_weighLanes 3 = .ok (.aload_n 1, 1) := by decide +kernel
theorem dX3_weighLanes_4 : decode cX3_weighLanes 4 = .ok (.arraylength, 1) := by decide +kernel
theorem dX3_weighLanes_5 : decode cX3_weighLanes 5 = .ok (.if_icmp .ge 13, 3) := by decide +kernel
theorem dX3_weighLanes_8 : decode cX3_weighLanes 8 = .ok (.aload_n 1, 1) := by decide +kernel
theorem dX3_weighLanes_9 : decode cX3_weighLanes 9 = .ok (.iload_n 2, 1) := by decide +kernel
theorem dX3_weighLanes_10 : decode cX3_weighLanes 10 = .ok (.iconst 0, 1) := by decide +kernel
theorem dX3_weighLanes_11 : decode cX3_weighLanes 11 = .ok (.iastore, 1) := by decide +kernel
theorem dX3_weighLanes_12 : decode cX3_weighLanes 12 = .ok (.iinc 2 1, 3) := by decide +kernel
theorem dX3_weighLanes_15 : decode cX3_weighLanes 15 = .ok (.goto (-13), 3) := by decide +kernel
theorem dX3_weighLanes_18 : decode cX3_weighLanes 18 = .ok (.aload_n 0, 1) := by decide +kernel
theorem dX3_weighLanes_19 : decode cX3_weighLanes 19 = .ok (.getfield 27, 3) := by decide +kernel
theorem dX3_weighLanes_22 : decode cX3_weighLanes 22 = .ok (.astore_n 2, 1) := by decide +kernel
theorem dX3_weighLanes_23 : decode cX3_weighLanes 23 = .ok (.aload_n 2, 1) := by decide +kernel
theorem dX3_weighLanes_24 : decode cX3_weighLanes 24 = .ok (.arraylength, 1) := by decide +kernel
theorem dX3_weighLanes_25 : decode cX3_weighLanes 25 = .ok (.istore_n 3, 1) := by decide +kernel
theorem dX3_weighLanes_26 : decode cX3_weighLanes 26 = .ok (.iconst 0, 1) := by decide +kernel
theorem dX3_weighLanes_27 : decode cX3_weighLanes 27 = .ok (.istore 4, 2) := by decide +kernel
theorem dX3_weighLanes_29 : decode cX3_weighLanes 29 = .ok (.iload 4, 2) := by decide +kernel
theorem dX3_weighLanes_31 : decode cX3_weighLanes 31 = .ok (.iload_n 3, 1) := by decide +kernel
theorem dX3_weighLanes_32 : decode cX3_weighLanes 32 = .ok (.if_icmp .ge 56, 3) := by decide +kernel
theorem dX3_weighLanes_35 : decode cX3_weighLanes 35 = .ok (.aload_n 2, 1) := by decide +kernel
theorem dX3_weighLanes_36 : decode cX3_weighLanes 36 = .ok (.iload 4, 2) := by decide +kernel
theorem dX3_weighLanes_38 : decode cX3_weighLanes 38 = .ok (.aaload, 1) := by decide +kernel
theorem dX3_weighLanes_39 : decode cX3_weighLanes 39 = .ok (.astore 5, 2) := by decide +kernel
theorem dX3_weighLanes_41 : decode cX3_weighLanes 41 = .ok (.aload 5, 2) := by decide +kernel
theorem dX3_weighLanes_43 : decode cX3_weighLanes 43 = .ok (.getfield 57, 3) := by decide +kernel
theorem dX3_weighLanes_46 : decode cX3_weighLanes 46 = .ok (.ifCond .eq 36, 3) := by decide +kernel
theorem dX3_weighLanes_49 : decode cX3_weighLanes 49 = .ok (.aload 5, 2) := by decide +kernel
theorem dX3_weighLanes_51 : decode cX3_weighLanes 51 = .ok (.getfield 45, 3) := by decide +kernel
theorem dX3_weighLanes_54 : decode cX3_weighLanes 54 = .ok (.ifCond .lt 28, 3) := by decide +kernel
theorem dX3_weighLanes_57 : decode cX3_weighLanes 57 = .ok (.aload 5, 2) := by decide +kernel
theorem dX3_weighLanes_59 : decode cX3_weighLanes 59 = .ok (.getfield 45, 3) := by decide +kernel
theorem dX3_weighLanes_62 : decode cX3_weighLanes 62 = .ok (.aload_n 1, 1) := by decide +kernel
theorem dX3_weighLanes_63 : decode cX3_weighLanes 63 = .ok (.arraylength, 1) := by decide +kernel
theorem dX3_weighLanes_64 : decode cX3_weighLanes 64 = .ok (.if_icmp .ge 18, 3) := by decide +kernel
theorem dX3_weighLanes_67 : decode cX3_weighLanes 67 = .ok (.aload_n 1, 1) := by decide +kernel
theorem dX3_weighLanes_68 : decode cX3_weighLanes 68 = .ok (.aload 5, 2) := by decide +kernel
theorem dX3_weighLanes_70 : decode cX3_weighLanes 70 = .ok (.getfield 45, 3) := by decide +kernel
theorem dX3_weighLanes_73 : decode cX3_weighLanes 73 = .ok (.dup2, 1) := by decide +kernel
theorem dX3_weighLanes_74 : decode cX3_weighLanes 74 = .ok (.iaload, 1) := by decide +kernel
theorem dX3_weighLanes_75 : decode cX3_weighLanes 75 = .ok (.aload 5, 2) := by decide +kernel
theorem dX3_weighLanes_77 : decode cX3_weighLanes 77 = .ok (.getfield 51, 3) := by decide +kernel
theorem dX3_weighLanes_80 : decode cX3_weighLanes 80 = .ok (.iadd, 1) := by decide +kernel
theorem dX3_weighLanes_81 : decode cX3_weighLanes 81 = .ok (.iastore, 1) := by decide +kernel
theorem dX3_weighLanes_82 : decode cX3_weighLanes 82 = .ok (.iinc 4 1, 3) := by decide +kernel
theorem dX3_weighLanes_85 : decode cX3_weighLanes 85 = .ok (.goto (-56), 3) := by decide +kernel
theorem dX3_weighLanes_88 : decode cX3_weighLanes 88 = .ok (.return_, 1) := by decide +kernel
theorem dX3_goRound_0 : decode cX3_goRound 0 = .ok (.aload_n 0, 1) := by decide +kernel
theorem dX3_goRound_1 : decode cX3_goRound 1 = .ok (.getfield 27, 3) := by decide +kernel
theorem dX3_goRound_4 : decode cX3_goRound 4 = .ok (.astore_n 1, 1) := by decide +kernel
theorem dX3_goRound_5 : decode cX3_goRound 5 = .ok (.aload_n 1, 1) := by decide +kernel
theorem dX3_goRound_6 : decode cX3_goRound 6 = .ok (.arraylength, 1) := by decide +kernel
theorem dX3_goRound_7 : decode cX3_goRound 7 = .ok (.istore_n 2, 1) := by decide +kernel
theorem dX3_goRound_8 : decode cX3_goRound 8 = .ok (.iconst 0, 1) := by decide +kernel
theorem dX3_goRound_9 : decode cX3_goRound 9 = .ok (.istore_n 3, 1) := by decide +kernel
theorem dX3_goRound_10 : decode cX3_goRound 10 = .ok (.iload_n 3, 1) := by decide +kernel
theorem dX3_goRound_11 : decode cX3_goRound 11 = .ok (.iload_n 2, 1) := by decide +kernel
theorem dX3_goRound_12 : decode cX3_goRound 12 = .ok (.if_icmp .ge 47, 3) := by decide +kernel
theorem dX3_goRound_15 : decode cX3_goRound 15 = .ok (.aload_n 1, 1) := by decide +kernel
theorem dX3_goRound_16 : decode cX3_goRound 16 = .ok (.iload_n 3, 1) := by decide +kernel
theorem dX3_goRound_17 : decode cX3_goRound 17 = .ok (.aaload, 1) := by decide +kernel
theorem dX3_goRound_18 : decode cX3_goRound 18 = .ok (.astore 4, 2) := by decide +kernel
theorem dX3_goRound_20 : decode cX3_goRound 20 = .ok (.aload 4, 2) := by decide +kernel
theorem dX3_goRound_22 : decode cX3_goRound 22 = .ok (.getfield 57, 3) := by decide +kernel
theorem dX3_goRound_25 : decode cX3_goRound 25 = .ok (.ifCond .eq 28, 3) := by decide +kernel
theorem dX3_goRound_28 : decode cX3_goRound 28 = .ok (.aload 4, 2) := by decide +kernel
theorem dX3_goRound_30 : decode cX3_goRound 30 = .ok (.aload 4, 2) := by decide +kernel
theorem dX3_goRound_32 : decode cX3_goRound 32 = .ok (.getfield 48, 3) := by decide +kernel
theorem dX3_goRound_35 : decode cX3_goRound 35 = .ok (.aload_n 0, 1) := by decide +kernel
theorem dX3_goRound_36 : decode cX3_goRound 36 = .ok (.getfield 12, 3) := by decide +kernel
theorem dX3_goRound_39 : decode cX3_goRound 39 = .ok (.aload 4, 2) := by decide +kernel
theorem dX3_goRound_41 : decode cX3_goRound 41 = .ok (.getfield 45, 3) := by decide +kernel
theorem dX3_goRound_44 : decode cX3_goRound 44 = .ok (.invokevirtual 72, 3) := by decide +kernel
theorem dX3_goRound_47 : decode cX3_goRound 47 = .ok (.invokestatic 76, 3) := by decide +kernel
theorem dX3_goRound_50 : decode cX3_goRound 50 = .ok (.putfield 48, 3) := by decide +kernel
theorem dX3_goRound_53 : decode cX3_goRound 53 = .ok (.iinc 3 1, 3) := by decide +kernel
theorem dX3_goRound_56 : decode cX3_goRound 56 = .ok (.goto (-46), 3) := by decide +kernel
theorem dX3_goRound_59 : decode cX3_goRound 59 = .ok (.return_, 1) := by decide +kernel
theorem dX3_yieldTo_0 : decode cX3_yieldTo 0 = .ok (.aload_n 0, 1) := by decide +kernel
theorem dX3_yieldTo_1 : decode cX3_yieldTo 1 = .ok (.getfield 27, 3) := by decide +kernel
theorem dX3_yieldTo_4 : decode cX3_yieldTo 4 = .ok (.astore_n 2, 1) := by decide +kernel
theorem dX3_yieldTo_5 : decode cX3_yieldTo 5 = .ok (.aload_n 2, 1) := by decide +kernel
theorem dX3_yieldTo_6 : decode cX3_yieldTo 6 = .ok (.arraylength, 1) := by decide +kernel
theorem dX3_yieldTo_7 : decode cX3_yieldTo 7 = .ok (.istore_n 3, 1) := by decide +kernel
theorem dX3_yieldTo_8 : decode cX3_yieldTo 8 = .ok (.iconst 0, 1) := by decide +kernel
theorem dX3_yieldTo_9 : decode cX3_yieldTo 9 = .ok (.istore 4, 2) := by decide +kernel
theorem dX3_yieldTo_11 : decode cX3_yieldTo 11 = .ok (.iload 4, 2) := by decide +kernel
theorem dX3_yieldTo_13 : decode cX3_yieldTo 13 = .ok (.iload_n 3, 1) := by decide +kernel
theorem dX3_yieldTo_14 : decode cX3_yieldTo 14 = .ok (.if_icmp .ge 113, 3) := by decide +kernel
theorem dX3_yieldTo_17 : decode cX3_yieldTo 17 = .ok (.aload_n 2, 1) := by decide +kernel
theorem dX3_yieldTo_18 : decode cX3_yieldTo 18 = .ok (.iload 4, 2) := by decide +kernel
theorem dX3_yieldTo_20 : decode cX3_yieldTo 20 = .ok (.aaload, 1) := by decide +kernel
theorem dX3_yieldTo_21 : decode cX3_yieldTo 21 = .ok (.astore 5, 2) := by decide +kernel
theorem dX3_yieldTo_23 : decode cX3_yieldTo 23 = .ok (.aload 5, 2) := by decide +kernel
theorem dX3_yieldTo_25 : decode cX3_yieldTo 25 = .ok (.getfield 57, 3) := by decide +kernel
theorem dX3_yieldTo_28 : decode cX3_yieldTo 28 = .ok (.ifCond .eq 93, 3) := by decide +kernel
theorem dX3_yieldTo_31 : decode cX3_yieldTo 31 = .ok (.aload 5, 2) := by decide +kernel
theorem dX3_yieldTo_33 : decode cX3_yieldTo 33 = .ok (.aload_n 1, 1) := by decide +kernel
theorem dX3_yieldTo_34 : decode cX3_yieldTo 34 = .ok (.getfield 80, 3) := by decide +kernel
theorem dX3_yieldTo_37 : decode cX3_yieldTo 37 = .ok (.aload_n 1, 1) := by decide +kernel
theorem dX3_yieldTo_38 : decode cX3_yieldTo 38 = .ok (.getfield 83, 3) := by decide +kernel
theorem dX3_yieldTo_41 : decode cX3_yieldTo 41 = .ok (.aload_n 1, 1) := by decide +kernel
theorem dX3_yieldTo_42 : decode cX3_yieldTo 42 = .ok (.getfield 84, 3) := by decide +kernel
theorem dX3_yieldTo_45 : decode cX3_yieldTo 45 = .ok (.sipush 1000, 3) := by decide +kernel
theorem dX3_yieldTo_48 : decode cX3_yieldTo 48 = .ok (.invokevirtual 87, 3) := by decide +kernel
theorem dX3_yieldTo_51 : decode cX3_yieldTo 51 = .ok (.ifCond .eq 70, 3) := by decide +kernel
theorem dX3_yieldTo_54 : decode cX3_yieldTo 54 = .ok (.aload 5, 2) := by decide +kernel
theorem dX3_yieldTo_56 : decode cX3_yieldTo 56 = .ok (.invokevirtual 68, 3) := by decide +kernel
theorem dX3_yieldTo_59 : decode cX3_yieldTo 59 = .ok (.lstore 6, 2) := by decide +kernel
theorem dX3_yieldTo_61 : decode cX3_yieldTo 61 = .ok (.aload_n 0, 1) := by decide +kernel
theorem dX3_yieldTo_62 : decode cX3_yieldTo 62 = .ok (.aload 5, 2) := by decide +kernel
theorem dX3_yieldTo_64 : decode cX3_yieldTo 64 = .ok (.aload 5, 2) := by decide +kernel
theorem dX3_yieldTo_66 : decode cX3_yieldTo 66 = .ok (.getfield 45, 3) := by decide +kernel
theorem dX3_yieldTo_69 : decode cX3_yieldTo 69 = .ok (.aload_n 1, 1) := by decide +kernel
theorem dX3_yieldTo_70 : decode cX3_yieldTo 70 = .ok (.getfield 80, 3) := by decide +kernel
theorem dX3_yieldTo_73 : decode cX3_yieldTo 73 = .ok (.if_icmp .ge 7, 3) := by decide +kernel
theorem dX3_yieldTo_76 : decode cX3_yieldTo 76 = .ok (.iconst (-1), 1) := by decide +kernel
theorem dX3_yieldTo_77 : decode cX3_yieldTo 77 = .ok (.goto 4, 3) := by decide +kernel
theorem dX3_yieldTo_80 : decode cX3_yieldTo 80 = .ok (.iconst 1, 1) := by decide +kernel
theorem dX3_yieldTo_81 : decode cX3_yieldTo 81 = .ok (.invokevirtual 91, 3) := by decide +kernel
theorem dX3_yieldTo_84 : decode cX3_yieldTo 84 = .ok (.aload 5, 2) := by decide +kernel
theorem dX3_yieldTo_86 : decode cX3_yieldTo 86 = .ok (.aload 5, 2) := by decide +kernel
theorem dX3_yieldTo_88 : decode cX3_yieldTo 88 = .ok (.getfield 54, 3) := by decide +kernel
theorem dX3_yieldTo_91 : decode cX3_yieldTo 91 = .ok (.iconst 5, 1) := by decide +kernel
theorem dX3_yieldTo_92 : decode cX3_yieldTo 92 = .ok (.iadd, 1) := by decide +kernel
theorem dX3_yieldTo_93 : decode cX3_yieldTo 93 = .ok (.bipush 99, 2) := by decide +kernel
theorem dX3_yieldTo_95 : decode cX3_yieldTo 95 = .ok (.invokestatic 95, 3) := by decide +kernel
theorem dX3_yieldTo_98 : decode cX3_yieldTo 98 = .ok (.putfield 54, 3) := by decide +kernel
theorem dX3_yieldTo_101 : decode cX3_yieldTo 101 = .ok (.aload_n 0, 1) := by decide +kernel
theorem dX3_yieldTo_102 : decode cX3_yieldTo 102 = .ok (.getfield 21, 3) := by decide +kernel
theorem dX3_yieldTo_105 : decode cX3_yieldTo 105 = .ok (.dup, 1) := by decide +kernel
theorem dX3_yieldTo_106 : decode cX3_yieldTo 106 = .ok (.getfield 100, 3) := by decide +kernel
theorem dX3_yieldTo_109 : decode cX3_yieldTo 109 = .ok (.aload 5, 2) := by decide +kernel
theorem dX3_yieldTo_111 : decode cX3_yieldTo 111 = .ok (.invokevirtual 68, 3) := by decide +kernel
theorem dX3_yieldTo_114 : decode cX3_yieldTo 114 = .ok (.lload 6, 2) := by decide +kernel
theorem dX3_yieldTo_116 : decode cX3_yieldTo 116 = .ok (.lsub, 1) := by decide +kernel
theorem dX3_yieldTo_117 : decode cX3_yieldTo 117 = .ok (.ladd, 1) := by decide +kernel
theorem dX3_yieldTo_118 : decode cX3_yieldTo 118 = .ok (.putfield 100, 3) := by decide +kernel
theorem dX3_yieldTo_121 : decode cX3_yieldTo 121 = .ok (.iinc 4 1, 3) := by decide +kernel
theorem dX3_yieldTo_124 : decode cX3_yieldTo 124 = .ok (.goto (-113), 3) := by decide +kernel
theorem dX3_yieldTo_127 : decode cX3_yieldTo 127 = .ok (.return_, 1) := by decide +kernel
theorem dX3_meetAll_0 : decode cX3_meetAll 0 = .ok (.aload_n 0, 1) := by decide +kernel
theorem dX3_meetAll_1 : decode cX3_meetAll 1 = .ok (.getfield 27, 3) := by decide +kernel
theorem dX3_meetAll_4 : decode cX3_meetAll 4 = .ok (.astore_n 1, 1) := by decide +kernel
theorem dX3_meetAll_5 : decode cX3_meetAll 5 = .ok (.aload_n 1, 1) := by decide +kernel
theorem dX3_meetAll_6 : decode cX3_meetAll 6 = .ok (.arraylength, 1) := by decide +kernel
theorem dX3_meetAll_7 : decode cX3_meetAll 7 = .ok (.istore_n 2, 1) := by decide +kernel
theorem dX3_meetAll_8 : decode cX3_meetAll 8 = .ok (.iconst 0, 1) := by decide +kernel
theorem dX3_meetAll_9 : decode cX3_meetAll 9 = .ok (.istore_n 3, 1) := by decide +kernel
theorem dX3_meetAll_10 : decode cX3_meetAll 10 = .ok (.iload_n 3, 1) := by decide +kernel
theorem dX3_meetAll_11 : decode cX3_meetAll 11 = .ok (.iload_n 2, 1) := by decide +kernel
theorem dX3_meetAll_12 : decode cX3_meetAll 12 = .ok (.if_icmp .ge 20, 3) := by decide +kernel
theorem dX3_meetAll_15 : decode cX3_meetAll 15 = .ok (.aload_n 1, 1) := by decide +kernel
theorem dX3_meetAll_16 : decode cX3_meetAll 16 = .ok (.iload_n 3, 1) := by decide +kernel
theorem dX3_meetAll_17 : decode cX3_meetAll 17 = .ok (.aaload, 1) := by decide +kernel
theorem dX3_meetAll_18 : decode cX3_meetAll 18 = .ok (.astore 4, 2) := by decide +kernel
theorem dX3_meetAll_20 : decode cX3_meetAll 20 = .ok (.aload 4, 2) := by decide +kernel
theorem dX3_meetAll_22 : decode cX3_meetAll 22 = .ok (.iconst 0, 1) := by decide +kernel
theorem dX3_meetAll_23 : decode cX3_meetAll 23 = .ok (.putfield 103, 3) := by decide +kernel
theorem dX3_meetAll_26 : decode cX3_meetAll 26 = .ok (.iinc 3 1, 3) := by decide +kernel
theorem dX3_meetAll_29 : decode cX3_meetAll 29 = .ok (.goto (-19), 3) := by decide +kernel
theorem dX3_meetAll_32 : decode cX3_meetAll 32 = .ok (.aload_n 0, 1) := by decide +kernel
theorem dX3_meetAll_33 : decode cX3_meetAll 33 = .ok (.getfield 42, 3) := by decide +kernel
theorem dX3_meetAll_36 : decode cX3_meetAll 36 = .ok (.istore_n 1, 1) := by decide +kernel
theorem dX3_meetAll_37 : decode cX3_meetAll 37 = .ok (.iconst 0, 1) := by decide +kernel
theorem dX3_meetAll_38 : decode cX3_meetAll 38 = .ok (.istore_n 2, 1) := by decide +kernel
theorem dX3_meetAll_39 : decode cX3_meetAll 39 = .ok (.iload_n 2, 1) := by decide +kernel
theorem dX3_meetAll_40 : decode cX3_meetAll 40 = .ok (.iload_n 1, 1) := by decide +kernel
theorem dX3_meetAll_41 : decode cX3_meetAll 41 = .ok (.if_icmp .ge 49, 3) := by decide +kernel
theorem dX3_meetAll_44 : decode cX3_meetAll 44 = .ok (.aload_n 0, 1) := by decide +kernel
theorem dX3_meetAll_45 : decode cX3_meetAll 45 = .ok (.getfield 27, 3) := by decide +kernel
theorem dX3_meetAll_48 : decode cX3_meetAll 48 = .ok (.iload_n 2, 1) := by decide +kernel
theorem dX3_meetAll_49 : decode cX3_meetAll 49 = .ok (.aaload, 1) := by decide +kernel
theorem dX3_meetAll_50 : decode cX3_meetAll 50 = .ok (.invokevirtual 106, 3) := by decide +kernel
theorem dX3_meetAll_53 : decode cX3_meetAll 53 = .ok (.ifCond .eq 31, 3) := by decide +kernel
theorem dX3_meetAll_56 : decode cX3_meetAll 56 = .ok (.aload_n 0, 1) := by decide +kernel
theorem dX3_meetAll_57 : decode cX3_meetAll 57 = .ok (.iload_n 2, 1) := by decide +kernel
theorem dX3_meetAll_58 : decode cX3_meetAll 58 = .ok (.iload_n 1, 1) := by decide +kernel
theorem dX3_meetAll_59 : decode cX3_meetAll 59 = .ok (.invokevirtual 110, 3) := by decide +kernel
theorem dX3_meetAll_62 : decode cX3_meetAll 62 = .ok (.istore_n 3, 1) := by decide +kernel
theorem dX3_meetAll_63 : decode cX3_meetAll 63 = .ok (.iload_n 3, 1) := by decide +kernel
theorem dX3_meetAll_64 : decode cX3_meetAll 64 = .ok (.iconst (-1), 1) := by decide +kernel
theorem dX3_meetAll_65 : decode cX3_meetAll 65 = .ok (.if_icmp .eq 19, 3) := by decide +kernel
theorem dX3_meetAll_68 : decode cX3_meetAll 68 = .ok (.aload_n 0, 1) := by decide +kernel
theorem dX3_meetAll_69 : decode cX3_meetAll 69 = .ok (.aload_n 0, 1) := by decide +kernel
theorem dX3_meetAll_70 : decode cX3_meetAll 70 = .ok (.getfield 27, 3) := by decide +kernel
theorem dX3_meetAll_73 : decode cX3_meetAll 73 = .ok (.iload_n 2, 1) := by decide +kernel
theorem dX3_meetAll_74 : decode cX3_meetAll 74 = .ok (.aaload, 1) := by decide +kernel
theorem dX3_meetAll_75 : decode cX3_meetAll 75 = .ok (.aload_n 0, 1) := by decide +kernel
theorem dX3_meetAll_76 : decode cX3_meetAll 76 = .ok (.getfield 27, 3) := by decide +kernel
theorem dX3_meetAll_79 : decode cX3_meetAll 79 = .ok (.iload_n 3, 1) := by decide +kernel
theorem dX3_meetAll_80 : decode cX3_meetAll 80 = .ok (.aaload, 1) := by decide +kernel
theorem dX3_meetAll_81 : decode cX3_meetAll 81 = .ok (.invokevirtual 113, 3) := by decide +kernel
theorem dX3_meetAll_84 : decode cX3_meetAll 84 = .ok (.iinc 2 1, 3) := by decide +kernel
theorem dX3_meetAll_87 : decode cX3_meetAll 87 = .ok (.goto (-48), 3) := by decide +kernel
theorem dX3_meetAll_90 : decode cX3_meetAll 90 = .ok (.return_, 1) := by decide +kernel
theorem dX3_darken_0 : decode cX3_darken 0 = .ok (.aload_n 0, 1) := by decide +kernel
theorem dX3_darken_1 : decode cX3_darken 1 = .ok (.getfield 27, 3) := by decide +kernel
theorem dX3_darken_4 : decode cX3_darken 4 = .ok (.astore_n 1, 1) := by decide +kernel
theorem dX3_darken_5 : decode cX3_darken 5 = .ok (.aload_n 1, 1) := by decide +kernel
theorem dX3_darken_6 : decode cX3_darken 6 = .ok (.arraylength, 1) := by decide +kernel
theorem dX3_darken_7 : decode cX3_darken 7 = .ok (.istore_n 2, 1) := by decide +kernel
theorem dX3_darken_8 : decode cX3_darken 8 = .ok (.iconst 0, 1) := by decide +kernel
theorem dX3_darken_9 : decode cX3_darken 9 = .ok (.istore_n 3, 1) := by decide +kernel
theorem dX3_darken_10 : decode cX3_darken 10 = .ok (.iload_n 3, 1) := by decide +kernel
theorem dX3_darken_11 : decode cX3_darken 11 = .ok (.iload_n 2, 1) := by decide +kernel
theorem dX3_darken_12 : decode cX3_darken 12 = .ok (.if_icmp .ge 40, 3) := by decide +kernel
theorem dX3_darken_15 : decode cX3_darken 15 = .ok (.aload_n 1, 1) := by decide +kernel
theorem dX3_darken_16 : decode cX3_darken 16 = .ok (.iload_n 3, 1) := by decide +kernel
theorem dX3_darken_17 : decode cX3_darken 17 = .ok (.aaload, 1) := by decide +kernel
theorem dX3_darken_18 : decode cX3_darken 18 = .ok (.astore 4, 2) := by decide +kernel
theorem dX3_darken_20 : decode cX3_darken 20 = .ok (.aload 4, 2) := by decide +kernel
theorem dX3_darken_22 : decode cX3_darken 22 = .ok (.getfield 57, 3) := by decide +kernel
theorem dX3_darken_25 : decode cX3_darken 25 = .ok (.ifCond .eq 21, 3) := by decide +kernel
theorem dX3_darken_28 : decode cX3_darken 28 = .ok (.aload 4, 2) := by decide +kernel
theorem dX3_darken_30 : decode cX3_darken 30 = .ok (.aload 4, 2) := by decide +kernel
theorem dX3_darken_32 : decode cX3_darken 32 = .ok (.getfield 117, 3) := by decide +kernel
theorem dX3_darken_35 : decode cX3_darken 35 = .ok (.iconst 1, 1) := by decide +kernel
theorem dX3_darken_36 : decode cX3_darken 36 = .ok (.iadd, 1) := by decide +kernel
theorem dX3_darken_37 : decode cX3_darken 37 = .ok (.sipush 1000, 3) := by decide +kernel
theorem dX3_darken_40 : decode cX3_darken 40 = .ok (.invokestatic 95, 3) := by decide +kernel
theorem dX3_darken_43 : decode cX3_darken 43 = .ok (.putfield 117, 3) := by decide +kernel
theorem dX3_darken_46 : decode cX3_darken 46 = .ok (.iinc 3 1, 3) := by decide +kernel
theorem dX3_darken_49 : decode cX3_darken 49 = .ok (.goto (-39), 3) := by decide +kernel
theorem dX3_darken_52 : decode cX3_darken 52 = .ok (.return_, 1) := by decide +kernel
theorem dX3_partnerOf_0 : decode cX3_partnerOf 0 = .ok (.aload_n 0, 1) := by decide +kernel
theorem dX3_partnerOf_1 : decode cX3_partnerOf 1 = .ok (.getfield 27, 3) := by decide +kernel
theorem dX3_partnerOf_4 : decode cX3_partnerOf 4 = .ok (.iload_n 1, 1) := by decide +kernel
theorem dX3_partnerOf_5 : decode cX3_partnerOf 5 = .ok (.aaload, 1) := by decide +kernel
theorem dX3_partnerOf_6 : decode cX3_partnerOf 6 = .ok (.astore_n 3, 1) := by decide +kernel
theorem dX3_partnerOf_7 : decode cX3_partnerOf 7 = .ok (.iload_n 1, 1) := by decide +kernel
theorem dX3_partnerOf_8 : decode cX3_partnerOf 8 = .ok (.iconst 1, 1) := by decide +kernel
theorem dX3_partnerOf_9 : decode cX3_partnerOf 9 = .ok (.iadd, 1) := by decide +kernel
end
section
theorem dX3_partnerOf_10 : decode cX3_partnerOf 10 = .ok (.istore 4, 2) := by decide +kernel
theorem dX3_partnerOf_12 : decode cX3_partnerOf 12 = .ok (.iload 4, 2) := by decide +kernel
theorem dX3_partnerOf_14 : decode cX3_partnerOf 14 = .ok (.iload_n 2, 1) := by decide +kernel
theorem dX3_partnerOf_15 : decode cX3_partnerOf 15 = .ok (.if_icmp .ge 49, 3) := by decide +kernel
theorem dX3_partnerOf_18 : decode cX3_partnerOf 18 = .ok (.aload_n 0, 1) := by decide +kernel
theorem dX3_partnerOf_19 : decode cX3_partnerOf 19 = .ok (.getfield 27, 3) := by decide +kernel
theorem dX3_partnerOf_22 : decode cX3_partnerOf 22 = .ok (.iload 4, 2) := by decide +kernel
theorem dX3_partnerOf_24 : decode cX3_partnerOf 24 = .ok (.aaload, 1) := by decide +kernel
theorem dX3_partnerOf_25 : decode cX3_partnerOf 25 = .ok (.astore 5, 2) := by decide +kernel
theorem dX3_partnerOf_27 : decode cX3_partnerOf 27 = .ok (.aload 5, 2) := by decide +kernel
theorem dX3_partnerOf_29 : decode cX3_partnerOf 29 = .ok (.invokevirtual 106, 3) := by decide +kernel
theorem dX3_partnerOf_32 : decode cX3_partnerOf 32 = .ok (.ifCond .eq 26, 3) := by decide +kernel
theorem dX3_partnerOf_35 : decode cX3_partnerOf 35 = .ok (.aload_n 3, 1) := by decide +kernel
theorem dX3_partnerOf_36 : decode cX3_partnerOf 36 = .ok (.aload 5, 2) := by decide +kernel
theorem dX3_partnerOf_38 : decode cX3_partnerOf 38 = .ok (.getfield 45, 3) := by decide +kernel
theorem dX3_partnerOf_41 : decode cX3_partnerOf 41 = .ok (.aload 5, 2) := by decide +kernel
theorem dX3_partnerOf_43 : decode cX3_partnerOf 43 = .ok (.getfield 48, 3) := by decide +kernel
theorem dX3_partnerOf_46 : decode cX3_partnerOf 46 = .ok (.iconst 1, 1) := by decide +kernel
theorem dX3_partnerOf_47 : decode cX3_partnerOf 47 = .ok (.bipush 100, 2) := by decide +kernel
theorem dX3_partnerOf_49 : decode cX3_partnerOf 49 = .ok (.invokevirtual 87, 3) := by decide +kernel
theorem dX3_partnerOf_52 : decode cX3_partnerOf 52 = .ok (.ifCond .eq 6, 3) := by decide +kernel
theorem dX3_partnerOf_55 : decode cX3_partnerOf 55 = .ok (.iload 4, 2) := by decide +kernel
theorem dX3_partnerOf_57 : decode cX3_partnerOf 57 = .ok (.ireturn, 1) := by decide +kernel
theorem dX3_partnerOf_58 : decode cX3_partnerOf 58 = .ok (.iinc 4 1, 3) := by decide +kernel
theorem dX3_partnerOf_61 : decode cX3_partnerOf 61 = .ok (.goto (-49), 3) := by decide +kernel
theorem dX3_partnerOf_64 : decode cX3_partnerOf 64 = .ok (.iconst (-1), 1) := by decide +kernel
theorem dX3_partnerOf_65 : decode cX3_partnerOf 65 = .ok (.ireturn, 1) := by decide +kernel
theorem dX3_meet_0 : decode cX3_meet 0 = .ok (.aload_n 1, 1) := by decide +kernel
theorem dX3_meet_1 : decode cX3_meet 1 = .ok (.iconst 1, 1) := by decide +kernel
theorem dX3_meet_2 : decode cX3_meet 2 = .ok (.putfield 103, 3) := by decide +kernel
theorem dX3_meet_5 : decode cX3_meet 5 = .ok (.aload_n 2, 1) := by decide +kernel
theorem dX3_meet_6 : decode cX3_meet 6 = .ok (.iconst 1, 1) := by decide +kernel
theorem dX3_meet_7 : decode cX3_meet 7 = .ok (.putfield 103, 3) := by decide +kernel
theorem dX3_meet_10 : decode cX3_meet 10 = .ok (.aload_n 1, 1) := by decide +kernel
theorem dX3_meet_11 : decode cX3_meet 11 = .ok (.getfield 54, 3) := by decide +kernel
theorem dX3_meet_14 : decode cX3_meet 14 = .ok (.aload_n 2, 1) := by decide +kernel
theorem dX3_meet_15 : decode cX3_meet 15 = .ok (.getfield 54, 3) := by decide +kernel
theorem dX3_meet_18 : decode cX3_meet 18 = .ok (.iadd, 1) := by decide +kernel
theorem dX3_meet_19 : decode cX3_meet 19 = .ok (.aload_n 0, 1) := by decide +kernel
theorem dX3_meet_20 : decode cX3_meet 20 = .ok (.getfield 12, 3) := by decide +kernel
theorem dX3_meet_23 : decode cX3_meet 23 = .ok (.aload_n 1, 1) := by decide +kernel
theorem dX3_meet_24 : decode cX3_meet 24 = .ok (.getfield 45, 3) := by decide +kernel
theorem dX3_meet_27 : decode cX3_meet 27 = .ok (.invokevirtual 72, 3) := by decide +kernel
theorem dX3_meet_30 : decode cX3_meet 30 = .ok (.aload_n 0, 1) := by decide +kernel
theorem dX3_meet_31 : decode cX3_meet 31 = .ok (.getfield 12, 3) := by decide +kernel
theorem dX3_meet_34 : decode cX3_meet 34 = .ok (.aload_n 2, 1) := by decide +kernel
theorem dX3_meet_35 : decode cX3_meet 35 = .ok (.getfield 45, 3) := by decide +kernel
theorem dX3_meet_38 : decode cX3_meet 38 = .ok (.invokevirtual 72, 3) := by decide +kernel
theorem dX3_meet_41 : decode cX3_meet 41 = .ok (.isub, 1) := by decide +kernel
theorem dX3_meet_42 : decode cX3_meet 42 = .ok (.invokestatic 120, 3) := by decide +kernel
theorem dX3_meet_45 : decode cX3_meet 45 = .ok (.iadd, 1) := by decide +kernel
theorem dX3_meet_46 : decode cX3_meet 46 = .ok (.istore_n 3, 1) := by decide +kernel
theorem dX3_meet_47 : decode cX3_meet 47 = .ok (.aload_n 1, 1) := by decide +kernel
theorem dX3_meet_48 : decode cX3_meet 48 = .ok (.getfield 51, 3) := by decide +kernel
theorem dX3_meet_51 : decode cX3_meet 51 = .ok (.aload_n 2, 1) := by decide +kernel
theorem dX3_meet_52 : decode cX3_meet 52 = .ok (.getfield 51, 3) := by decide +kernel
theorem dX3_meet_55 : decode cX3_meet 55 = .ok (.if_icmp .ge 7, 3) := by decide +kernel
theorem dX3_meet_58 : decode cX3_meet 58 = .ok (.aload_n 1, 1) := by decide +kernel
theorem dX3_meet_59 : decode cX3_meet 59 = .ok (.goto 4, 3) := by decide +kernel
theorem dX3_meet_62 : decode cX3_meet 62 = .ok (.aload_n 2, 1) := by decide +kernel
theorem dX3_meet_63 : decode cX3_meet 63 = .ok (.astore 4, 2) := by decide +kernel
theorem dX3_meet_65 : decode cX3_meet 65 = .ok (.iload_n 3, 1) := by decide +kernel
theorem dX3_meet_66 : decode cX3_meet 66 = .ok (.aload_n 0, 1) := by decide +kernel
theorem dX3_meet_67 : decode cX3_meet 67 = .ok (.getfield 32, 3) := by decide +kernel
theorem dX3_meet_70 : decode cX3_meet 70 = .ok (.if_icmp .gt 12, 3) := by decide +kernel
theorem dX3_meet_73 : decode cX3_meet 73 = .ok (.aload_n 0, 1) := by decide +kernel
theorem dX3_meet_74 : decode cX3_meet 74 = .ok (.aload_n 1, 1) := by decide +kernel
theorem dX3_meet_75 : decode cX3_meet 75 = .ok (.aload_n 2, 1) := by decide +kernel
theorem dX3_meet_76 : decode cX3_meet 76 = .ok (.invokevirtual 123, 3) := by decide +kernel
theorem dX3_meet_79 : decode cX3_meet 79 = .ok (.goto 44, 3) := by decide +kernel
theorem dX3_meet_82 : decode cX3_meet 82 = .ok (.iload_n 3, 1) := by decide +kernel
theorem dX3_meet_83 : decode cX3_meet 83 = .ok (.aload_n 0, 1) := by decide +kernel
theorem dX3_meet_84 : decode cX3_meet 84 = .ok (.getfield 36, 3) := by decide +kernel
theorem dX3_meet_87 : decode cX3_meet 87 = .ok (.if_icmp .le 30, 3) := by decide +kernel
theorem dX3_meet_90 : decode cX3_meet 90 = .ok (.aload 4, 2) := by decide +kernel
theorem dX3_meet_92 : decode cX3_meet 92 = .ok (.getfield 51, 3) := by decide +kernel
theorem dX3_meet_95 : decode cX3_meet 95 = .ok (.iconst 2, 1) := by decide +kernel
theorem dX3_meet_96 : decode cX3_meet 96 = .ok (.if_icmp .lt 21, 3) := by decide +kernel
theorem dX3_meet_99 : decode cX3_meet 99 = .ok (.aload_n 0, 1) := by decide +kernel
theorem dX3_meet_100 : decode cX3_meet 100 = .ok (.getfield 42, 3) := by decide +kernel
theorem dX3_meet_103 : decode cX3_meet 103 = .ok (.bipush 80, 2) := by decide +kernel
theorem dX3_meet_105 : decode cX3_meet 105 = .ok (.if_icmp .ge 12, 3) := by decide +kernel
theorem dX3_meet_108 : decode cX3_meet 108 = .ok (.aload_n 0, 1) := by decide +kernel
theorem dX3_meet_109 : decode cX3_meet 109 = .ok (.aload 4, 2) := by decide +kernel
theorem dX3_meet_111 : decode cX3_meet 111 = .ok (.invokevirtual 126, 3) := by decide +kernel
theorem dX3_meet_114 : decode cX3_meet 114 = .ok (.goto 9, 3) := by decide +kernel
theorem dX3_meet_117 : decode cX3_meet 117 = .ok (.aload_n 0, 1) := by decide +kernel
theorem dX3_meet_118 : decode cX3_meet 118 = .ok (.aload_n 1, 1) := by decide +kernel
theorem dX3_meet_119 : decode cX3_meet 119 = .ok (.aload_n 2, 1) := by decide +kernel
theorem dX3_meet_120 : decode cX3_meet 120 = .ok (.invokevirtual 130, 3) := by decide +kernel
theorem dX3_meet_123 : decode cX3_meet 123 = .ok (.return_, 1) := by decide +kernel
theorem dX3_stick_0 : decode cX3_stick 0 = .ok (.aload_n 1, 1) := by decide +kernel
theorem dX3_stick_1 : decode cX3_stick 1 = .ok (.invokevirtual 68, 3) := by decide +kernel
theorem dX3_stick_4 : decode cX3_stick 4 = .ok (.aload_n 2, 1) := by decide +kernel
theorem dX3_stick_5 : decode cX3_stick 5 = .ok (.invokevirtual 68, 3) := by decide +kernel
theorem dX3_stick_8 : decode cX3_stick 8 = .ok (.ladd, 1) := by decide +kernel
theorem dX3_stick_9 : decode cX3_stick 9 = .ok (.lstore_n 3, 1) := by decide +kernel
theorem dX3_stick_10 : decode cX3_stick 10 = .ok (.aload_n 1, 1) := by decide +kernel
theorem dX3_stick_11 : decode cX3_stick 11 = .ok (.aload_n 1, 1) := by decide +kernel
theorem dX3_stick_12 : decode cX3_stick 12 = .ok (.getfield 45, 3) := by decide +kernel
theorem dX3_stick_15 : decode cX3_stick 15 = .ok (.aload_n 2, 1) := by decide +kernel
theorem dX3_stick_16 : decode cX3_stick 16 = .ok (.aload_n 2, 1) := by decide +kernel
theorem dX3_stick_17 : decode cX3_stick 17 = .ok (.getfield 45, 3) := by decide +kernel
theorem dX3_stick_20 : decode cX3_stick 20 = .ok (.invokestatic 133, 3) := by decide +kernel
theorem dX3_stick_23 : decode cX3_stick 23 = .ok (.istore 5, 2) := by decide +kernel
theorem dX3_stick_25 : decode cX3_stick 25 = .ok (.aload_n 1, 1) := by decide +kernel
theorem dX3_stick_26 : decode cX3_stick 26 = .ok (.aload_n 1, 1) := by decide +kernel
theorem dX3_stick_27 : decode cX3_stick 27 = .ok (.getfield 117, 3) := by decide +kernel
theorem dX3_stick_30 : decode cX3_stick 30 = .ok (.aload_n 2, 1) := by decide +kernel
theorem dX3_stick_31 : decode cX3_stick 31 = .ok (.aload_n 2, 1) := by decide +kernel
theorem dX3_stick_32 : decode cX3_stick 32 = .ok (.getfield 117, 3) := by decide +kernel
theorem dX3_stick_35 : decode cX3_stick 35 = .ok (.invokestatic 133, 3) := by decide +kernel
theorem dX3_stick_38 : decode cX3_stick 38 = .ok (.istore 6, 2) := by decide +kernel
theorem dX3_stick_40 : decode cX3_stick 40 = .ok (.aload_n 1, 1) := by decide +kernel
theorem dX3_stick_41 : decode cX3_stick 41 = .ok (.iload 5, 2) := by decide +kernel
theorem dX3_stick_43 : decode cX3_stick 43 = .ok (.putfield 45, 3) := by decide +kernel
theorem dX3_stick_46 : decode cX3_stick 46 = .ok (.aload_n 1, 1) := by decide +kernel
theorem dX3_stick_47 : decode cX3_stick 47 = .ok (.iload 6, 2) := by decide +kernel
theorem dX3_stick_49 : decode cX3_stick 49 = .ok (.putfield 117, 3) := by decide +kernel
theorem dX3_stick_52 : decode cX3_stick 52 = .ok (.aload_n 1, 1) := by decide +kernel
theorem dX3_stick_53 : decode cX3_stick 53 = .ok (.aload_n 1, 1) := by decide +kernel
theorem dX3_stick_54 : decode cX3_stick 54 = .ok (.getfield 54, 3) := by decide +kernel
theorem dX3_stick_57 : decode cX3_stick 57 = .ok (.aload_n 2, 1) := by decide +kernel
theorem dX3_stick_58 : decode cX3_stick 58 = .ok (.getfield 54, 3) := by decide +kernel
theorem dX3_stick_61 : decode cX3_stick 61 = .ok (.invokestatic 95, 3) := by decide +kernel
theorem dX3_stick_64 : decode cX3_stick 64 = .ok (.putfield 54, 3) := by decide +kernel
theorem dX3_stick_67 : decode cX3_stick 67 = .ok (.aload_n 1, 1) := by decide +kernel
theorem dX3_stick_68 : decode cX3_stick 68 = .ok (.dup, 1) := by decide +kernel
theorem dX3_stick_69 : decode cX3_stick 69 = .ok (.getfield 51, 3) := by decide +kernel
theorem dX3_stick_72 : decode cX3_stick 72 = .ok (.aload_n 2, 1) := by decide +kernel
theorem dX3_stick_73 : decode cX3_stick 73 = .ok (.getfield 51, 3) := by decide +kernel
theorem dX3_stick_76 : decode cX3_stick 76 = .ok (.iadd, 1) := by decide +kernel
theorem dX3_stick_77 : decode cX3_stick 77 = .ok (.putfield 51, 3) := by decide +kernel
theorem dX3_stick_80 : decode cX3_stick 80 = .ok (.aload_n 2, 1) := by decide +kernel
theorem dX3_stick_81 : decode cX3_stick 81 = .ok (.iconst 0, 1) := by decide +kernel
theorem dX3_stick_82 : decode cX3_stick 82 = .ok (.putfield 57, 3) := by decide +kernel
theorem dX3_stick_85 : decode cX3_stick 85 = .ok (.aload_n 0, 1) := by decide +kernel
theorem dX3_stick_86 : decode cX3_stick 86 = .ok (.getfield 21, 3) := by decide +kernel
theorem dX3_stick_89 : decode cX3_stick 89 = .ok (.dup, 1) := by decide +kernel
theorem dX3_stick_90 : decode cX3_stick 90 = .ok (.getfield 137, 3) := by decide +kernel
theorem dX3_stick_93 : decode cX3_stick 93 = .ok (.iconst 1, 1) := by decide +kernel
theorem dX3_stick_94 : decode cX3_stick 94 = .ok (.iadd, 1) := by decide +kernel
theorem dX3_stick_95 : decode cX3_stick 95 = .ok (.putfield 137, 3) := by decide +kernel
theorem dX3_stick_98 : decode cX3_stick 98 = .ok (.aload_n 0, 1) := by decide +kernel
theorem dX3_stick_99 : decode cX3_stick 99 = .ok (.getfield 21, 3) := by decide +kernel
theorem dX3_stick_102 : decode cX3_stick 102 = .ok (.dup, 1) := by decide +kernel
theorem dX3_stick_103 : decode cX3_stick 103 = .ok (.getfield 140, 3) := by decide +kernel
theorem dX3_stick_106 : decode cX3_stick 106 = .ok (.lload_n 3, 1) := by decide +kernel
theorem dX3_stick_107 : decode cX3_stick 107 = .ok (.aload_n 1, 1) := by decide +kernel
theorem dX3_stick_108 : decode cX3_stick 108 = .ok (.invokevirtual 68, 3) := by decide +kernel
theorem dX3_stick_111 : decode cX3_stick 111 = .ok (.lsub, 1) := by decide +kernel
theorem dX3_stick_112 : decode cX3_stick 112 = .ok (.ladd, 1) := by decide +kernel
theorem dX3_stick_113 : decode cX3_stick 113 = .ok (.putfield 140, 3) := by decide +kernel
theorem dX3_stick_116 : decode cX3_stick 116 = .ok (.return_, 1) := by decide +kernel
theorem dX3_blend_0 : decode cX3_blend 0 = .ok (.aload_n 0, 1) := by decide +kernel
theorem dX3_blend_1 : decode cX3_blend 1 = .ok (.getfield 51, 3) := by decide +kernel
theorem dX3_blend_4 : decode cX3_blend 4 = .ok (.i2l, 1) := by decide +kernel
theorem dX3_blend_5 : decode cX3_blend 5 = .ok (.aload_n 2, 1) := by decide +kernel
theorem dX3_blend_6 : decode cX3_blend 6 = .ok (.getfield 51, 3) := by decide +kernel
theorem dX3_blend_9 : decode cX3_blend 9 = .ok (.i2l, 1) := by decide +kernel
theorem dX3_blend_10 : decode cX3_blend 10 = .ok (.ladd, 1) := by decide +kernel
theorem dX3_blend_11 : decode cX3_blend 11 = .ok (.lstore 4, 2) := by decide +kernel
theorem dX3_blend_13 : decode cX3_blend 13 = .ok (.lload 4, 2) := by decide +kernel
theorem dX3_blend_15 : decode cX3_blend 15 = .ok (.lconst 1, 1) := by decide +kernel
theorem dX3_blend_16 : decode cX3_blend 16 = .ok (.lcmp, 1) := by decide +kernel
theorem dX3_blend_17 : decode cX3_blend 17 = .ok (.ifCond .ge 5, 3) := by decide +kernel
theorem dX3_blend_20 : decode cX3_blend 20 = .ok (.iload_n 1, 1) := by decide +kernel
theorem dX3_blend_21 : decode cX3_blend 21 = .ok (.ireturn, 1) := by decide +kernel
theorem dX3_blend_22 : decode cX3_blend 22 = .ok (.aload_n 0, 1) := by decide +kernel
theorem dX3_blend_23 : decode cX3_blend 23 = .ok (.getfield 51, 3) := by decide +kernel
theorem dX3_blend_26 : decode cX3_blend 26 = .ok (.i2l, 1) := by decide +kernel
theorem dX3_blend_27 : decode cX3_blend 27 = .ok (.iload_n 1, 1) := by decide +kernel
theorem dX3_blend_28 : decode cX3_blend 28 = .ok (.i2l, 1) := by decide +kernel
theorem dX3_blend_29 : decode cX3_blend 29 = .ok (.lmul, 1) := by decide +kernel
theorem dX3_blend_30 : decode cX3_blend 30 = .ok (.aload_n 2, 1) := by decide +kernel
theorem dX3_blend_31 : decode cX3_blend 31 = .ok (.getfield 51, 3) := by decide +kernel
theorem dX3_blend_34 : decode cX3_blend 34 = .ok (.i2l, 1) := by decide +kernel
theorem dX3_blend_35 : decode cX3_blend 35 = .ok (.iload_n 3, 1) := by decide +kernel
theorem dX3_blend_36 : decode cX3_blend 36 = .ok (.i2l, 1) := by decide +kernel
theorem dX3_blend_37 : decode cX3_blend 37 = .ok (.lmul, 1) := by decide +kernel
theorem dX3_blend_38 : decode cX3_blend 38 = .ok (.ladd, 1) := by decide +kernel
theorem dX3_blend_39 : decode cX3_blend 39 = .ok (.lload 4, 2) := by decide +kernel
theorem dX3_blend_41 : decode cX3_blend 41 = .ok (.ldiv, 1) := by decide +kernel
theorem dX3_blend_42 : decode cX3_blend 42 = .ok (.l2i, 1) := by decide +kernel
theorem dX3_blend_43 : decode cX3_blend 43 = .ok (.ireturn, 1) := by decide +kernel
theorem dX3_breakUp_0 : decode cX3_breakUp 0 = .ok (.aload_n 0, 1) := by decide +kernel
theorem dX3_breakUp_1 : decode cX3_breakUp 1 = .ok (.getfield 42, 3) := by decide +kernel
theorem dX3_breakUp_4 : decode cX3_breakUp 4 = .ok (.bipush 80, 2) := by decide +kernel
theorem dX3_breakUp_6 : decode cX3_breakUp 6 = .ok (.if_icmp .lt 4, 3) := by decide +kernel
theorem dX3_breakUp_9 : decode cX3_breakUp 9 = .ok (.return_, 1) := by decide +kernel
theorem dX3_breakUp_10 : decode cX3_breakUp 10 = .ok (.aload_n 1, 1) := by decide +kernel
theorem dX3_breakUp_11 : decode cX3_breakUp 11 = .ok (.invokevirtual 68, 3) := by decide +kernel
theorem dX3_breakUp_14 : decode cX3_breakUp 14 = .ok (.lstore_n 2, 1) := by decide +kernel
theorem dX3_breakUp_15 : decode cX3_breakUp 15 = .ok (.aload_n 0, 1) := by decide +kernel
theorem dX3_breakUp_16 : decode cX3_breakUp 16 = .ok (.getfield 27, 3) := by decide +kernel
theorem dX3_breakUp_19 : decode cX3_breakUp 19 = .ok (.aload_n 0, 1) := by decide +kernel
theorem dX3_breakUp_20 : decode cX3_breakUp 20 = .ok (.getfield 42, 3) := by decide +kernel
theorem dX3_breakUp_23 : decode cX3_breakUp 23 = .ok (.aaload, 1) := by decide +kernel
theorem dX3_breakUp_24 : decode cX3_breakUp 24 = .ok (.astore 4, 2) := by decide +kernel
theorem dX3_breakUp_26 : decode cX3_breakUp 26 = .ok (.aload_n 0, 1) := by decide +kernel
theorem dX3_breakUp_27 : decode cX3_breakUp 27 = .ok (.dup, 1) := by decide +kernel
theorem dX3_breakUp_28 : decode cX3_breakUp 28 = .ok (.getfield 42, 3) := by decide +kernel
theorem dX3_breakUp_31 : decode cX3_breakUp 31 = .ok (.iconst 1, 1) := by decide +kernel
theorem dX3_breakUp_32 : decode cX3_breakUp 32 = .ok (.iadd, 1) := by decide +kernel
theorem dX3_breakUp_33 : decode cX3_breakUp 33 = .ok (.putfield 42, 3) := by decide +kernel
theorem dX3_breakUp_36 : decode cX3_breakUp 36 = .ok (.aload 4, 2) := by decide +kernel
theorem dX3_breakUp_38 : decode cX3_breakUp 38 = .ok (.aload_n 1, 1) := by decide +kernel
theorem dX3_breakUp_39 : decode cX3_breakUp 39 = .ok (.getfield 45, 3) := by decide +kernel
theorem dX3_breakUp_42 : decode cX3_breakUp 42 = .ok (.putfield 45, 3) := by decide +kernel
theorem dX3_breakUp_45 : decode cX3_breakUp 45 = .ok (.aload 4, 2) := by decide +kernel
theorem dX3_breakUp_47 : decode cX3_breakUp 47 = .ok (.aload_n 1, 1) := by decide +kernel
theorem dX3_breakUp_48 : decode cX3_breakUp 48 = .ok (.getfield 48, 3) := by decide +kernel
theorem dX3_breakUp_51 : decode cX3_breakUp 51 = .ok (.putfield 48, 3) := by decide +kernel
theorem dX3_breakUp_54 : decode cX3_breakUp 54 = .ok (.aload 4, 2) := by decide +kernel
theorem dX3_breakUp_56 : decode cX3_breakUp 56 = .ok (.aload_n 1, 1) := by decide +kernel
theorem dX3_breakUp_57 : decode cX3_breakUp 57 = .ok (.getfield 117, 3) := by decide +kernel
theorem dX3_breakUp_60 : decode cX3_breakUp 60 = .ok (.putfield 117, 3) := by decide +kernel
theorem dX3_breakUp_63 : decode cX3_breakUp 63 = .ok (.aload 4, 2) := by decide +kernel
theorem dX3_breakUp_65 : decode cX3_breakUp 65 = .ok (.iconst 0, 1) := by decide +kernel
theorem dX3_breakUp_66 : decode cX3_breakUp 66 = .ok (.putfield 54, 3) := by decide +kernel
theorem dX3_breakUp_69 : decode cX3_breakUp 69 = .ok (.aload 4, 2) := by decide +kernel
theorem dX3_breakUp_71 : decode cX3_breakUp 71 = .ok (.iconst 1, 1) := by decide +kernel
theorem dX3_breakUp_72 : decode cX3_breakUp 72 = .ok (.putfield 57, 3) := by decide +kernel
theorem dX3_breakUp_75 : decode cX3_breakUp 75 = .ok (.aload 4, 2) := by decide +kernel
theorem dX3_breakUp_77 : decode cX3_breakUp 77 = .ok (.aload_n 1, 1) := by decide +kernel
theorem dX3_breakUp_78 : decode cX3_breakUp 78 = .ok (.getfield 51, 3) := by decide +kernel
theorem dX3_breakUp_81 : decode cX3_breakUp 81 = .ok (.aload_n 1, 1) := by decide +kernel
theorem dX3_breakUp_82 : decode cX3_breakUp 82 = .ok (.getfield 51, 3) := by decide +kernel
theorem dX3_breakUp_85 : decode cX3_breakUp 85 = .ok (.iconst 2, 1) := by decide +kernel
theorem dX3_breakUp_86 : decode cX3_breakUp 86 = .ok (.idiv, 1) := by decide +kernel
theorem dX3_breakUp_87 : decode cX3_breakUp 87 = .ok (.isub, 1) := by decide +kernel
theorem dX3_breakUp_88 : decode cX3_breakUp 88 = .ok (.putfield 51, 3) := by decide +kernel
theorem dX3_breakUp_91 : decode cX3_breakUp 91 = .ok (.aload_n 1, 1) := by decide +kernel
theorem dX3_breakUp_92 : decode cX3_breakUp 92 = .ok (.aload_n 1, 1) := by decide +kernel
theorem dX3_breakUp_93 : decode cX3_breakUp 93 = .ok (.getfield 51, 3) := by decide +kernel
theorem dX3_breakUp_96 : decode cX3_breakUp 96 = .ok (.iconst 2, 1) := by decide +kernel
theorem dX3_breakUp_97 : decode cX3_breakUp 97 = .ok (.idiv, 1) := by decide +kernel
theorem dX3_breakUp_98 : decode cX3_breakUp 98 = .ok (.putfield 51, 3) := by decide +kernel
theorem dX3_breakUp_101 : decode cX3_breakUp 101 = .ok (.aload_n 1, 1) := by decide +kernel
theorem dX3_breakUp_102 : decode cX3_breakUp 102 = .ok (.iconst 0, 1) := by decide +kernel
theorem dX3_breakUp_103 : decode cX3_breakUp 103 = .ok (.putfield 54, 3) := by decide +kernel
theorem dX3_breakUp_106 : decode cX3_breakUp 106 = .ok (.aload_n 0, 1) := by decide +kernel
theorem dX3_breakUp_107 : decode cX3_breakUp 107 = .ok (.aload_n 1, 1) := by decide +kernel
theorem dX3_breakUp_108 : decode cX3_breakUp 108 = .ok (.iconst (-1), 1) := by decide +kernel
theorem dX3_breakUp_109 : decode cX3_breakUp 109 = .ok (.invokevirtual 91, 3) := by decide +kernel
theorem dX3_breakUp_112 : decode cX3_breakUp 112 = .ok (.aload_n 0, 1) := by decide +kernel
theorem dX3_breakUp_113 : decode cX3_breakUp 113 = .ok (.aload 4, 2) := by decide +kernel
theorem dX3_breakUp_115 : decode cX3_breakUp 115 = .ok (.iconst 1, 1) := by decide +kernel
theorem dX3_breakUp_116 : decode cX3_breakUp 116 = .ok (.invokevirtual 91, 3) := by decide +kernel
theorem dX3_breakUp_119 : decode cX3_breakUp 119 = .ok (.aload_n 0, 1) := by decide +kernel
theorem dX3_breakUp_120 : decode cX3_breakUp 120 = .ok (.getfield 21, 3) := by decide +kernel
theorem dX3_breakUp_123 : decode cX3_breakUp 123 = .ok (.dup, 1) := by decide +kernel
theorem dX3_breakUp_124 : decode cX3_breakUp 124 = .ok (.getfield 143, 3) := by decide +kernel
theorem dX3_breakUp_127 : decode cX3_breakUp 127 = .ok (.iconst 1, 1) := by decide +kernel
theorem dX3_breakUp_128 : decode cX3_breakUp 128 = .ok (.iadd, 1) := by decide +kernel
theorem dX3_breakUp_129 : decode cX3_breakUp 129 = .ok (.putfield 143, 3) := by decide +kernel
theorem dX3_breakUp_132 : decode cX3_breakUp 132 = .ok (.aload_n 0, 1) := by decide +kernel
theorem dX3_breakUp_133 : decode cX3_breakUp 133 = .ok (.getfield 21, 3) := by decide +kernel
theorem dX3_breakUp_136 : decode cX3_breakUp 136 = .ok (.dup, 1) := by decide +kernel
theorem dX3_breakUp_137 : decode cX3_breakUp 137 = .ok (.getfield 140, 3) := by decide +kernel
theorem dX3_breakUp_140 : decode cX3_breakUp 140 = .ok (.lload_n 2, 1) := by decide +kernel
theorem dX3_breakUp_141 : decode cX3_breakUp 141 = .ok (.aload_n 1, 1) := by decide +kernel
theorem dX3_breakUp_142 : decode cX3_breakUp 142 = .ok (.invokevirtual 68, 3) := by decide +kernel
theorem dX3_breakUp_145 : decode cX3_breakUp 145 = .ok (.lsub, 1) := by decide +kernel
theorem dX3_breakUp_146 : decode cX3_breakUp 146 = .ok (.aload 4, 2) := by decide +kernel
theorem dX3_breakUp_148 : decode cX3_breakUp 148 = .ok (.invokevirtual 68, 3) := by decide +kernel
theorem dX3_breakUp_151 : decode cX3_breakUp 151 = .ok (.lsub, 1) := by decide +kernel
theorem dX3_breakUp_152 : decode cX3_breakUp 152 = .ok (.ladd, 1) := by decide +kernel
theorem dX3_breakUp_153 : decode cX3_breakUp 153 = .ok (.putfield 140, 3) := by decide +kernel
theorem dX3_breakUp_156 : decode cX3_breakUp 156 = .ok (.return_, 1) := by decide +kernel
theorem dX3_bump_0 : decode cX3_bump 0 = .ok (.aload_n 1, 1) := by decide +kernel
theorem dX3_bump_1 : decode cX3_bump 1 = .ok (.invokevirtual 68, 3) := by decide +kernel
theorem dX3_bump_4 : decode cX3_bump 4 = .ok (.aload_n 2, 1) := by decide +kernel
theorem dX3_bump_5 : decode cX3_bump 5 = .ok (.invokevirtual 68, 3) := by decide +kernel
theorem dX3_bump_8 : decode cX3_bump 8 = .ok (.ladd, 1) := by decide +kernel
theorem dX3_bump_9 : decode cX3_bump 9 = .ok (.lstore_n 3, 1) := by decide +kernel
theorem dX3_bump_10 : decode cX3_bump 10 = .ok (.aload_n 1, 1) := by decide +kernel
theorem dX3_bump_11 : decode cX3_bump 11 = .ok (.getfield 45, 3) := by decide +kernel
theorem dX3_bump_14 : decode cX3_bump 14 = .ok (.aload_n 2, 1) := by decide +kernel
theorem dX3_bump_15 : decode cX3_bump 15 = .ok (.getfield 45, 3) := by decide +kernel
theorem dX3_bump_18 : decode cX3_bump 18 = .ok (.if_icmp .gt 7, 3) := by decide +kernel
theorem dX3_bump_21 : decode cX3_bump 21 = .ok (.iconst (-1), 1) := by decide +kernel
theorem dX3_bump_22 : decode cX3_bump 22 = .ok (.goto 4, 3) := by decide +kernel
theorem dX3_bump_25 : decode cX3_bump 25 = .ok (.iconst 1, 1) := by decide +kernel
theorem dX3_bump_26 : decode cX3_bump 26 = .ok (.istore 5, 2) := by decide +kernel
theorem dX3_bump_28 : decode cX3_bump 28 = .ok (.aload_n 0, 1) := by decide +kernel
theorem dX3_bump_29 : decode cX3_bump 29 = .ok (.aload_n 1, 1) := by decide +kernel
theorem dX3_bump_30 : decode cX3_bump 30 = .ok (.iload 5, 2) := by decide +kernel
theorem dX3_bump_32 : decode cX3_bump 32 = .ok (.invokevirtual 91, 3) := by decide +kernel
theorem dX3_bump_35 : decode cX3_bump 35 = .ok (.aload_n 0, 1) := by decide +kernel
theorem dX3_bump_36 : decode cX3_bump 36 = .ok (.aload_n 2, 1) := by decide +kernel
theorem dX3_bump_37 : decode cX3_bump 37 = .ok (.iload 5, 2) := by decide +kernel
theorem dX3_bump_39 : decode cX3_bump 39 = .ok (.ineg, 1) := by decide +kernel
theorem dX3_bump_40 : decode cX3_bump 40 = .ok (.invokevirtual 91, 3) := by decide +kernel
theorem dX3_bump_43 : decode cX3_bump 43 = .ok (.aload_n 1, 1) := by decide +kernel
theorem dX3_bump_44 : decode cX3_bump 44 = .ok (.aload_n 1, 1) := by decide +kernel
theorem dX3_bump_45 : decode cX3_bump 45 = .ok (.getfield 54, 3) := by decide +kernel
theorem dX3_bump_48 : decode cX3_bump 48 = .ok (.aload_n 0, 1) := by decide +kernel
theorem dX3_bump_49 : decode cX3_bump 49 = .ok (.getfield 39, 3) := by decide +kernel
theorem dX3_bump_52 : decode cX3_bump 52 = .ok (.imul, 1) := by decide +kernel
theorem dX3_bump_53 : decode cX3_bump 53 = .ok (.bipush 100, 2) := by decide +kernel
theorem dX3_bump_55 : decode cX3_bump 55 = .ok (.idiv, 1) := by decide +kernel
theorem dX3_bump_56 : decode cX3_bump 56 = .ok (.putfield 54, 3) := by decide +kernel
theorem dX3_bump_59 : decode cX3_bump 59 = .ok (.aload_n 2, 1) := by decide +kernel
theorem dX3_bump_60 : decode cX3_bump 60 = .ok (.aload_n 2, 1) := by decide +kernel
theorem dX3_bump_61 : decode cX3_bump 61 = .ok (.getfield 54, 3) := by decide +kernel
theorem dX3_bump_64 : decode cX3_bump 64 = .ok (.aload_n 0, 1) := by decide +kernel
theorem dX3_bump_65 : decode cX3_bump 65 = .ok (.getfield 39, 3) := by decide +kernel
theorem dX3_bump_68 : decode cX3_bump 68 = .ok (.imul, 1) := by decide +kernel
theorem dX3_bump_69 : decode cX3_bump 69 = .ok (.bipush 100, 2) := by decide +kernel
theorem dX3_bump_71 : decode cX3_bump 71 = .ok (.idiv, 1) := by decide +kernel
theorem dX3_bump_72 : decode cX3_bump 72 = .ok (.putfield 54, 3) := by decide +kernel
theorem dX3_bump_75 : decode cX3_bump 75 = .ok (.aload_n 0, 1) := by decide +kernel
theorem dX3_bump_76 : decode cX3_bump 76 = .ok (.getfield 21, 3) := by decide +kernel
theorem dX3_bump_79 : decode cX3_bump 79 = .ok (.dup, 1) := by decide +kernel
theorem dX3_bump_80 : decode cX3_bump 80 = .ok (.getfield 146, 3) := by decide +kernel
theorem dX3_bump_83 : decode cX3_bump 83 = .ok (.iconst 1, 1) := by decide +kernel
theorem dX3_bump_84 : decode cX3_bump 84 = .ok (.iadd, 1) := by decide +kernel
theorem dX3_bump_85 : decode cX3_bump 85 = .ok (.putfield 146, 3) := by decide +kernel
theorem dX3_bump_88 : decode cX3_bump 88 = .ok (.aload_n 0, 1) := by decide +kernel
theorem dX3_bump_89 : decode cX3_bump 89 = .ok (.getfield 21, 3) := by decide +kernel
theorem dX3_bump_92 : decode cX3_bump 92 = .ok (.dup, 1) := by decide +kernel
theorem dX3_bump_93 : decode cX3_bump 93 = .ok (.getfield 140, 3) := by decide +kernel
theorem dX3_bump_96 : decode cX3_bump 96 = .ok (.lload_n 3, 1) := by decide +kernel
theorem dX3_bump_97 : decode cX3_bump 97 = .ok (.aload_n 1, 1) := by decide +kernel
theorem dX3_bump_98 : decode cX3_bump 98 = .ok (.invokevirtual 68, 3) := by decide +kernel
theorem dX3_bump_101 : decode cX3_bump 101 = .ok (.lsub, 1) := by decide +kernel
theorem dX3_bump_102 : decode cX3_bump 102 = .ok (.aload_n 2, 1) := by decide +kernel
theorem dX3_bump_103 : decode cX3_bump 103 = .ok (.invokevirtual 68, 3) := by decide +kernel
theorem dX3_bump_106 : decode cX3_bump 106 = .ok (.lsub, 1) := by decide +kernel
theorem dX3_bump_107 : decode cX3_bump 107 = .ok (.ladd, 1) := by decide +kernel
theorem dX3_bump_108 : decode cX3_bump 108 = .ok (.putfield 140, 3) := by decide +kernel
theorem dX3_bump_111 : decode cX3_bump 111 = .ok (.return_, 1) := by decide +kernel
theorem dX3_shift_0 : decode cX3_shift 0 = .ok (.aload_n 1, 1) := by decide +kernel
theorem dX3_shift_1 : decode cX3_shift 1 = .ok (.dup, 1) := by decide +kernel
theorem dX3_shift_2 : decode cX3_shift 2 = .ok (.getfield 45, 3) := by decide +kernel
theorem dX3_shift_5 : decode cX3_shift 5 = .ok (.iload_n 2, 1) := by decide +kernel
theorem dX3_shift_6 : decode cX3_shift 6 = .ok (.iadd, 1) := by decide +kernel
theorem dX3_shift_7 : decode cX3_shift 7 = .ok (.putfield 45, 3) := by decide +kernel
theorem dX3_shift_10 : decode cX3_shift 10 = .ok (.aload_n 1, 1) := by decide +kernel
theorem dX3_shift_11 : decode cX3_shift 11 = .ok (.getfield 45, 3) := by decide +kernel
theorem dX3_shift_14 : decode cX3_shift 14 = .ok (.ifCond .ge 56, 3) := by decide +kernel
theorem dX3_shift_17 : decode cX3_shift 17 = .ok (.aload_n 1, 1) := by decide +kernel
theorem dX3_shift_18 : decode cX3_shift 18 = .ok (.iconst 0, 1) := by decide +kernel
theorem dX3_shift_19 : decode cX3_shift 19 = .ok (.putfield 57, 3) := by decide +kernel
theorem dX3_shift_22 : decode cX3_shift 22 = .ok (.aload_n 0, 1) := by decide +kernel
theorem dX3_shift_23 : decode cX3_shift 23 = .ok (.getfield 21, 3) := by decide +kernel
theorem dX3_shift_26 : decode cX3_shift 26 = .ok (.dup, 1) := by decide +kernel
theorem dX3_shift_27 : decode cX3_shift 27 = .ok (.getfield 149, 3) := by decide +kernel
theorem dX3_shift_30 : decode cX3_shift 30 = .ok (.iconst 1, 1) := by decide +kernel
theorem dX3_shift_31 : decode cX3_shift 31 = .ok (.iadd, 1) := by decide +kernel
theorem dX3_shift_32 : decode cX3_shift 32 = .ok (.putfield 149, 3) := by decide +kernel
theorem dX3_shift_35 : decode cX3_shift 35 = .ok (.aload_n 0, 1) := by decide +kernel
theorem dX3_shift_36 : decode cX3_shift 36 = .ok (.getfield 21, 3) := by decide +kernel
theorem dX3_shift_39 : decode cX3_shift 39 = .ok (.dup, 1) := by decide +kernel
theorem dX3_shift_40 : decode cX3_shift 40 = .ok (.getfield 152, 3) := by decide +kernel
theorem dX3_shift_43 : decode cX3_shift 43 = .ok (.aload_n 1, 1) := by decide +kernel
theorem dX3_shift_44 : decode cX3_shift 44 = .ok (.getfield 51, 3) := by decide +kernel
theorem dX3_shift_47 : decode cX3_shift 47 = .ok (.iadd, 1) := by decide +kernel
theorem dX3_shift_48 : decode cX3_shift 48 = .ok (.putfield 152, 3) := by decide +kernel
theorem dX3_shift_51 : decode cX3_shift 51 = .ok (.aload_n 0, 1) := by decide +kernel
theorem dX3_shift_52 : decode cX3_shift 52 = .ok (.getfield 21, 3) := by decide +kernel
theorem dX3_shift_55 : decode cX3_shift 55 = .ok (.dup, 1) := by decide +kernel
theorem dX3_shift_56 : decode cX3_shift 56 = .ok (.getfield 155, 3) := by decide +kernel
theorem dX3_shift_59 : decode cX3_shift 59 = .ok (.aload_n 1, 1) := by decide +kernel
theorem dX3_shift_60 : decode cX3_shift 60 = .ok (.invokevirtual 68, 3) := by decide +kernel
theorem dX3_shift_63 : decode cX3_shift 63 = .ok (.ladd, 1) := by decide +kernel
theorem dX3_shift_64 : decode cX3_shift 64 = .ok (.putfield 155, 3) := by decide +kernel
theorem dX3_shift_67 : decode cX3_shift 67 = .ok (.goto 62, 3) := by decide +kernel
theorem dX3_shift_70 : decode cX3_shift 70 = .ok (.aload_n 1, 1) := by decide +kernel
theorem dX3_shift_71 : decode cX3_shift 71 = .ok (.getfield 45, 3) := by decide +kernel
theorem dX3_shift_74 : decode cX3_shift 74 = .ok (.bipush 64, 2) := by decide +kernel
theorem dX3_shift_76 : decode cX3_shift 76 = .ok (.if_icmp .lt 53, 3) := by decide +kernel
theorem dX3_shift_79 : decode cX3_shift 79 = .ok (.aload_n 1, 1) := by decide +kernel
theorem dX3_shift_80 : decode cX3_shift 80 = .ok (.iconst 0, 1) := by decide +kernel
theorem dX3_shift_81 : decode cX3_shift 81 = .ok (.putfield 57, 3) := by decide +kernel
theorem dX3_shift_84 : decode cX3_shift 84 = .ok (.aload_n 0, 1) := by decide +kernel
theorem dX3_shift_85 : decode cX3_shift 85 = .ok (.getfield 21, 3) := by decide +kernel
theorem dX3_shift_88 : decode cX3_shift 88 = .ok (.dup, 1) := by decide +kernel
theorem dX3_shift_89 : decode cX3_shift 89 = .ok (.getfield 158, 3) := by decide +kernel
theorem dX3_shift_92 : decode cX3_shift 92 = .ok (.iconst 1, 1) := by decide +kernel
theorem dX3_shift_93 : decode cX3_shift 93 = .ok (.iadd, 1) := by decide +kernel
theorem dX3_shift_94 : decode cX3_shift 94 = .ok (.putfield 158, 3) := by decide +kernel
theorem dX3_shift_97 : decode cX3_shift 97 = .ok (.aload_n 0, 1) := by decide +kernel
theorem dX3_shift_98 : decode cX3_shift 98 = .ok (.getfield 21, 3) := by decide +kernel
theorem dX3_shift_101 : decode cX3_shift 101 = .ok (.dup, 1) := by decide +kernel
theorem dX3_shift_102 : decode cX3_shift 102 = .ok (.getfield 161, 3) := by decide +kernel
theorem dX3_shift_105 : decode cX3_shift 105 = .ok (.aload_n 1, 1) := by decide +kernel
theorem dX3_shift_106 : decode cX3_shift 106 = .ok (.getfield 51, 3) := by decide +kernel
theorem dX3_shift_109 : decode cX3_shift 109 = .ok (.iadd, 1) := by decide +kernel
theorem dX3_shift_110 : decode cX3_shift 110 = .ok (.putfield 161, 3) := by decide +kernel
theorem dX3_shift_113 : decode cX3_shift 113 = .ok (.aload_n 0, 1) := by decide +kernel
theorem dX3_shift_114 : decode cX3_shift 114 = .ok (.getfield 21, 3) := by decide +kernel
theorem dX3_shift_117 : decode cX3_shift 117 = .ok (.dup, 1) := by decide +kernel
theorem dX3_shift_118 : decode cX3_shift 118 = .ok (.getfield 164, 3) := by decide +kernel
theorem dX3_shift_121 : decode cX3_shift 121 = .ok (.aload_n 1, 1) := by decide +kernel
theorem dX3_shift_122 : decode cX3_shift 122 = .ok (.invokevirtual 68, 3) := by decide +kernel
theorem dX3_shift_125 : decode cX3_shift 125 = .ok (.ladd, 1) := by decide +kernel
theorem dX3_shift_126 : decode cX3_shift 126 = .ok (.putfield 164, 3) := by decide +kernel
theorem dX3_shift_129 : decode cX3_shift 129 = .ok (.return_, 1) := by decide +kernel
theorem dX4_init_0 : decode cX4_init 0 = .ok (.aload_n 0, 1) := by decide +kernel
theorem dX4_init_1 : decode cX4_init 1 = .ok (.invokespecial 1, 3) := by decide +kernel
theorem dX4_init_4 : decode cX4_init 4 = .ok (.return_, 1) := by decide +kernel
theorem dX5_init_0 : decode cX5_init 0 = .ok (.aload_n 0, 1) := by decide +kernel
theorem dX5_init_1 : decode cX5_init 1 = .ok (.invokespecial 1, 3) := by decide +kernel
theorem dX5_init_4 : decode cX5_init 4 = .ok (.return_, 1) := by decide +kernel
theorem dX6_init_0 : decode cX6_init 0 = .ok (.aload_n 0, 1) := by decide +kernel
theorem dX6_init_1 : decode cX6_init 1 = .ok (.invokespecial 3, 3) := by decide +kernel
theorem dX6_init_4 : decode cX6_init 4 = .ok (.return_, 1) := by decide +kernel
theorem dX6_speedIn_0 : decode cX6_speedIn 0 = .ok (.iload_n 1, 1) := by decide +kernel
theorem dX6_speedIn_1 : decode cX6_speedIn 1 = .ok (.invokestatic 9, 3) := by decide +kernel
theorem dX6_speedIn_4 : decode cX6_speedIn 4 = .ok (.istore_n 2, 1) := by decide +kernel
theorem dX6_speedIn_5 : decode cX6_speedIn 5 = .ok (.iload_n 2, 1) := by decide +kernel
theorem dX6_speedIn_6 : decode cX6_speedIn 6 = .ok (.iconst 1, 1) := by decide +kernel
theorem dX6_speedIn_7 : decode cX6_speedIn 7 = .ok (.if_icmp .ge 5, 3) := by decide +kernel
theorem dX6_speedIn_10 : decode cX6_speedIn 10 = .ok (.iconst 0, 1) := by decide +kernel
theorem dX6_speedIn_11 : decode cX6_speedIn 11 = .ok (.ireturn, 1) := by decide +kernel
theorem dX6_speedIn_12 : decode cX6_speedIn 12 = .ok (.ldc 13, 2) := by decide +kernel
theorem dX6_speedIn_14 : decode cX6_speedIn 14 = .ok (.iload_n 2, 1) := by decide +kernel
theorem dX6_speedIn_15 : decode cX6_speedIn 15 = .ok (.idiv, 1) := by decide +kernel
theorem dX6_speedIn_16 : decode cX6_speedIn 16 = .ok (.bipush 100, 2) := by decide +kernel
theorem dX6_speedIn_18 : decode cX6_speedIn 18 = .ok (.aload_n 0, 1) := by decide +kernel
theorem dX6_speedIn_19 : decode cX6_speedIn 19 = .ok (.getfield 14, 3) := by decide +kernel
theorem dX6_speedIn_22 : decode cX6_speedIn 22 = .ok (.imul, 1) := by decide +kernel
theorem dX6_speedIn_23 : decode cX6_speedIn 23 = .ok (.iload_n 2, 1) := by decide +kernel
theorem dX6_speedIn_24 : decode cX6_speedIn 24 = .ok (.iload_n 2, 1) := by decide +kernel
theorem dX6_speedIn_25 : decode cX6_speedIn 25 = .ok (.imul, 1) := by decide +kernel
theorem dX6_speedIn_26 : decode cX6_speedIn 26 = .ok (.idiv, 1) := by decide +kernel
theorem dX6_speedIn_27 : decode cX6_speedIn 27 = .ok (.iadd, 1) := by decide +kernel
theorem dX6_speedIn_28 : decode cX6_speedIn 28 = .ok (.ireturn, 1) := by decide +kernel
theorem dX7_init_0 : decode cX7_init 0 = .ok (.aload_n 0, 1) := by decide +kernel
theorem dX7_init_1 : decode cX7_init 1 = .ok (.invokespecial 3, 3) := by decide +kernel
theorem dX7_init_4 : decode cX7_init 4 = .ok (.aload_n 0, 1) := by decide +kernel
theorem dX7_init_5 : decode cX7_init 5 = .ok (.new 9, 3) := by decide +kernel
theorem dX7_init_8 : decode cX7_init 8 = .ok (.dup, 1) := by decide +kernel
theorem dX7_init_9 : decode cX7_init 9 = .ok (.invokespecial 11, 3) := by decide +kernel
theorem dX7_init_12 : decode cX7_init 12 = .ok (.putfield 12, 3) := by decide +kernel
theorem dX7_init_15 : decode cX7_init 15 = .ok (.aload_n 0, 1) := by decide +kernel
theorem dX7_init_16 : decode cX7_init 16 = .ok (.bipush 6, 2) := by decide +kernel
theorem dX7_init_18 : decode cX7_init 18 = .ok (.anewarray 16, 3) := by decide +kernel
theorem dX7_init_21 : decode cX7_init 21 = .ok (.putfield 18, 3) := by decide +kernel
theorem dX7_init_24 : decode cX7_init 24 = .ok (.iconst 0, 1) := by decide +kernel
theorem dX7_init_25 : decode cX7_init 25 = .ok (.istore_n 1, 1) := by decide +kernel
theorem dX7_init_26 : decode cX7_init 26 = .ok (.iload_n 1, 1) := by decide +kernel
theorem dX7_init_27 : decode cX7_init 27 = .ok (.bipush 6, 2) := by decide +kernel
theorem dX7_init_29 : decode cX7_init 29 = .ok (.if_icmp .ge 22, 3) := by decide +kernel
theorem dX7_init_32 : decode cX7_init 32 = .ok (.aload_n 0, 1) := by decide +kernel
theorem dX7_init_33 : decode cX7_init 33 = .ok (.getfield 18, 3) := by decide +kernel
theorem dX7_init_36 : decode cX7_init 36 = .ok (.iload_n 1, 1) := by decide +kernel
theorem dX7_init_37 : decode cX7_init 37 = .ok (.new 16, 3) := by decide +kernel
theorem dX7_init_40 : decode cX7_init 40 = .ok (.dup, 1) := by decide +kernel
theorem dX7_init_41 : decode cX7_init 41 = .ok (.invokespecial 22, 3) := by decide +kernel
theorem dX7_init_44 : decode cX7_init 44 = .ok (.aastore, 1) := by decide +kernel
theorem dX7_init_45 : decode cX7_init 45 = .ok (.iinc 1 1, 3) := by decide +kernel
theorem dX7_init_48 : decode cX7_init 48 = .ok (.goto (-22), 3) := by decide +kernel
theorem dX7_init_51 : decode cX7_init 51 = .ok (.aload_n 0, 1) := by decide +kernel
theorem dX7_init_52 : decode cX7_init 52 = .ok (.bipush 20, 2) := by decide +kernel
end
section
theorem dX7_init_54 : decode cX7_init 54 = .ok (.anewarray 23, 3) := by decide +kernel
theorem dX7_init_57 : decode cX7_init 57 = .ok (.putfield 25, 3) := by decide +kernel
theorem dX7_init_60 : decode cX7_init 60 = .ok (.iconst 0, 1) := by decide +kernel
theorem dX7_init_61 : decode cX7_init 61 = .ok (.istore_n 1, 1) := by decide +kernel
theorem dX7_init_62 : decode cX7_init 62 = .ok (.iload_n 1, 1) := by decide +kernel
theorem dX7_init_63 : decode cX7_init 63 = .ok (.bipush 20, 2) := by decide +kernel
theorem dX7_init_65 : decode cX7_init 65 = .ok (.if_icmp .ge 22, 3) := by decide +kernel
theorem dX7_init_68 : decode cX7_init 68 = .ok (.aload_n 0, 1) := by decide +kernel
theorem dX7_init_69 : decode cX7_init 69 = .ok (.getfield 25, 3) := by decide +kernel
theorem dX7_init_72 : decode cX7_init 72 = .ok (.iload_n 1, 1) := by decide +kernel
theorem dX7_init_73 : decode cX7_init 73 = .ok (.new 23, 3) := by decide +kernel
theorem dX7_init_76 : decode cX7_init 76 = .ok (.dup, 1) := by decide +kernel
theorem dX7_init_77 : decode cX7_init 77 = .ok (.invokespecial 29, 3) := by decide +kernel
theorem dX7_init_80 : decode cX7_init 80 = .ok (.aastore, 1) := by decide +kernel
theorem dX7_init_81 : decode cX7_init 81 = .ok (.iinc 1 1, 3) := by decide +kernel
theorem dX7_init_84 : decode cX7_init 84 = .ok (.goto (-22), 3) := by decide +kernel
theorem dX7_init_87 : decode cX7_init 87 = .ok (.aload_n 0, 1) := by decide +kernel
theorem dX7_init_88 : decode cX7_init 88 = .ok (.bipush 40, 2) := by decide +kernel
theorem dX7_init_90 : decode cX7_init 90 = .ok (.anewarray 30, 3) := by decide +kernel
theorem dX7_init_93 : decode cX7_init 93 = .ok (.putfield 32, 3) := by decide +kernel
theorem dX7_init_96 : decode cX7_init 96 = .ok (.iconst 0, 1) := by decide +kernel
theorem dX7_init_97 : decode cX7_init 97 = .ok (.istore_n 1, 1) := by decide +kernel
theorem dX7_init_98 : decode cX7_init 98 = .ok (.iload_n 1, 1) := by decide +kernel
theorem dX7_init_99 : decode cX7_init 99 = .ok (.bipush 40, 2) := by decide +kernel
theorem dX7_init_101 : decode cX7_init 101 = .ok (.if_icmp .ge 22, 3) := by decide +kernel
theorem dX7_init_104 : decode cX7_init 104 = .ok (.aload_n 0, 1) := by decide +kernel
theorem dX7_init_105 : decode cX7_init 105 = .ok (.getfield 32, 3) := by decide +kernel
theorem dX7_init_108 : decode cX7_init 108 = .ok (.iload_n 1, 1) := by decide +kernel
theorem dX7_init_109 : decode cX7_init 109 = .ok (.new 30, 3) := by decide +kernel
theorem dX7_init_112 : decode cX7_init 112 = .ok (.dup, 1) := by decide +kernel
theorem dX7_init_113 : decode cX7_init 113 = .ok (.invokespecial 36, 3) := by decide +kernel
theorem dX7_init_116 : decode cX7_init 116 = .ok (.aastore, 1) := by decide +kernel
theorem dX7_init_117 : decode cX7_init 117 = .ok (.iinc 1 1, 3) := by decide +kernel
theorem dX7_init_120 : decode cX7_init 120 = .ok (.goto (-22), 3) := by decide +kernel
theorem dX7_init_123 : decode cX7_init 123 = .ok (.aload_n 0, 1) := by decide +kernel
theorem dX7_init_124 : decode cX7_init 124 = .ok (.bipush 64, 2) := by decide +kernel
theorem dX7_init_126 : decode cX7_init 126 = .ok (.newarray .int, 2) := by decide +kernel
theorem dX7_init_128 : decode cX7_init 128 = .ok (.putfield 37, 3) := by decide +kernel
theorem dX7_init_131 : decode cX7_init 131 = .ok (.aload_n 0, 1) := by decide +kernel
theorem dX7_init_132 : decode cX7_init 132 = .ok (.bipush 21, 2) := by decide +kernel
theorem dX7_init_134 : decode cX7_init 134 = .ok (.newarray .int, 2) := by decide +kernel
theorem dX7_init_136 : decode cX7_init 136 = .ok (.putfield 41, 3) := by decide +kernel
theorem dX7_init_139 : decode cX7_init 139 = .ok (.aload_n 0, 1) := by decide +kernel
theorem dX7_init_140 : decode cX7_init 140 = .ok (.bipush 21, 2) := by decide +kernel
theorem dX7_init_142 : decode cX7_init 142 = .ok (.newarray .int, 2) := by decide +kernel
theorem dX7_init_144 : decode cX7_init 144 = .ok (.putfield 44, 3) := by decide +kernel
theorem dX7_init_147 : decode cX7_init 147 = .ok (.return_, 1) := by decide +kernel
theorem dX7_grain_0 : decode cX7_grain 0 = .ok (.iload_n 1, 1) := by decide +kernel
theorem dX7_grain_1 : decode cX7_grain 1 = .ok (.iload_n 2, 1) := by decide +kernel
theorem dX7_grain_2 : decode cX7_grain 2 = .ok (.iload_n 3, 1) := by decide +kernel
theorem dX7_grain_3 : decode cX7_grain 3 = .ok (.invokestatic 47, 3) := by decide +kernel
theorem dX7_grain_6 : decode cX7_grain 6 = .ok (.iload 4, 2) := by decide +kernel
theorem dX7_grain_8 : decode cX7_grain 8 = .ok (.iconst 0, 1) := by decide +kernel
theorem dX7_grain_9 : decode cX7_grain 9 = .ok (.bipush 99, 2) := by decide +kernel
theorem dX7_grain_11 : decode cX7_grain 11 = .ok (.invokestatic 51, 3) := by decide +kernel
theorem dX7_grain_14 : decode cX7_grain 14 = .ok (.aload_n 0, 1) := by decide +kernel
theorem dX7_grain_15 : decode cX7_grain 15 = .ok (.getfield 12, 3) := by decide +kernel
theorem dX7_grain_18 : decode cX7_grain 18 = .ok (.getfield 54, 3) := by decide +kernel
theorem dX7_grain_21 : decode cX7_grain 21 = .ok (.bipush 80, 2) := by decide +kernel
theorem dX7_grain_23 : decode cX7_grain 23 = .ok (.if_icmp .lt 13, 3) := by decide +kernel
theorem dX7_grain_26 : decode cX7_grain 26 = .ok (.new 58, 3) := by decide +kernel
theorem dX7_grain_29 : decode cX7_grain 29 = .ok (.dup, 1) := by decide +kernel
theorem dX7_grain_30 : decode cX7_grain 30 = .ok (.ldc 60, 2) := by decide +kernel
theorem dX7_grain_32 : decode cX7_grain 32 = .ok (.invokespecial 62, 3) := by decide +kernel
theorem dX7_grain_35 : decode cX7_grain 35 = .ok (.athrow, 1) := by decide +kernel
theorem dX7_grain_36 : decode cX7_grain 36 = .ok (.aload_n 0, 1) := by decide +kernel
theorem dX7_grain_37 : decode cX7_grain 37 = .ok (.getfield 12, 3) := by decide +kernel
theorem dX7_grain_40 : decode cX7_grain 40 = .ok (.iload_n 1, 1) := by decide +kernel
theorem dX7_grain_41 : decode cX7_grain 41 = .ok (.iload_n 2, 1) := by decide +kernel
theorem dX7_grain_42 : decode cX7_grain 42 = .ok (.iload_n 3, 1) := by decide +kernel
theorem dX7_grain_43 : decode cX7_grain 43 = .ok (.iload 4, 2) := by decide +kernel
theorem dX7_grain_45 : decode cX7_grain 45 = .ok (.invokevirtual 65, 3) := by decide +kernel
theorem dX7_grain_48 : decode cX7_grain 48 = .ok (.ireturn, 1) := by decide +kernel
theorem dX7_moon_0 : decode cX7_moon 0 = .ok (.iload_n 1, 1) := by decide +kernel
theorem dX7_moon_1 : decode cX7_moon 1 = .ok (.iload_n 2, 1) := by decide +kernel
theorem dX7_moon_2 : decode cX7_moon 2 = .ok (.iload_n 3, 1) := by decide +kernel
theorem dX7_moon_3 : decode cX7_moon 3 = .ok (.invokestatic 47, 3) := by decide +kernel
theorem dX7_moon_6 : decode cX7_moon 6 = .ok (.aload_n 0, 1) := by decide +kernel
theorem dX7_moon_7 : decode cX7_moon 7 = .ok (.getfield 69, 3) := by decide +kernel
theorem dX7_moon_10 : decode cX7_moon 10 = .ok (.bipush 6, 2) := by decide +kernel
theorem dX7_moon_12 : decode cX7_moon 12 = .ok (.if_icmp .lt 13, 3) := by decide +kernel
theorem dX7_moon_15 : decode cX7_moon 15 = .ok (.new 58, 3) := by decide +kernel
theorem dX7_moon_18 : decode cX7_moon 18 = .ok (.dup, 1) := by decide +kernel
theorem dX7_moon_19 : decode cX7_moon 19 = .ok (.ldc 72, 2) := by decide +kernel
theorem dX7_moon_21 : decode cX7_moon 21 = .ok (.invokespecial 62, 3) := by decide +kernel
theorem dX7_moon_24 : decode cX7_moon 24 = .ok (.athrow, 1) := by decide +kernel
theorem dX7_moon_25 : decode cX7_moon 25 = .ok (.aload_n 0, 1) := by decide +kernel
theorem dX7_moon_26 : decode cX7_moon 26 = .ok (.getfield 18, 3) := by decide +kernel
theorem dX7_moon_29 : decode cX7_moon 29 = .ok (.aload_n 0, 1) := by decide +kernel
theorem dX7_moon_30 : decode cX7_moon 30 = .ok (.getfield 69, 3) := by decide +kernel
theorem dX7_moon_33 : decode cX7_moon 33 = .ok (.aaload, 1) := by decide +kernel
theorem dX7_moon_34 : decode cX7_moon 34 = .ok (.astore 4, 2) := by decide +kernel
theorem dX7_moon_36 : decode cX7_moon 36 = .ok (.aload 4, 2) := by decide +kernel
theorem dX7_moon_38 : decode cX7_moon 38 = .ok (.iload_n 1, 1) := by decide +kernel
theorem dX7_moon_39 : decode cX7_moon 39 = .ok (.putfield 74, 3) := by decide +kernel
theorem dX7_moon_42 : decode cX7_moon 42 = .ok (.aload 4, 2) := by decide +kernel
theorem dX7_moon_44 : decode cX7_moon 44 = .ok (.iload_n 2, 1) := by decide +kernel
theorem dX7_moon_45 : decode cX7_moon 45 = .ok (.putfield 77, 3) := by decide +kernel
theorem dX7_moon_48 : decode cX7_moon 48 = .ok (.aload 4, 2) := by decide +kernel
theorem dX7_moon_50 : decode cX7_moon 50 = .ok (.iload_n 3, 1) := by decide +kernel
theorem dX7_moon_51 : decode cX7_moon 51 = .ok (.invokestatic 80, 3) := by decide +kernel
theorem dX7_moon_54 : decode cX7_moon 54 = .ok (.putfield 84, 3) := by decide +kernel
theorem dX7_moon_57 : decode cX7_moon 57 = .ok (.aload_n 0, 1) := by decide +kernel
theorem dX7_moon_58 : decode cX7_moon 58 = .ok (.dup, 1) := by decide +kernel
theorem dX7_moon_59 : decode cX7_moon 59 = .ok (.getfield 69, 3) := by decide +kernel
theorem dX7_moon_62 : decode cX7_moon 62 = .ok (.iconst 1, 1) := by decide +kernel
theorem dX7_moon_63 : decode cX7_moon 63 = .ok (.iadd, 1) := by decide +kernel
theorem dX7_moon_64 : decode cX7_moon 64 = .ok (.putfield 69, 3) := by decide +kernel
theorem dX7_moon_67 : decode cX7_moon 67 = .ok (.aload_n 0, 1) := by decide +kernel
theorem dX7_moon_68 : decode cX7_moon 68 = .ok (.getfield 69, 3) := by decide +kernel
theorem dX7_moon_71 : decode cX7_moon 71 = .ok (.iconst 1, 1) := by decide +kernel
theorem dX7_moon_72 : decode cX7_moon 72 = .ok (.isub, 1) := by decide +kernel
theorem dX7_moon_73 : decode cX7_moon 73 = .ok (.ireturn, 1) := by decide +kernel
theorem dX7_flatness_0 : decode cX7_flatness 0 = .ok (.iload_n 1, 1) := by decide +kernel
theorem dX7_flatness_1 : decode cX7_flatness 1 = .ok (.iconst 0, 1) := by decide +kernel
theorem dX7_flatness_2 : decode cX7_flatness 2 = .ok (.sipush 1000, 3) := by decide +kernel
theorem dX7_flatness_5 : decode cX7_flatness 5 = .ok (.invokestatic 51, 3) := by decide +kernel
theorem dX7_flatness_8 : decode cX7_flatness 8 = .ok (.aload_n 0, 1) := by decide +kernel
theorem dX7_flatness_9 : decode cX7_flatness 9 = .ok (.getfield 12, 3) := by decide +kernel
theorem dX7_flatness_12 : decode cX7_flatness 12 = .ok (.getfield 87, 3) := by decide +kernel
theorem dX7_flatness_15 : decode cX7_flatness 15 = .ok (.getfield 91, 3) := by decide +kernel
theorem dX7_flatness_18 : decode cX7_flatness 18 = .ok (.istore_n 2, 1) := by decide +kernel
theorem dX7_flatness_19 : decode cX7_flatness 19 = .ok (.aload_n 0, 1) := by decide +kernel
theorem dX7_flatness_20 : decode cX7_flatness 20 = .ok (.getfield 12, 3) := by decide +kernel
theorem dX7_flatness_23 : decode cX7_flatness 23 = .ok (.getfield 87, 3) := by decide +kernel
theorem dX7_flatness_26 : decode cX7_flatness 26 = .ok (.iload_n 1, 1) := by decide +kernel
theorem dX7_flatness_27 : decode cX7_flatness 27 = .ok (.putfield 91, 3) := by decide +kernel
theorem dX7_flatness_30 : decode cX7_flatness 30 = .ok (.iload_n 2, 1) := by decide +kernel
theorem dX7_flatness_31 : decode cX7_flatness 31 = .ok (.ireturn, 1) := by decide +kernel
theorem dX7_bounds_0 : decode cX7_bounds 0 = .ok (.iload_n 1, 1) := by decide +kernel
theorem dX7_bounds_1 : decode cX7_bounds 1 = .ok (.iconst 0, 1) := by decide +kernel
theorem dX7_bounds_2 : decode cX7_bounds 2 = .ok (.sipush 1000, 3) := by decide +kernel
theorem dX7_bounds_5 : decode cX7_bounds 5 = .ok (.invokestatic 51, 3) := by decide +kernel
theorem dX7_bounds_8 : decode cX7_bounds 8 = .ok (.iload_n 2, 1) := by decide +kernel
theorem dX7_bounds_9 : decode cX7_bounds 9 = .ok (.iload_n 1, 1) := by decide +kernel
theorem dX7_bounds_10 : decode cX7_bounds 10 = .ok (.sipush 5000, 3) := by decide +kernel
theorem dX7_bounds_13 : decode cX7_bounds 13 = .ok (.invokestatic 51, 3) := by decide +kernel
theorem dX7_bounds_16 : decode cX7_bounds 16 = .ok (.iload_n 3, 1) := by decide +kernel
theorem dX7_bounds_17 : decode cX7_bounds 17 = .ok (.iconst 0, 1) := by decide +kernel
theorem dX7_bounds_18 : decode cX7_bounds 18 = .ok (.bipush 100, 2) := by decide +kernel
theorem dX7_bounds_20 : decode cX7_bounds 20 = .ok (.invokestatic 51, 3) := by decide +kernel
theorem dX7_bounds_23 : decode cX7_bounds 23 = .ok (.aload_n 0, 1) := by decide +kernel
theorem dX7_bounds_24 : decode cX7_bounds 24 = .ok (.getfield 12, 3) := by decide +kernel
theorem dX7_bounds_27 : decode cX7_bounds 27 = .ok (.iload_n 1, 1) := by decide +kernel
theorem dX7_bounds_28 : decode cX7_bounds 28 = .ok (.putfield 96, 3) := by decide +kernel
theorem dX7_bounds_31 : decode cX7_bounds 31 = .ok (.aload_n 0, 1) := by decide +kernel
theorem dX7_bounds_32 : decode cX7_bounds 32 = .ok (.getfield 12, 3) := by decide +kernel
theorem dX7_bounds_35 : decode cX7_bounds 35 = .ok (.iload_n 2, 1) := by decide +kernel
theorem dX7_bounds_36 : decode cX7_bounds 36 = .ok (.putfield 99, 3) := by decide +kernel
theorem dX7_bounds_39 : decode cX7_bounds 39 = .ok (.aload_n 0, 1) := by decide +kernel
theorem dX7_bounds_40 : decode cX7_bounds 40 = .ok (.getfield 12, 3) := by decide +kernel
theorem dX7_bounds_43 : decode cX7_bounds 43 = .ok (.iload_n 3, 1) := by decide +kernel
theorem dX7_bounds_44 : decode cX7_bounds 44 = .ok (.putfield 102, 3) := by decide +kernel
theorem dX7_bounds_47 : decode cX7_bounds 47 = .ok (.return_, 1) := by decide +kernel
theorem dX7_tick_0 : decode cX7_tick 0 = .ok (.iload_n 1, 1) := by decide +kernel
theorem dX7_tick_1 : decode cX7_tick 1 = .ok (.iconst 1, 1) := by decide +kernel
theorem dX7_tick_2 : decode cX7_tick 2 = .ok (.bipush 50, 2) := by decide +kernel
theorem dX7_tick_4 : decode cX7_tick 4 = .ok (.invokestatic 51, 3) := by decide +kernel
theorem dX7_tick_7 : decode cX7_tick 7 = .ok (.aload_n 0, 1) := by decide +kernel
theorem dX7_tick_8 : decode cX7_tick 8 = .ok (.getfield 105, 3) := by decide +kernel
theorem dX7_tick_11 : decode cX7_tick 11 = .ok (.iload_n 1, 1) := by decide +kernel
theorem dX7_tick_12 : decode cX7_tick 12 = .ok (.iadd, 1) := by decide +kernel
theorem dX7_tick_13 : decode cX7_tick 13 = .ok (.sipush 2000, 3) := by decide +kernel
theorem dX7_tick_16 : decode cX7_tick 16 = .ok (.if_icmp .le 13, 3) := by decide +kernel
theorem dX7_tick_19 : decode cX7_tick 19 = .ok (.new 58, 3) := by decide +kernel
theorem dX7_tick_22 : decode cX7_tick 22 = .ok (.dup, 1) := by decide +kernel
theorem dX7_tick_23 : decode cX7_tick 23 = .ok (.ldc 108, 2) := by decide +kernel
theorem dX7_tick_25 : decode cX7_tick 25 = .ok (.invokespecial 62, 3) := by decide +kernel
theorem dX7_tick_28 : decode cX7_tick 28 = .ok (.athrow, 1) := by decide +kernel
theorem dX7_tick_29 : decode cX7_tick 29 = .ok (.iconst 0, 1) := by decide +kernel
theorem dX7_tick_30 : decode cX7_tick 30 = .ok (.istore_n 2, 1) := by decide +kernel
theorem dX7_tick_31 : decode cX7_tick 31 = .ok (.iload_n 2, 1) := by decide +kernel
theorem dX7_tick_32 : decode cX7_tick 32 = .ok (.iload_n 1, 1) := by decide +kernel
theorem dX7_tick_33 : decode cX7_tick 33 = .ok (.if_icmp .ge 13, 3) := by decide +kernel
theorem dX7_tick_36 : decode cX7_tick 36 = .ok (.aload_n 0, 1) := by decide +kernel
theorem dX7_tick_37 : decode cX7_tick 37 = .ok (.invokevirtual 110, 3) := by decide +kernel
theorem dX7_tick_40 : decode cX7_tick 40 = .ok (.iinc 2 1, 3) := by decide +kernel
theorem dX7_tick_43 : decode cX7_tick 43 = .ok (.goto (-12), 3) := by decide +kernel
theorem dX7_tick_46 : decode cX7_tick 46 = .ok (.aload_n 0, 1) := by decide +kernel
theorem dX7_tick_47 : decode cX7_tick 47 = .ok (.getfield 105, 3) := by decide +kernel
theorem dX7_tick_50 : decode cX7_tick 50 = .ok (.ireturn, 1) := by decide +kernel
theorem dX7_told_0 : decode cX7_told 0 = .ok (.iload_n 1, 1) := by decide +kernel
theorem dX7_told_1 : decode cX7_told 1 = .ok (.aload_n 0, 1) := by decide +kernel
theorem dX7_told_2 : decode cX7_told 2 = .ok (.getfield 12, 3) := by decide +kernel
theorem dX7_told_5 : decode cX7_told 5 = .ok (.getfield 54, 3) := by decide +kernel
theorem dX7_told_8 : decode cX7_told 8 = .ok (.invokestatic 128, 3) := by decide +kernel
theorem dX7_told_11 : decode cX7_told 11 = .ok (.aload_n 0, 1) := by decide +kernel
theorem dX7_told_12 : decode cX7_told 12 = .ok (.getfield 12, 3) := by decide +kernel
theorem dX7_told_15 : decode cX7_told 15 = .ok (.getfield 154, 3) := by decide +kernel
theorem dX7_told_18 : decode cX7_told 18 = .ok (.iload_n 1, 1) := by decide +kernel
theorem dX7_told_19 : decode cX7_told 19 = .ok (.aaload, 1) := by decide +kernel
theorem dX7_told_20 : decode cX7_told 20 = .ok (.astore_n 3, 1) := by decide +kernel
theorem dX7_told_21 : decode cX7_told 21 = .ok (.iload_n 2, 1) := by decide +kernel
theorem dX7_told_22 : decode cX7_told 22 = .ok (.tableswitch 76 0 5 #[38, 43, 48, 53, 58, 63], 38) := by decide +kernel
theorem dX7_told_60 : decode cX7_told 60 = .ok (.aload_n 3, 1) := by decide +kernel
theorem dX7_told_61 : decode cX7_told 61 = .ok (.getfield 158, 3) := by decide +kernel
theorem dX7_told_64 : decode cX7_told 64 = .ok (.ireturn, 1) := by decide +kernel
theorem dX7_told_65 : decode cX7_told 65 = .ok (.aload_n 3, 1) := by decide +kernel
theorem dX7_told_66 : decode cX7_told 66 = .ok (.getfield 161, 3) := by decide +kernel
theorem dX7_told_69 : decode cX7_told 69 = .ok (.ireturn, 1) := by decide +kernel
theorem dX7_told_70 : decode cX7_told 70 = .ok (.aload_n 3, 1) := by decide +kernel
theorem dX7_told_71 : decode cX7_told 71 = .ok (.getfield 162, 3) := by decide +kernel
theorem dX7_told_74 : decode cX7_told 74 = .ok (.ireturn, 1) := by decide +kernel
theorem dX7_told_75 : decode cX7_told 75 = .ok (.aload_n 3, 1) := by decide +kernel
theorem dX7_told_76 : decode cX7_told 76 = .ok (.getfield 165, 3) := by decide +kernel
theorem dX7_told_79 : decode cX7_told 79 = .ok (.ireturn, 1) := by decide +kernel
theorem dX7_told_80 : decode cX7_told 80 = .ok (.aload_n 3, 1) := by decide +kernel
theorem dX7_told_81 : decode cX7_told 81 = .ok (.getfield 168, 3) := by decide +kernel
theorem dX7_told_84 : decode cX7_told 84 = .ok (.ireturn, 1) := by decide +kernel
theorem dX7_told_85 : decode cX7_told 85 = .ok (.aload_n 3, 1) := by decide +kernel
theorem dX7_told_86 : decode cX7_told 86 = .ok (.getfield 171, 3) := by decide +kernel
theorem dX7_told_89 : decode cX7_told 89 = .ok (.ifCond .eq 7, 3) := by decide +kernel
theorem dX7_told_92 : decode cX7_told 92 = .ok (.iconst 1, 1) := by decide +kernel
theorem dX7_told_93 : decode cX7_told 93 = .ok (.goto 4, 3) := by decide +kernel
theorem dX7_told_96 : decode cX7_told 96 = .ok (.iconst 0, 1) := by decide +kernel
theorem dX7_told_97 : decode cX7_told 97 = .ok (.ireturn, 1) := by decide +kernel
theorem dX7_told_98 : decode cX7_told 98 = .ok (.new 175, 3) := by decide +kernel
theorem dX7_told_101 : decode cX7_told 101 = .ok (.dup, 1) := by decide +kernel
theorem dX7_told_102 : decode cX7_told 102 = .ok (.ldc 177, 2) := by decide +kernel
theorem dX7_told_104 : decode cX7_told 104 = .ok (.invokespecial 179, 3) := by decide +kernel
theorem dX7_told_107 : decode cX7_told 107 = .ok (.athrow, 1) := by decide +kernel
theorem dX7_angle_0 : decode cX7_angle 0 = .ok (.iload_n 1, 1) := by decide +kernel
theorem dX7_angle_1 : decode cX7_angle 1 = .ok (.aload_n 0, 1) := by decide +kernel
theorem dX7_angle_2 : decode cX7_angle 2 = .ok (.getfield 69, 3) := by decide +kernel
theorem dX7_angle_5 : decode cX7_angle 5 = .ok (.invokestatic 128, 3) := by decide +kernel
theorem dX7_angle_8 : decode cX7_angle 8 = .ok (.aload_n 0, 1) := by decide +kernel
theorem dX7_angle_9 : decode cX7_angle 9 = .ok (.getfield 18, 3) := by decide +kernel
theorem dX7_angle_12 : decode cX7_angle 12 = .ok (.iload_n 1, 1) := by decide +kernel
theorem dX7_angle_13 : decode cX7_angle 13 = .ok (.aaload, 1) := by decide +kernel
theorem dX7_angle_14 : decode cX7_angle 14 = .ok (.getfield 77, 3) := by decide +kernel
theorem dX7_angle_17 : decode cX7_angle 17 = .ok (.ireturn, 1) := by decide +kernel
theorem dX7_speed_0 : decode cX7_speed 0 = .ok (.iload_n 1, 1) := by decide +kernel
theorem dX7_speed_1 : decode cX7_speed 1 = .ok (.invokestatic 132, 3) := by decide +kernel
theorem dX7_speed_4 : decode cX7_speed 4 = .ok (.aload_n 0, 1) := by decide +kernel
theorem dX7_speed_5 : decode cX7_speed 5 = .ok (.getfield 12, 3) := by decide +kernel
theorem dX7_speed_8 : decode cX7_speed 8 = .ok (.getfield 87, 3) := by decide +kernel
theorem dX7_speed_11 : decode cX7_speed 11 = .ok (.iload_n 1, 1) := by decide +kernel
theorem dX7_speed_12 : decode cX7_speed 12 = .ok (.invokevirtual 180, 3) := by decide +kernel
theorem dX7_speed_15 : decode cX7_speed 15 = .ok (.ireturn, 1) := by decide +kernel
theorem dX7_count_0 : decode cX7_count 0 = .ok (.iload_n 1, 1) := by decide +kernel
theorem dX7_count_1 : decode cX7_count 1 = .ok (.tableswitch 114 0 6 #[43, 51, 59, 70, 81, 92, 103], 43) := by decide +kernel
theorem dX7_count_44 : decode cX7_count 44 = .ok (.aload_n 0, 1) := by decide +kernel
theorem dX7_count_45 : decode cX7_count 45 = .ok (.getfield 12, 3) := by decide +kernel
theorem dX7_count_48 : decode cX7_count 48 = .ok (.getfield 54, 3) := by decide +kernel
theorem dX7_count_51 : decode cX7_count 51 = .ok (.ireturn, 1) := by decide +kernel
theorem dX7_count_52 : decode cX7_count 52 = .ok (.aload_n 0, 1) := by decide +kernel
theorem dX7_count_53 : decode cX7_count 53 = .ok (.getfield 12, 3) := by decide +kernel
theorem dX7_count_56 : decode cX7_count 56 = .ok (.invokevirtual 183, 3) := by decide +kernel
theorem dX7_count_59 : decode cX7_count 59 = .ok (.ireturn, 1) := by decide +kernel
theorem dX7_count_60 : decode cX7_count 60 = .ok (.aload_n 0, 1) := by decide +kernel
theorem dX7_count_61 : decode cX7_count 61 = .ok (.getfield 12, 3) := by decide +kernel
theorem dX7_count_64 : decode cX7_count 64 = .ok (.getfield 187, 3) := by decide +kernel
theorem dX7_count_67 : decode cX7_count 67 = .ok (.getfield 191, 3) := by decide +kernel
theorem dX7_count_70 : decode cX7_count 70 = .ok (.ireturn, 1) := by decide +kernel
theorem dX7_count_71 : decode cX7_count 71 = .ok (.aload_n 0, 1) := by decide +kernel
theorem dX7_count_72 : decode cX7_count 72 = .ok (.getfield 12, 3) := by decide +kernel
theorem dX7_count_75 : decode cX7_count 75 = .ok (.getfield 187, 3) := by decide +kernel
theorem dX7_count_78 : decode cX7_count 78 = .ok (.getfield 196, 3) := by decide +kernel
theorem dX7_count_81 : decode cX7_count 81 = .ok (.ireturn, 1) := by decide +kernel
theorem dX7_count_82 : decode cX7_count 82 = .ok (.aload_n 0, 1) := by decide +kernel
theorem dX7_count_83 : decode cX7_count 83 = .ok (.getfield 12, 3) := by decide +kernel
theorem dX7_count_86 : decode cX7_count 86 = .ok (.getfield 187, 3) := by decide +kernel
theorem dX7_count_89 : decode cX7_count 89 = .ok (.getfield 199, 3) := by decide +kernel
theorem dX7_count_92 : decode cX7_count 92 = .ok (.ireturn, 1) := by decide +kernel
theorem dX7_count_93 : decode cX7_count 93 = .ok (.aload_n 0, 1) := by decide +kernel
theorem dX7_count_94 : decode cX7_count 94 = .ok (.getfield 12, 3) := by decide +kernel
theorem dX7_count_97 : decode cX7_count 97 = .ok (.getfield 187, 3) := by decide +kernel
theorem dX7_count_100 : decode cX7_count 100 = .ok (.getfield 202, 3) := by decide +kernel
theorem dX7_count_103 : decode cX7_count 103 = .ok (.ireturn, 1) := by decide +kernel
theorem dX7_count_104 : decode cX7_count 104 = .ok (.aload_n 0, 1) := by decide +kernel
theorem dX7_count_105 : decode cX7_count 105 = .ok (.getfield 12, 3) := by decide +kernel
theorem dX7_count_108 : decode cX7_count 108 = .ok (.getfield 187, 3) := by decide +kernel
theorem dX7_count_111 : decode cX7_count 111 = .ok (.getfield 205, 3) := by decide +kernel
theorem dX7_count_114 : decode cX7_count 114 = .ok (.ireturn, 1) := by decide +kernel
theorem dX7_count_115 : decode cX7_count 115 = .ok (.new 175, 3) := by decide +kernel
theorem dX7_count_118 : decode cX7_count 118 = .ok (.dup, 1) := by decide +kernel
theorem dX7_count_119 : decode cX7_count 119 = .ok (.ldc 208, 2) := by decide +kernel
theorem dX7_count_121 : decode cX7_count 121 = .ok (.invokespecial 179, 3) := by decide +kernel
theorem dX7_count_124 : decode cX7_count 124 = .ok (.athrow, 1) := by decide +kernel
theorem dX7_mass_0 : decode cX7_mass 0 = .ok (.iload_n 1, 1) := by decide +kernel
theorem dX7_mass_1 : decode cX7_mass 1 = .ok (.invokestatic 132, 3) := by decide +kernel
theorem dX7_mass_4 : decode cX7_mass 4 = .ok (.aload_n 0, 1) := by decide +kernel
theorem dX7_mass_5 : decode cX7_mass 5 = .ok (.getfield 12, 3) := by decide +kernel
theorem dX7_mass_8 : decode cX7_mass 8 = .ok (.aload_n 0, 1) := by decide +kernel
theorem dX7_mass_9 : decode cX7_mass 9 = .ok (.getfield 37, 3) := by decide +kernel
theorem dX7_mass_12 : decode cX7_mass 12 = .ok (.invokevirtual 124, 3) := by decide +kernel
theorem dX7_mass_15 : decode cX7_mass 15 = .ok (.aload_n 0, 1) := by decide +kernel
theorem dX7_mass_16 : decode cX7_mass 16 = .ok (.getfield 37, 3) := by decide +kernel
theorem dX7_mass_19 : decode cX7_mass 19 = .ok (.iload_n 1, 1) := by decide +kernel
theorem dX7_mass_20 : decode cX7_mass 20 = .ok (.iaload, 1) := by decide +kernel
theorem dX7_mass_21 : decode cX7_mass 21 = .ok (.ireturn, 1) := by decide +kernel
theorem dX7_sum_0 : decode cX7_sum 0 = .ok (.iload_n 1, 1) := by decide +kernel
theorem dX7_sum_1 : decode cX7_sum 1 = .ok (.tableswitch 72 0 3 #[31, 39, 50, 61], 31) := by decide +kernel
theorem dX7_sum_32 : decode cX7_sum 32 = .ok (.aload_n 0, 1) := by decide +kernel
theorem dX7_sum_33 : decode cX7_sum 33 = .ok (.getfield 12, 3) := by decide +kernel
theorem dX7_sum_36 : decode cX7_sum 36 = .ok (.invokevirtual 210, 3) := by decide +kernel
theorem dX7_sum_39 : decode cX7_sum 39 = .ok (.ireturn, 1) := by decide +kernel
theorem dX7_sum_40 : decode cX7_sum 40 = .ok (.aload_n 0, 1) := by decide +kernel
theorem dX7_sum_41 : decode cX7_sum 41 = .ok (.getfield 12, 3) := by decide +kernel
theorem dX7_sum_44 : decode cX7_sum 44 = .ok (.getfield 187, 3) := by decide +kernel
theorem dX7_sum_47 : decode cX7_sum 47 = .ok (.getfield 213, 3) := by decide +kernel
theorem dX7_sum_50 : decode cX7_sum 50 = .ok (.ireturn, 1) := by decide +kernel
theorem dX7_sum_51 : decode cX7_sum 51 = .ok (.aload_n 0, 1) := by decide +kernel
theorem dX7_sum_52 : decode cX7_sum 52 = .ok (.getfield 12, 3) := by decide +kernel
theorem dX7_sum_55 : decode cX7_sum 55 = .ok (.getfield 187, 3) := by decide +kernel
theorem dX7_sum_58 : decode cX7_sum 58 = .ok (.getfield 216, 3) := by decide +kernel
theorem dX7_sum_61 : decode cX7_sum 61 = .ok (.ireturn, 1) := by decide +kernel
theorem dX7_sum_62 : decode cX7_sum 62 = .ok (.aload_n 0, 1) := by decide +kernel
theorem dX7_sum_63 : decode cX7_sum 63 = .ok (.getfield 12, 3) := by decide +kernel
theorem dX7_sum_66 : decode cX7_sum 66 = .ok (.getfield 187, 3) := by decide +kernel
theorem dX7_sum_69 : decode cX7_sum 69 = .ok (.getfield 219, 3) := by decide +kernel
theorem dX7_sum_72 : decode cX7_sum 72 = .ok (.ireturn, 1) := by decide +kernel
theorem dX7_sum_73 : decode cX7_sum 73 = .ok (.new 175, 3) := by decide +kernel
theorem dX7_sum_76 : decode cX7_sum 76 = .ok (.dup, 1) := by decide +kernel
theorem dX7_sum_77 : decode cX7_sum 77 = .ok (.ldc 222, 2) := by decide +kernel
theorem dX7_sum_79 : decode cX7_sum 79 = .ok (.invokespecial 179, 3) := by decide +kernel
theorem dX7_sum_82 : decode cX7_sum 82 = .ok (.athrow, 1) := by decide +kernel
theorem dX7_momentum_0 : decode cX7_momentum 0 = .ok (.iload_n 1, 1) := by decide +kernel
theorem dX7_momentum_1 : decode cX7_momentum 1 = .ok (.tableswitch 102 0 5 #[39, 47, 58, 69, 80, 91], 39) := by decide +kernel
theorem dX7_momentum_40 : decode cX7_momentum 40 = .ok (.aload_n 0, 1) := by decide +kernel
theorem dX7_momentum_41 : decode cX7_momentum 41 = .ok (.getfield 12, 3) := by decide +kernel
theorem dX7_momentum_44 : decode cX7_momentum 44 = .ok (.invokevirtual 224, 3) := by decide +kernel
theorem dX7_momentum_47 : decode cX7_momentum 47 = .ok (.lreturn, 1) := by decide +kernel
theorem dX7_momentum_48 : decode cX7_momentum 48 = .ok (.aload_n 0, 1) := by decide +kernel
theorem dX7_momentum_49 : decode cX7_momentum 49 = .ok (.getfield 12, 3) := by decide +kernel
theorem dX7_momentum_52 : decode cX7_momentum 52 = .ok (.getfield 187, 3) := by decide +kernel
theorem dX7_momentum_55 : decode cX7_momentum 55 = .ok (.getfield 228, 3) := by decide +kernel
theorem dX7_momentum_58 : decode cX7_momentum 58 = .ok (.lreturn, 1) := by decide +kernel
theorem dX7_momentum_59 : decode cX7_momentum 59 = .ok (.aload_n 0, 1) := by decide +kernel
theorem dX7_momentum_60 : decode cX7_momentum 60 = .ok (.getfield 12, 3) := by decide +kernel
theorem dX7_momentum_63 : decode cX7_momentum 63 = .ok (.getfield 187, 3) := by decide +kernel
theorem dX7_momentum_66 : decode cX7_momentum 66 = .ok (.getfield 232, 3) := by decide +kernel
theorem dX7_momentum_69 : decode cX7_momentum 69 = .ok (.lreturn, 1) := by decide +kernel
theorem dX7_momentum_70 : decode cX7_momentum 70 = .ok (.aload_n 0, 1) := by decide +kernel
theorem dX7_momentum_71 : decode cX7_momentum 71 = .ok (.getfield 12, 3) := by decide +kernel
theorem dX7_momentum_74 : decode cX7_momentum 74 = .ok (.getfield 187, 3) := by decide +kernel
theorem dX7_momentum_77 : decode cX7_momentum 77 = .ok (.getfield 235, 3) := by decide +kernel
theorem dX7_momentum_80 : decode cX7_momentum 80 = .ok (.lreturn, 1) := by decide +kernel
theorem dX7_momentum_81 : decode cX7_momentum 81 = .ok (.aload_n 0, 1) := by decide +kernel
theorem dX7_momentum_82 : decode cX7_momentum 82 = .ok (.getfield 12, 3) := by decide +kernel
theorem dX7_momentum_85 : decode cX7_momentum 85 = .ok (.getfield 187, 3) := by decide +kernel
theorem dX7_momentum_88 : decode cX7_momentum 88 = .ok (.getfield 238, 3) := by decide +kernel
theorem dX7_momentum_91 : decode cX7_momentum 91 = .ok (.lreturn, 1) := by decide +kernel
theorem dX7_momentum_92 : decode cX7_momentum 92 = .ok (.aload_n 0, 1) := by decide +kernel
theorem dX7_momentum_93 : decode cX7_momentum 93 = .ok (.getfield 12, 3) := by decide +kernel
theorem dX7_momentum_96 : decode cX7_momentum 96 = .ok (.getfield 187, 3) := by decide +kernel
theorem dX7_momentum_99 : decode cX7_momentum 99 = .ok (.getfield 241, 3) := by decide +kernel
theorem dX7_momentum_102 : decode cX7_momentum 102 = .ok (.lreturn, 1) := by decide +kernel
theorem dX7_momentum_103 : decode cX7_momentum 103 = .ok (.new 175, 3) := by decide +kernel
theorem dX7_momentum_106 : decode cX7_momentum 106 = .ok (.dup, 1) := by decide +kernel
theorem dX7_momentum_107 : decode cX7_momentum 107 = .ok (.ldc 177, 2) := by decide +kernel
theorem dX7_momentum_109 : decode cX7_momentum 109 = .ok (.invokespecial 179, 3) := by decide +kernel
theorem dX7_momentum_112 : decode cX7_momentum 112 = .ok (.athrow, 1) := by decide +kernel
theorem dX7_momentumByLanes_0 : decode cX7_momentumByLanes 0 = .ok (.aload_n 0, 1) := by decide +kernel
theorem dX7_momentumByLanes_1 : decode cX7_momentumByLanes 1 = .ok (.getfield 12, 3) := by decide +kernel
theorem dX7_momentumByLanes_4 : decode cX7_momentumByLanes 4 = .ok (.aload_n 0, 1) := by decide +kernel
theorem dX7_momentumByLanes_5 : decode cX7_momentumByLanes 5 = .ok (.getfield 37, 3) := by decide +kernel
theorem dX7_momentumByLanes_8 : decode cX7_momentumByLanes 8 = .ok (.invokevirtual 124, 3) := by decide +kernel
theorem dX7_momentumByLanes_11 : decode cX7_momentumByLanes 11 = .ok (.lconst 0, 1) := by decide +kernel
theorem dX7_momentumByLanes_12 : decode cX7_momentumByLanes 12 = .ok (.lstore_n 1, 1) := by decide +kernel
theorem dX7_momentumByLanes_13 : decode cX7_momentumByLanes 13 = .ok (.iconst 0, 1) := by decide +kernel
theorem dX7_momentumByLanes_14 : decode cX7_momentumByLanes 14 = .ok (.istore_n 3, 1) := by decide +kernel
theorem dX7_momentumByLanes_15 : decode cX7_momentumByLanes 15 = .ok (.iload_n 3, 1) := by decide +kernel
theorem dX7_momentumByLanes_16 : decode cX7_momentumByLanes 16 = .ok (.bipush 64, 2) := by decide +kernel
theorem dX7_momentumByLanes_18 : decode cX7_momentumByLanes 18 = .ok (.if_icmp .ge 25, 3) := by decide +kernel
theorem dX7_momentumByLanes_21 : decode cX7_momentumByLanes 21 = .ok (.lload_n 1, 1) := by decide +kernel
theorem dX7_momentumByLanes_22 : decode cX7_momentumByLanes 22 = .ok (.aload_n 0, 1) := by decide +kernel
theorem dX7_momentumByLanes_23 : decode cX7_momentumByLanes 23 = .ok (.getfield 37, 3) := by decide +kernel
theorem dX7_momentumByLanes_26 : decode cX7_momentumByLanes 26 = .ok (.iload_n 3, 1) := by decide +kernel
theorem dX7_momentumByLanes_27 : decode cX7_momentumByLanes 27 = .ok (.iaload, 1) := by decide +kernel
theorem dX7_momentumByLanes_28 : decode cX7_momentumByLanes 28 = .ok (.i2l, 1) := by decide +kernel
theorem dX7_momentumByLanes_29 : decode cX7_momentumByLanes 29 = .ok (.iload_n 3, 1) := by decide +kernel
theorem dX7_momentumByLanes_30 : decode cX7_momentumByLanes 30 = .ok (.invokestatic 244, 3) := by decide +kernel
theorem dX7_momentumByLanes_33 : decode cX7_momentumByLanes 33 = .ok (.i2l, 1) := by decide +kernel
theorem dX7_momentumByLanes_34 : decode cX7_momentumByLanes 34 = .ok (.lmul, 1) := by decide +kernel
theorem dX7_momentumByLanes_35 : decode cX7_momentumByLanes 35 = .ok (.ladd, 1) := by decide +kernel
theorem dX7_momentumByLanes_36 : decode cX7_momentumByLanes 36 = .ok (.lstore_n 1, 1) := by decide +kernel
theorem dX7_momentumByLanes_37 : decode cX7_momentumByLanes 37 = .ok (.iinc 3 1, 3) := by decide +kernel
theorem dX7_momentumByLanes_40 : decode cX7_momentumByLanes 40 = .ok (.goto (-25), 3) := by decide +kernel
theorem dX7_momentumByLanes_43 : decode cX7_momentumByLanes 43 = .ok (.lload_n 1, 1) := by decide +kernel
theorem dX7_momentumByLanes_44 : decode cX7_momentumByLanes 44 = .ok (.lreturn, 1) := by decide +kernel
theorem dX7_requireRange_0 : decode cX7_requireRange 0 = .ok (.iload_n 0, 1) := by decide +kernel
theorem dX7_requireRange_1 : decode cX7_requireRange 1 = .ok (.iload_n 1, 1) := by decide +kernel
theorem dX7_requireRange_2 : decode cX7_requireRange 2 = .ok (.if_icmp .lt 8, 3) := by decide +kernel
theorem dX7_requireRange_5 : decode cX7_requireRange 5 = .ok (.iload_n 0, 1) := by decide +kernel
theorem dX7_requireRange_6 : decode cX7_requireRange 6 = .ok (.iload_n 2, 1) := by decide +kernel
theorem dX7_requireRange_7 : decode cX7_requireRange 7 = .ok (.if_icmp .le 14, 3) := by decide +kernel
theorem dX7_requireRange_10 : decode cX7_requireRange 10 = .ok (.new 175, 3) := by decide +kernel
theorem dX7_requireRange_13 : decode cX7_requireRange 13 = .ok (.dup, 1) := by decide +kernel
theorem dX7_requireRange_14 : decode cX7_requireRange 14 = .ok (.ldc_w 264, 3) := by decide +kernel
theorem dX7_requireRange_17 : decode cX7_requireRange 17 = .ok (.invokespecial 179, 3) := by decide +kernel
theorem dX7_requireRange_20 : decode cX7_requireRange 20 = .ok (.athrow, 1) := by decide +kernel
theorem dX7_requireRange_21 : decode cX7_requireRange 21 = .ok (.return_, 1) := by decide +kernel
theorem dX7_requireLane_0 : decode cX7_requireLane 0 = .ok (.iload_n 0, 1) := by decide +kernel
theorem dX7_requireLane_1 : decode cX7_requireLane 1 = .ok (.iconst 0, 1) := by decide +kernel
theorem dX7_requireLane_2 : decode cX7_requireLane 2 = .ok (.bipush 63, 2) := by decide +kernel
theorem dX7_requireLane_4 : decode cX7_requireLane 4 = .ok (.invokestatic 51, 3) := by decide +kernel
theorem dX7_requireLane_7 : decode cX7_requireLane 7 = .ok (.return_, 1) := by decide +kernel
theorem dX7_requirePlace_0 : decode cX7_requirePlace 0 = .ok (.iload_n 0, 1) := by decide +kernel
theorem dX7_requirePlace_1 : decode cX7_requirePlace 1 = .ok (.invokestatic 132, 3) := by decide +kernel
theorem dX7_requirePlace_4 : decode cX7_requirePlace 4 = .ok (.iload_n 1, 1) := by decide +kernel
theorem dX7_requirePlace_5 : decode cX7_requirePlace 5 = .ok (.iconst 0, 1) := by decide +kernel
theorem dX7_requirePlace_6 : decode cX7_requirePlace 6 = .ok (.ldc_w 266, 3) := by decide +kernel
theorem dX7_requirePlace_9 : decode cX7_requirePlace 9 = .ok (.invokestatic 51, 3) := by decide +kernel
theorem dX7_requirePlace_12 : decode cX7_requirePlace 12 = .ok (.iload_n 2, 1) := by decide +kernel
theorem dX7_requirePlace_13 : decode cX7_requirePlace 13 = .ok (.iconst 1, 1) := by decide +kernel
theorem dX7_requirePlace_14 : decode cX7_requirePlace 14 = .ok (.sipush 10000, 3) := by decide +kernel
theorem dX7_requirePlace_17 : decode cX7_requirePlace 17 = .ok (.invokestatic 51, 3) := by decide +kernel
theorem dX7_requirePlace_20 : decode cX7_requirePlace 20 = .ok (.return_, 1) := by decide +kernel
theorem dX7_requireNumber_0 : decode cX7_requireNumber 0 = .ok (.iload_n 0, 1) := by decide +kernel
theorem dX7_requireNumber_1 : decode cX7_requireNumber 1 = .ok (.ifCond .lt 8, 3) := by decide +kernel
theorem dX7_requireNumber_4 : decode cX7_requireNumber 4 = .ok (.iload_n 0, 1) := by decide +kernel
theorem dX7_requireNumber_5 : decode cX7_requireNumber 5 = .ok (.iload_n 1, 1) := by decide +kernel
theorem dX7_requireNumber_6 : decode cX7_requireNumber 6 = .ok (.if_icmp .lt 14, 3) := by decide +kernel
theorem dX7_requireNumber_9 : decode cX7_requireNumber 9 = .ok (.new 267, 3) := by decide +kernel
theorem dX7_requireNumber_12 : decode cX7_requireNumber 12 = .ok (.dup, 1) := by decide +kernel
theorem dX7_requireNumber_13 : decode cX7_requireNumber 13 = .ok (.ldc_w 269, 3) := by decide +kernel
theorem dX7_requireNumber_16 : decode cX7_requireNumber 16 = .ok (.invokespecial 271, 3) := by decide +kernel
theorem dX7_requireNumber_19 : decode cX7_requireNumber 19 = .ok (.athrow, 1) := by decide +kernel
theorem dX7_requireNumber_20 : decode cX7_requireNumber 20 = .ok (.return_, 1) := by decide +kernel
theorem dX7_radiusOf_0 : decode cX7_radiusOf 0 = .ok (.iload_n 0, 1) := by decide +kernel
theorem dX7_radiusOf_1 : decode cX7_radiusOf 1 = .ok (.bipush 20, 2) := by decide +kernel
theorem dX7_radiusOf_3 : decode cX7_radiusOf 3 = .ok (.iadd, 1) := by decide +kernel
theorem dX7_radiusOf_4 : decode cX7_radiusOf 4 = .ok (.ireturn, 1) := by decide +kernel
theorem dX7_turned_0 : decode cX7_turned 0 = .ok (.iload_n 0, 1) := by decide +kernel
theorem dX7_turned_1 : decode cX7_turned 1 = .ok (.iload_n 1, 1) := by decide +kernel
theorem dX7_turned_2 : decode cX7_turned 2 = .ok (.iadd, 1) := by decide +kernel
theorem dX7_turned_3 : decode cX7_turned 3 = .ok (.ldc_w 272, 3) := by decide +kernel
theorem dX7_turned_6 : decode cX7_turned 6 = .ok (.irem, 1) := by decide +kernel
theorem dX7_turned_7 : decode cX7_turned 7 = .ok (.ireturn, 1) := by decide +kernel
theorem dX7_anglesApart_0 : decode cX7_anglesApart 0 = .ok (.iload_n 0, 1) := by decide +kernel
theorem dX7_anglesApart_1 : decode cX7_anglesApart 1 = .ok (.iload_n 1, 1) := by decide +kernel
theorem dX7_anglesApart_2 : decode cX7_anglesApart 2 = .ok (.isub, 1) := by decide +kernel
theorem dX7_anglesApart_3 : decode cX7_anglesApart 3 = .ok (.invokestatic 273, 3) := by decide +kernel
theorem dX7_anglesApart_6 : decode cX7_anglesApart 6 = .ok (.istore_n 2, 1) := by decide +kernel
theorem dX7_anglesApart_7 : decode cX7_anglesApart 7 = .ok (.iload_n 2, 1) := by decide +kernel
theorem dX7_anglesApart_8 : decode cX7_anglesApart 8 = .ok (.ldc_w 272, 3) := by decide +kernel
theorem dX7_anglesApart_11 : decode cX7_anglesApart 11 = .ok (.iload_n 2, 1) := by decide +kernel
theorem dX7_anglesApart_12 : decode cX7_anglesApart 12 = .ok (.isub, 1) := by decide +kernel
theorem dX7_anglesApart_13 : decode cX7_anglesApart 13 = .ok (.invokestatic 278, 3) := by decide +kernel
theorem dX7_anglesApart_16 : decode cX7_anglesApart 16 = .ok (.ireturn, 1) := by decide +kernel
theorem dX7_widthOf_0 : decode cX7_widthOf 0 = .ok (.iconst 0, 1) := by decide +kernel
theorem dX7_widthOf_1 : decode cX7_widthOf 1 = .ok (.istore_n 1, 1) := by decide +kernel
theorem dX7_widthOf_2 : decode cX7_widthOf 2 = .ok (.iconst 1, 1) := by decide +kernel
theorem dX7_widthOf_3 : decode cX7_widthOf 3 = .ok (.istore_n 2, 1) := by decide +kernel
theorem dX7_widthOf_4 : decode cX7_widthOf 4 = .ok (.iload_n 2, 1) := by decide +kernel
theorem dX7_widthOf_5 : decode cX7_widthOf 5 = .ok (.bipush 100, 2) := by decide +kernel
theorem dX7_widthOf_7 : decode cX7_widthOf 7 = .ok (.if_icmp .gt 18, 3) := by decide +kernel
theorem dX7_widthOf_10 : decode cX7_widthOf 10 = .ok (.iload_n 2, 1) := by decide +kernel
theorem dX7_widthOf_11 : decode cX7_widthOf 11 = .ok (.iload_n 2, 1) := by decide +kernel
theorem dX7_widthOf_12 : decode cX7_widthOf 12 = .ok (.imul, 1) := by decide +kernel
theorem dX7_widthOf_13 : decode cX7_widthOf 13 = .ok (.iload_n 0, 1) := by decide +kernel
theorem dX7_widthOf_14 : decode cX7_widthOf 14 = .ok (.if_icmp .gt 11, 3) := by decide +kernel
theorem dX7_widthOf_17 : decode cX7_widthOf 17 = .ok (.iload_n 2, 1) := by decide +kernel
theorem dX7_widthOf_18 : decode cX7_widthOf 18 = .ok (.istore_n 1, 1) := by decide +kernel
theorem dX7_widthOf_19 : decode cX7_widthOf 19 = .ok (.iinc 2 1, 3) := by decide +kernel
theorem dX7_widthOf_22 : decode cX7_widthOf 22 = .ok (.goto (-18), 3) := by decide +kernel
end
section
theorem dX7_widthOf_25 : decode cX7_widthOf 25 = .ok (.iload_n 1, 1) := by decide +kernel
theorem dX7_widthOf_26 : decode cX7_widthOf 26 = .ok (.bipush 20, 2) := by decide +kernel
theorem dX7_widthOf_28 : decode cX7_widthOf 28 = .ok (.idiv, 1) := by decide +kernel
theorem dX7_widthOf_29 : decode cX7_widthOf 29 = .ok (.ireturn, 1) := by decide +kernel
theorem dX7_passTick_0 : decode cX7_passTick 0 = .ok (.iconst 0, 1) := by decide +kernel
theorem dX7_passTick_1 : decode cX7_passTick 1 = .ok (.istore_n 1, 1) := by decide +kernel
theorem dX7_passTick_2 : decode cX7_passTick 2 = .ok (.iload_n 1, 1) := by decide +kernel
theorem dX7_passTick_3 : decode cX7_passTick 3 = .ok (.aload_n 0, 1) := by decide +kernel
theorem dX7_passTick_4 : decode cX7_passTick 4 = .ok (.getfield 69, 3) := by decide +kernel
theorem dX7_passTick_7 : decode cX7_passTick 7 = .ok (.if_icmp .ge 49, 3) := by decide +kernel
theorem dX7_passTick_10 : decode cX7_passTick 10 = .ok (.aload_n 0, 1) := by decide +kernel
theorem dX7_passTick_11 : decode cX7_passTick 11 = .ok (.getfield 18, 3) := by decide +kernel
theorem dX7_passTick_14 : decode cX7_passTick 14 = .ok (.iload_n 1, 1) := by decide +kernel
theorem dX7_passTick_15 : decode cX7_passTick 15 = .ok (.aaload, 1) := by decide +kernel
theorem dX7_passTick_16 : decode cX7_passTick 16 = .ok (.aload_n 0, 1) := by decide +kernel
theorem dX7_passTick_17 : decode cX7_passTick 17 = .ok (.getfield 18, 3) := by decide +kernel
theorem dX7_passTick_20 : decode cX7_passTick 20 = .ok (.iload_n 1, 1) := by decide +kernel
theorem dX7_passTick_21 : decode cX7_passTick 21 = .ok (.aaload, 1) := by decide +kernel
theorem dX7_passTick_22 : decode cX7_passTick 22 = .ok (.getfield 77, 3) := by decide +kernel
theorem dX7_passTick_25 : decode cX7_passTick 25 = .ok (.aload_n 0, 1) := by decide +kernel
theorem dX7_passTick_26 : decode cX7_passTick 26 = .ok (.getfield 12, 3) := by decide +kernel
theorem dX7_passTick_29 : decode cX7_passTick 29 = .ok (.getfield 87, 3) := by decide +kernel
theorem dX7_passTick_32 : decode cX7_passTick 32 = .ok (.aload_n 0, 1) := by decide +kernel
theorem dX7_passTick_33 : decode cX7_passTick 33 = .ok (.getfield 18, 3) := by decide +kernel
theorem dX7_passTick_36 : decode cX7_passTick 36 = .ok (.iload_n 1, 1) := by decide +kernel
theorem dX7_passTick_37 : decode cX7_passTick 37 = .ok (.aaload, 1) := by decide +kernel
theorem dX7_passTick_38 : decode cX7_passTick 38 = .ok (.getfield 74, 3) := by decide +kernel
theorem dX7_passTick_41 : decode cX7_passTick 41 = .ok (.invokevirtual 180, 3) := by decide +kernel
theorem dX7_passTick_44 : decode cX7_passTick 44 = .ok (.invokestatic 281, 3) := by decide +kernel
theorem dX7_passTick_47 : decode cX7_passTick 47 = .ok (.putfield 77, 3) := by decide +kernel
theorem dX7_passTick_50 : decode cX7_passTick 50 = .ok (.iinc 1 1, 3) := by decide +kernel
theorem dX7_passTick_53 : decode cX7_passTick 53 = .ok (.goto (-51), 3) := by decide +kernel
theorem dX7_passTick_56 : decode cX7_passTick 56 = .ok (.aload_n 0, 1) := by decide +kernel
theorem dX7_passTick_57 : decode cX7_passTick 57 = .ok (.getfield 12, 3) := by decide +kernel
theorem dX7_passTick_60 : decode cX7_passTick 60 = .ok (.invokevirtual 284, 3) := by decide +kernel
theorem dX7_passTick_63 : decode cX7_passTick 63 = .ok (.iconst 0, 1) := by decide +kernel
theorem dX7_passTick_64 : decode cX7_passTick 64 = .ok (.istore_n 1, 1) := by decide +kernel
theorem dX7_passTick_65 : decode cX7_passTick 65 = .ok (.iload_n 1, 1) := by decide +kernel
theorem dX7_passTick_66 : decode cX7_passTick 66 = .ok (.aload_n 0, 1) := by decide +kernel
theorem dX7_passTick_67 : decode cX7_passTick 67 = .ok (.getfield 69, 3) := by decide +kernel
theorem dX7_passTick_70 : decode cX7_passTick 70 = .ok (.if_icmp .ge 22, 3) := by decide +kernel
theorem dX7_passTick_73 : decode cX7_passTick 73 = .ok (.aload_n 0, 1) := by decide +kernel
theorem dX7_passTick_74 : decode cX7_passTick 74 = .ok (.getfield 12, 3) := by decide +kernel
theorem dX7_passTick_77 : decode cX7_passTick 77 = .ok (.aload_n 0, 1) := by decide +kernel
theorem dX7_passTick_78 : decode cX7_passTick 78 = .ok (.getfield 18, 3) := by decide +kernel
theorem dX7_passTick_81 : decode cX7_passTick 81 = .ok (.iload_n 1, 1) := by decide +kernel
theorem dX7_passTick_82 : decode cX7_passTick 82 = .ok (.aaload, 1) := by decide +kernel
theorem dX7_passTick_83 : decode cX7_passTick 83 = .ok (.invokevirtual 287, 3) := by decide +kernel
theorem dX7_passTick_86 : decode cX7_passTick 86 = .ok (.iinc 1 1, 3) := by decide +kernel
theorem dX7_passTick_89 : decode cX7_passTick 89 = .ok (.goto (-24), 3) := by decide +kernel
theorem dX7_passTick_92 : decode cX7_passTick 92 = .ok (.aload_n 0, 1) := by decide +kernel
theorem dX7_passTick_93 : decode cX7_passTick 93 = .ok (.getfield 12, 3) := by decide +kernel
theorem dX7_passTick_96 : decode cX7_passTick 96 = .ok (.invokevirtual 291, 3) := by decide +kernel
theorem dX7_passTick_99 : decode cX7_passTick 99 = .ok (.aload_n 0, 1) := by decide +kernel
theorem dX7_passTick_100 : decode cX7_passTick 100 = .ok (.getfield 12, 3) := by decide +kernel
theorem dX7_passTick_103 : decode cX7_passTick 103 = .ok (.invokevirtual 294, 3) := by decide +kernel
theorem dX7_passTick_106 : decode cX7_passTick 106 = .ok (.aload_n 0, 1) := by decide +kernel
theorem dX7_passTick_107 : decode cX7_passTick 107 = .ok (.dup, 1) := by decide +kernel
theorem dX7_passTick_108 : decode cX7_passTick 108 = .ok (.getfield 105, 3) := by decide +kernel
theorem dX7_passTick_111 : decode cX7_passTick 111 = .ok (.iconst 1, 1) := by decide +kernel
theorem dX7_passTick_112 : decode cX7_passTick 112 = .ok (.iadd, 1) := by decide +kernel
theorem dX7_passTick_113 : decode cX7_passTick 113 = .ok (.putfield 105, 3) := by decide +kernel
theorem dX7_passTick_116 : decode cX7_passTick 116 = .ok (.return_, 1) := by decide +kernel
theorem dL_cell_0 : decode cL_cell 0 = .ok (.iload_n 1, 1) := by decide +kernel
theorem dL_cell_1 : decode cL_cell 1 = .ok (.aload_n 0, 1) := by decide +kernel
theorem dL_cell_2 : decode cL_cell 2 = .ok (.arraylength, 1) := by decide +kernel
theorem dL_cell_3 : decode cL_cell 3 = .ok (.if_icmp .ge 9, 3) := by decide +kernel
theorem dL_cell_6 : decode cL_cell 6 = .ok (.aload_n 0, 1) := by decide +kernel
theorem dL_cell_7 : decode cL_cell 7 = .ok (.iload_n 1, 1) := by decide +kernel
theorem dL_cell_8 : decode cL_cell 8 = .ok (.iaload, 1) := by decide +kernel
theorem dL_cell_9 : decode cL_cell 9 = .ok (.goto 12, 3) := by decide +kernel
theorem dL_cell_12 : decode cL_cell 12 = .ok (.ldc 7, 2) := by decide +kernel
theorem dL_cell_14 : decode cL_cell 14 = .ok (.iload_n 1, 1) := by decide +kernel
theorem dL_cell_15 : decode cL_cell 15 = .ok (.iconst 1, 1) := by decide +kernel
theorem dL_cell_16 : decode cL_cell 16 = .ok (.iadd, 1) := by decide +kernel
theorem dL_cell_17 : decode cL_cell 17 = .ok (.imul, 1) := by decide +kernel
theorem dL_cell_18 : decode cL_cell 18 = .ok (.ldc 8, 2) := by decide +kernel
theorem dL_cell_20 : decode cL_cell 20 = .ok (.iadd, 1) := by decide +kernel
theorem dL_cell_21 : decode cL_cell 21 = .ok (.ireturn, 1) := by decide +kernel
theorem dL_low_0 : decode cL_low 0 = .ok (.iload_n 0, 1) := by decide +kernel
theorem dL_low_1 : decode cL_low 1 = .ok (.ldc 9, 2) := by decide +kernel
theorem dL_low_3 : decode cL_low 3 = .ok (.iand, 1) := by decide +kernel
theorem dL_low_4 : decode cL_low 4 = .ok (.iload_n 1, 1) := by decide +kernel
theorem dL_low_5 : decode cL_low 5 = .ok (.irem, 1) := by decide +kernel
theorem dL_low_6 : decode cL_low 6 = .ok (.ireturn, 1) := by decide +kernel
theorem dL_speed_0 : decode cL_speed 0 = .ok (.iload_n 1, 1) := by decide +kernel
theorem dL_speed_1 : decode cL_speed 1 = .ok (.bipush 20, 2) := by decide +kernel
theorem dL_speed_3 : decode cL_speed 3 = .ok (.iadd, 1) := by decide +kernel
theorem dL_speed_4 : decode cL_speed 4 = .ok (.istore_n 2, 1) := by decide +kernel
theorem dL_speed_5 : decode cL_speed 5 = .ok (.ldc 10, 2) := by decide +kernel
theorem dL_speed_7 : decode cL_speed 7 = .ok (.iload_n 2, 1) := by decide +kernel
theorem dL_speed_8 : decode cL_speed 8 = .ok (.idiv, 1) := by decide +kernel
theorem dL_speed_9 : decode cL_speed 9 = .ok (.bipush 100, 2) := by decide +kernel
theorem dL_speed_11 : decode cL_speed 11 = .ok (.aload_n 0, 1) := by decide +kernel
theorem dL_speed_12 : decode cL_speed 12 = .ok (.bipush 6, 2) := by decide +kernel
theorem dL_speed_14 : decode cL_speed 14 = .ok (.iaload, 1) := by decide +kernel
theorem dL_speed_15 : decode cL_speed 15 = .ok (.imul, 1) := by decide +kernel
theorem dL_speed_16 : decode cL_speed 16 = .ok (.iload_n 2, 1) := by decide +kernel
theorem dL_speed_17 : decode cL_speed 17 = .ok (.iload_n 2, 1) := by decide +kernel
theorem dL_speed_18 : decode cL_speed 18 = .ok (.imul, 1) := by decide +kernel
theorem dL_speed_19 : decode cL_speed 19 = .ok (.idiv, 1) := by decide +kernel
theorem dL_speed_20 : decode cL_speed 20 = .ok (.iadd, 1) := by decide +kernel
theorem dL_speed_21 : decode cL_speed 21 = .ok (.ireturn, 1) := by decide +kernel
theorem dL_apart_0 : decode cL_apart 0 = .ok (.iload_n 0, 1) := by decide +kernel
theorem dL_apart_1 : decode cL_apart 1 = .ok (.iload_n 1, 1) := by decide +kernel
theorem dL_apart_2 : decode cL_apart 2 = .ok (.if_icmp .ge 9, 3) := by decide +kernel
theorem dL_apart_5 : decode cL_apart 5 = .ok (.iload_n 1, 1) := by decide +kernel
theorem dL_apart_6 : decode cL_apart 6 = .ok (.iload_n 0, 1) := by decide +kernel
theorem dL_apart_7 : decode cL_apart 7 = .ok (.isub, 1) := by decide +kernel
theorem dL_apart_8 : decode cL_apart 8 = .ok (.goto 6, 3) := by decide +kernel
theorem dL_apart_11 : decode cL_apart 11 = .ok (.iload_n 0, 1) := by decide +kernel
theorem dL_apart_12 : decode cL_apart 12 = .ok (.iload_n 1, 1) := by decide +kernel
theorem dL_apart_13 : decode cL_apart 13 = .ok (.isub, 1) := by decide +kernel
theorem dL_apart_14 : decode cL_apart 14 = .ok (.istore_n 2, 1) := by decide +kernel
theorem dL_apart_15 : decode cL_apart 15 = .ok (.iload_n 2, 1) := by decide +kernel
theorem dL_apart_16 : decode cL_apart 16 = .ok (.ldc 10, 2) := by decide +kernel
theorem dL_apart_18 : decode cL_apart 18 = .ok (.iload_n 2, 1) := by decide +kernel
theorem dL_apart_19 : decode cL_apart 19 = .ok (.isub, 1) := by decide +kernel
theorem dL_apart_20 : decode cL_apart 20 = .ok (.if_icmp .ge 7, 3) := by decide +kernel
theorem dL_apart_23 : decode cL_apart 23 = .ok (.iload_n 2, 1) := by decide +kernel
theorem dL_apart_24 : decode cL_apart 24 = .ok (.goto 7, 3) := by decide +kernel
theorem dL_apart_27 : decode cL_apart 27 = .ok (.ldc 10, 2) := by decide +kernel
theorem dL_apart_29 : decode cL_apart 29 = .ok (.iload_n 2, 1) := by decide +kernel
theorem dL_apart_30 : decode cL_apart 30 = .ok (.isub, 1) := by decide +kernel
theorem dL_apart_31 : decode cL_apart 31 = .ok (.ireturn, 1) := by decide +kernel
theorem dL_comes_0 : decode cL_comes 0 = .ok (.aload_n 0, 1) := by decide +kernel
theorem dL_comes_1 : decode cL_comes 1 = .ok (.iload 4, 2) := by decide +kernel
theorem dL_comes_3 : decode cL_comes 3 = .ok (.iload 5, 2) := by decide +kernel
theorem dL_comes_5 : decode cL_comes 5 = .ok (.iastore, 1) := by decide +kernel
theorem dL_comes_6 : decode cL_comes 6 = .ok (.iload 5, 2) := by decide +kernel
theorem dL_comes_8 : decode cL_comes 8 = .ok (.iconst (-1), 1) := by decide +kernel
theorem dL_comes_9 : decode cL_comes 9 = .ok (.if_icmp .ne 10, 3) := by decide +kernel
theorem dL_comes_12 : decode cL_comes 12 = .ok (.aload_n 3, 1) := by decide +kernel
theorem dL_comes_13 : decode cL_comes 13 = .ok (.iconst 4, 1) := by decide +kernel
theorem dL_comes_14 : decode cL_comes 14 = .ok (.dup2, 1) := by decide +kernel
theorem dL_comes_15 : decode cL_comes 15 = .ok (.iaload, 1) := by decide +kernel
theorem dL_comes_16 : decode cL_comes 16 = .ok (.iconst 1, 1) := by decide +kernel
theorem dL_comes_17 : decode cL_comes 17 = .ok (.iadd, 1) := by decide +kernel
theorem dL_comes_18 : decode cL_comes 18 = .ok (.iastore, 1) := by decide +kernel
theorem dL_comes_19 : decode cL_comes 19 = .ok (.iload 5, 2) := by decide +kernel
theorem dL_comes_21 : decode cL_comes 21 = .ok (.bipush 64, 2) := by decide +kernel
theorem dL_comes_23 : decode cL_comes 23 = .ok (.if_icmp .ne 10, 3) := by decide +kernel
theorem dL_comes_26 : decode cL_comes 26 = .ok (.aload_n 3, 1) := by decide +kernel
theorem dL_comes_27 : decode cL_comes 27 = .ok (.iconst 5, 1) := by decide +kernel
theorem dL_comes_28 : decode cL_comes 28 = .ok (.dup2, 1) := by decide +kernel
theorem dL_comes_29 : decode cL_comes 29 = .ok (.iaload, 1) := by decide +kernel
theorem dL_comes_30 : decode cL_comes 30 = .ok (.iconst 1, 1) := by decide +kernel
theorem dL_comes_31 : decode cL_comes 31 = .ok (.iadd, 1) := by decide +kernel
theorem dL_comes_32 : decode cL_comes 32 = .ok (.iastore, 1) := by decide +kernel
theorem dL_comes_33 : decode cL_comes 33 = .ok (.iload 5, 2) := by decide +kernel
theorem dL_comes_35 : decode cL_comes 35 = .ok (.iconst (-1), 1) := by decide +kernel
theorem dL_comes_36 : decode cL_comes 36 = .ok (.if_icmp .eq 10, 3) := by decide +kernel
theorem dL_comes_39 : decode cL_comes 39 = .ok (.iload 5, 2) := by decide +kernel
theorem dL_comes_41 : decode cL_comes 41 = .ok (.bipush 64, 2) := by decide +kernel
theorem dL_comes_43 : decode cL_comes 43 = .ok (.if_icmp .ne 8, 3) := by decide +kernel
theorem dL_comes_46 : decode cL_comes 46 = .ok (.aload_n 2, 1) := by decide +kernel
theorem dL_comes_47 : decode cL_comes 47 = .ok (.iload 4, 2) := by decide +kernel
theorem dL_comes_49 : decode cL_comes 49 = .ok (.iconst 0, 1) := by decide +kernel
theorem dL_comes_50 : decode cL_comes 50 = .ok (.iastore, 1) := by decide +kernel
theorem dL_comes_51 : decode cL_comes 51 = .ok (.aload_n 1, 1) := by decide +kernel
theorem dL_comes_52 : decode cL_comes 52 = .ok (.iload 4, 2) := by decide +kernel
theorem dL_comes_54 : decode cL_comes 54 = .ok (.iaload, 1) := by decide +kernel
theorem dL_comes_55 : decode cL_comes 55 = .ok (.i2l, 1) := by decide +kernel
theorem dL_comes_56 : decode cL_comes 56 = .ok (.iload 5, 2) := by decide +kernel
theorem dL_comes_58 : decode cL_comes 58 = .ok (.bipush 20, 2) := by decide +kernel
theorem dL_comes_60 : decode cL_comes 60 = .ok (.iadd, 1) := by decide +kernel
theorem dL_comes_61 : decode cL_comes 61 = .ok (.i2l, 1) := by decide +kernel
theorem dL_comes_62 : decode cL_comes 62 = .ok (.lmul, 1) := by decide +kernel
theorem dL_comes_63 : decode cL_comes 63 = .ok (.lreturn, 1) := by decide +kernel
theorem dL_moment_0 : decode cL_moment 0 = .ok (.aload_n 1, 1) := by decide +kernel
theorem dL_moment_1 : decode cL_moment 1 = .ok (.iload_n 2, 1) := by decide +kernel
theorem dL_moment_2 : decode cL_moment 2 = .ok (.iaload, 1) := by decide +kernel
theorem dL_moment_3 : decode cL_moment 3 = .ok (.i2l, 1) := by decide +kernel
theorem dL_moment_4 : decode cL_moment 4 = .ok (.aload_n 0, 1) := by decide +kernel
theorem dL_moment_5 : decode cL_moment 5 = .ok (.iload_n 2, 1) := by decide +kernel
theorem dL_moment_6 : decode cL_moment 6 = .ok (.iaload, 1) := by decide +kernel
theorem dL_moment_7 : decode cL_moment 7 = .ok (.bipush 20, 2) := by decide +kernel
theorem dL_moment_9 : decode cL_moment 9 = .ok (.iadd, 1) := by decide +kernel
theorem dL_moment_10 : decode cL_moment 10 = .ok (.i2l, 1) := by decide +kernel
theorem dL_moment_11 : decode cL_moment 11 = .ok (.lmul, 1) := by decide +kernel
theorem dL_moment_12 : decode cL_moment 12 = .ok (.lreturn, 1) := by decide +kernel
theorem dL_law_0 : decode cL_law 0 = .ok (.new 11, 3) := by decide +kernel
theorem dL_law_3 : decode cL_law 3 = .ok (.dup, 1) := by decide +kernel
theorem dL_law_4 : decode cL_law 4 = .ok (.invokespecial 13, 3) := by decide +kernel
theorem dL_law_7 : decode cL_law 7 = .ok (.astore_n 1, 1) := by decide +kernel
theorem dL_law_8 : decode cL_law 8 = .ok (.bipush 64, 2) := by decide +kernel
theorem dL_law_10 : decode cL_law 10 = .ok (.newarray .int, 2) := by decide +kernel
theorem dL_law_12 : decode cL_law 12 = .ok (.astore_n 2, 1) := by decide +kernel
theorem dL_law_13 : decode cL_law 13 = .ok (.bipush 64, 2) := by decide +kernel
theorem dL_law_15 : decode cL_law 15 = .ok (.newarray .int, 2) := by decide +kernel
theorem dL_law_17 : decode cL_law 17 = .ok (.astore_n 3, 1) := by decide +kernel
theorem dL_law_18 : decode cL_law 18 = .ok (.bipush 64, 2) := by decide +kernel
theorem dL_law_20 : decode cL_law 20 = .ok (.newarray .int, 2) := by decide +kernel
theorem dL_law_22 : decode cL_law 22 = .ok (.astore 4, 2) := by decide +kernel
theorem dL_law_24 : decode cL_law 24 = .ok (.bipush 64, 2) := by decide +kernel
theorem dL_law_26 : decode cL_law 26 = .ok (.newarray .int, 2) := by decide +kernel
theorem dL_law_28 : decode cL_law 28 = .ok (.astore 5, 2) := by decide +kernel
theorem dL_law_30 : decode cL_law 30 = .ok (.bipush 64, 2) := by decide +kernel
theorem dL_law_32 : decode cL_law 32 = .ok (.newarray .int, 2) := by decide +kernel
theorem dL_law_34 : decode cL_law 34 = .ok (.astore 6, 2) := by decide +kernel
theorem dL_law_36 : decode cL_law 36 = .ok (.bipush 64, 2) := by decide +kernel
theorem dL_law_38 : decode cL_law 38 = .ok (.newarray .int, 2) := by decide +kernel
theorem dL_law_40 : decode cL_law 40 = .ok (.astore 7, 2) := by decide +kernel
theorem dL_law_42 : decode cL_law 42 = .ok (.bipush 64, 2) := by decide +kernel
theorem dL_law_44 : decode cL_law 44 = .ok (.newarray .int, 2) := by decide +kernel
theorem dL_law_46 : decode cL_law 46 = .ok (.astore 8, 2) := by decide +kernel
theorem dL_law_48 : decode cL_law 48 = .ok (.bipush 16, 2) := by decide +kernel
theorem dL_law_50 : decode cL_law 50 = .ok (.newarray .int, 2) := by decide +kernel
theorem dL_law_52 : decode cL_law 52 = .ok (.astore 9, 2) := by decide +kernel
theorem dL_law_54 : decode cL_law 54 = .ok (.bipush 16, 2) := by decide +kernel
theorem dL_law_56 : decode cL_law 56 = .ok (.newarray .int, 2) := by decide +kernel
theorem dL_law_58 : decode cL_law 58 = .ok (.astore 10, 2) := by decide +kernel
theorem dL_law_60 : decode cL_law 60 = .ok (.lconst 0, 1) := by decide +kernel
theorem dL_law_61 : decode cL_law 61 = .ok (.lstore 11, 2) := by decide +kernel
theorem dL_law_63 : decode cL_law 63 = .ok (.lconst 0, 1) := by decide +kernel
theorem dL_law_64 : decode cL_law 64 = .ok (.lstore 13, 2) := by decide +kernel
theorem dL_law_66 : decode cL_law 66 = .ok (.lconst 0, 1) := by decide +kernel
theorem dL_law_67 : decode cL_law 67 = .ok (.lstore 15, 2) := by decide +kernel
theorem dL_law_69 : decode cL_law 69 = .ok (.aload 9, 2) := by decide +kernel
theorem dL_law_71 : decode cL_law 71 = .ok (.bipush 7, 2) := by decide +kernel
theorem dL_law_73 : decode cL_law 73 = .ok (.bipush 20, 2) := by decide +kernel
theorem dL_law_75 : decode cL_law 75 = .ok (.iastore, 1) := by decide +kernel
theorem dL_law_76 : decode cL_law 76 = .ok (.aload 9, 2) := by decide +kernel
theorem dL_law_78 : decode cL_law 78 = .ok (.bipush 8, 2) := by decide +kernel
theorem dL_law_80 : decode cL_law 80 = .ok (.bipush 80, 2) := by decide +kernel
theorem dL_law_82 : decode cL_law 82 = .ok (.iastore, 1) := by decide +kernel
theorem dL_law_83 : decode cL_law 83 = .ok (.aload 9, 2) := by decide +kernel
theorem dL_law_85 : decode cL_law 85 = .ok (.bipush 9, 2) := by decide +kernel
theorem dL_law_87 : decode cL_law 87 = .ok (.bipush 50, 2) := by decide +kernel
theorem dL_law_89 : decode cL_law 89 = .ok (.iastore, 1) := by decide +kernel
theorem dL_law_90 : decode cL_law 90 = .ok (.iconst 0, 1) := by decide +kernel
theorem dL_law_91 : decode cL_law 91 = .ok (.istore 17, 2) := by decide +kernel
theorem dL_law_93 : decode cL_law 93 = .ok (.iconst 1, 1) := by decide +kernel
theorem dL_law_94 : decode cL_law 94 = .ok (.aload_n 0, 1) := by decide +kernel
theorem dL_law_95 : decode cL_law 95 = .ok (.iconst 0, 1) := by decide +kernel
theorem dL_law_96 : decode cL_law 96 = .ok (.invokestatic 14, 3) := by decide +kernel
theorem dL_law_99 : decode cL_law 99 = .ok (.iconst 3, 1) := by decide +kernel
theorem dL_law_100 : decode cL_law 100 = .ok (.invokestatic 20, 3) := by decide +kernel
theorem dL_law_103 : decode cL_law 103 = .ok (.iadd, 1) := by decide +kernel
theorem dL_law_104 : decode cL_law 104 = .ok (.istore 18, 2) := by decide +kernel
theorem dL_law_106 : decode cL_law 106 = .ok (.iconst 0, 1) := by decide +kernel
theorem dL_law_107 : decode cL_law 107 = .ok (.istore 19, 2) := by decide +kernel
theorem dL_law_109 : decode cL_law 109 = .ok (.iload 19, 2) := by decide +kernel
theorem dL_law_111 : decode cL_law 111 = .ok (.iload 18, 2) := by decide +kernel
theorem dL_law_113 : decode cL_law 113 = .ok (.if_icmp .ge 131, 3) := by decide +kernel
theorem dL_law_116 : decode cL_law 116 = .ok (.aload_n 0, 1) := by decide +kernel
theorem dL_law_117 : decode cL_law 117 = .ok (.iconst 1, 1) := by decide +kernel
theorem dL_law_118 : decode cL_law 118 = .ok (.iload 19, 2) := by decide +kernel
theorem dL_law_120 : decode cL_law 120 = .ok (.iadd, 1) := by decide +kernel
theorem dL_law_121 : decode cL_law 121 = .ok (.invokestatic 14, 3) := by decide +kernel
theorem dL_law_124 : decode cL_law 124 = .ok (.istore 20, 2) := by decide +kernel
theorem dL_law_126 : decode cL_law 126 = .ok (.aload 10, 2) := by decide +kernel
theorem dL_law_128 : decode cL_law 128 = .ok (.iconst 3, 1) := by decide +kernel
theorem dL_law_129 : decode cL_law 129 = .ok (.iload 19, 2) := by decide +kernel
theorem dL_law_131 : decode cL_law 131 = .ok (.imul, 1) := by decide +kernel
theorem dL_law_132 : decode cL_law 132 = .ok (.iload 20, 2) := by decide +kernel
theorem dL_law_134 : decode cL_law 134 = .ok (.bipush 64, 2) := by decide +kernel
theorem dL_law_136 : decode cL_law 136 = .ok (.invokestatic 20, 3) := by decide +kernel
theorem dL_law_139 : decode cL_law 139 = .ok (.iastore, 1) := by decide +kernel
theorem dL_law_140 : decode cL_law 140 = .ok (.aload 10, 2) := by decide +kernel
theorem dL_law_142 : decode cL_law 142 = .ok (.iconst 3, 1) := by decide +kernel
theorem dL_law_143 : decode cL_law 143 = .ok (.iload 19, 2) := by decide +kernel
theorem dL_law_145 : decode cL_law 145 = .ok (.imul, 1) := by decide +kernel
theorem dL_law_146 : decode cL_law 146 = .ok (.iconst 1, 1) := by decide +kernel
theorem dL_law_147 : decode cL_law 147 = .ok (.iadd, 1) := by decide +kernel
theorem dL_law_148 : decode cL_law 148 = .ok (.iload 20, 2) := by decide +kernel
theorem dL_law_150 : decode cL_law 150 = .ok (.bipush 6, 2) := by decide +kernel
theorem dL_law_152 : decode cL_law 152 = .ok (.ishr, 1) := by decide +kernel
theorem dL_law_153 : decode cL_law 153 = .ok (.ldc 10, 2) := by decide +kernel
theorem dL_law_155 : decode cL_law 155 = .ok (.invokestatic 20, 3) := by decide +kernel
theorem dL_law_158 : decode cL_law 158 = .ok (.iastore, 1) := by decide +kernel
theorem dL_law_159 : decode cL_law 159 = .ok (.iconst 1, 1) := by decide +kernel
theorem dL_law_160 : decode cL_law 160 = .ok (.iload 20, 2) := by decide +kernel
theorem dL_law_162 : decode cL_law 162 = .ok (.bipush 9, 2) := by decide +kernel
theorem dL_law_164 : decode cL_law 164 = .ok (.ishr, 1) := by decide +kernel
theorem dL_law_165 : decode cL_law 165 = .ok (.sipush 10000, 3) := by decide +kernel
theorem dL_law_168 : decode cL_law 168 = .ok (.invokestatic 20, 3) := by decide +kernel
theorem dL_law_171 : decode cL_law 171 = .ok (.iadd, 1) := by decide +kernel
theorem dL_law_172 : decode cL_law 172 = .ok (.istore 21, 2) := by decide +kernel
theorem dL_law_174 : decode cL_law 174 = .ok (.iconst 0, 1) := by decide +kernel
theorem dL_law_175 : decode cL_law 175 = .ok (.istore 22, 2) := by decide +kernel
theorem dL_law_177 : decode cL_law 177 = .ok (.iload 22, 2) := by decide +kernel
theorem dL_law_179 : decode cL_law 179 = .ok (.iload 22, 2) := by decide +kernel
theorem dL_law_181 : decode cL_law 181 = .ok (.imul, 1) := by decide +kernel
theorem dL_law_182 : decode cL_law 182 = .ok (.iload 21, 2) := by decide +kernel
theorem dL_law_184 : decode cL_law 184 = .ok (.if_icmp .gt 9, 3) := by decide +kernel
theorem dL_law_187 : decode cL_law 187 = .ok (.iinc 22 1, 3) := by decide +kernel
theorem dL_law_190 : decode cL_law 190 = .ok (.goto (-13), 3) := by decide +kernel
theorem dL_law_193 : decode cL_law 193 = .ok (.aload 10, 2) := by decide +kernel
theorem dL_law_195 : decode cL_law 195 = .ok (.iconst 3, 1) := by decide +kernel
theorem dL_law_196 : decode cL_law 196 = .ok (.iload 19, 2) := by decide +kernel
theorem dL_law_198 : decode cL_law 198 = .ok (.imul, 1) := by decide +kernel
theorem dL_law_199 : decode cL_law 199 = .ok (.iconst 2, 1) := by decide +kernel
theorem dL_law_200 : decode cL_law 200 = .ok (.iadd, 1) := by decide +kernel
theorem dL_law_201 : decode cL_law 201 = .ok (.iload 22, 2) := by decide +kernel
theorem dL_law_203 : decode cL_law 203 = .ok (.iconst 1, 1) := by decide +kernel
theorem dL_law_204 : decode cL_law 204 = .ok (.isub, 1) := by decide +kernel
theorem dL_law_205 : decode cL_law 205 = .ok (.bipush 20, 2) := by decide +kernel
theorem dL_law_207 : decode cL_law 207 = .ok (.idiv, 1) := by decide +kernel
theorem dL_law_208 : decode cL_law 208 = .ok (.iastore, 1) := by decide +kernel
theorem dL_law_209 : decode cL_law 209 = .ok (.aload_n 1, 1) := by decide +kernel
theorem dL_law_210 : decode cL_law 210 = .ok (.aload 10, 2) := by decide +kernel
theorem dL_law_212 : decode cL_law 212 = .ok (.iconst 3, 1) := by decide +kernel
theorem dL_law_213 : decode cL_law 213 = .ok (.iload 19, 2) := by decide +kernel
theorem dL_law_215 : decode cL_law 215 = .ok (.imul, 1) := by decide +kernel
theorem dL_law_216 : decode cL_law 216 = .ok (.iaload, 1) := by decide +kernel
theorem dL_law_217 : decode cL_law 217 = .ok (.aload 10, 2) := by decide +kernel
theorem dL_law_219 : decode cL_law 219 = .ok (.iconst 3, 1) := by decide +kernel
theorem dL_law_220 : decode cL_law 220 = .ok (.iload 19, 2) := by decide +kernel
theorem dL_law_222 : decode cL_law 222 = .ok (.imul, 1) := by decide +kernel
theorem dL_law_223 : decode cL_law 223 = .ok (.iconst 1, 1) := by decide +kernel
theorem dL_law_224 : decode cL_law 224 = .ok (.iadd, 1) := by decide +kernel
theorem dL_law_225 : decode cL_law 225 = .ok (.iaload, 1) := by decide +kernel
theorem dL_law_226 : decode cL_law 226 = .ok (.iload 21, 2) := by decide +kernel
theorem dL_law_228 : decode cL_law 228 = .ok (.invokevirtual 24, 3) := by decide +kernel
theorem dL_law_231 : decode cL_law 231 = .ok (.iload 19, 2) := by decide +kernel
theorem dL_law_233 : decode cL_law 233 = .ok (.if_icmp .eq 5, 3) := by decide +kernel
theorem dL_law_236 : decode cL_law 236 = .ok (.iconst 0, 1) := by decide +kernel
theorem dL_law_237 : decode cL_law 237 = .ok (.ireturn, 1) := by decide +kernel
theorem dL_law_238 : decode cL_law 238 = .ok (.iinc 19 1, 3) := by decide +kernel
theorem dL_law_241 : decode cL_law 241 = .ok (.goto (-132), 3) := by decide +kernel
theorem dL_law_244 : decode cL_law 244 = .ok (.iconst 4, 1) := by decide +kernel
theorem dL_law_245 : decode cL_law 245 = .ok (.istore 19, 2) := by decide +kernel
theorem dL_law_247 : decode cL_law 247 = .ok (.aload_n 0, 1) := by decide +kernel
theorem dL_law_248 : decode cL_law 248 = .ok (.iload 19, 2) := by decide +kernel
theorem dL_law_250 : decode cL_law 250 = .ok (.invokestatic 14, 3) := by decide +kernel
theorem dL_law_253 : decode cL_law 253 = .ok (.ldc 10, 2) := by decide +kernel
theorem dL_law_255 : decode cL_law 255 = .ok (.invokestatic 20, 3) := by decide +kernel
theorem dL_law_258 : decode cL_law 258 = .ok (.istore 20, 2) := by decide +kernel
theorem dL_law_260 : decode cL_law 260 = .ok (.aload_n 0, 1) := by decide +kernel
theorem dL_law_261 : decode cL_law 261 = .ok (.iload 19, 2) := by decide +kernel
theorem dL_law_263 : decode cL_law 263 = .ok (.invokestatic 14, 3) := by decide +kernel
theorem dL_law_266 : decode cL_law 266 = .ok (.iconst 5, 1) := by decide +kernel
theorem dL_law_267 : decode cL_law 267 = .ok (.ishr, 1) := by decide +kernel
theorem dL_law_268 : decode cL_law 268 = .ok (.bipush 64, 2) := by decide +kernel
theorem dL_law_270 : decode cL_law 270 = .ok (.invokestatic 20, 3) := by decide +kernel
theorem dL_law_273 : decode cL_law 273 = .ok (.istore 21, 2) := by decide +kernel
theorem dL_law_275 : decode cL_law 275 = .ok (.iinc 19 1, 3) := by decide +kernel
theorem dL_law_278 : decode cL_law 278 = .ok (.iconst 0, 1) := by decide +kernel
theorem dL_law_279 : decode cL_law 279 = .ok (.istore 22, 2) := by decide +kernel
theorem dL_law_281 : decode cL_law 281 = .ok (.iload 22, 2) := by decide +kernel
theorem dL_law_283 : decode cL_law 283 = .ok (.bipush 36, 2) := by decide +kernel
theorem dL_law_285 : decode cL_law 285 = .ok (.if_icmp .ge 1829, 3) := by decide +kernel
theorem dL_law_288 : decode cL_law 288 = .ok (.iload 17, 2) := by decide +kernel
theorem dL_law_290 : decode cL_law 290 = .ok (.bipush 34, 2) := by decide +kernel
theorem dL_law_292 : decode cL_law 292 = .ok (.if_icmp .ge 1822, 3) := by decide +kernel
theorem dL_law_295 : decode cL_law 295 = .ok (.aload_n 0, 1) := by decide +kernel
theorem dL_law_296 : decode cL_law 296 = .ok (.iload 19, 2) := by decide +kernel
theorem dL_law_298 : decode cL_law 298 = .ok (.invokestatic 14, 3) := by decide +kernel
theorem dL_law_301 : decode cL_law 301 = .ok (.istore 23, 2) := by decide +kernel
theorem dL_law_303 : decode cL_law 303 = .ok (.aload_n 0, 1) := by decide +kernel
theorem dL_law_304 : decode cL_law 304 = .ok (.iload 19, 2) := by decide +kernel
theorem dL_law_306 : decode cL_law 306 = .ok (.iconst 1, 1) := by decide +kernel
theorem dL_law_307 : decode cL_law 307 = .ok (.iadd, 1) := by decide +kernel
theorem dL_law_308 : decode cL_law 308 = .ok (.invokestatic 14, 3) := by decide +kernel
theorem dL_law_311 : decode cL_law 311 = .ok (.istore 24, 2) := by decide +kernel
theorem dL_law_313 : decode cL_law 313 = .ok (.iinc 19 2, 3) := by decide +kernel
theorem dL_law_316 : decode cL_law 316 = .ok (.iload 23, 2) := by decide +kernel
theorem dL_law_318 : decode cL_law 318 = .ok (.bipush 8, 2) := by decide +kernel
theorem dL_law_320 : decode cL_law 320 = .ok (.invokestatic 20, 3) := by decide +kernel
theorem dL_law_323 : decode cL_law 323 = .ok (.istore 25, 2) := by decide +kernel
theorem dL_law_325 : decode cL_law 325 = .ok (.iload 25, 2) := by decide +kernel
theorem dL_law_327 : decode cL_law 327 = .ok (.iconst 3, 1) := by decide +kernel
theorem dL_law_328 : decode cL_law 328 = .ok (.if_icmp .ge 10, 3) := by decide +kernel
theorem dL_law_331 : decode cL_law 331 = .ok (.iload 17, 2) := by decide +kernel
theorem dL_law_333 : decode cL_law 333 = .ok (.bipush 24, 2) := by decide +kernel
theorem dL_law_335 : decode cL_law 335 = .ok (.if_icmp .lt 8, 3) := by decide +kernel
theorem dL_law_338 : decode cL_law 338 = .ok (.iload 17, 2) := by decide +kernel
theorem dL_law_340 : decode cL_law 340 = .ok (.ifCond .ne 191, 3) := by decide +kernel
theorem dL_law_343 : decode cL_law 343 = .ok (.iload 23, 2) := by decide +kernel
theorem dL_law_345 : decode cL_law 345 = .ok (.iconst 3, 1) := by decide +kernel
theorem dL_law_346 : decode cL_law 346 = .ok (.ishr, 1) := by decide +kernel
theorem dL_law_347 : decode cL_law 347 = .ok (.iconst 4, 1) := by decide +kernel
theorem dL_law_348 : decode cL_law 348 = .ok (.invokestatic 20, 3) := by decide +kernel
theorem dL_law_351 : decode cL_law 351 = .ok (.istore 26, 2) := by decide +kernel
theorem dL_law_353 : decode cL_law 353 = .ok (.iload 26, 2) := by decide +kernel
theorem dL_law_355 : decode cL_law 355 = .ok (.ifCond .ne 13, 3) := by decide +kernel
theorem dL_law_358 : decode cL_law 358 = .ok (.iload 24, 2) := by decide +kernel
theorem dL_law_360 : decode cL_law 360 = .ok (.bipush 64, 2) := by decide +kernel
theorem dL_law_362 : decode cL_law 362 = .ok (.invokestatic 20, 3) := by decide +kernel
theorem dL_law_365 : decode cL_law 365 = .ok (.goto 15, 3) := by decide +kernel
theorem dL_law_368 : decode cL_law 368 = .ok (.iload 21, 2) := by decide +kernel
theorem dL_law_370 : decode cL_law 370 = .ok (.iload 24, 2) := by decide +kernel
theorem dL_law_372 : decode cL_law 372 = .ok (.iconst 4, 1) := by decide +kernel
theorem dL_law_373 : decode cL_law 373 = .ok (.invokestatic 20, 3) := by decide +kernel
theorem dL_law_376 : decode cL_law 376 = .ok (.iadd, 1) := by decide +kernel
theorem dL_law_377 : decode cL_law 377 = .ok (.bipush 64, 2) := by decide +kernel
theorem dL_law_379 : decode cL_law 379 = .ok (.irem, 1) := by decide +kernel
theorem dL_law_380 : decode cL_law 380 = .ok (.istore 27, 2) := by decide +kernel
theorem dL_law_382 : decode cL_law 382 = .ok (.iload 26, 2) := by decide +kernel
theorem dL_law_384 : decode cL_law 384 = .ok (.ifCond .ne 16, 3) := by decide +kernel
theorem dL_law_387 : decode cL_law 387 = .ok (.iload 24, 2) := by decide +kernel
theorem dL_law_389 : decode cL_law 389 = .ok (.bipush 6, 2) := by decide +kernel
theorem dL_law_391 : decode cL_law 391 = .ok (.ishr, 1) := by decide +kernel
theorem dL_law_392 : decode cL_law 392 = .ok (.ldc 10, 2) := by decide +kernel
theorem dL_law_394 : decode cL_law 394 = .ok (.invokestatic 20, 3) := by decide +kernel
theorem dL_law_397 : decode cL_law 397 = .ok (.goto 20, 3) := by decide +kernel
theorem dL_law_400 : decode cL_law 400 = .ok (.iload 20, 2) := by decide +kernel
theorem dL_law_402 : decode cL_law 402 = .ok (.iload 24, 2) := by decide +kernel
theorem dL_law_404 : decode cL_law 404 = .ok (.bipush 6, 2) := by decide +kernel
theorem dL_law_406 : decode cL_law 406 = .ok (.ishr, 1) := by decide +kernel
theorem dL_law_407 : decode cL_law 407 = .ok (.sipush 150, 3) := by decide +kernel
theorem dL_law_410 : decode cL_law 410 = .ok (.invokestatic 20, 3) := by decide +kernel
theorem dL_law_413 : decode cL_law 413 = .ok (.iadd, 1) := by decide +kernel
theorem dL_law_414 : decode cL_law 414 = .ok (.ldc 10, 2) := by decide +kernel
theorem dL_law_416 : decode cL_law 416 = .ok (.irem, 1) := by decide +kernel
theorem dL_law_417 : decode cL_law 417 = .ok (.istore 28, 2) := by decide +kernel
theorem dL_law_419 : decode cL_law 419 = .ok (.iconst 1, 1) := by decide +kernel
theorem dL_law_420 : decode cL_law 420 = .ok (.iload 24, 2) := by decide +kernel
theorem dL_law_422 : decode cL_law 422 = .ok (.bipush 13, 2) := by decide +kernel
theorem dL_law_424 : decode cL_law 424 = .ok (.ishr, 1) := by decide +kernel
theorem dL_law_425 : decode cL_law 425 = .ok (.iload 23, 2) := by decide +kernel
theorem dL_law_427 : decode cL_law 427 = .ok (.iconst 5, 1) := by decide +kernel
theorem dL_law_428 : decode cL_law 428 = .ok (.ishr, 1) := by decide +kernel
theorem dL_law_429 : decode cL_law 429 = .ok (.iconst 2, 1) := by decide +kernel
theorem dL_law_430 : decode cL_law 430 = .ok (.invokestatic 20, 3) := by decide +kernel
theorem dL_law_433 : decode cL_law 433 = .ok (.ifCond .ne 7, 3) := by decide +kernel
theorem dL_law_436 : decode cL_law 436 = .ok (.iconst 5, 1) := by decide +kernel
theorem dL_law_437 : decode cL_law 437 = .ok (.goto 6, 3) := by decide +kernel
theorem dL_law_440 : decode cL_law 440 = .ok (.sipush 10000, 3) := by decide +kernel
theorem dL_law_443 : decode cL_law 443 = .ok (.invokestatic 20, 3) := by decide +kernel
theorem dL_law_446 : decode cL_law 446 = .ok (.iadd, 1) := by decide +kernel
theorem dL_law_447 : decode cL_law 447 = .ok (.istore 29, 2) := by decide +kernel
theorem dL_law_449 : decode cL_law 449 = .ok (.iload 23, 2) := by decide +kernel
theorem dL_law_451 : decode cL_law 451 = .ok (.bipush 7, 2) := by decide +kernel
theorem dL_law_453 : decode cL_law 453 = .ok (.ishr, 1) := by decide +kernel
theorem dL_law_454 : decode cL_law 454 = .ok (.bipush 100, 2) := by decide +kernel
theorem dL_law_456 : decode cL_law 456 = .ok (.invokestatic 20, 3) := by decide +kernel
theorem dL_law_459 : decode cL_law 459 = .ok (.istore 30, 2) := by decide +kernel
theorem dL_law_461 : decode cL_law 461 = .ok (.aload_n 1, 1) := by decide +kernel
theorem dL_law_462 : decode cL_law 462 = .ok (.iload 27, 2) := by decide +kernel
theorem dL_law_464 : decode cL_law 464 = .ok (.iload 28, 2) := by decide +kernel
theorem dL_law_466 : decode cL_law 466 = .ok (.iload 29, 2) := by decide +kernel
theorem dL_law_468 : decode cL_law 468 = .ok (.iload 30, 2) := by decide +kernel
theorem dL_law_470 : decode cL_law 470 = .ok (.invokevirtual 28, 3) := by decide +kernel
theorem dL_law_473 : decode cL_law 473 = .ok (.iload 17, 2) := by decide +kernel
theorem dL_law_475 : decode cL_law 475 = .ok (.if_icmp .eq 5, 3) := by decide +kernel
theorem dL_law_478 : decode cL_law 478 = .ok (.iconst 0, 1) := by decide +kernel
theorem dL_law_479 : decode cL_law 479 = .ok (.ireturn, 1) := by decide +kernel
theorem dL_law_480 : decode cL_law 480 = .ok (.aload_n 2, 1) := by decide +kernel
theorem dL_law_481 : decode cL_law 481 = .ok (.iload 17, 2) := by decide +kernel
theorem dL_law_483 : decode cL_law 483 = .ok (.iload 27, 2) := by decide +kernel
theorem dL_law_485 : decode cL_law 485 = .ok (.iastore, 1) := by decide +kernel
theorem dL_law_486 : decode cL_law 486 = .ok (.aload_n 3, 1) := by decide +kernel
theorem dL_law_487 : decode cL_law 487 = .ok (.iload 17, 2) := by decide +kernel
theorem dL_law_489 : decode cL_law 489 = .ok (.iload 28, 2) := by decide +kernel
theorem dL_law_491 : decode cL_law 491 = .ok (.iastore, 1) := by decide +kernel
theorem dL_law_492 : decode cL_law 492 = .ok (.aload 4, 2) := by decide +kernel
theorem dL_law_494 : decode cL_law 494 = .ok (.iload 17, 2) := by decide +kernel
theorem dL_law_496 : decode cL_law 496 = .ok (.iload 29, 2) := by decide +kernel
theorem dL_law_498 : decode cL_law 498 = .ok (.iastore, 1) := by decide +kernel
theorem dL_law_499 : decode cL_law 499 = .ok (.aload 5, 2) := by decide +kernel
theorem dL_law_501 : decode cL_law 501 = .ok (.iload 17, 2) := by decide +kernel
theorem dL_law_503 : decode cL_law 503 = .ok (.iload 30, 2) := by decide +kernel
theorem dL_law_505 : decode cL_law 505 = .ok (.iastore, 1) := by decide +kernel
theorem dL_law_506 : decode cL_law 506 = .ok (.aload 7, 2) := by decide +kernel
end
section
theorem dL_law_508 : decode cL_law 508 = .ok (.iload 17, 2) := by decide +kernel
theorem dL_law_510 : decode cL_law 510 = .ok (.iconst 1, 1) := by decide +kernel
theorem dL_law_511 : decode cL_law 511 = .ok (.iastore, 1) := by decide +kernel
theorem dL_law_512 : decode cL_law 512 = .ok (.lload 15, 2) := by decide +kernel
theorem dL_law_514 : decode cL_law 514 = .ok (.aload_n 2, 1) := by decide +kernel
theorem dL_law_515 : decode cL_law 515 = .ok (.aload 4, 2) := by decide +kernel
theorem dL_law_517 : decode cL_law 517 = .ok (.iload 17, 2) := by decide +kernel
theorem dL_law_519 : decode cL_law 519 = .ok (.invokestatic 32, 3) := by decide +kernel
theorem dL_law_522 : decode cL_law 522 = .ok (.ladd, 1) := by decide +kernel
theorem dL_law_523 : decode cL_law 523 = .ok (.lstore 15, 2) := by decide +kernel
theorem dL_law_525 : decode cL_law 525 = .ok (.iinc 17 1, 3) := by decide +kernel
theorem dL_law_528 : decode cL_law 528 = .ok (.goto 1104, 3) := by decide +kernel
theorem dL_law_531 : decode cL_law 531 = .ok (.iload 25, 2) := by decide +kernel
theorem dL_law_533 : decode cL_law 533 = .ok (.iconst 3, 1) := by decide +kernel
theorem dL_law_534 : decode cL_law 534 = .ok (.if_icmp .ne 98, 3) := by decide +kernel
theorem dL_law_537 : decode cL_law 537 = .ok (.aload 9, 2) := by decide +kernel
theorem dL_law_539 : decode cL_law 539 = .ok (.bipush 6, 2) := by decide +kernel
theorem dL_law_541 : decode cL_law 541 = .ok (.iload 24, 2) := by decide +kernel
theorem dL_law_543 : decode cL_law 543 = .ok (.sipush 1001, 3) := by decide +kernel
theorem dL_law_546 : decode cL_law 546 = .ok (.invokestatic 20, 3) := by decide +kernel
theorem dL_law_549 : decode cL_law 549 = .ok (.iastore, 1) := by decide +kernel
theorem dL_law_550 : decode cL_law 550 = .ok (.aload_n 1, 1) := by decide +kernel
theorem dL_law_551 : decode cL_law 551 = .ok (.aload 9, 2) := by decide +kernel
theorem dL_law_553 : decode cL_law 553 = .ok (.bipush 6, 2) := by decide +kernel
theorem dL_law_555 : decode cL_law 555 = .ok (.iaload, 1) := by decide +kernel
theorem dL_law_556 : decode cL_law 556 = .ok (.invokevirtual 36, 3) := by decide +kernel
theorem dL_law_559 : decode cL_law 559 = .ok (.pop, 1) := by decide +kernel
theorem dL_law_560 : decode cL_law 560 = .ok (.aload 9, 2) := by decide +kernel
theorem dL_law_562 : decode cL_law 562 = .ok (.bipush 7, 2) := by decide +kernel
theorem dL_law_564 : decode cL_law 564 = .ok (.iload 24, 2) := by decide +kernel
theorem dL_law_566 : decode cL_law 566 = .ok (.iconst 4, 1) := by decide +kernel
theorem dL_law_567 : decode cL_law 567 = .ok (.ishr, 1) := by decide +kernel
theorem dL_law_568 : decode cL_law 568 = .ok (.bipush 120, 2) := by decide +kernel
theorem dL_law_570 : decode cL_law 570 = .ok (.invokestatic 20, 3) := by decide +kernel
theorem dL_law_573 : decode cL_law 573 = .ok (.iastore, 1) := by decide +kernel
theorem dL_law_574 : decode cL_law 574 = .ok (.aload 9, 2) := by decide +kernel
theorem dL_law_576 : decode cL_law 576 = .ok (.bipush 8, 2) := by decide +kernel
theorem dL_law_578 : decode cL_law 578 = .ok (.aload 9, 2) := by decide +kernel
theorem dL_law_580 : decode cL_law 580 = .ok (.bipush 7, 2) := by decide +kernel
theorem dL_law_582 : decode cL_law 582 = .ok (.iaload, 1) := by decide +kernel
theorem dL_law_583 : decode cL_law 583 = .ok (.iload 24, 2) := by decide +kernel
theorem dL_law_585 : decode cL_law 585 = .ok (.bipush 11, 2) := by decide +kernel
theorem dL_law_587 : decode cL_law 587 = .ok (.ishr, 1) := by decide +kernel
theorem dL_law_588 : decode cL_law 588 = .ok (.bipush 120, 2) := by decide +kernel
theorem dL_law_590 : decode cL_law 590 = .ok (.invokestatic 20, 3) := by decide +kernel
theorem dL_law_593 : decode cL_law 593 = .ok (.iadd, 1) := by decide +kernel
theorem dL_law_594 : decode cL_law 594 = .ok (.iastore, 1) := by decide +kernel
theorem dL_law_595 : decode cL_law 595 = .ok (.aload 9, 2) := by decide +kernel
theorem dL_law_597 : decode cL_law 597 = .ok (.bipush 9, 2) := by decide +kernel
theorem dL_law_599 : decode cL_law 599 = .ok (.iload 24, 2) := by decide +kernel
theorem dL_law_601 : decode cL_law 601 = .ok (.bipush 18, 2) := by decide +kernel
theorem dL_law_603 : decode cL_law 603 = .ok (.ishr, 1) := by decide +kernel
theorem dL_law_604 : decode cL_law 604 = .ok (.bipush 101, 2) := by decide +kernel
theorem dL_law_606 : decode cL_law 606 = .ok (.invokestatic 20, 3) := by decide +kernel
theorem dL_law_609 : decode cL_law 609 = .ok (.iastore, 1) := by decide +kernel
theorem dL_law_610 : decode cL_law 610 = .ok (.aload_n 1, 1) := by decide +kernel
theorem dL_law_611 : decode cL_law 611 = .ok (.aload 9, 2) := by decide +kernel
theorem dL_law_613 : decode cL_law 613 = .ok (.bipush 7, 2) := by decide +kernel
theorem dL_law_615 : decode cL_law 615 = .ok (.iaload, 1) := by decide +kernel
theorem dL_law_616 : decode cL_law 616 = .ok (.aload 9, 2) := by decide +kernel
theorem dL_law_618 : decode cL_law 618 = .ok (.bipush 8, 2) := by decide +kernel
theorem dL_law_620 : decode cL_law 620 = .ok (.iaload, 1) := by decide +kernel
theorem dL_law_621 : decode cL_law 621 = .ok (.aload 9, 2) := by decide +kernel
theorem dL_law_623 : decode cL_law 623 = .ok (.bipush 9, 2) := by decide +kernel
theorem dL_law_625 : decode cL_law 625 = .ok (.iaload, 1) := by decide +kernel
theorem dL_law_626 : decode cL_law 626 = .ok (.invokevirtual 40, 3) := by decide +kernel
theorem dL_law_629 : decode cL_law 629 = .ok (.goto 1003, 3) := by decide +kernel
theorem dL_law_632 : decode cL_law 632 = .ok (.aload_n 1, 1) := by decide +kernel
theorem dL_law_633 : decode cL_law 633 = .ok (.iconst 1, 1) := by decide +kernel
theorem dL_law_634 : decode cL_law 634 = .ok (.invokevirtual 44, 3) := by decide +kernel
theorem dL_law_637 : decode cL_law 637 = .ok (.iconst 1, 1) := by decide +kernel
theorem dL_law_638 : decode cL_law 638 = .ok (.if_icmp .ge 5, 3) := by decide +kernel
theorem dL_law_641 : decode cL_law 641 = .ok (.iconst 0, 1) := by decide +kernel
theorem dL_law_642 : decode cL_law 642 = .ok (.ireturn, 1) := by decide +kernel
theorem dL_law_643 : decode cL_law 643 = .ok (.iconst 0, 1) := by decide +kernel
theorem dL_law_644 : decode cL_law 644 = .ok (.istore 26, 2) := by decide +kernel
theorem dL_law_646 : decode cL_law 646 = .ok (.iload 26, 2) := by decide +kernel
theorem dL_law_648 : decode cL_law 648 = .ok (.iload 17, 2) := by decide +kernel
theorem dL_law_650 : decode cL_law 650 = .ok (.if_icmp .ge 45, 3) := by decide +kernel
theorem dL_law_653 : decode cL_law 653 = .ok (.aload 7, 2) := by decide +kernel
theorem dL_law_655 : decode cL_law 655 = .ok (.iload 26, 2) := by decide +kernel
theorem dL_law_657 : decode cL_law 657 = .ok (.iaload, 1) := by decide +kernel
theorem dL_law_658 : decode cL_law 658 = .ok (.iconst 1, 1) := by decide +kernel
theorem dL_law_659 : decode cL_law 659 = .ok (.if_icmp .ne 24, 3) := by decide +kernel
theorem dL_law_662 : decode cL_law 662 = .ok (.aload_n 3, 1) := by decide +kernel
theorem dL_law_663 : decode cL_law 663 = .ok (.iload 26, 2) := by decide +kernel
theorem dL_law_665 : decode cL_law 665 = .ok (.aload_n 3, 1) := by decide +kernel
theorem dL_law_666 : decode cL_law 666 = .ok (.iload 26, 2) := by decide +kernel
theorem dL_law_668 : decode cL_law 668 = .ok (.iaload, 1) := by decide +kernel
theorem dL_law_669 : decode cL_law 669 = .ok (.aload 9, 2) := by decide +kernel
theorem dL_law_671 : decode cL_law 671 = .ok (.aload_n 2, 1) := by decide +kernel
theorem dL_law_672 : decode cL_law 672 = .ok (.iload 26, 2) := by decide +kernel
theorem dL_law_674 : decode cL_law 674 = .ok (.iaload, 1) := by decide +kernel
theorem dL_law_675 : decode cL_law 675 = .ok (.invokestatic 47, 3) := by decide +kernel
theorem dL_law_678 : decode cL_law 678 = .ok (.iadd, 1) := by decide +kernel
theorem dL_law_679 : decode cL_law 679 = .ok (.ldc 10, 2) := by decide +kernel
theorem dL_law_681 : decode cL_law 681 = .ok (.irem, 1) := by decide +kernel
theorem dL_law_682 : decode cL_law 682 = .ok (.iastore, 1) := by decide +kernel
theorem dL_law_683 : decode cL_law 683 = .ok (.aload 8, 2) := by decide +kernel
theorem dL_law_685 : decode cL_law 685 = .ok (.iload 26, 2) := by decide +kernel
theorem dL_law_687 : decode cL_law 687 = .ok (.iconst 0, 1) := by decide +kernel
theorem dL_law_688 : decode cL_law 688 = .ok (.iastore, 1) := by decide +kernel
theorem dL_law_689 : decode cL_law 689 = .ok (.iinc 26 1, 3) := by decide +kernel
theorem dL_law_692 : decode cL_law 692 = .ok (.goto (-46), 3) := by decide +kernel
theorem dL_law_695 : decode cL_law 695 = .ok (.iconst 0, 1) := by decide +kernel
theorem dL_law_696 : decode cL_law 696 = .ok (.istore 26, 2) := by decide +kernel
theorem dL_law_698 : decode cL_law 698 = .ok (.iload 26, 2) := by decide +kernel
theorem dL_law_700 : decode cL_law 700 = .ok (.iload 18, 2) := by decide +kernel
theorem dL_law_702 : decode cL_law 702 = .ok (.if_icmp .ge 43, 3) := by decide +kernel
theorem dL_law_705 : decode cL_law 705 = .ok (.aload 10, 2) := by decide +kernel
theorem dL_law_707 : decode cL_law 707 = .ok (.iconst 3, 1) := by decide +kernel
theorem dL_law_708 : decode cL_law 708 = .ok (.iload 26, 2) := by decide +kernel
theorem dL_law_710 : decode cL_law 710 = .ok (.imul, 1) := by decide +kernel
theorem dL_law_711 : decode cL_law 711 = .ok (.iconst 1, 1) := by decide +kernel
theorem dL_law_712 : decode cL_law 712 = .ok (.iadd, 1) := by decide +kernel
theorem dL_law_713 : decode cL_law 713 = .ok (.aload 10, 2) := by decide +kernel
theorem dL_law_715 : decode cL_law 715 = .ok (.iconst 3, 1) := by decide +kernel
theorem dL_law_716 : decode cL_law 716 = .ok (.iload 26, 2) := by decide +kernel
theorem dL_law_718 : decode cL_law 718 = .ok (.imul, 1) := by decide +kernel
theorem dL_law_719 : decode cL_law 719 = .ok (.iconst 1, 1) := by decide +kernel
theorem dL_law_720 : decode cL_law 720 = .ok (.iadd, 1) := by decide +kernel
theorem dL_law_721 : decode cL_law 721 = .ok (.iaload, 1) := by decide +kernel
theorem dL_law_722 : decode cL_law 722 = .ok (.aload 9, 2) := by decide +kernel
theorem dL_law_724 : decode cL_law 724 = .ok (.aload 10, 2) := by decide +kernel
theorem dL_law_726 : decode cL_law 726 = .ok (.iconst 3, 1) := by decide +kernel
theorem dL_law_727 : decode cL_law 727 = .ok (.iload 26, 2) := by decide +kernel
theorem dL_law_729 : decode cL_law 729 = .ok (.imul, 1) := by decide +kernel
theorem dL_law_730 : decode cL_law 730 = .ok (.iaload, 1) := by decide +kernel
theorem dL_law_731 : decode cL_law 731 = .ok (.invokestatic 47, 3) := by decide +kernel
theorem dL_law_734 : decode cL_law 734 = .ok (.iadd, 1) := by decide +kernel
theorem dL_law_735 : decode cL_law 735 = .ok (.ldc 10, 2) := by decide +kernel
theorem dL_law_737 : decode cL_law 737 = .ok (.irem, 1) := by decide +kernel
theorem dL_law_738 : decode cL_law 738 = .ok (.iastore, 1) := by decide +kernel
theorem dL_law_739 : decode cL_law 739 = .ok (.iinc 26 1, 3) := by decide +kernel
theorem dL_law_742 : decode cL_law 742 = .ok (.goto (-44), 3) := by decide +kernel
theorem dL_law_745 : decode cL_law 745 = .ok (.iconst 0, 1) := by decide +kernel
theorem dL_law_746 : decode cL_law 746 = .ok (.istore 26, 2) := by decide +kernel
theorem dL_law_748 : decode cL_law 748 = .ok (.iload 26, 2) := by decide +kernel
theorem dL_law_750 : decode cL_law 750 = .ok (.iload 18, 2) := by decide +kernel
theorem dL_law_752 : decode cL_law 752 = .ok (.if_icmp .ge 178, 3) := by decide +kernel
theorem dL_law_755 : decode cL_law 755 = .ok (.iconst 0, 1) := by decide +kernel
theorem dL_law_756 : decode cL_law 756 = .ok (.istore 27, 2) := by decide +kernel
theorem dL_law_758 : decode cL_law 758 = .ok (.iload 27, 2) := by decide +kernel
theorem dL_law_760 : decode cL_law 760 = .ok (.iload 17, 2) := by decide +kernel
theorem dL_law_762 : decode cL_law 762 = .ok (.if_icmp .ge 162, 3) := by decide +kernel
theorem dL_law_765 : decode cL_law 765 = .ok (.aload_n 2, 1) := by decide +kernel
theorem dL_law_766 : decode cL_law 766 = .ok (.iload 27, 2) := by decide +kernel
theorem dL_law_768 : decode cL_law 768 = .ok (.iaload, 1) := by decide +kernel
theorem dL_law_769 : decode cL_law 769 = .ok (.aload 10, 2) := by decide +kernel
theorem dL_law_771 : decode cL_law 771 = .ok (.iconst 3, 1) := by decide +kernel
theorem dL_law_772 : decode cL_law 772 = .ok (.iload 26, 2) := by decide +kernel
theorem dL_law_774 : decode cL_law 774 = .ok (.imul, 1) := by decide +kernel
theorem dL_law_775 : decode cL_law 775 = .ok (.iaload, 1) := by decide +kernel
theorem dL_law_776 : decode cL_law 776 = .ok (.isub, 1) := by decide +kernel
theorem dL_law_777 : decode cL_law 777 = .ok (.istore 28, 2) := by decide +kernel
theorem dL_law_779 : decode cL_law 779 = .ok (.aload 7, 2) := by decide +kernel
theorem dL_law_781 : decode cL_law 781 = .ok (.iload 27, 2) := by decide +kernel
theorem dL_law_783 : decode cL_law 783 = .ok (.iaload, 1) := by decide +kernel
theorem dL_law_784 : decode cL_law 784 = .ok (.ifCond .eq 134, 3) := by decide +kernel
theorem dL_law_787 : decode cL_law 787 = .ok (.iload 28, 2) := by decide +kernel
theorem dL_law_789 : decode cL_law 789 = .ok (.aload 10, 2) := by decide +kernel
theorem dL_law_791 : decode cL_law 791 = .ok (.iconst 3, 1) := by decide +kernel
theorem dL_law_792 : decode cL_law 792 = .ok (.iload 26, 2) := by decide +kernel
theorem dL_law_794 : decode cL_law 794 = .ok (.imul, 1) := by decide +kernel
theorem dL_law_795 : decode cL_law 795 = .ok (.iconst 2, 1) := by decide +kernel
theorem dL_law_796 : decode cL_law 796 = .ok (.iadd, 1) := by decide +kernel
theorem dL_law_797 : decode cL_law 797 = .ok (.iaload, 1) := by decide +kernel
theorem dL_law_798 : decode cL_law 798 = .ok (.if_icmp .gt 120, 3) := by decide +kernel
theorem dL_law_801 : decode cL_law 801 = .ok (.iload 28, 2) := by decide +kernel
theorem dL_law_803 : decode cL_law 803 = .ok (.ineg, 1) := by decide +kernel
theorem dL_law_804 : decode cL_law 804 = .ok (.aload 10, 2) := by decide +kernel
theorem dL_law_806 : decode cL_law 806 = .ok (.iconst 3, 1) := by decide +kernel
theorem dL_law_807 : decode cL_law 807 = .ok (.iload 26, 2) := by decide +kernel
theorem dL_law_809 : decode cL_law 809 = .ok (.imul, 1) := by decide +kernel
theorem dL_law_810 : decode cL_law 810 = .ok (.iconst 2, 1) := by decide +kernel
theorem dL_law_811 : decode cL_law 811 = .ok (.iadd, 1) := by decide +kernel
theorem dL_law_812 : decode cL_law 812 = .ok (.iaload, 1) := by decide +kernel
theorem dL_law_813 : decode cL_law 813 = .ok (.if_icmp .gt 105, 3) := by decide +kernel
theorem dL_law_816 : decode cL_law 816 = .ok (.aload_n 3, 1) := by decide +kernel
theorem dL_law_817 : decode cL_law 817 = .ok (.iload 27, 2) := by decide +kernel
theorem dL_law_819 : decode cL_law 819 = .ok (.iaload, 1) := by decide +kernel
theorem dL_law_820 : decode cL_law 820 = .ok (.aload 10, 2) := by decide +kernel
theorem dL_law_822 : decode cL_law 822 = .ok (.iconst 3, 1) := by decide +kernel
theorem dL_law_823 : decode cL_law 823 = .ok (.iload 26, 2) := by decide +kernel
theorem dL_law_825 : decode cL_law 825 = .ok (.imul, 1) := by decide +kernel
theorem dL_law_826 : decode cL_law 826 = .ok (.iconst 1, 1) := by decide +kernel
theorem dL_law_827 : decode cL_law 827 = .ok (.iadd, 1) := by decide +kernel
theorem dL_law_828 : decode cL_law 828 = .ok (.iaload, 1) := by decide +kernel
theorem dL_law_829 : decode cL_law 829 = .ok (.invokestatic 50, 3) := by decide +kernel
theorem dL_law_832 : decode cL_law 832 = .ok (.sipush 1000, 3) := by decide +kernel
theorem dL_law_835 : decode cL_law 835 = .ok (.if_icmp .le 6, 3) := by decide +kernel
theorem dL_law_838 : decode cL_law 838 = .ok (.goto 80, 3) := by decide +kernel
theorem dL_law_841 : decode cL_law 841 = .ok (.lload 11, 2) := by decide +kernel
theorem dL_law_843 : decode cL_law 843 = .ok (.aload_n 2, 1) := by decide +kernel
theorem dL_law_844 : decode cL_law 844 = .ok (.aload 4, 2) := by decide +kernel
theorem dL_law_846 : decode cL_law 846 = .ok (.iload 27, 2) := by decide +kernel
theorem dL_law_848 : decode cL_law 848 = .ok (.invokestatic 32, 3) := by decide +kernel
theorem dL_law_851 : decode cL_law 851 = .ok (.lsub, 1) := by decide +kernel
theorem dL_law_852 : decode cL_law 852 = .ok (.lstore 11, 2) := by decide +kernel
theorem dL_law_854 : decode cL_law 854 = .ok (.lload 11, 2) := by decide +kernel
theorem dL_law_856 : decode cL_law 856 = .ok (.aload_n 2, 1) := by decide +kernel
theorem dL_law_857 : decode cL_law 857 = .ok (.aload 4, 2) := by decide +kernel
theorem dL_law_859 : decode cL_law 859 = .ok (.aload 7, 2) := by decide +kernel
theorem dL_law_861 : decode cL_law 861 = .ok (.aload 9, 2) := by decide +kernel
theorem dL_law_863 : decode cL_law 863 = .ok (.iload 27, 2) := by decide +kernel
theorem dL_law_865 : decode cL_law 865 = .ok (.iload 28, 2) := by decide +kernel
theorem dL_law_867 : decode cL_law 867 = .ok (.ifCond .ge 12, 3) := by decide +kernel
theorem dL_law_870 : decode cL_law 870 = .ok (.aload_n 2, 1) := by decide +kernel
theorem dL_law_871 : decode cL_law 871 = .ok (.iload 27, 2) := by decide +kernel
theorem dL_law_873 : decode cL_law 873 = .ok (.iaload, 1) := by decide +kernel
theorem dL_law_874 : decode cL_law 874 = .ok (.iconst 1, 1) := by decide +kernel
theorem dL_law_875 : decode cL_law 875 = .ok (.isub, 1) := by decide +kernel
theorem dL_law_876 : decode cL_law 876 = .ok (.goto 9, 3) := by decide +kernel
theorem dL_law_879 : decode cL_law 879 = .ok (.aload_n 2, 1) := by decide +kernel
theorem dL_law_880 : decode cL_law 880 = .ok (.iload 27, 2) := by decide +kernel
theorem dL_law_882 : decode cL_law 882 = .ok (.iaload, 1) := by decide +kernel
theorem dL_law_883 : decode cL_law 883 = .ok (.iconst 1, 1) := by decide +kernel
theorem dL_law_884 : decode cL_law 884 = .ok (.iadd, 1) := by decide +kernel
theorem dL_law_885 : decode cL_law 885 = .ok (.invokestatic 53, 3) := by decide +kernel
theorem dL_law_888 : decode cL_law 888 = .ok (.ladd, 1) := by decide +kernel
theorem dL_law_889 : decode cL_law 889 = .ok (.lstore 11, 2) := by decide +kernel
theorem dL_law_891 : decode cL_law 891 = .ok (.aload 5, 2) := by decide +kernel
theorem dL_law_893 : decode cL_law 893 = .ok (.iload 27, 2) := by decide +kernel
theorem dL_law_895 : decode cL_law 895 = .ok (.aload 5, 2) := by decide +kernel
theorem dL_law_897 : decode cL_law 897 = .ok (.iload 27, 2) := by decide +kernel
theorem dL_law_899 : decode cL_law 899 = .ok (.iaload, 1) := by decide +kernel
theorem dL_law_900 : decode cL_law 900 = .ok (.bipush 94, 2) := by decide +kernel
theorem dL_law_902 : decode cL_law 902 = .ok (.if_icmp .le 8, 3) := by decide +kernel
theorem dL_law_905 : decode cL_law 905 = .ok (.bipush 99, 2) := by decide +kernel
theorem dL_law_907 : decode cL_law 907 = .ok (.goto 10, 3) := by decide +kernel
theorem dL_law_910 : decode cL_law 910 = .ok (.aload 5, 2) := by decide +kernel
theorem dL_law_912 : decode cL_law 912 = .ok (.iload 27, 2) := by decide +kernel
theorem dL_law_914 : decode cL_law 914 = .ok (.iaload, 1) := by decide +kernel
theorem dL_law_915 : decode cL_law 915 = .ok (.iconst 5, 1) := by decide +kernel
theorem dL_law_916 : decode cL_law 916 = .ok (.iadd, 1) := by decide +kernel
theorem dL_law_917 : decode cL_law 917 = .ok (.iastore, 1) := by decide +kernel
theorem dL_law_918 : decode cL_law 918 = .ok (.iinc 27 1, 3) := by decide +kernel
theorem dL_law_921 : decode cL_law 921 = .ok (.goto (-163), 3) := by decide +kernel
theorem dL_law_924 : decode cL_law 924 = .ok (.iinc 26 1, 3) := by decide +kernel
theorem dL_law_927 : decode cL_law 927 = .ok (.goto (-179), 3) := by decide +kernel
theorem dL_law_930 : decode cL_law 930 = .ok (.iload 17, 2) := by decide +kernel
theorem dL_law_932 : decode cL_law 932 = .ok (.istore 26, 2) := by decide +kernel
theorem dL_law_934 : decode cL_law 934 = .ok (.iconst 0, 1) := by decide +kernel
theorem dL_law_935 : decode cL_law 935 = .ok (.istore 27, 2) := by decide +kernel
theorem dL_law_937 : decode cL_law 937 = .ok (.iload 27, 2) := by decide +kernel
theorem dL_law_939 : decode cL_law 939 = .ok (.iload 26, 2) := by decide +kernel
theorem dL_law_941 : decode cL_law 941 = .ok (.if_icmp .ge 646, 3) := by decide +kernel
theorem dL_law_944 : decode cL_law 944 = .ok (.iload 27, 2) := by decide +kernel
theorem dL_law_946 : decode cL_law 946 = .ok (.iconst 1, 1) := by decide +kernel
theorem dL_law_947 : decode cL_law 947 = .ok (.iadd, 1) := by decide +kernel
theorem dL_law_948 : decode cL_law 948 = .ok (.istore 28, 2) := by decide +kernel
theorem dL_law_950 : decode cL_law 950 = .ok (.iload 28, 2) := by decide +kernel
theorem dL_law_952 : decode cL_law 952 = .ok (.iload 26, 2) := by decide +kernel
theorem dL_law_954 : decode cL_law 954 = .ok (.if_icmp .ge 627, 3) := by decide +kernel
theorem dL_law_957 : decode cL_law 957 = .ok (.aload_n 2, 1) := by decide +kernel
theorem dL_law_958 : decode cL_law 958 = .ok (.iload 28, 2) := by decide +kernel
theorem dL_law_960 : decode cL_law 960 = .ok (.iaload, 1) := by decide +kernel
theorem dL_law_961 : decode cL_law 961 = .ok (.aload_n 2, 1) := by decide +kernel
theorem dL_law_962 : decode cL_law 962 = .ok (.iload 27, 2) := by decide +kernel
theorem dL_law_964 : decode cL_law 964 = .ok (.iaload, 1) := by decide +kernel
theorem dL_law_965 : decode cL_law 965 = .ok (.isub, 1) := by decide +kernel
theorem dL_law_966 : decode cL_law 966 = .ok (.istore 29, 2) := by decide +kernel
theorem dL_law_968 : decode cL_law 968 = .ok (.aload 7, 2) := by decide +kernel
theorem dL_law_970 : decode cL_law 970 = .ok (.iload 27, 2) := by decide +kernel
theorem dL_law_972 : decode cL_law 972 = .ok (.iaload, 1) := by decide +kernel
theorem dL_law_973 : decode cL_law 973 = .ok (.ifCond .eq 602, 3) := by decide +kernel
theorem dL_law_976 : decode cL_law 976 = .ok (.aload 7, 2) := by decide +kernel
theorem dL_law_978 : decode cL_law 978 = .ok (.iload 28, 2) := by decide +kernel
theorem dL_law_980 : decode cL_law 980 = .ok (.iaload, 1) := by decide +kernel
theorem dL_law_981 : decode cL_law 981 = .ok (.ifCond .eq 594, 3) := by decide +kernel
theorem dL_law_984 : decode cL_law 984 = .ok (.aload 8, 2) := by decide +kernel
theorem dL_law_986 : decode cL_law 986 = .ok (.iload 27, 2) := by decide +kernel
theorem dL_law_988 : decode cL_law 988 = .ok (.iaload, 1) := by decide +kernel
theorem dL_law_989 : decode cL_law 989 = .ok (.iconst 1, 1) := by decide +kernel
theorem dL_law_990 : decode cL_law 990 = .ok (.if_icmp .eq 585, 3) := by decide +kernel
theorem dL_law_993 : decode cL_law 993 = .ok (.aload 8, 2) := by decide +kernel
theorem dL_law_995 : decode cL_law 995 = .ok (.iload 28, 2) := by decide +kernel
theorem dL_law_997 : decode cL_law 997 = .ok (.iaload, 1) := by decide +kernel
theorem dL_law_998 : decode cL_law 998 = .ok (.iconst 1, 1) := by decide +kernel
theorem dL_law_999 : decode cL_law 999 = .ok (.if_icmp .eq 576, 3) := by decide +kernel
theorem dL_law_1002 : decode cL_law 1002 = .ok (.iload 29, 2) := by decide +kernel
theorem dL_law_1004 : decode cL_law 1004 = .ok (.iconst 1, 1) := by decide +kernel
theorem dL_law_1005 : decode cL_law 1005 = .ok (.if_icmp .gt 570, 3) := by decide +kernel
theorem dL_law_1008 : decode cL_law 1008 = .ok (.iload 29, 2) := by decide +kernel
theorem dL_law_1010 : decode cL_law 1010 = .ok (.iconst (-1), 1) := by decide +kernel
theorem dL_law_1011 : decode cL_law 1011 = .ok (.if_icmp .lt 564, 3) := by decide +kernel
theorem dL_law_1014 : decode cL_law 1014 = .ok (.aload_n 3, 1) := by decide +kernel
theorem dL_law_1015 : decode cL_law 1015 = .ok (.iload 27, 2) := by decide +kernel
theorem dL_law_1017 : decode cL_law 1017 = .ok (.iaload, 1) := by decide +kernel
theorem dL_law_1018 : decode cL_law 1018 = .ok (.aload_n 3, 1) := by decide +kernel
theorem dL_law_1019 : decode cL_law 1019 = .ok (.iload 28, 2) := by decide +kernel
theorem dL_law_1021 : decode cL_law 1021 = .ok (.iaload, 1) := by decide +kernel
theorem dL_law_1022 : decode cL_law 1022 = .ok (.invokestatic 50, 3) := by decide +kernel
theorem dL_law_1025 : decode cL_law 1025 = .ok (.bipush 100, 2) := by decide +kernel
theorem dL_law_1027 : decode cL_law 1027 = .ok (.if_icmp .le 6, 3) := by decide +kernel
theorem dL_law_1030 : decode cL_law 1030 = .ok (.goto 545, 3) := by decide +kernel
theorem dL_law_1033 : decode cL_law 1033 = .ok (.aload 8, 2) := by decide +kernel
theorem dL_law_1035 : decode cL_law 1035 = .ok (.iload 27, 2) := by decide +kernel
theorem dL_law_1037 : decode cL_law 1037 = .ok (.iconst 1, 1) := by decide +kernel
theorem dL_law_1038 : decode cL_law 1038 = .ok (.iastore, 1) := by decide +kernel
theorem dL_law_1039 : decode cL_law 1039 = .ok (.aload 8, 2) := by decide +kernel
theorem dL_law_1041 : decode cL_law 1041 = .ok (.iload 28, 2) := by decide +kernel
theorem dL_law_1043 : decode cL_law 1043 = .ok (.iconst 1, 1) := by decide +kernel
theorem dL_law_1044 : decode cL_law 1044 = .ok (.iastore, 1) := by decide +kernel
theorem dL_law_1045 : decode cL_law 1045 = .ok (.aload 9, 2) := by decide +kernel
theorem dL_law_1047 : decode cL_law 1047 = .ok (.aload_n 2, 1) := by decide +kernel
theorem dL_law_1048 : decode cL_law 1048 = .ok (.iload 27, 2) := by decide +kernel
theorem dL_law_1050 : decode cL_law 1050 = .ok (.iaload, 1) := by decide +kernel
theorem dL_law_1051 : decode cL_law 1051 = .ok (.invokestatic 47, 3) := by decide +kernel
theorem dL_law_1054 : decode cL_law 1054 = .ok (.aload 9, 2) := by decide +kernel
theorem dL_law_1056 : decode cL_law 1056 = .ok (.aload_n 2, 1) := by decide +kernel
theorem dL_law_1057 : decode cL_law 1057 = .ok (.iload 28, 2) := by decide +kernel
theorem dL_law_1059 : decode cL_law 1059 = .ok (.iaload, 1) := by decide +kernel
theorem dL_law_1060 : decode cL_law 1060 = .ok (.invokestatic 47, 3) := by decide +kernel
theorem dL_law_1063 : decode cL_law 1063 = .ok (.isub, 1) := by decide +kernel
theorem dL_law_1064 : decode cL_law 1064 = .ok (.istore 30, 2) := by decide +kernel
theorem dL_law_1066 : decode cL_law 1066 = .ok (.aload 5, 2) := by decide +kernel
theorem dL_law_1068 : decode cL_law 1068 = .ok (.iload 27, 2) := by decide +kernel
theorem dL_law_1070 : decode cL_law 1070 = .ok (.iaload, 1) := by decide +kernel
theorem dL_law_1071 : decode cL_law 1071 = .ok (.aload 5, 2) := by decide +kernel
theorem dL_law_1073 : decode cL_law 1073 = .ok (.iload 28, 2) := by decide +kernel
theorem dL_law_1075 : decode cL_law 1075 = .ok (.iaload, 1) := by decide +kernel
theorem dL_law_1076 : decode cL_law 1076 = .ok (.iadd, 1) := by decide +kernel
theorem dL_law_1077 : decode cL_law 1077 = .ok (.iload 30, 2) := by decide +kernel
theorem dL_law_1079 : decode cL_law 1079 = .ok (.ifCond .ge 9, 3) := by decide +kernel
theorem dL_law_1082 : decode cL_law 1082 = .ok (.iload 30, 2) := by decide +kernel
theorem dL_law_1084 : decode cL_law 1084 = .ok (.ineg, 1) := by decide +kernel
theorem dL_law_1085 : decode cL_law 1085 = .ok (.goto 5, 3) := by decide +kernel
theorem dL_law_1088 : decode cL_law 1088 = .ok (.iload 30, 2) := by decide +kernel
theorem dL_law_1090 : decode cL_law 1090 = .ok (.iadd, 1) := by decide +kernel
theorem dL_law_1091 : decode cL_law 1091 = .ok (.istore 31, 2) := by decide +kernel
theorem dL_law_1093 : decode cL_law 1093 = .ok (.lload 13, 2) := by decide +kernel
theorem dL_law_1095 : decode cL_law 1095 = .ok (.aload_n 2, 1) := by decide +kernel
theorem dL_law_1096 : decode cL_law 1096 = .ok (.aload 4, 2) := by decide +kernel
theorem dL_law_1098 : decode cL_law 1098 = .ok (.iload 27, 2) := by decide +kernel
theorem dL_law_1100 : decode cL_law 1100 = .ok (.invokestatic 32, 3) := by decide +kernel
theorem dL_law_1103 : decode cL_law 1103 = .ok (.aload_n 2, 1) := by decide +kernel
theorem dL_law_1104 : decode cL_law 1104 = .ok (.aload 4, 2) := by decide +kernel
theorem dL_law_1106 : decode cL_law 1106 = .ok (.iload 28, 2) := by decide +kernel
theorem dL_law_1108 : decode cL_law 1108 = .ok (.invokestatic 32, 3) := by decide +kernel
theorem dL_law_1111 : decode cL_law 1111 = .ok (.ladd, 1) := by decide +kernel
theorem dL_law_1112 : decode cL_law 1112 = .ok (.ladd, 1) := by decide +kernel
theorem dL_law_1113 : decode cL_law 1113 = .ok (.lstore 13, 2) := by decide +kernel
theorem dL_law_1115 : decode cL_law 1115 = .ok (.aload 4, 2) := by decide +kernel
theorem dL_law_1117 : decode cL_law 1117 = .ok (.iload 27, 2) := by decide +kernel
theorem dL_law_1119 : decode cL_law 1119 = .ok (.iaload, 1) := by decide +kernel
theorem dL_law_1120 : decode cL_law 1120 = .ok (.aload 4, 2) := by decide +kernel
theorem dL_law_1122 : decode cL_law 1122 = .ok (.iload 28, 2) := by decide +kernel
theorem dL_law_1124 : decode cL_law 1124 = .ok (.iaload, 1) := by decide +kernel
theorem dL_law_1125 : decode cL_law 1125 = .ok (.if_icmp .ge 8, 3) := by decide +kernel
theorem dL_law_1128 : decode cL_law 1128 = .ok (.iload 27, 2) := by decide +kernel
theorem dL_law_1130 : decode cL_law 1130 = .ok (.goto 5, 3) := by decide +kernel
theorem dL_law_1133 : decode cL_law 1133 = .ok (.iload 28, 2) := by decide +kernel
theorem dL_law_1135 : decode cL_law 1135 = .ok (.istore 32, 2) := by decide +kernel
theorem dL_law_1137 : decode cL_law 1137 = .ok (.iload 31, 2) := by decide +kernel
theorem dL_law_1139 : decode cL_law 1139 = .ok (.aload 9, 2) := by decide +kernel
theorem dL_law_1141 : decode cL_law 1141 = .ok (.bipush 7, 2) := by decide +kernel
theorem dL_law_1143 : decode cL_law 1143 = .ok (.iaload, 1) := by decide +kernel
theorem dL_law_1144 : decode cL_law 1144 = .ok (.if_icmp .gt 135, 3) := by decide +kernel
theorem dL_law_1147 : decode cL_law 1147 = .ok (.aload 4, 2) := by decide +kernel
theorem dL_law_1149 : decode cL_law 1149 = .ok (.iload 27, 2) := by decide +kernel
theorem dL_law_1151 : decode cL_law 1151 = .ok (.iaload, 1) := by decide +kernel
theorem dL_law_1152 : decode cL_law 1152 = .ok (.aload 4, 2) := by decide +kernel
theorem dL_law_1154 : decode cL_law 1154 = .ok (.iload 28, 2) := by decide +kernel
theorem dL_law_1156 : decode cL_law 1156 = .ok (.iaload, 1) := by decide +kernel
theorem dL_law_1157 : decode cL_law 1157 = .ok (.iadd, 1) := by decide +kernel
theorem dL_law_1158 : decode cL_law 1158 = .ok (.istore 33, 2) := by decide +kernel
theorem dL_law_1160 : decode cL_law 1160 = .ok (.aload_n 2, 1) := by decide +kernel
theorem dL_law_1161 : decode cL_law 1161 = .ok (.iload 27, 2) := by decide +kernel
theorem dL_law_1163 : decode cL_law 1163 = .ok (.aload 4, 2) := by decide +kernel
theorem dL_law_1165 : decode cL_law 1165 = .ok (.iload 27, 2) := by decide +kernel
theorem dL_law_1167 : decode cL_law 1167 = .ok (.iaload, 1) := by decide +kernel
theorem dL_law_1168 : decode cL_law 1168 = .ok (.aload_n 2, 1) := by decide +kernel
theorem dL_law_1169 : decode cL_law 1169 = .ok (.iload 27, 2) := by decide +kernel
theorem dL_law_1171 : decode cL_law 1171 = .ok (.iaload, 1) := by decide +kernel
theorem dL_law_1172 : decode cL_law 1172 = .ok (.imul, 1) := by decide +kernel
theorem dL_law_1173 : decode cL_law 1173 = .ok (.aload 4, 2) := by decide +kernel
theorem dL_law_1175 : decode cL_law 1175 = .ok (.iload 28, 2) := by decide +kernel
theorem dL_law_1177 : decode cL_law 1177 = .ok (.iaload, 1) := by decide +kernel
theorem dL_law_1178 : decode cL_law 1178 = .ok (.aload_n 2, 1) := by decide +kernel
theorem dL_law_1179 : decode cL_law 1179 = .ok (.iload 28, 2) := by decide +kernel
theorem dL_law_1181 : decode cL_law 1181 = .ok (.iaload, 1) := by decide +kernel
theorem dL_law_1182 : decode cL_law 1182 = .ok (.imul, 1) := by decide +kernel
theorem dL_law_1183 : decode cL_law 1183 = .ok (.iadd, 1) := by decide +kernel
theorem dL_law_1184 : decode cL_law 1184 = .ok (.iload 33, 2) := by decide +kernel
theorem dL_law_1186 : decode cL_law 1186 = .ok (.idiv, 1) := by decide +kernel
theorem dL_law_1187 : decode cL_law 1187 = .ok (.iastore, 1) := by decide +kernel
theorem dL_law_1188 : decode cL_law 1188 = .ok (.aload 6, 2) := by decide +kernel
theorem dL_law_1190 : decode cL_law 1190 = .ok (.iload 27, 2) := by decide +kernel
theorem dL_law_1192 : decode cL_law 1192 = .ok (.aload 4, 2) := by decide +kernel
theorem dL_law_1194 : decode cL_law 1194 = .ok (.iload 27, 2) := by decide +kernel
theorem dL_law_1196 : decode cL_law 1196 = .ok (.iaload, 1) := by decide +kernel
theorem dL_law_1197 : decode cL_law 1197 = .ok (.aload 6, 2) := by decide +kernel
theorem dL_law_1199 : decode cL_law 1199 = .ok (.iload 27, 2) := by decide +kernel
theorem dL_law_1201 : decode cL_law 1201 = .ok (.iaload, 1) := by decide +kernel
theorem dL_law_1202 : decode cL_law 1202 = .ok (.imul, 1) := by decide +kernel
theorem dL_law_1203 : decode cL_law 1203 = .ok (.aload 4, 2) := by decide +kernel
theorem dL_law_1205 : decode cL_law 1205 = .ok (.iload 28, 2) := by decide +kernel
theorem dL_law_1207 : decode cL_law 1207 = .ok (.iaload, 1) := by decide +kernel
theorem dL_law_1208 : decode cL_law 1208 = .ok (.aload 6, 2) := by decide +kernel
theorem dL_law_1210 : decode cL_law 1210 = .ok (.iload 28, 2) := by decide +kernel
theorem dL_law_1212 : decode cL_law 1212 = .ok (.iaload, 1) := by decide +kernel
theorem dL_law_1213 : decode cL_law 1213 = .ok (.imul, 1) := by decide +kernel
theorem dL_law_1214 : decode cL_law 1214 = .ok (.iadd, 1) := by decide +kernel
theorem dL_law_1215 : decode cL_law 1215 = .ok (.iload 33, 2) := by decide +kernel
theorem dL_law_1217 : decode cL_law 1217 = .ok (.idiv, 1) := by decide +kernel
theorem dL_law_1218 : decode cL_law 1218 = .ok (.iastore, 1) := by decide +kernel
theorem dL_law_1219 : decode cL_law 1219 = .ok (.aload 4, 2) := by decide +kernel
theorem dL_law_1221 : decode cL_law 1221 = .ok (.iload 27, 2) := by decide +kernel
theorem dL_law_1223 : decode cL_law 1223 = .ok (.iload 33, 2) := by decide +kernel
theorem dL_law_1225 : decode cL_law 1225 = .ok (.iastore, 1) := by decide +kernel
theorem dL_law_1226 : decode cL_law 1226 = .ok (.aload 5, 2) := by decide +kernel
theorem dL_law_1228 : decode cL_law 1228 = .ok (.iload 28, 2) := by decide +kernel
theorem dL_law_1230 : decode cL_law 1230 = .ok (.iaload, 1) := by decide +kernel
theorem dL_law_1231 : decode cL_law 1231 = .ok (.aload 5, 2) := by decide +kernel
theorem dL_law_1233 : decode cL_law 1233 = .ok (.iload 27, 2) := by decide +kernel
theorem dL_law_1235 : decode cL_law 1235 = .ok (.iaload, 1) := by decide +kernel
theorem dL_law_1236 : decode cL_law 1236 = .ok (.if_icmp .ge 13, 3) := by decide +kernel
theorem dL_law_1239 : decode cL_law 1239 = .ok (.aload 5, 2) := by decide +kernel
theorem dL_law_1241 : decode cL_law 1241 = .ok (.iload 27, 2) := by decide +kernel
theorem dL_law_1243 : decode cL_law 1243 = .ok (.aload 5, 2) := by decide +kernel
theorem dL_law_1245 : decode cL_law 1245 = .ok (.iload 28, 2) := by decide +kernel
theorem dL_law_1247 : decode cL_law 1247 = .ok (.iaload, 1) := by decide +kernel
theorem dL_law_1248 : decode cL_law 1248 = .ok (.iastore, 1) := by decide +kernel
theorem dL_law_1249 : decode cL_law 1249 = .ok (.aload 7, 2) := by decide +kernel
theorem dL_law_1251 : decode cL_law 1251 = .ok (.iload 28, 2) := by decide +kernel
theorem dL_law_1253 : decode cL_law 1253 = .ok (.iconst 0, 1) := by decide +kernel
theorem dL_law_1254 : decode cL_law 1254 = .ok (.iastore, 1) := by decide +kernel
theorem dL_law_1255 : decode cL_law 1255 = .ok (.aload 9, 2) := by decide +kernel
theorem dL_law_1257 : decode cL_law 1257 = .ok (.iconst 1, 1) := by decide +kernel
theorem dL_law_1258 : decode cL_law 1258 = .ok (.dup2, 1) := by decide +kernel
theorem dL_law_1259 : decode cL_law 1259 = .ok (.iaload, 1) := by decide +kernel
theorem dL_law_1260 : decode cL_law 1260 = .ok (.iconst 1, 1) := by decide +kernel
theorem dL_law_1261 : decode cL_law 1261 = .ok (.iadd, 1) := by decide +kernel
theorem dL_law_1262 : decode cL_law 1262 = .ok (.iastore, 1) := by decide +kernel
theorem dL_law_1263 : decode cL_law 1263 = .ok (.lload 13, 2) := by decide +kernel
theorem dL_law_1265 : decode cL_law 1265 = .ok (.aload_n 2, 1) := by decide +kernel
theorem dL_law_1266 : decode cL_law 1266 = .ok (.aload 4, 2) := by decide +kernel
theorem dL_law_1268 : decode cL_law 1268 = .ok (.iload 27, 2) := by decide +kernel
theorem dL_law_1270 : decode cL_law 1270 = .ok (.invokestatic 32, 3) := by decide +kernel
theorem dL_law_1273 : decode cL_law 1273 = .ok (.lsub, 1) := by decide +kernel
theorem dL_law_1274 : decode cL_law 1274 = .ok (.lstore 13, 2) := by decide +kernel
theorem dL_law_1276 : decode cL_law 1276 = .ok (.goto 299, 3) := by decide +kernel
theorem dL_law_1279 : decode cL_law 1279 = .ok (.iload 31, 2) := by decide +kernel
theorem dL_law_1281 : decode cL_law 1281 = .ok (.aload 9, 2) := by decide +kernel
theorem dL_law_1283 : decode cL_law 1283 = .ok (.bipush 8, 2) := by decide +kernel
theorem dL_law_1285 : decode cL_law 1285 = .ok (.iaload, 1) := by decide +kernel
theorem dL_law_1286 : decode cL_law 1286 = .ok (.if_icmp .le 163, 3) := by decide +kernel
theorem dL_law_1289 : decode cL_law 1289 = .ok (.aload 4, 2) := by decide +kernel
theorem dL_law_1291 : decode cL_law 1291 = .ok (.iload 32, 2) := by decide +kernel
theorem dL_law_1293 : decode cL_law 1293 = .ok (.iaload, 1) := by decide +kernel
theorem dL_law_1294 : decode cL_law 1294 = .ok (.iconst 1, 1) := by decide +kernel
theorem dL_law_1295 : decode cL_law 1295 = .ok (.if_icmp .le 154, 3) := by decide +kernel
theorem dL_law_1298 : decode cL_law 1298 = .ok (.aload_n 2, 1) := by decide +kernel
theorem dL_law_1299 : decode cL_law 1299 = .ok (.iload 17, 2) := by decide +kernel
theorem dL_law_1301 : decode cL_law 1301 = .ok (.aload_n 2, 1) := by decide +kernel
theorem dL_law_1302 : decode cL_law 1302 = .ok (.iload 32, 2) := by decide +kernel
end
section
theorem dL_law_1304 : decode cL_law 1304 = .ok (.iaload, 1) := by decide +kernel
theorem dL_law_1305 : decode cL_law 1305 = .ok (.iastore, 1) := by decide +kernel
theorem dL_law_1306 : decode cL_law 1306 = .ok (.aload_n 3, 1) := by decide +kernel
theorem dL_law_1307 : decode cL_law 1307 = .ok (.iload 17, 2) := by decide +kernel
theorem dL_law_1309 : decode cL_law 1309 = .ok (.aload_n 3, 1) := by decide +kernel
theorem dL_law_1310 : decode cL_law 1310 = .ok (.iload 32, 2) := by decide +kernel
theorem dL_law_1312 : decode cL_law 1312 = .ok (.iaload, 1) := by decide +kernel
theorem dL_law_1313 : decode cL_law 1313 = .ok (.iastore, 1) := by decide +kernel
theorem dL_law_1314 : decode cL_law 1314 = .ok (.aload 4, 2) := by decide +kernel
theorem dL_law_1316 : decode cL_law 1316 = .ok (.iload 17, 2) := by decide +kernel
theorem dL_law_1318 : decode cL_law 1318 = .ok (.aload 4, 2) := by decide +kernel
theorem dL_law_1320 : decode cL_law 1320 = .ok (.iload 32, 2) := by decide +kernel
theorem dL_law_1322 : decode cL_law 1322 = .ok (.iaload, 1) := by decide +kernel
theorem dL_law_1323 : decode cL_law 1323 = .ok (.aload 4, 2) := by decide +kernel
theorem dL_law_1325 : decode cL_law 1325 = .ok (.iload 32, 2) := by decide +kernel
theorem dL_law_1327 : decode cL_law 1327 = .ok (.iaload, 1) := by decide +kernel
theorem dL_law_1328 : decode cL_law 1328 = .ok (.iconst 2, 1) := by decide +kernel
theorem dL_law_1329 : decode cL_law 1329 = .ok (.idiv, 1) := by decide +kernel
theorem dL_law_1330 : decode cL_law 1330 = .ok (.isub, 1) := by decide +kernel
theorem dL_law_1331 : decode cL_law 1331 = .ok (.iastore, 1) := by decide +kernel
theorem dL_law_1332 : decode cL_law 1332 = .ok (.aload 4, 2) := by decide +kernel
theorem dL_law_1334 : decode cL_law 1334 = .ok (.iload 32, 2) := by decide +kernel
theorem dL_law_1336 : decode cL_law 1336 = .ok (.aload 4, 2) := by decide +kernel
theorem dL_law_1338 : decode cL_law 1338 = .ok (.iload 32, 2) := by decide +kernel
theorem dL_law_1340 : decode cL_law 1340 = .ok (.iaload, 1) := by decide +kernel
theorem dL_law_1341 : decode cL_law 1341 = .ok (.iconst 2, 1) := by decide +kernel
theorem dL_law_1342 : decode cL_law 1342 = .ok (.idiv, 1) := by decide +kernel
theorem dL_law_1343 : decode cL_law 1343 = .ok (.iastore, 1) := by decide +kernel
theorem dL_law_1344 : decode cL_law 1344 = .ok (.aload 5, 2) := by decide +kernel
theorem dL_law_1346 : decode cL_law 1346 = .ok (.iload 17, 2) := by decide +kernel
theorem dL_law_1348 : decode cL_law 1348 = .ok (.iconst 0, 1) := by decide +kernel
theorem dL_law_1349 : decode cL_law 1349 = .ok (.iastore, 1) := by decide +kernel
theorem dL_law_1350 : decode cL_law 1350 = .ok (.aload 5, 2) := by decide +kernel
theorem dL_law_1352 : decode cL_law 1352 = .ok (.iload 32, 2) := by decide +kernel
theorem dL_law_1354 : decode cL_law 1354 = .ok (.iconst 0, 1) := by decide +kernel
theorem dL_law_1355 : decode cL_law 1355 = .ok (.iastore, 1) := by decide +kernel
theorem dL_law_1356 : decode cL_law 1356 = .ok (.aload 6, 2) := by decide +kernel
theorem dL_law_1358 : decode cL_law 1358 = .ok (.iload 17, 2) := by decide +kernel
theorem dL_law_1360 : decode cL_law 1360 = .ok (.aload 6, 2) := by decide +kernel
theorem dL_law_1362 : decode cL_law 1362 = .ok (.iload 32, 2) := by decide +kernel
theorem dL_law_1364 : decode cL_law 1364 = .ok (.iaload, 1) := by decide +kernel
theorem dL_law_1365 : decode cL_law 1365 = .ok (.iastore, 1) := by decide +kernel
theorem dL_law_1366 : decode cL_law 1366 = .ok (.aload 7, 2) := by decide +kernel
theorem dL_law_1368 : decode cL_law 1368 = .ok (.iload 17, 2) := by decide +kernel
theorem dL_law_1370 : decode cL_law 1370 = .ok (.iconst 1, 1) := by decide +kernel
theorem dL_law_1371 : decode cL_law 1371 = .ok (.iastore, 1) := by decide +kernel
theorem dL_law_1372 : decode cL_law 1372 = .ok (.lload 13, 2) := by decide +kernel
theorem dL_law_1374 : decode cL_law 1374 = .ok (.aload_n 2, 1) := by decide +kernel
theorem dL_law_1375 : decode cL_law 1375 = .ok (.aload 4, 2) := by decide +kernel
theorem dL_law_1377 : decode cL_law 1377 = .ok (.aload 7, 2) := by decide +kernel
theorem dL_law_1379 : decode cL_law 1379 = .ok (.aload 9, 2) := by decide +kernel
theorem dL_law_1381 : decode cL_law 1381 = .ok (.iload 32, 2) := by decide +kernel
theorem dL_law_1383 : decode cL_law 1383 = .ok (.aload_n 2, 1) := by decide +kernel
theorem dL_law_1384 : decode cL_law 1384 = .ok (.iload 32, 2) := by decide +kernel
theorem dL_law_1386 : decode cL_law 1386 = .ok (.iaload, 1) := by decide +kernel
theorem dL_law_1387 : decode cL_law 1387 = .ok (.iconst 1, 1) := by decide +kernel
theorem dL_law_1388 : decode cL_law 1388 = .ok (.isub, 1) := by decide +kernel
theorem dL_law_1389 : decode cL_law 1389 = .ok (.invokestatic 53, 3) := by decide +kernel
theorem dL_law_1392 : decode cL_law 1392 = .ok (.aload_n 2, 1) := by decide +kernel
theorem dL_law_1393 : decode cL_law 1393 = .ok (.aload 4, 2) := by decide +kernel
theorem dL_law_1395 : decode cL_law 1395 = .ok (.aload 7, 2) := by decide +kernel
theorem dL_law_1397 : decode cL_law 1397 = .ok (.aload 9, 2) := by decide +kernel
theorem dL_law_1399 : decode cL_law 1399 = .ok (.iload 17, 2) := by decide +kernel
theorem dL_law_1401 : decode cL_law 1401 = .ok (.aload_n 2, 1) := by decide +kernel
theorem dL_law_1402 : decode cL_law 1402 = .ok (.iload 17, 2) := by decide +kernel
theorem dL_law_1404 : decode cL_law 1404 = .ok (.iaload, 1) := by decide +kernel
theorem dL_law_1405 : decode cL_law 1405 = .ok (.iconst 1, 1) := by decide +kernel
theorem dL_law_1406 : decode cL_law 1406 = .ok (.iadd, 1) := by decide +kernel
theorem dL_law_1407 : decode cL_law 1407 = .ok (.invokestatic 53, 3) := by decide +kernel
theorem dL_law_1410 : decode cL_law 1410 = .ok (.ladd, 1) := by decide +kernel
theorem dL_law_1411 : decode cL_law 1411 = .ok (.aload_n 2, 1) := by decide +kernel
theorem dL_law_1412 : decode cL_law 1412 = .ok (.aload 4, 2) := by decide +kernel
theorem dL_law_1414 : decode cL_law 1414 = .ok (.iload 32, 2) := by decide +kernel
theorem dL_law_1416 : decode cL_law 1416 = .ok (.iload 27, 2) := by decide +kernel
theorem dL_law_1418 : decode cL_law 1418 = .ok (.if_icmp .ne 8, 3) := by decide +kernel
theorem dL_law_1421 : decode cL_law 1421 = .ok (.iload 28, 2) := by decide +kernel
theorem dL_law_1423 : decode cL_law 1423 = .ok (.goto 5, 3) := by decide +kernel
theorem dL_law_1426 : decode cL_law 1426 = .ok (.iload 27, 2) := by decide +kernel
theorem dL_law_1428 : decode cL_law 1428 = .ok (.invokestatic 32, 3) := by decide +kernel
theorem dL_law_1431 : decode cL_law 1431 = .ok (.ladd, 1) := by decide +kernel
theorem dL_law_1432 : decode cL_law 1432 = .ok (.lsub, 1) := by decide +kernel
theorem dL_law_1433 : decode cL_law 1433 = .ok (.lstore 13, 2) := by decide +kernel
theorem dL_law_1435 : decode cL_law 1435 = .ok (.aload 9, 2) := by decide +kernel
theorem dL_law_1437 : decode cL_law 1437 = .ok (.iconst 2, 1) := by decide +kernel
theorem dL_law_1438 : decode cL_law 1438 = .ok (.dup2, 1) := by decide +kernel
theorem dL_law_1439 : decode cL_law 1439 = .ok (.iaload, 1) := by decide +kernel
theorem dL_law_1440 : decode cL_law 1440 = .ok (.iconst 1, 1) := by decide +kernel
theorem dL_law_1441 : decode cL_law 1441 = .ok (.iadd, 1) := by decide +kernel
theorem dL_law_1442 : decode cL_law 1442 = .ok (.iastore, 1) := by decide +kernel
theorem dL_law_1443 : decode cL_law 1443 = .ok (.iinc 17 1, 3) := by decide +kernel
theorem dL_law_1446 : decode cL_law 1446 = .ok (.goto 129, 3) := by decide +kernel
theorem dL_law_1449 : decode cL_law 1449 = .ok (.iload 29, 2) := by decide +kernel
theorem dL_law_1451 : decode cL_law 1451 = .ok (.ifCond .ge 8, 3) := by decide +kernel
theorem dL_law_1454 : decode cL_law 1454 = .ok (.iload 28, 2) := by decide +kernel
theorem dL_law_1456 : decode cL_law 1456 = .ok (.goto 5, 3) := by decide +kernel
theorem dL_law_1459 : decode cL_law 1459 = .ok (.iload 27, 2) := by decide +kernel
theorem dL_law_1461 : decode cL_law 1461 = .ok (.istore 33, 2) := by decide +kernel
theorem dL_law_1463 : decode cL_law 1463 = .ok (.aload 5, 2) := by decide +kernel
theorem dL_law_1465 : decode cL_law 1465 = .ok (.iload 27, 2) := by decide +kernel
theorem dL_law_1467 : decode cL_law 1467 = .ok (.aload 5, 2) := by decide +kernel
theorem dL_law_1469 : decode cL_law 1469 = .ok (.iload 27, 2) := by decide +kernel
theorem dL_law_1471 : decode cL_law 1471 = .ok (.iaload, 1) := by decide +kernel
theorem dL_law_1472 : decode cL_law 1472 = .ok (.aload 9, 2) := by decide +kernel
theorem dL_law_1474 : decode cL_law 1474 = .ok (.bipush 9, 2) := by decide +kernel
theorem dL_law_1476 : decode cL_law 1476 = .ok (.iaload, 1) := by decide +kernel
theorem dL_law_1477 : decode cL_law 1477 = .ok (.imul, 1) := by decide +kernel
theorem dL_law_1478 : decode cL_law 1478 = .ok (.bipush 100, 2) := by decide +kernel
theorem dL_law_1480 : decode cL_law 1480 = .ok (.idiv, 1) := by decide +kernel
theorem dL_law_1481 : decode cL_law 1481 = .ok (.iastore, 1) := by decide +kernel
theorem dL_law_1482 : decode cL_law 1482 = .ok (.aload 5, 2) := by decide +kernel
theorem dL_law_1484 : decode cL_law 1484 = .ok (.iload 28, 2) := by decide +kernel
theorem dL_law_1486 : decode cL_law 1486 = .ok (.aload 5, 2) := by decide +kernel
theorem dL_law_1488 : decode cL_law 1488 = .ok (.iload 28, 2) := by decide +kernel
theorem dL_law_1490 : decode cL_law 1490 = .ok (.iaload, 1) := by decide +kernel
theorem dL_law_1491 : decode cL_law 1491 = .ok (.aload 9, 2) := by decide +kernel
theorem dL_law_1493 : decode cL_law 1493 = .ok (.bipush 9, 2) := by decide +kernel
theorem dL_law_1495 : decode cL_law 1495 = .ok (.iaload, 1) := by decide +kernel
theorem dL_law_1496 : decode cL_law 1496 = .ok (.imul, 1) := by decide +kernel
theorem dL_law_1497 : decode cL_law 1497 = .ok (.bipush 100, 2) := by decide +kernel
theorem dL_law_1499 : decode cL_law 1499 = .ok (.idiv, 1) := by decide +kernel
theorem dL_law_1500 : decode cL_law 1500 = .ok (.iastore, 1) := by decide +kernel
theorem dL_law_1501 : decode cL_law 1501 = .ok (.lload 13, 2) := by decide +kernel
theorem dL_law_1503 : decode cL_law 1503 = .ok (.aload_n 2, 1) := by decide +kernel
theorem dL_law_1504 : decode cL_law 1504 = .ok (.aload 4, 2) := by decide +kernel
theorem dL_law_1506 : decode cL_law 1506 = .ok (.aload 7, 2) := by decide +kernel
theorem dL_law_1508 : decode cL_law 1508 = .ok (.aload 9, 2) := by decide +kernel
theorem dL_law_1510 : decode cL_law 1510 = .ok (.iload 33, 2) := by decide +kernel
theorem dL_law_1512 : decode cL_law 1512 = .ok (.aload_n 2, 1) := by decide +kernel
theorem dL_law_1513 : decode cL_law 1513 = .ok (.iload 33, 2) := by decide +kernel
theorem dL_law_1515 : decode cL_law 1515 = .ok (.iaload, 1) := by decide +kernel
theorem dL_law_1516 : decode cL_law 1516 = .ok (.iconst 1, 1) := by decide +kernel
theorem dL_law_1517 : decode cL_law 1517 = .ok (.isub, 1) := by decide +kernel
theorem dL_law_1518 : decode cL_law 1518 = .ok (.invokestatic 53, 3) := by decide +kernel
theorem dL_law_1521 : decode cL_law 1521 = .ok (.aload_n 2, 1) := by decide +kernel
theorem dL_law_1522 : decode cL_law 1522 = .ok (.aload 4, 2) := by decide +kernel
theorem dL_law_1524 : decode cL_law 1524 = .ok (.aload 7, 2) := by decide +kernel
theorem dL_law_1526 : decode cL_law 1526 = .ok (.aload 9, 2) := by decide +kernel
theorem dL_law_1528 : decode cL_law 1528 = .ok (.iload 33, 2) := by decide +kernel
theorem dL_law_1530 : decode cL_law 1530 = .ok (.iload 27, 2) := by decide +kernel
theorem dL_law_1532 : decode cL_law 1532 = .ok (.if_icmp .ne 8, 3) := by decide +kernel
theorem dL_law_1535 : decode cL_law 1535 = .ok (.iload 28, 2) := by decide +kernel
theorem dL_law_1537 : decode cL_law 1537 = .ok (.goto 5, 3) := by decide +kernel
theorem dL_law_1540 : decode cL_law 1540 = .ok (.iload 27, 2) := by decide +kernel
theorem dL_law_1542 : decode cL_law 1542 = .ok (.aload_n 2, 1) := by decide +kernel
theorem dL_law_1543 : decode cL_law 1543 = .ok (.iload 33, 2) := by decide +kernel
theorem dL_law_1545 : decode cL_law 1545 = .ok (.iload 27, 2) := by decide +kernel
theorem dL_law_1547 : decode cL_law 1547 = .ok (.if_icmp .ne 8, 3) := by decide +kernel
theorem dL_law_1550 : decode cL_law 1550 = .ok (.iload 28, 2) := by decide +kernel
theorem dL_law_1552 : decode cL_law 1552 = .ok (.goto 5, 3) := by decide +kernel
theorem dL_law_1555 : decode cL_law 1555 = .ok (.iload 27, 2) := by decide +kernel
theorem dL_law_1557 : decode cL_law 1557 = .ok (.iaload, 1) := by decide +kernel
theorem dL_law_1558 : decode cL_law 1558 = .ok (.iconst 1, 1) := by decide +kernel
theorem dL_law_1559 : decode cL_law 1559 = .ok (.iadd, 1) := by decide +kernel
theorem dL_law_1560 : decode cL_law 1560 = .ok (.invokestatic 53, 3) := by decide +kernel
theorem dL_law_1563 : decode cL_law 1563 = .ok (.ladd, 1) := by decide +kernel
theorem dL_law_1564 : decode cL_law 1564 = .ok (.lsub, 1) := by decide +kernel
theorem dL_law_1565 : decode cL_law 1565 = .ok (.lstore 13, 2) := by decide +kernel
theorem dL_law_1567 : decode cL_law 1567 = .ok (.aload 9, 2) := by decide +kernel
theorem dL_law_1569 : decode cL_law 1569 = .ok (.iconst 3, 1) := by decide +kernel
theorem dL_law_1570 : decode cL_law 1570 = .ok (.dup2, 1) := by decide +kernel
theorem dL_law_1571 : decode cL_law 1571 = .ok (.iaload, 1) := by decide +kernel
theorem dL_law_1572 : decode cL_law 1572 = .ok (.iconst 1, 1) := by decide +kernel
theorem dL_law_1573 : decode cL_law 1573 = .ok (.iadd, 1) := by decide +kernel
theorem dL_law_1574 : decode cL_law 1574 = .ok (.iastore, 1) := by decide +kernel
theorem dL_law_1575 : decode cL_law 1575 = .ok (.iinc 28 1, 3) := by decide +kernel
theorem dL_law_1578 : decode cL_law 1578 = .ok (.goto (-628), 3) := by decide +kernel
theorem dL_law_1581 : decode cL_law 1581 = .ok (.iinc 27 1, 3) := by decide +kernel
theorem dL_law_1584 : decode cL_law 1584 = .ok (.goto (-647), 3) := by decide +kernel
theorem dL_law_1587 : decode cL_law 1587 = .ok (.iconst 0, 1) := by decide +kernel
theorem dL_law_1588 : decode cL_law 1588 = .ok (.istore 27, 2) := by decide +kernel
theorem dL_law_1590 : decode cL_law 1590 = .ok (.iload 27, 2) := by decide +kernel
theorem dL_law_1592 : decode cL_law 1592 = .ok (.iload 17, 2) := by decide +kernel
theorem dL_law_1594 : decode cL_law 1594 = .ok (.if_icmp .ge 38, 3) := by decide +kernel
theorem dL_law_1597 : decode cL_law 1597 = .ok (.aload 7, 2) := by decide +kernel
theorem dL_law_1599 : decode cL_law 1599 = .ok (.iload 27, 2) := by decide +kernel
theorem dL_law_1601 : decode cL_law 1601 = .ok (.iaload, 1) := by decide +kernel
theorem dL_law_1602 : decode cL_law 1602 = .ok (.iconst 1, 1) := by decide +kernel
theorem dL_law_1603 : decode cL_law 1603 = .ok (.if_icmp .ne 23, 3) := by decide +kernel
theorem dL_law_1606 : decode cL_law 1606 = .ok (.aload 6, 2) := by decide +kernel
theorem dL_law_1608 : decode cL_law 1608 = .ok (.iload 27, 2) := by decide +kernel
theorem dL_law_1610 : decode cL_law 1610 = .ok (.iaload, 1) := by decide +kernel
theorem dL_law_1611 : decode cL_law 1611 = .ok (.sipush 1000, 3) := by decide +kernel
theorem dL_law_1614 : decode cL_law 1614 = .ok (.if_icmp .ge 12, 3) := by decide +kernel
theorem dL_law_1617 : decode cL_law 1617 = .ok (.aload 6, 2) := by decide +kernel
theorem dL_law_1619 : decode cL_law 1619 = .ok (.iload 27, 2) := by decide +kernel
theorem dL_law_1621 : decode cL_law 1621 = .ok (.dup2, 1) := by decide +kernel
theorem dL_law_1622 : decode cL_law 1622 = .ok (.iaload, 1) := by decide +kernel
theorem dL_law_1623 : decode cL_law 1623 = .ok (.iconst 1, 1) := by decide +kernel
theorem dL_law_1624 : decode cL_law 1624 = .ok (.iadd, 1) := by decide +kernel
theorem dL_law_1625 : decode cL_law 1625 = .ok (.iastore, 1) := by decide +kernel
theorem dL_law_1626 : decode cL_law 1626 = .ok (.iinc 27 1, 3) := by decide +kernel
theorem dL_law_1629 : decode cL_law 1629 = .ok (.goto (-39), 3) := by decide +kernel
theorem dL_law_1632 : decode cL_law 1632 = .ok (.lconst 0, 1) := by decide +kernel
theorem dL_law_1633 : decode cL_law 1633 = .ok (.lstore 26, 2) := by decide +kernel
theorem dL_law_1635 : decode cL_law 1635 = .ok (.iconst 0, 1) := by decide +kernel
theorem dL_law_1636 : decode cL_law 1636 = .ok (.istore 28, 2) := by decide +kernel
theorem dL_law_1638 : decode cL_law 1638 = .ok (.iconst 0, 1) := by decide +kernel
theorem dL_law_1639 : decode cL_law 1639 = .ok (.istore 29, 2) := by decide +kernel
theorem dL_law_1641 : decode cL_law 1641 = .ok (.iconst 0, 1) := by decide +kernel
theorem dL_law_1642 : decode cL_law 1642 = .ok (.istore 30, 2) := by decide +kernel
theorem dL_law_1644 : decode cL_law 1644 = .ok (.iload 30, 2) := by decide +kernel
theorem dL_law_1646 : decode cL_law 1646 = .ok (.iload 17, 2) := by decide +kernel
theorem dL_law_1648 : decode cL_law 1648 = .ok (.if_icmp .ge 136, 3) := by decide +kernel
theorem dL_law_1651 : decode cL_law 1651 = .ok (.aload_n 1, 1) := by decide +kernel
theorem dL_law_1652 : decode cL_law 1652 = .ok (.iload 30, 2) := by decide +kernel
theorem dL_law_1654 : decode cL_law 1654 = .ok (.iconst 0, 1) := by decide +kernel
theorem dL_law_1655 : decode cL_law 1655 = .ok (.invokevirtual 57, 3) := by decide +kernel
theorem dL_law_1658 : decode cL_law 1658 = .ok (.aload_n 2, 1) := by decide +kernel
theorem dL_law_1659 : decode cL_law 1659 = .ok (.iload 30, 2) := by decide +kernel
theorem dL_law_1661 : decode cL_law 1661 = .ok (.iaload, 1) := by decide +kernel
theorem dL_law_1662 : decode cL_law 1662 = .ok (.if_icmp .ne 77, 3) := by decide +kernel
theorem dL_law_1665 : decode cL_law 1665 = .ok (.aload_n 1, 1) := by decide +kernel
theorem dL_law_1666 : decode cL_law 1666 = .ok (.iload 30, 2) := by decide +kernel
theorem dL_law_1668 : decode cL_law 1668 = .ok (.iconst 1, 1) := by decide +kernel
theorem dL_law_1669 : decode cL_law 1669 = .ok (.invokevirtual 57, 3) := by decide +kernel
theorem dL_law_1672 : decode cL_law 1672 = .ok (.aload_n 3, 1) := by decide +kernel
theorem dL_law_1673 : decode cL_law 1673 = .ok (.iload 30, 2) := by decide +kernel
theorem dL_law_1675 : decode cL_law 1675 = .ok (.iaload, 1) := by decide +kernel
theorem dL_law_1676 : decode cL_law 1676 = .ok (.if_icmp .ne 63, 3) := by decide +kernel
theorem dL_law_1679 : decode cL_law 1679 = .ok (.aload_n 1, 1) := by decide +kernel
theorem dL_law_1680 : decode cL_law 1680 = .ok (.iload 30, 2) := by decide +kernel
theorem dL_law_1682 : decode cL_law 1682 = .ok (.iconst 2, 1) := by decide +kernel
theorem dL_law_1683 : decode cL_law 1683 = .ok (.invokevirtual 57, 3) := by decide +kernel
theorem dL_law_1686 : decode cL_law 1686 = .ok (.aload 4, 2) := by decide +kernel
theorem dL_law_1688 : decode cL_law 1688 = .ok (.iload 30, 2) := by decide +kernel
theorem dL_law_1690 : decode cL_law 1690 = .ok (.iaload, 1) := by decide +kernel
theorem dL_law_1691 : decode cL_law 1691 = .ok (.if_icmp .ne 48, 3) := by decide +kernel
theorem dL_law_1694 : decode cL_law 1694 = .ok (.aload_n 1, 1) := by decide +kernel
theorem dL_law_1695 : decode cL_law 1695 = .ok (.iload 30, 2) := by decide +kernel
theorem dL_law_1697 : decode cL_law 1697 = .ok (.iconst 3, 1) := by decide +kernel
theorem dL_law_1698 : decode cL_law 1698 = .ok (.invokevirtual 57, 3) := by decide +kernel
theorem dL_law_1701 : decode cL_law 1701 = .ok (.aload 5, 2) := by decide +kernel
theorem dL_law_1703 : decode cL_law 1703 = .ok (.iload 30, 2) := by decide +kernel
theorem dL_law_1705 : decode cL_law 1705 = .ok (.iaload, 1) := by decide +kernel
theorem dL_law_1706 : decode cL_law 1706 = .ok (.if_icmp .ne 33, 3) := by decide +kernel
theorem dL_law_1709 : decode cL_law 1709 = .ok (.aload_n 1, 1) := by decide +kernel
theorem dL_law_1710 : decode cL_law 1710 = .ok (.iload 30, 2) := by decide +kernel
theorem dL_law_1712 : decode cL_law 1712 = .ok (.iconst 4, 1) := by decide +kernel
theorem dL_law_1713 : decode cL_law 1713 = .ok (.invokevirtual 57, 3) := by decide +kernel
theorem dL_law_1716 : decode cL_law 1716 = .ok (.aload 6, 2) := by decide +kernel
theorem dL_law_1718 : decode cL_law 1718 = .ok (.iload 30, 2) := by decide +kernel
theorem dL_law_1720 : decode cL_law 1720 = .ok (.iaload, 1) := by decide +kernel
theorem dL_law_1721 : decode cL_law 1721 = .ok (.if_icmp .ne 18, 3) := by decide +kernel
theorem dL_law_1724 : decode cL_law 1724 = .ok (.aload_n 1, 1) := by decide +kernel
theorem dL_law_1725 : decode cL_law 1725 = .ok (.iload 30, 2) := by decide +kernel
theorem dL_law_1727 : decode cL_law 1727 = .ok (.iconst 5, 1) := by decide +kernel
theorem dL_law_1728 : decode cL_law 1728 = .ok (.invokevirtual 57, 3) := by decide +kernel
theorem dL_law_1731 : decode cL_law 1731 = .ok (.aload 7, 2) := by decide +kernel
theorem dL_law_1733 : decode cL_law 1733 = .ok (.iload 30, 2) := by decide +kernel
theorem dL_law_1735 : decode cL_law 1735 = .ok (.iaload, 1) := by decide +kernel
theorem dL_law_1736 : decode cL_law 1736 = .ok (.if_icmp .eq 5, 3) := by decide +kernel
theorem dL_law_1739 : decode cL_law 1739 = .ok (.iconst 0, 1) := by decide +kernel
theorem dL_law_1740 : decode cL_law 1740 = .ok (.ireturn, 1) := by decide +kernel
theorem dL_law_1741 : decode cL_law 1741 = .ok (.aload 7, 2) := by decide +kernel
theorem dL_law_1743 : decode cL_law 1743 = .ok (.iload 30, 2) := by decide +kernel
theorem dL_law_1745 : decode cL_law 1745 = .ok (.iaload, 1) := by decide +kernel
theorem dL_law_1746 : decode cL_law 1746 = .ok (.ifCond .ne 6, 3) := by decide +kernel
theorem dL_law_1749 : decode cL_law 1749 = .ok (.goto 29, 3) := by decide +kernel
theorem dL_law_1752 : decode cL_law 1752 = .ok (.lload 26, 2) := by decide +kernel
theorem dL_law_1754 : decode cL_law 1754 = .ok (.aload_n 2, 1) := by decide +kernel
theorem dL_law_1755 : decode cL_law 1755 = .ok (.aload 4, 2) := by decide +kernel
theorem dL_law_1757 : decode cL_law 1757 = .ok (.iload 30, 2) := by decide +kernel
theorem dL_law_1759 : decode cL_law 1759 = .ok (.invokestatic 32, 3) := by decide +kernel
theorem dL_law_1762 : decode cL_law 1762 = .ok (.ladd, 1) := by decide +kernel
theorem dL_law_1763 : decode cL_law 1763 = .ok (.lstore 26, 2) := by decide +kernel
theorem dL_law_1765 : decode cL_law 1765 = .ok (.iload 28, 2) := by decide +kernel
theorem dL_law_1767 : decode cL_law 1767 = .ok (.aload 4, 2) := by decide +kernel
theorem dL_law_1769 : decode cL_law 1769 = .ok (.iload 30, 2) := by decide +kernel
theorem dL_law_1771 : decode cL_law 1771 = .ok (.iaload, 1) := by decide +kernel
theorem dL_law_1772 : decode cL_law 1772 = .ok (.iadd, 1) := by decide +kernel
theorem dL_law_1773 : decode cL_law 1773 = .ok (.istore 28, 2) := by decide +kernel
theorem dL_law_1775 : decode cL_law 1775 = .ok (.iinc 29 1, 3) := by decide +kernel
theorem dL_law_1778 : decode cL_law 1778 = .ok (.iinc 30 1, 3) := by decide +kernel
theorem dL_law_1781 : decode cL_law 1781 = .ok (.goto (-137), 3) := by decide +kernel
theorem dL_law_1784 : decode cL_law 1784 = .ok (.iconst 0, 1) := by decide +kernel
theorem dL_law_1785 : decode cL_law 1785 = .ok (.istore 30, 2) := by decide +kernel
theorem dL_law_1787 : decode cL_law 1787 = .ok (.iload 30, 2) := by decide +kernel
theorem dL_law_1789 : decode cL_law 1789 = .ok (.iload 18, 2) := by decide +kernel
theorem dL_law_1791 : decode cL_law 1791 = .ok (.if_icmp .ge 29, 3) := by decide +kernel
theorem dL_law_1794 : decode cL_law 1794 = .ok (.aload_n 1, 1) := by decide +kernel
theorem dL_law_1795 : decode cL_law 1795 = .ok (.iload 30, 2) := by decide +kernel
theorem dL_law_1797 : decode cL_law 1797 = .ok (.invokevirtual 60, 3) := by decide +kernel
theorem dL_law_1800 : decode cL_law 1800 = .ok (.aload 10, 2) := by decide +kernel
theorem dL_law_1802 : decode cL_law 1802 = .ok (.iconst 3, 1) := by decide +kernel
theorem dL_law_1803 : decode cL_law 1803 = .ok (.iload 30, 2) := by decide +kernel
theorem dL_law_1805 : decode cL_law 1805 = .ok (.imul, 1) := by decide +kernel
theorem dL_law_1806 : decode cL_law 1806 = .ok (.iconst 1, 1) := by decide +kernel
theorem dL_law_1807 : decode cL_law 1807 = .ok (.iadd, 1) := by decide +kernel
theorem dL_law_1808 : decode cL_law 1808 = .ok (.iaload, 1) := by decide +kernel
theorem dL_law_1809 : decode cL_law 1809 = .ok (.if_icmp .eq 5, 3) := by decide +kernel
theorem dL_law_1812 : decode cL_law 1812 = .ok (.iconst 0, 1) := by decide +kernel
theorem dL_law_1813 : decode cL_law 1813 = .ok (.ireturn, 1) := by decide +kernel
theorem dL_law_1814 : decode cL_law 1814 = .ok (.iinc 30 1, 3) := by decide +kernel
theorem dL_law_1817 : decode cL_law 1817 = .ok (.goto (-30), 3) := by decide +kernel
theorem dL_law_1820 : decode cL_law 1820 = .ok (.aload_n 1, 1) := by decide +kernel
theorem dL_law_1821 : decode cL_law 1821 = .ok (.iconst 0, 1) := by decide +kernel
theorem dL_law_1822 : decode cL_law 1822 = .ok (.invokevirtual 63, 3) := by decide +kernel
theorem dL_law_1825 : decode cL_law 1825 = .ok (.iload 17, 2) := by decide +kernel
theorem dL_law_1827 : decode cL_law 1827 = .ok (.if_icmp .ne 109, 3) := by decide +kernel
theorem dL_law_1830 : decode cL_law 1830 = .ok (.aload_n 1, 1) := by decide +kernel
theorem dL_law_1831 : decode cL_law 1831 = .ok (.iconst 1, 1) := by decide +kernel
theorem dL_law_1832 : decode cL_law 1832 = .ok (.invokevirtual 63, 3) := by decide +kernel
theorem dL_law_1835 : decode cL_law 1835 = .ok (.iload 29, 2) := by decide +kernel
theorem dL_law_1837 : decode cL_law 1837 = .ok (.if_icmp .ne 99, 3) := by decide +kernel
theorem dL_law_1840 : decode cL_law 1840 = .ok (.aload_n 1, 1) := by decide +kernel
theorem dL_law_1841 : decode cL_law 1841 = .ok (.iconst 2, 1) := by decide +kernel
theorem dL_law_1842 : decode cL_law 1842 = .ok (.invokevirtual 63, 3) := by decide +kernel
theorem dL_law_1845 : decode cL_law 1845 = .ok (.aload 9, 2) := by decide +kernel
theorem dL_law_1847 : decode cL_law 1847 = .ok (.iconst 1, 1) := by decide +kernel
theorem dL_law_1848 : decode cL_law 1848 = .ok (.iaload, 1) := by decide +kernel
theorem dL_law_1849 : decode cL_law 1849 = .ok (.if_icmp .ne 87, 3) := by decide +kernel
theorem dL_law_1852 : decode cL_law 1852 = .ok (.aload_n 1, 1) := by decide +kernel
theorem dL_law_1853 : decode cL_law 1853 = .ok (.iconst 3, 1) := by decide +kernel
theorem dL_law_1854 : decode cL_law 1854 = .ok (.invokevirtual 63, 3) := by decide +kernel
theorem dL_law_1857 : decode cL_law 1857 = .ok (.aload 9, 2) := by decide +kernel
theorem dL_law_1859 : decode cL_law 1859 = .ok (.iconst 2, 1) := by decide +kernel
theorem dL_law_1860 : decode cL_law 1860 = .ok (.iaload, 1) := by decide +kernel
theorem dL_law_1861 : decode cL_law 1861 = .ok (.if_icmp .ne 75, 3) := by decide +kernel
theorem dL_law_1864 : decode cL_law 1864 = .ok (.aload_n 1, 1) := by decide +kernel
theorem dL_law_1865 : decode cL_law 1865 = .ok (.iconst 4, 1) := by decide +kernel
theorem dL_law_1866 : decode cL_law 1866 = .ok (.invokevirtual 63, 3) := by decide +kernel
theorem dL_law_1869 : decode cL_law 1869 = .ok (.aload 9, 2) := by decide +kernel
theorem dL_law_1871 : decode cL_law 1871 = .ok (.iconst 3, 1) := by decide +kernel
theorem dL_law_1872 : decode cL_law 1872 = .ok (.iaload, 1) := by decide +kernel
theorem dL_law_1873 : decode cL_law 1873 = .ok (.if_icmp .ne 63, 3) := by decide +kernel
theorem dL_law_1876 : decode cL_law 1876 = .ok (.aload_n 1, 1) := by decide +kernel
theorem dL_law_1877 : decode cL_law 1877 = .ok (.iconst 5, 1) := by decide +kernel
theorem dL_law_1878 : decode cL_law 1878 = .ok (.invokevirtual 63, 3) := by decide +kernel
theorem dL_law_1881 : decode cL_law 1881 = .ok (.aload 9, 2) := by decide +kernel
theorem dL_law_1883 : decode cL_law 1883 = .ok (.iconst 4, 1) := by decide +kernel
theorem dL_law_1884 : decode cL_law 1884 = .ok (.iaload, 1) := by decide +kernel
theorem dL_law_1885 : decode cL_law 1885 = .ok (.if_icmp .ne 51, 3) := by decide +kernel
theorem dL_law_1888 : decode cL_law 1888 = .ok (.aload_n 1, 1) := by decide +kernel
theorem dL_law_1889 : decode cL_law 1889 = .ok (.bipush 6, 2) := by decide +kernel
theorem dL_law_1891 : decode cL_law 1891 = .ok (.invokevirtual 63, 3) := by decide +kernel
theorem dL_law_1894 : decode cL_law 1894 = .ok (.aload 9, 2) := by decide +kernel
theorem dL_law_1896 : decode cL_law 1896 = .ok (.iconst 5, 1) := by decide +kernel
theorem dL_law_1897 : decode cL_law 1897 = .ok (.iaload, 1) := by decide +kernel
theorem dL_law_1898 : decode cL_law 1898 = .ok (.if_icmp .ne 38, 3) := by decide +kernel
theorem dL_law_1901 : decode cL_law 1901 = .ok (.aload_n 1, 1) := by decide +kernel
theorem dL_law_1902 : decode cL_law 1902 = .ok (.iconst 0, 1) := by decide +kernel
theorem dL_law_1903 : decode cL_law 1903 = .ok (.invokevirtual 66, 3) := by decide +kernel
theorem dL_law_1906 : decode cL_law 1906 = .ok (.iload 28, 2) := by decide +kernel
theorem dL_law_1908 : decode cL_law 1908 = .ok (.if_icmp .ne 28, 3) := by decide +kernel
theorem dL_law_1911 : decode cL_law 1911 = .ok (.aload_n 1, 1) := by decide +kernel
theorem dL_law_1912 : decode cL_law 1912 = .ok (.iconst 0, 1) := by decide +kernel
theorem dL_law_1913 : decode cL_law 1913 = .ok (.invokevirtual 66, 3) := by decide +kernel
theorem dL_law_1916 : decode cL_law 1916 = .ok (.aload_n 1, 1) := by decide +kernel
theorem dL_law_1917 : decode cL_law 1917 = .ok (.iconst 1, 1) := by decide +kernel
theorem dL_law_1918 : decode cL_law 1918 = .ok (.invokevirtual 66, 3) := by decide +kernel
theorem dL_law_1921 : decode cL_law 1921 = .ok (.iadd, 1) := by decide +kernel
theorem dL_law_1922 : decode cL_law 1922 = .ok (.aload_n 1, 1) := by decide +kernel
theorem dL_law_1923 : decode cL_law 1923 = .ok (.iconst 2, 1) := by decide +kernel
theorem dL_law_1924 : decode cL_law 1924 = .ok (.invokevirtual 66, 3) := by decide +kernel
theorem dL_law_1927 : decode cL_law 1927 = .ok (.iadd, 1) := by decide +kernel
theorem dL_law_1928 : decode cL_law 1928 = .ok (.aload_n 1, 1) := by decide +kernel
theorem dL_law_1929 : decode cL_law 1929 = .ok (.iconst 3, 1) := by decide +kernel
theorem dL_law_1930 : decode cL_law 1930 = .ok (.invokevirtual 66, 3) := by decide +kernel
theorem dL_law_1933 : decode cL_law 1933 = .ok (.if_icmp .eq 5, 3) := by decide +kernel
theorem dL_law_1936 : decode cL_law 1936 = .ok (.iconst 0, 1) := by decide +kernel
theorem dL_law_1937 : decode cL_law 1937 = .ok (.ireturn, 1) := by decide +kernel
theorem dL_law_1938 : decode cL_law 1938 = .ok (.aload_n 1, 1) := by decide +kernel
theorem dL_law_1939 : decode cL_law 1939 = .ok (.iconst 0, 1) := by decide +kernel
theorem dL_law_1940 : decode cL_law 1940 = .ok (.invokevirtual 69, 3) := by decide +kernel
theorem dL_law_1943 : decode cL_law 1943 = .ok (.lload 26, 2) := by decide +kernel
theorem dL_law_1945 : decode cL_law 1945 = .ok (.lcmp, 1) := by decide +kernel
theorem dL_law_1946 : decode cL_law 1946 = .ok (.ifCond .ne 72, 3) := by decide +kernel
theorem dL_law_1949 : decode cL_law 1949 = .ok (.aload_n 1, 1) := by decide +kernel
theorem dL_law_1950 : decode cL_law 1950 = .ok (.invokevirtual 73, 3) := by decide +kernel
theorem dL_law_1953 : decode cL_law 1953 = .ok (.lload 26, 2) := by decide +kernel
theorem dL_law_1955 : decode cL_law 1955 = .ok (.lcmp, 1) := by decide +kernel
theorem dL_law_1956 : decode cL_law 1956 = .ok (.ifCond .ne 62, 3) := by decide +kernel
theorem dL_law_1959 : decode cL_law 1959 = .ok (.aload_n 1, 1) := by decide +kernel
theorem dL_law_1960 : decode cL_law 1960 = .ok (.iconst 3, 1) := by decide +kernel
theorem dL_law_1961 : decode cL_law 1961 = .ok (.invokevirtual 69, 3) := by decide +kernel
theorem dL_law_1964 : decode cL_law 1964 = .ok (.lload 15, 2) := by decide +kernel
theorem dL_law_1966 : decode cL_law 1966 = .ok (.lcmp, 1) := by decide +kernel
theorem dL_law_1967 : decode cL_law 1967 = .ok (.ifCond .ne 51, 3) := by decide +kernel
theorem dL_law_1970 : decode cL_law 1970 = .ok (.aload_n 1, 1) := by decide +kernel
theorem dL_law_1971 : decode cL_law 1971 = .ok (.iconst 4, 1) := by decide +kernel
theorem dL_law_1972 : decode cL_law 1972 = .ok (.invokevirtual 69, 3) := by decide +kernel
theorem dL_law_1975 : decode cL_law 1975 = .ok (.lload 11, 2) := by decide +kernel
theorem dL_law_1977 : decode cL_law 1977 = .ok (.lcmp, 1) := by decide +kernel
theorem dL_law_1978 : decode cL_law 1978 = .ok (.ifCond .ne 40, 3) := by decide +kernel
theorem dL_law_1981 : decode cL_law 1981 = .ok (.aload_n 1, 1) := by decide +kernel
theorem dL_law_1982 : decode cL_law 1982 = .ok (.iconst 5, 1) := by decide +kernel
theorem dL_law_1983 : decode cL_law 1983 = .ok (.invokevirtual 69, 3) := by decide +kernel
theorem dL_law_1986 : decode cL_law 1986 = .ok (.lload 13, 2) := by decide +kernel
theorem dL_law_1988 : decode cL_law 1988 = .ok (.lcmp, 1) := by decide +kernel
theorem dL_law_1989 : decode cL_law 1989 = .ok (.ifCond .ne 29, 3) := by decide +kernel
theorem dL_law_1992 : decode cL_law 1992 = .ok (.lload 15, 2) := by decide +kernel
theorem dL_law_1994 : decode cL_law 1994 = .ok (.lload 11, 2) := by decide +kernel
theorem dL_law_1996 : decode cL_law 1996 = .ok (.ladd, 1) := by decide +kernel
theorem dL_law_1997 : decode cL_law 1997 = .ok (.lload 13, 2) := by decide +kernel
theorem dL_law_1999 : decode cL_law 1999 = .ok (.lsub, 1) := by decide +kernel
theorem dL_law_2000 : decode cL_law 2000 = .ok (.lload 26, 2) := by decide +kernel
theorem dL_law_2002 : decode cL_law 2002 = .ok (.aload_n 1, 1) := by decide +kernel
theorem dL_law_2003 : decode cL_law 2003 = .ok (.iconst 1, 1) := by decide +kernel
theorem dL_law_2004 : decode cL_law 2004 = .ok (.invokevirtual 69, 3) := by decide +kernel
theorem dL_law_2007 : decode cL_law 2007 = .ok (.ladd, 1) := by decide +kernel
theorem dL_law_2008 : decode cL_law 2008 = .ok (.aload_n 1, 1) := by decide +kernel
theorem dL_law_2009 : decode cL_law 2009 = .ok (.iconst 2, 1) := by decide +kernel
theorem dL_law_2010 : decode cL_law 2010 = .ok (.invokevirtual 69, 3) := by decide +kernel
theorem dL_law_2013 : decode cL_law 2013 = .ok (.ladd, 1) := by decide +kernel
theorem dL_law_2014 : decode cL_law 2014 = .ok (.lcmp, 1) := by decide +kernel
theorem dL_law_2015 : decode cL_law 2015 = .ok (.ifCond .eq 5, 3) := by decide +kernel
theorem dL_law_2018 : decode cL_law 2018 = .ok (.iconst 0, 1) := by decide +kernel
theorem dL_law_2019 : decode cL_law 2019 = .ok (.ireturn, 1) := by decide +kernel
theorem dL_law_2020 : decode cL_law 2020 = .ok (.iload 24, 2) := by decide +kernel
theorem dL_law_2022 : decode cL_law 2022 = .ok (.bipush 7, 2) := by decide +kernel
theorem dL_law_2024 : decode cL_law 2024 = .ok (.ishr, 1) := by decide +kernel
theorem dL_law_2025 : decode cL_law 2025 = .ok (.bipush 64, 2) := by decide +kernel
theorem dL_law_2027 : decode cL_law 2027 = .ok (.invokestatic 20, 3) := by decide +kernel
theorem dL_law_2030 : decode cL_law 2030 = .ok (.istore 30, 2) := by decide +kernel
theorem dL_law_2032 : decode cL_law 2032 = .ok (.iconst 0, 1) := by decide +kernel
theorem dL_law_2033 : decode cL_law 2033 = .ok (.istore 31, 2) := by decide +kernel
theorem dL_law_2035 : decode cL_law 2035 = .ok (.iconst 0, 1) := by decide +kernel
theorem dL_law_2036 : decode cL_law 2036 = .ok (.istore 32, 2) := by decide +kernel
theorem dL_law_2038 : decode cL_law 2038 = .ok (.iload 32, 2) := by decide +kernel
theorem dL_law_2040 : decode cL_law 2040 = .ok (.iload 17, 2) := by decide +kernel
theorem dL_law_2042 : decode cL_law 2042 = .ok (.if_icmp .ge 37, 3) := by decide +kernel
theorem dL_law_2045 : decode cL_law 2045 = .ok (.aload 7, 2) := by decide +kernel
theorem dL_law_2047 : decode cL_law 2047 = .ok (.iload 32, 2) := by decide +kernel
theorem dL_law_2049 : decode cL_law 2049 = .ok (.iaload, 1) := by decide +kernel
theorem dL_law_2050 : decode cL_law 2050 = .ok (.iconst 1, 1) := by decide +kernel
theorem dL_law_2051 : decode cL_law 2051 = .ok (.if_icmp .ne 22, 3) := by decide +kernel
theorem dL_law_2054 : decode cL_law 2054 = .ok (.aload_n 2, 1) := by decide +kernel
theorem dL_law_2055 : decode cL_law 2055 = .ok (.iload 32, 2) := by decide +kernel
theorem dL_law_2057 : decode cL_law 2057 = .ok (.iaload, 1) := by decide +kernel
theorem dL_law_2058 : decode cL_law 2058 = .ok (.iload 30, 2) := by decide +kernel
theorem dL_law_2060 : decode cL_law 2060 = .ok (.if_icmp .ne 13, 3) := by decide +kernel
theorem dL_law_2063 : decode cL_law 2063 = .ok (.iload 31, 2) := by decide +kernel
theorem dL_law_2065 : decode cL_law 2065 = .ok (.aload 4, 2) := by decide +kernel
theorem dL_law_2067 : decode cL_law 2067 = .ok (.iload 32, 2) := by decide +kernel
theorem dL_law_2069 : decode cL_law 2069 = .ok (.iaload, 1) := by decide +kernel
theorem dL_law_2070 : decode cL_law 2070 = .ok (.iadd, 1) := by decide +kernel
theorem dL_law_2071 : decode cL_law 2071 = .ok (.istore 31, 2) := by decide +kernel
theorem dL_law_2073 : decode cL_law 2073 = .ok (.iinc 32 1, 3) := by decide +kernel
theorem dL_law_2076 : decode cL_law 2076 = .ok (.goto (-38), 3) := by decide +kernel
theorem dL_law_2079 : decode cL_law 2079 = .ok (.aload_n 1, 1) := by decide +kernel
theorem dL_law_2080 : decode cL_law 2080 = .ok (.iload 30, 2) := by decide +kernel
theorem dL_law_2082 : decode cL_law 2082 = .ok (.invokevirtual 77, 3) := by decide +kernel
theorem dL_law_2085 : decode cL_law 2085 = .ok (.iload 31, 2) := by decide +kernel
theorem dL_law_2087 : decode cL_law 2087 = .ok (.if_icmp .ne 19, 3) := by decide +kernel
theorem dL_law_2090 : decode cL_law 2090 = .ok (.aload_n 1, 1) := by decide +kernel
theorem dL_law_2091 : decode cL_law 2091 = .ok (.iload 30, 2) := by decide +kernel
theorem dL_law_2093 : decode cL_law 2093 = .ok (.invokevirtual 80, 3) := by decide +kernel
theorem dL_law_2096 : decode cL_law 2096 = .ok (.aload 9, 2) := by decide +kernel
theorem dL_law_2098 : decode cL_law 2098 = .ok (.iload 30, 2) := by decide +kernel
theorem dL_law_2100 : decode cL_law 2100 = .ok (.invokestatic 47, 3) := by decide +kernel
theorem dL_law_2103 : decode cL_law 2103 = .ok (.if_icmp .eq 5, 3) := by decide +kernel
theorem dL_law_2106 : decode cL_law 2106 = .ok (.iconst 0, 1) := by decide +kernel
theorem dL_law_2107 : decode cL_law 2107 = .ok (.ireturn, 1) := by decide +kernel
theorem dL_law_2108 : decode cL_law 2108 = .ok (.iinc 22 1, 3) := by decide +kernel
theorem dL_law_2111 : decode cL_law 2111 = .ok (.goto (-1830), 3) := by decide +kernel
theorem dL_law_2114 : decode cL_law 2114 = .ok (.iconst 1, 1) := by decide +kernel
theorem dL_law_2115 : decode cL_law 2115 = .ok (.ireturn, 1) := by decide +kernel
end
section
/-! ===== THE MEMORY: what the cells of a region hold, as functions of address and place ===== -/
/-- kinds (0 to 8: an object of class vwCl; 9 int[], 10 boolean[], 11 Claim[], 12 Frame[], 13 Grain[], 14 Moon[], 15 long[]; 16 and on: no cell), lengths, ints, longs, references, the next address -/
abbrev Mem : Type := (Nat → Nat) × (Nat → Nat) × (Nat → Nat → Int32) × (Nat → Nat → Int64) × (Nat → Nat → Option Nat) × Nat
abbrev mm_N (M : Mem) (q : Nat) : Nat := M.2.1 q
abbrev mm_i (M : Mem) (q k : Nat) : Int32 := M.2.2.1 q k
abbrev mm_l (M : Mem) (q k : Nat) : Int64 := M.2.2.2.1 q k
abbrev mm_r (M : Mem) (q k : Nat) : Option Nat := M.2.2.2.2.1 q k
abbrev mm_x (M : Mem) : Nat := M.2.2.2.2.2
def up2 {α : Type} (f : Nat → Nat → α) (q k : Nat) (v : α) : Nat → Nat → α := fun a j => if a = q ∧ j = k then v else f a j
def zr2 {α : Type} (f : Nat → Nat → α) (q : Nat) (v : α) : Nat → Nat → α := fun a j => if a = q then v else f a j
def ms_i (M : Mem) (q k : Nat) (v : Int32) : Mem := (M.1, M.2.1, up2 M.2.2.1 q k v, M.2.2.2)
def ms_l (M : Mem) (q k : Nat) (v : Int64) : Mem := (M.1, M.2.1, M.2.2.1, up2 M.2.2.2.1 q k v, M.2.2.2.2)
def ms_r (M : Mem) (q k : Nat) (v : Option Nat) : Mem := (M.1, M.2.1, M.2.2.1, M.2.2.2.1, up2 M.2.2.2.2.1 q k v, M.2.2.2.2.2)
/-- a new cell at the next address, all zero -/
def ms_n (M : Mem) (κ n : Nat) : Mem := (va_up M.1 M.2.2.2.2.2 κ, va_up M.2.1 M.2.2.2.2.2 n, zr2 M.2.2.1 M.2.2.2.2.2 0, zr2 M.2.2.2.1 M.2.2.2.2.2 0, zr2 M.2.2.2.2.1 M.2.2.2.2.2 none, M.2.2.2.2.2 + 1)
/-- the steps of a read-off function: a guard, a binding, a reference, a call -/
def gd {α : Type} (c : Prop) [Decidable c] (g : Option α) : Option α := if c then g else none
def lt_ {α β : Type} (a : α) (F : α → Option β) : Option β := F a
def rd {α : Type} (o : Option Nat) (F : Nat → Option α) : Option α := match o with | none => none | some a => F a
def bd {α β : Type} (o : Option α) (F : α → Option β) : Option β := match o with | none => none | some a => F a
/-- a call that may throw: what it throws goes on -/
def bx {β γ : Type} (o : Option (Mem × (β ⊕ Nat))) (F : Mem → β → Option (Mem × (γ ⊕ Nat))) : Option (Mem × (γ ⊕ Nat)) := match o with | none => none | some (M, .inl v) => F M v | some (M, .inr e) => some (M, .inr e)
theorem gd_e {α : Type} {c : Prop} [Decidable c] {g : Option α} {r : α} (h : gd c g = some r) : c ∧ g = some r := by
  unfold gd at h
  split at h
  · exact ⟨by assumption, h⟩
  · cases h
theorem rd_e {α : Type} {o : Option Nat} {F : Nat → Option α} {r : α} (h : rd o F = some r) : ∃ a, o = some a ∧ F a = some r := by
  cases o with
  | none => cases h
  | some a => exact ⟨a, rfl, h⟩
theorem bd_e {α β : Type} {o : Option α} {F : α → Option β} {r : β} (h : bd o F = some r) : ∃ a, o = some a ∧ F a = some r := by
  cases o with
  | none => cases h
  | some a => exact ⟨a, rfl, h⟩
theorem it_t {α : Type} {c : Prop} [Decidable c] {a b : Option α} {r : α} (h : (if c then a else b) = some r) (hc : c) : a = some r := by rwa [if_pos hc] at h
theorem it_f {α : Type} {c : Prop} [Decidable c] {a b : Option α} {r : α} (h : (if c then a else b) = some r) (hc : ¬ c) : b = some r := by rwa [if_neg hc] at h
def ftT : List (List Nat) := [[0, 0, 0, 0], [2, 0], [0, 0, 0, 0, 0, 0, 0], [2, 2, 2, 0, 0, 0, 0], [0, 0, 0, 0, 0, 0, 0, 0, 1, 1, 1, 1, 1], [0, 0, 0], [0], [2, 2, 0, 2, 0, 2, 0, 0, 2, 2, 2]]
def fty (κ k : Nat) : Nat := (ftT.getD κ []).getD k 0
/-- what an object of class κ holds at place k -/
def ov (M : Mem) (κ q k : Nat) : Value := if fty κ k = 0 then .int (mm_i M q k) else if fty κ k = 1 then .long (mm_l M q k) else va_rf (mm_r M q k)
/-- what an array of kind κ holds at place k -/
def av (M : Mem) (κ q k : Nat) : Value := if κ < 11 then .int (mm_i M q k) else if κ = 15 then .long (mm_l M q k) else va_rf (mm_r M q k)
def cOk (D : va_G) (ca : Nat → ClassId) (M : Mem) (q : Nat) (H : Heap) : Prop :=
  (M.1 q < 9 → ∃ r : vw_C, vwCl[M.1 q]? = some r ∧ t_OB q (D.1 (M.1 q)) r.2.2 (D.2 (M.1 q)) H (ov M (M.1 q) q)) ∧
  (9 ≤ M.1 q → M.1 q < 16 → H[q]? = some (arrV (ca (M.1 q)) (M.2.1 q) (av M (M.1 q) q)))
def Rg (D : va_G) (ca : Nat → ClassId) (M : Mem) (H : Heap) : Prop := ∀ q, cOk D ca M q H
theorem cOk.kept {D : va_G} {ca : Nat → ClassId} {M M1 : Mem} {q : Nat} {H H1 : Heap} (h : cOk D ca M q H) (hH : M.1 q < 16 → H1[q]? = H[q]?) (hk : M1.1 q = M.1 q) (hn : M1.2.1 q = M.2.1 q) (hi : ∀ k, mm_i M1 q k = mm_i M q k) (hl : ∀ k, mm_l M1 q k = mm_l M q k) (hr : ∀ k, mm_r M1 q k = mm_r M q k) : cOk D ca M1 q H1 := by
  have e1 : ∀ κ, ov M1 κ q = ov M κ q := fun κ => funext fun k => by unfold ov; rw [hi, hl, hr]
  have e2 : ∀ κ, av M1 κ q = av M κ q := fun κ => funext fun k => by unfold av; rw [hi, hl, hr]
  unfold cOk
  rw [hk, hn, e1, e2]
  refine ⟨fun h9 => ?_, fun h1 h2 => ?_⟩
  · obtain ⟨r, q1, q2⟩ := h.1 h9
    exact ⟨r, q1, q2.kept (hH (by omega))⟩
  · rw [hH h2]
    exact h.2 h1 h2
theorem Rg.kept {D : va_G} {ca : Nat → ClassId} {M : Mem} {H H1 : Heap} (h : Rg D ca M H) (hH : ∀ q, M.1 q < 16 → H1[q]? = H[q]?) : Rg D ca M H1 := fun q => (h q).kept (hH q) rfl rfl (fun _ => rfl) (fun _ => rfl) (fun _ => rfl)
theorem Rg.lt {D : va_G} {ca : Nat → ClassId} {M : Mem} {H : Heap} (h : Rg D ca M H) {q : Nat} (hq : M.1 q < 16) : q < H.size := by
  by_cases h9 : M.1 q < 9
  · obtain ⟨r, -, cell, q1, -⟩ := (h q).1 h9
    exact (Array.getElem?_eq_some_iff.mp q1).1
  · exact (Array.getElem?_eq_some_iff.mp ((h q).2 (by omega) hq)).1
theorem Rg.obj {D : va_G} {ca : Nat → ClassId} {M : Mem} {H : Heap} (h : Rg D ca M H) {q κ : Nat} (hk : M.1 q = κ) {C : String} {T : u_T} {N : Nat} (hc : vwCl[κ]? = some (C, T, N)) (h9 : κ < 9) : t_OB q (D.1 κ) N (D.2 κ) H (ov M κ q) := by
  subst hk
  obtain ⟨r, q1, q2⟩ := (h q).1 h9
  cases Option.some.inj (q1.symm.trans hc)
  exact q2
theorem Rg.arr {D : va_G} {ca : Nat → ClassId} {M : Mem} {H : Heap} (h : Rg D ca M H) {q κ : Nat} (hk : M.1 q = κ) (h9 : 9 ≤ κ) (h16 : κ < 16) : H[q]? = some (arrV (ca κ) (M.2.1 q) (av M κ q)) := by
  subst hk
  exact (h q).2 h9 h16
/-- the world of a method as it runs: the region, the next address where it is kept, the kinds lie in the frame set, what was written -/
def Wr (D : va_G) (ca : Nat → ClassId) (nx : Bool) (A : Nat → Prop) (M : Mem) (H : Heap) : Prop := Rg D ca M H ∧ (nx = true → mm_x M = H.size) ∧ ∀ q, M.1 q < 16 → A q
def Hp (D : va_G) (ca : Nat → ClassId) (nx : Bool) (A : Nat → Prop) (s : State) (M : Mem) (H : Heap) (locs : List Loc) : Prop := Wr D ca nx A M H ∧ va_S A s.heap H locs
theorem Hp.put {D : va_G} {ca : Nat → ClassId} {nx : Bool} {A : Nat → Prop} {s : State} {M M1 : Mem} {H H1 : Heap} {locs : List Loc} {a k : Nat} (h : Hp D ca nx A s M H locs) (ha : M.1 a < 16) (z : H1.size = H.size) (oq : ∀ q : Nat, q ≠ a → H1[q]? = H[q]?)
    (hk : M1.1 = M.1) (hn : M1.2.1 = M.2.1) (hx : mm_x M1 = mm_x M) (hi : ∀ q, q ≠ a → ∀ k, mm_i M1 q k = mm_i M q k) (hl : ∀ q, q ≠ a → ∀ k, mm_l M1 q k = mm_l M q k) (hr : ∀ q, q ≠ a → ∀ k, mm_r M1 q k = mm_r M q k) (hc : cOk D ca M1 a H1) : Hp D ca nx A s M1 H1 (locs ++ [⟨a, k⟩]) := by
  obtain ⟨⟨hR, hX, hA⟩, hS⟩ := h
  refine ⟨⟨fun q => ?_, fun hnx => by rw [hx, z]; exact hX hnx, fun q hq => hA q (by rw [← hk]; exact hq)⟩, hS.put z oq (hA a ha)⟩
  by_cases hqa : q = a
  · rw [hqa]; exact hc
  · exact (hR q).kept (fun _ => oq q hqa) (by rw [hk]) (by rw [hn]) (hi q hqa) (hl q hqa) (hr q hqa)
end
section
/-! ===== ROWS over the memory: each takes the read-off function's step and the machine's step together ===== -/
abbrev vi_ (i : Int32) (n : Nat) : Prop := ¬ (i < 0 ∨ n ≤ i.toNatClampNeg)
def tysL (ca : Nat → ClassId) : List (ClassId × FieldType) := [(ca 9, .int), (ca 11, .object "RingHerd$Claim"), (ca 12, .object "RingHerd$Frame"), (ca 13, .object "RingHerd$Grain"), (ca 14, .object "RingHerd$Moon")]
theorem ov_i {M : Mem} {κ q k : Nat} {x : Int32} (h : fty κ k = 0) : ov (ms_i M q k x) κ q = updV (ov M κ q) k (.int x) := by
  funext j
  by_cases hj : j = k
  · subst hj; simp [ov, updV, ms_i, up2, mm_i, mm_l, mm_r, h]
  · simp [ov, updV, ms_i, up2, mm_i, mm_l, mm_r, hj]
theorem ov_l {M : Mem} {κ q k : Nat} {x : Int64} (h : fty κ k = 1) : ov (ms_l M q k x) κ q = updV (ov M κ q) k (.long x) := by
  funext j
  by_cases hj : j = k
  · subst hj; simp [ov, updV, ms_l, up2, mm_i, mm_l, mm_r, h]
  · simp [ov, updV, ms_l, up2, mm_i, mm_l, mm_r, hj]
theorem ov_r {M : Mem} {κ q k a : Nat} (h : fty κ k = 2) : ov (ms_r M q k (some a)) κ q = updV (ov M κ q) k (.ref a) := by
  funext j
  by_cases hj : j = k
  · subst hj; simp [ov, updV, ms_r, up2, mm_i, mm_l, mm_r, h, va_rf]
  · simp [ov, updV, ms_r, up2, mm_i, mm_l, mm_r, hj]
theorem av_i {M : Mem} {κ q k : Nat} {x : Int32} (h : κ < 11) : av (ms_i M q k x) κ q = updV (av M κ q) k (.int x) := by
  funext j
  by_cases hj : j = k
  · subst hj; simp [av, updV, ms_i, up2, mm_i, mm_l, mm_r, h]
  · simp [av, updV, ms_i, up2, mm_i, mm_l, mm_r, hj]
theorem av_l {M : Mem} {q k : Nat} {x : Int64} : av (ms_l M q k x) 15 q = updV (av M 15 q) k (.long x) := by
  funext j
  by_cases hj : j = k
  · subst hj; simp [av, updV, ms_l, up2, mm_i, mm_l, mm_r]
  · simp [av, updV, ms_l, up2, mm_i, mm_l, mm_r, hj]
theorem av_r {M : Mem} {κ q k a : Nat} (h : ¬ κ < 11) (h2 : κ ≠ 15) : av (ms_r M q k (some a)) κ q = updV (av M κ q) k (.ref a) := by
  funext j
  by_cases hj : j = k
  · subst hj; simp [av, updV, ms_r, up2, mm_i, mm_l, mm_r, h, h2, va_rf]
  · simp [av, updV, ms_r, up2, mm_i, mm_l, mm_r, hj]
theorem ms_i_off {M : Mem} {a k : Nat} {x : Int32} : ∀ q, q ≠ a → ∀ j, mm_i (ms_i M a k x) q j = mm_i M q j := fun q hq j => by simp [ms_i, up2, mm_i, mm_l, mm_r, hq]
theorem ms_l_off {M : Mem} {a k : Nat} {x : Int64} : ∀ q, q ≠ a → ∀ j, mm_l (ms_l M a k x) q j = mm_l M q j := fun q hq j => by simp [ms_l, up2, mm_i, mm_l, mm_r, hq]
theorem ms_r_off {M : Mem} {a k : Nat} {x : Option Nat} : ∀ q, q ≠ a → ∀ j, mm_r (ms_r M a k x) q j = mm_r M q j := fun q hq j => by simp [ms_r, up2, mm_i, mm_l, mm_r, hq]
section RG
variable {p : Program} {l : Launch} {e : Env} {R : Room} {s : State} {m : MethodId} {args : Array Value} {below : List Frame} {meth : Method} {c : Code} {H : Heap} {locs : List Loc} {cells slots : Nat} {Q : State → Prop}
variable {cc : ByteArray} {pc : Nat} {ls : Array Slot} {rest st0 : List Value} {D : va_G} {ca : Nat → ClassId} {nx : Bool} {A : Nat → Prop} {M : Mem} {α : Type} {r : α}
theorem rg_get (hx : p.tables.exec = Jvm.exec) (hb : c.code = cc) (hts : ∀ w ∈ aw, w.before args s = true) (hK : va_K D vwCl (tysL ca) s) (hR : Hp D ca nx A s M H locs) {own C : String} {T : u_T} {N κ index q : Nat} (hown : s.vm.findClass own = some m.cls) (hin : ∀ w ∈ u_ws C T N, w ∈ aw) (hc : vwCl[κ]? = some (C, T, N)) (h9 : κ < 9) (k : Nat) (hk : k < N)
    (hl : Cond.fieldLink own index (T k).1 (T k).2.1 (T k).2.2.1 ∈ aw) {v : Value} (hv : ov M κ q k = v) (hdg : decode cc pc = .ok (.getfield index, 3)) {g : Option α} (hf : gd (M.1 q = κ) g = some r)
    (kk : g = some r → W p l e R s m args below meth c H locs cells slots Q (F0 m (pc + 3) ls (v :: rest))) : W p l e R s m args below meth c H locs cells slots Q (F0 m pc ls (.ref q :: rest)) := by
  obtain ⟨hq, hf⟩ := gd_e hf
  obtain ⟨cell, q1, q2, q3, q4⟩ := hR.1.1.obj hq hc h9
  obtain ⟨hS, hfc, kC, hkC, hkind⟩ := hK.1 κ _ hc
  obtain ⟨cf, kf, fi, f, hi, hsl⟩ := hS k hk
  refine W.getf hx hb hown (hts _ hl) hi (u_facts hfc hkC (u_lays hts hin hk) hi).1 q1 (by rw [q3]; exact fun h => by cases h) (v := v) ?_ rfl rfl hdg (kk hf)
  rw [hsl, q4 k hk, hv]
theorem rg_getr (hx : p.tables.exec = Jvm.exec) (hb : c.code = cc) (hts : ∀ w ∈ aw, w.before args s = true) (hK : va_K D vwCl (tysL ca) s) (hR : Hp D ca nx A s M H locs) {own C : String} {T : u_T} {N κ index q : Nat} (hown : s.vm.findClass own = some m.cls) (hin : ∀ w ∈ u_ws C T N, w ∈ aw) (hc : vwCl[κ]? = some (C, T, N)) (h9 : κ < 9) (k : Nat) (hk : k < N)
    (hl : Cond.fieldLink own index (T k).1 (T k).2.1 (T k).2.2.1 ∈ aw) (hv : ov M κ q k = va_rf (mm_r M q k)) (hdg : decode cc pc = .ok (.getfield index, 3)) {F : Nat → Option α} (hf : gd (M.1 q = κ) (rd (mm_r M q k) F) = some r)
    (kk : ∀ a, F a = some r → W p l e R s m args below meth c H locs cells slots Q (F0 m (pc + 3) ls (.ref a :: rest))) : W p l e R s m args below meth c H locs cells slots Q (F0 m pc ls (.ref q :: rest)) := by
  obtain ⟨hq, hf⟩ := gd_e hf
  obtain ⟨a, ha, hf⟩ := rd_e hf
  have hf2 : gd (M.1 q = κ) (F a) = some r := by unfold gd; rw [if_pos hq]; exact hf
  exact rg_get hx hb hts hK hR hown hin hc h9 k hk hl (by rw [hv, ha]; rfl) hdg hf2 (kk a)
theorem rg_put (hx : p.tables.exec = Jvm.exec) (hb : c.code = cc) (hts : ∀ w ∈ aw, w.before args s = true) (hK : va_K D vwCl (tysL ca) s) (hR : Hp D ca nx A s M H locs) {own C : String} {T : u_T} {N κ index q : Nat} (hown : s.vm.findClass own = some m.cls) (hin : ∀ w ∈ u_ws C T N, w ∈ aw) (hc : vwCl[κ]? = some (C, T, N)) (h9 : κ < 9) (k : Nat) (hk : k < N)
    (hl : Cond.fieldLink own index (T k).1 (T k).2.1 (T k).2.2.1 ∈ aw) (ty0 : Nat → FieldType) (hty : ∀ k, k < N → parseFieldDescriptor (T k).2.2.1 = some (ty0 k)) (hnm : ∀ a, a < N → ∀ b, b < N → a ≠ b → (T a).2.1 ≠ (T b).2.1)
    (hfin : (T k).2.2.2 = false ∨ ((T k).2.2.2 = true ∧ meth.name = "<init>" ∧ (T k).1 = own)) {v : Value} (hn : narrow (ty0 k) v = v) (hfit : fits (ty0 k) v = true) (hq : M.1 q = κ) {M1 : Mem} (hk1 : M1.1 = M.1) (hn1 : M1.2.1 = M.2.1) (hx1 : mm_x M1 = mm_x M)
    (hi1 : ∀ z, z ≠ q → ∀ k, mm_i M1 z k = mm_i M z k) (hl1 : ∀ z, z ≠ q → ∀ k, mm_l M1 z k = mm_l M z k) (hr1 : ∀ z, z ≠ q → ∀ k, mm_r M1 z k = mm_r M z k) (hov : ov M1 κ q = updV (ov M κ q) k v) (hdg : decode cc pc = .ok (.putfield index, 3))
    (kk : ∀ (H1 : Heap) (locs1 : List Loc), Hp D ca nx A s M1 H1 locs1 → W p l e R s m args below meth c H1 locs1 cells slots Q (F0 m (pc + 3) ls rest)) : W p l e R s m args below meth c H locs cells slots Q (F0 m pc ls (v :: .ref q :: rest)) := by
  have hap := va_apart (own := own) hts hin ty0 hty hnm hK hc
  obtain ⟨cell, q1, q2, q3, q4⟩ := hR.1.1.obj hq hc h9
  obtain ⟨hS, hfc, kC, hkC, hkind⟩ := hK.1 κ _ hc
  obtain ⟨cf, kf, fi, f, hi, hsl⟩ := hS k hk
  have hlay := hts _ (hin _ (u_in_lay hk))
  unfold u_lay at hlay
  have hst := (u_facts hfc hkC (u_lays hts hin hk) hi).1
  have fin : ∀ H1 : Heap, H1[q]? = some (cell.setSlot f.slot v) → H1.size = H.size → (∀ z, z ≠ q → H1[z]? = H[z]?) → Hp D ca nx A s M1 H1 (locs ++ [⟨q, f.slot⟩]) := by
    intro H1 e1 e2 e3
    rw [hsl] at e1
    refine hR.put (by rw [hq]; omega) e2 e3 hk1 hn1 hx1 hi1 hl1 hr1 ⟨fun _ => ⟨(C, T, N), by rw [hk1, hq]; exact hc, ?_⟩, fun h => by rw [hk1, hq] at h; omega⟩
    rw [hk1, hq, hov]
    exact ⟨_, e1, q2, q3, t_set q4 hap hk v⟩
  rcases hfin with hfin | ⟨hfin, hin2, hdecl⟩
  · rw [if_neg (by rw [hfin]; decide)] at hlay
    have h6 := u_store hfc hkC hkind hlay hi (hty k hk) hn hfit
    exact W.putK hx hb (f := f) ⟨hown, hts _ hl, ⟨_, _, _, hi⟩, hst⟩ (by rw [q2]; exact h6) q1 q3 (by rw [hsl]; exact k2_hasslot (q4 k hk)) rfl rfl hdg fun H1 e1 e2 e3 => kk H1 _ (fin H1 e1 e2 e3)
  · rw [if_pos hfin] at hlay
    have h6 := u_fits hfc hkC hkind (Or.inr hlay) hi (hty k hk) hn hfit
    have hcf : m.cls = cf := by
      obtain ⟨_, _, c', _, _, _, -, -, hf', -, -, -, hown2, -⟩ := Cond.laysFinal_spec hlay
      have e1 : c' = cf := by have := hi.symm.trans hf'; simp at this; exact this.1.symm
      rw [hdecl] at hown2
      rw [← e1]; exact Option.some.inj (hown.symm.trans hown2)
    exact W.putFinK hx hb hown (hts _ hl) hi hst hcf hin2 (by rw [q2]; exact h6) q1 q3 (by rw [hsl]; exact k2_hasslot (q4 k hk)) rfl rfl hdg fun H1 e1 e2 e3 => kk H1 _ (fin H1 e1 e2 e3)
theorem rg_puti (hx : p.tables.exec = Jvm.exec) (hb : c.code = cc) (hts : ∀ w ∈ aw, w.before args s = true) (hK : va_K D vwCl (tysL ca) s) (hR : Hp D ca nx A s M H locs) {own C : String} {T : u_T} {N κ index q : Nat} (hown : s.vm.findClass own = some m.cls) (hin : ∀ w ∈ u_ws C T N, w ∈ aw) (hc : vwCl[κ]? = some (C, T, N)) (h9 : κ < 9) (k : Nat) (hk : k < N)
    (hl : Cond.fieldLink own index (T k).1 (T k).2.1 (T k).2.2.1 ∈ aw) (ty0 : Nat → FieldType) (hty : ∀ k, k < N → parseFieldDescriptor (T k).2.2.1 = some (ty0 k)) (hnm : ∀ a, a < N → ∀ b, b < N → a ≠ b → (T a).2.1 ≠ (T b).2.1)
    (hfin : (T k).2.2.2 = false) {x : Int32} (hn : narrow (ty0 k) (.int x) = .int x) (hfit : fits (ty0 k) (.int x) = true) (hft : fty κ k = 0) (hdg : decode cc pc = .ok (.putfield index, 3)) {F : Mem → Option α} (hf : gd (M.1 q = κ) (lt_ (ms_i M q k x) F) = some r)
    (kk : ∀ (M1 : Mem) (H1 : Heap) (locs1 : List Loc), F M1 = some r → Hp D ca nx A s M1 H1 locs1 → W p l e R s m args below meth c H1 locs1 cells slots Q (F0 m (pc + 3) ls rest)) : W p l e R s m args below meth c H locs cells slots Q (F0 m pc ls (.int x :: .ref q :: rest)) := by
  obtain ⟨hq, hf⟩ := gd_e hf
  exact rg_put (M1 := ms_i M q k x) hx hb hts hK hR hown hin hc h9 k hk hl ty0 hty hnm (Or.inl hfin) hn hfit hq rfl rfl rfl ms_i_off (fun _ _ _ => rfl) (fun _ _ _ => rfl) (ov_i hft) hdg (fun H1 locs1 h => kk _ H1 locs1 hf h)
theorem rg_putl (hx : p.tables.exec = Jvm.exec) (hb : c.code = cc) (hts : ∀ w ∈ aw, w.before args s = true) (hK : va_K D vwCl (tysL ca) s) (hR : Hp D ca nx A s M H locs) {own C : String} {T : u_T} {N κ index q : Nat} (hown : s.vm.findClass own = some m.cls) (hin : ∀ w ∈ u_ws C T N, w ∈ aw) (hc : vwCl[κ]? = some (C, T, N)) (h9 : κ < 9) (k : Nat) (hk : k < N)
    (hl : Cond.fieldLink own index (T k).1 (T k).2.1 (T k).2.2.1 ∈ aw) (ty0 : Nat → FieldType) (hty : ∀ k, k < N → parseFieldDescriptor (T k).2.2.1 = some (ty0 k)) (hnm : ∀ a, a < N → ∀ b, b < N → a ≠ b → (T a).2.1 ≠ (T b).2.1)
    (hfin : (T k).2.2.2 = false) {x : Int64} (hn : narrow (ty0 k) (.long x) = .long x) (hfit : fits (ty0 k) (.long x) = true) (hft : fty κ k = 1) (hdg : decode cc pc = .ok (.putfield index, 3)) {F : Mem → Option α} (hf : gd (M.1 q = κ) (lt_ (ms_l M q k x) F) = some r)
    (kk : ∀ (M1 : Mem) (H1 : Heap) (locs1 : List Loc), F M1 = some r → Hp D ca nx A s M1 H1 locs1 → W p l e R s m args below meth c H1 locs1 cells slots Q (F0 m (pc + 3) ls rest)) : W p l e R s m args below meth c H locs cells slots Q (F0 m pc ls (.long x :: .ref q :: rest)) := by
  obtain ⟨hq, hf⟩ := gd_e hf
  exact rg_put (M1 := ms_l M q k x) hx hb hts hK hR hown hin hc h9 k hk hl ty0 hty hnm (Or.inl hfin) hn hfit hq rfl rfl rfl (fun _ _ _ => rfl) ms_l_off (fun _ _ _ => rfl) (ov_l hft) hdg (fun H1 locs1 h => kk _ H1 locs1 hf h)
/-- a reference, in a constructor (final fields) -/
theorem rg_putr (hx : p.tables.exec = Jvm.exec) (hb : c.code = cc) (hts : ∀ w ∈ aw, w.before args s = true) (hK : va_K D vwCl (tysL ca) s) (hR : Hp D ca nx A s M H locs) {own C : String} {T : u_T} {N κ index q a : Nat} (hown : s.vm.findClass own = some m.cls) (hin : ∀ w ∈ u_ws C T N, w ∈ aw) (hc : vwCl[κ]? = some (C, T, N)) (h9 : κ < 9) (k : Nat) (hk : k < N)
    (hl : Cond.fieldLink own index (T k).1 (T k).2.1 (T k).2.2.1 ∈ aw) (ty0 : Nat → FieldType) (hty : ∀ k, k < N → parseFieldDescriptor (T k).2.2.1 = some (ty0 k)) (hnm : ∀ a, a < N → ∀ b, b < N → a ≠ b → (T a).2.1 ≠ (T b).2.1)
    (hfin : (T k).2.2.2 = true ∧ meth.name = "<init>" ∧ (T k).1 = own) (hn : narrow (ty0 k) (.ref a) = .ref a) (hfit : fits (ty0 k) (.ref a) = true) (hft : fty κ k = 2) (hdg : decode cc pc = .ok (.putfield index, 3)) {F : Mem → Option α} (hf : gd (M.1 q = κ) (lt_ (ms_r M q k (some a)) F) = some r)
    (kk : ∀ (M1 : Mem) (H1 : Heap) (locs1 : List Loc), F M1 = some r → Hp D ca nx A s M1 H1 locs1 → W p l e R s m args below meth c H1 locs1 cells slots Q (F0 m (pc + 3) ls rest)) : W p l e R s m args below meth c H locs cells slots Q (F0 m pc ls (.ref a :: .ref q :: rest)) := by
  obtain ⟨hq, hf⟩ := gd_e hf
  exact rg_put (M1 := ms_r M q k (some a)) hx hb hts hK hR hown hin hc h9 k hk hl ty0 hty hnm (Or.inr hfin) hn hfit hq rfl rfl rfl (fun _ _ _ => rfl) (fun _ _ _ => rfl) ms_r_off (ov_r hft) hdg (fun H1 locs1 h => kk _ H1 locs1 hf h)
-- arrays
theorem rg_iald (hx : p.tables.exec = Jvm.exec) (hb : c.code = cc) (hK : va_K D vwCl (tysL ca) s) (hR : Hp D ca nx A s M H locs) {q : Nat} {i : Int32} (hdg : decode cc pc = .ok (.iaload, 1)) {g : Option α} (hf : gd (M.1 q = 9 ∧ vi_ i (mm_N M q)) g = some r)
    (kk : g = some r → W p l e R s m args below meth c H locs cells slots Q (F0 m (pc + 1) ls (.int (mm_i M q i.toNatClampNeg) :: rest))) : W p l e R s m args below meth c H locs cells slots Q (F0 m pc ls (.int i :: .ref q :: rest)) := by
  obtain ⟨⟨hq, hin⟩, hf⟩ := gd_e hf
  have hlt : i.toNatClampNeg < M.2.1 q := Nat.not_le.mp fun z => hin (Or.inr z)
  exact W.iald (v := .int (mm_i M q i.toNatClampNeg)) hx hb (hR.1.1.arr hq (by decide) (by decide)) ((hK.2 0 _ rfl).1 _ _) (fun z => by cases z) (by rw [arrV_size]; exact hin) (by rw [arrV_read _ _ hlt]; rfl) rfl rfl hdg (kk hf)
/-- an element of an array of references, κ 11 to 14 -/
theorem rg_aald (hx : p.tables.exec = Jvm.exec) (hb : c.code = cc) (hK : va_K D vwCl (tysL ca) s) (hR : Hp D ca nx A s M H locs) {q : Nat} {i : Int32} {κ : Nat} (t0 : Nat) {C : String} (ht : (tysL ca)[t0]? = some (ca κ, .object C)) (hκ : 11 ≤ κ ∧ κ < 15) (hdg : decode cc pc = .ok (.aaload, 1)) {F : Nat → Option α} (hf : gd (M.1 q = κ ∧ vi_ i (mm_N M q)) (rd (mm_r M q i.toNatClampNeg) F) = some r)
    (kk : ∀ a, F a = some r → W p l e R s m args below meth c H locs cells slots Q (F0 m (pc + 1) ls (.ref a :: rest))) : W p l e R s m args below meth c H locs cells slots Q (F0 m pc ls (.int i :: .ref q :: rest)) := by
  obtain ⟨⟨hq, hin⟩, hf⟩ := gd_e hf
  obtain ⟨a, ha, hf⟩ := rd_e hf
  have hlt : i.toNatClampNeg < M.2.1 q := Nat.not_le.mp fun z => hin (Or.inr z)
  have hv : av M κ q i.toNatClampNeg = .ref a := by unfold av; rw [if_neg (by omega), if_neg (by omega), ha]; rfl
  exact W.aald (v := .ref a) (ty := .object C) hx hb (hR.1.1.arr hq (by omega) (by omega)) ((hK.2 t0 _ ht).1 _ _) rfl (fun z => by cases z) (by rw [arrV_size]; exact hin) (by rw [arrV_read _ _ hlt, hv]) rfl rfl hdg (kk a hf)
theorem rg_alen (hx : p.tables.exec = Jvm.exec) (hb : c.code = cc) (hK : va_K D vwCl (tysL ca) s) (hR : Hp D ca nx A s M H locs) {q κ : Nat} (t0 : Nat) {ty : FieldType} (ht : (tysL ca)[t0]? = some (ca κ, ty)) (hκ : 9 ≤ κ ∧ κ < 16) (hdg : decode cc pc = .ok (.arraylength, 1)) {g : Option α} (hf : gd (M.1 q = κ) g = some r)
    (kk : g = some r → W p l e R s m args below meth c H locs cells slots Q (F0 m (pc + 1) ls (.int (nI (mm_N M q)) :: rest))) : W p l e R s m args below meth c H locs cells slots Q (F0 m pc ls (.ref q :: rest)) := by
  obtain ⟨hq, hf⟩ := gd_e hf
  exact W.alen (n := Int32.ofNat (mm_N M q)) hx hb (hR.1.1.arr hq hκ.1 hκ.2) ((hK.2 t0 _ ht).1 _ _) (by rw [arrV_size] <;> rfl) rfl rfl hdg (kk hf)
theorem rg_ast {M1 : Mem} {q κ k : Nat} {v : Value} {H1 : Heap} (hR : Hp D ca nx A s M H locs) (hq : M.1 q = κ) (h1 : 9 ≤ κ) (h2 : κ < 16) (hk1 : M1.1 = M.1) (hn1 : M1.2.1 = M.2.1) (hx1 : mm_x M1 = mm_x M)
    (hi1 : ∀ z, z ≠ q → ∀ k, mm_i M1 z k = mm_i M z k) (hl1 : ∀ z, z ≠ q → ∀ k, mm_l M1 z k = mm_l M z k) (hr1 : ∀ z, z ≠ q → ∀ k, mm_r M1 z k = mm_r M z k) (hav : av M1 κ q = updV (av M κ q) k v)
    (e1 : H1[q]? = some ((arrV (ca κ) (M.2.1 q) (av M κ q)).setSlot k v)) (e2 : H1.size = H.size) (e3 : ∀ z, z ≠ q → H1[z]? = H[z]?) : Hp D ca nx A s M1 H1 (locs ++ [⟨q, k⟩]) := by
  refine hR.put (by rw [hq]; omega) e2 e3 hk1 hn1 hx1 hi1 hl1 hr1 ⟨fun h => by rw [hk1, hq] at h; omega, fun _ _ => ?_⟩
  rw [hk1, hn1, hq, hav, e1, arrV_store]
theorem rg_iast (hx : p.tables.exec = Jvm.exec) (hb : c.code = cc) (hK : va_K D vwCl (tysL ca) s) (hR : Hp D ca nx A s M H locs) {q : Nat} {i x : Int32} (hdg : decode cc pc = .ok (.iastore, 1)) {F : Mem → Option α} (hf : gd (M.1 q = 9 ∧ vi_ i (mm_N M q)) (lt_ (ms_i M q i.toNatClampNeg x) F) = some r)
    (kk : ∀ (M1 : Mem) (H1 : Heap) (locs1 : List Loc), F M1 = some r → Hp D ca nx A s M1 H1 locs1 → W p l e R s m args below meth c H1 locs1 cells slots Q (F0 m (pc + 1) ls rest)) : W p l e R s m args below meth c H locs cells slots Q (F0 m pc ls (.int x :: .int i :: .ref q :: rest)) := by
  obtain ⟨⟨hq, hin⟩, hf⟩ := gd_e hf
  exact W.iast hx hb (hR.1.1.arr hq (by decide) (by decide)) ((hK.2 0 _ rfl).1 _ _) (fun z => by cases z) (by rw [arrV_size]; exact hin) rfl rfl hdg fun H1 e1 e2 e3 => kk _ H1 _ hf (rg_ast hR hq (by decide) (by decide) rfl rfl rfl ms_i_off (fun _ _ _ => rfl) (fun _ _ _ => rfl) (av_i (by decide)) e1 e2 e3)
-- names and branches
theorem nm_i {x : Int32} {F : Int32 → Option α} (hf : lt_ x F = some r) (kk : ∀ y : Int32, F y = some r → W p l e R s m args below meth c H locs cells slots Q (F0 m pc ls (.int y :: rest))) : W p l e R s m args below meth c H locs cells slots Q (F0 m pc ls (.int x :: rest)) := kk x hf
theorem nm_l {x : Int64} {F : Int64 → Option α} (hf : lt_ x F = some r) (kk : ∀ y : Int64, F y = some r → W p l e R s m args below meth c H locs cells slots Q (F0 m pc ls (.long y :: rest))) : W p l e R s m args below meth c H locs cells slots Q (F0 m pc ls (.long x :: rest)) := kk x hf
end RG
end
section
/-! ===== CONTRACTS: what a state gives beside its region; calls, ends, throws ===== -/
def nwL : List Cond := [(Cond.methodLinkNest "RingHerd$Herd" (11 : Nat) ({ cls := "RingHerd$Planet", name := "<init>", desc := "()V" } : Jvm.MethodName) "RingHerd"), (Cond.methodLinkNest "RingHerd$Herd" (20 : Nat) ({ cls := "RingHerd$Ledger", name := "<init>", desc := "()V" } : Jvm.MethodName) "RingHerd"), (Cond.methodLinkNest "RingHerd$Herd" (31 : Nat) ({ cls := "RingHerd$Grain", name := "<init>", desc := "()V" } : Jvm.MethodName) "RingHerd"), (Cond.methodLinkNest "RingHerd" (22 : Nat) ({ cls := "RingHerd$Moon", name := "<init>", desc := "()V" } : Jvm.MethodName) "RingHerd"), (Cond.methodLinkNest "RingHerd" (29 : Nat) ({ cls := "RingHerd$Frame", name := "<init>", desc := "()V" } : Jvm.MethodName) "RingHerd"), (Cond.methodLinkNest "RingHerd" (36 : Nat) ({ cls := "RingHerd$Claim", name := "<init>", desc := "()V" } : Jvm.MethodName) "RingHerd"), (Cond.castable "java/lang/IllegalArgumentException" "java/lang/IllegalArgumentException"), (Cond.declares ({ cls := "java/lang/RuntimeException", name := "<init>", desc := "()V" } : Jvm.MethodName)), (Cond.declares ({ cls := "java/lang/RuntimeException", name := "<init>", desc := "(Ljava/lang/String;)V" } : Jvm.MethodName)), (Cond.declares ({ cls := "java/lang/Exception", name := "<init>", desc := "()V" } : Jvm.MethodName)), (Cond.declares ({ cls := "java/lang/Exception", name := "<init>", desc := "(Ljava/lang/String;)V" } : Jvm.MethodName)), (Cond.declares ({ cls := "java/lang/Throwable", name := "<init>", desc := "()V" } : Jvm.MethodName)), (Cond.declares ({ cls := "java/lang/Throwable", name := "<init>", desc := "(Ljava/lang/String;)V" } : Jvm.MethodName)), (Cond.castable "java/lang/IllegalStateException" "java/lang/IllegalStateException"), (Cond.methodLinkNest "RingHerd$Planet" (9 : Nat) ({ cls := "RingHerd", name := "radiusOf", desc := "(I)I" } : Jvm.MethodName) "RingHerd"), (Cond.methodLinkNest "RingHerd$Herd" (76 : Nat) ({ cls := "RingHerd", name := "turned", desc := "(II)I" } : Jvm.MethodName) "RingHerd"), (Cond.methodLinkNest "RingHerd$Grain" (27 : Nat) ({ cls := "RingHerd", name := "anglesApart", desc := "(II)I" } : Jvm.MethodName) "RingHerd"), (Cond.castable "java/lang/IndexOutOfBoundsException" "java/lang/IndexOutOfBoundsException")]
def ncL : List (String × String) := [("java/lang/IllegalArgumentException", "java/lang/IllegalStateException"), ("java/lang/IllegalArgumentException", "java/lang/IndexOutOfBoundsException"), ("java/lang/IllegalStateException", "java/lang/IllegalArgumentException"), ("java/lang/IllegalStateException", "java/lang/IndexOutOfBoundsException"), ("java/lang/IndexOutOfBoundsException", "java/lang/IllegalArgumentException"), ("java/lang/IndexOutOfBoundsException", "java/lang/IllegalStateException")]
def stL : List (Nat × String) := [(264, "an argument is out of its range"), (60, "there were 80 grains"), (72, "there are 6 moons"), (108, "the tick would be above 2000"), (269, "there is none with this number"), (177, "what is 0 to 5"), (208, "what is 0 to 6"), (222, "what is 0 to 3")]
def aoL : List String := ["RingHerd$Grain", "RingHerd$Moon", "RingHerd$Frame", "RingHerd$Claim"]
def isNW : Cond → Bool := fun w => match w with
  | .methodLinkNest .. => true
  | .castable .. => true
  | .declares .. => true
  | _ => false
theorem nwL_ok : ∀ w ∈ nwL, isNW w = true := by decide +kernel
theorem nw_warm {w : Cond} (h : isNW w = true) {s U : State} (hW : s.WarmedH U.vm) (hZ : va_Nw w s) : va_Nw w U := by
  cases w <;> first | exact va_Nw.warmM hW hZ | exact va_Nw.warmC hW hZ | exact va_Nw.warmD hW hZ | (exact absurd h (by simp [isNW]))
def Xe (D : va_G) (ca : Nat → ClassId) (b : Nat) (U : State) (H : Heap) : Prop :=
  va_K D vwCl (tysL ca) U ∧ (∀ w ∈ nwL, va_Nw w U) ∧ (∀ q ∈ ncL, va_Nc q.1 q.2 U) ∧ (∀ q ∈ stL, ∃ sa, vk_R "RingHerd" q.1 q.2 sa U) ∧ (∀ C ∈ aoL, va_AO C U) ∧
  vx_Zq Bundle.tN "UNASSIGNED_STACK" Bundle.steD (fun q => b ≤ q) U H ∧ vx_Zq Bundle.tN "SUPPRESSED_SENTINEL" Bundle.listD (fun q => b ≤ q) U H
theorem Xe.warm {D : va_G} {ca : Nat → ClassId} {b : Nat} {s U : State} {H H1 : Heap} (h : Xe D ca b s H) (hW : s.WarmedH U.vm) (hH : ∀ a : Nat, a < H.size → ¬ b ≤ a → H1[a]? = H[a]?) : Xe D ca b U H1 := by
  obtain ⟨h1, h2, h3, h4, h5, h6, h7⟩ := h
  exact ⟨va_K.moved hW.alike h1, fun w hw => nw_warm (nwL_ok w hw) hW (h2 w hw), fun q hq => (h3 q hq).moved hW.alike, fun q hq => by obtain ⟨sa, hs⟩ := h4 q hq; exact ⟨sa, vk_R.warm hW hs⟩, fun C hC => (h5 C hC).moved hW.alike, (h6.moved hW.alike).kept hH, (h7.moved hW.alike).kept hH⟩
def Pw (D : va_G) (ca : Nat → ClassId) (nx : Bool) (b sz : Nat) (M : Mem) (U : State) : Prop :=
  U.heap.size = sz ∧ b ≤ sz ∧ (∀ q, M.1 q < 16 → b ≤ q) ∧ Rg D ca M U.heap ∧ (nx = true → mm_x M = U.heap.size) ∧ Xe D ca b U U.heap
theorem Pw_blind {D : va_G} {ca : Nat → ClassId} {nx : Bool} {b sz : Nat} {M : Mem} {As : List Value} : FrameBlind (va_Pc As (Pw D ca nx b sz M)) := by
  intro a U g mk h
  obtain ⟨h0, h1, h2, h3, h4, h5, h6⟩ := h
  have hW : U.WarmedH (U.calling g mk a).vm := State.WarmedH.refl U
  exact ⟨h0, h1, h2, h3, h4, h5, h6.warm hW (fun _ _ _ => rfl)⟩
def fA (M : Mem) (sz : Nat) : Nat → Prop := fun q => M.1 q < 16 ∨ sz ≤ q
def cvI (D : va_G) (ca : Nat → ClassId) (nx : Bool) (A : Nat → Prop) (r : Mem × Int32) : Array Value → State → Outcome → State → Prop := va_Qi (S := Unit) (fun v _ => v = r.2) (fun _ t => Wr D ca nx A r.1 t.heap) A
def cvL (D : va_G) (ca : Nat → ClassId) (nx : Bool) (A : Nat → Prop) (r : Mem × Int64) : Array Value → State → Outcome → State → Prop := va_Ql (S := Unit) (fun v _ => v = r.2) (fun _ t => Wr D ca nx A r.1 t.heap) A
def cvV (D : va_G) (ca : Nat → ClassId) (nx : Bool) (A : Nat → Prop) (r : Mem) : Array Value → State → Outcome → State → Prop := va_Qv (S := Unit) (fun _ => True) (fun _ t => Wr D ca nx A r t.heap) A
def exN : Nat → String := fun k => match k with
  | 0 => "java/lang/IllegalArgumentException"
  | 1 => "java/lang/IllegalStateException"
  | _ => "java/lang/IndexOutOfBoundsException"
def cxI (D : va_G) (ca : Nat → ClassId) (A : Nat → Prop) (r : Mem × (Int32 ⊕ Nat)) : Array Value → State → Outcome → State → Prop := va_Qi (S := Unit) (fun v _ => r.2 = .inl v) (fun _ t => Wr D ca false A r.1 t.heap) A
def cxL (D : va_G) (ca : Nat → ClassId) (A : Nat → Prop) (r : Mem × (Int64 ⊕ Nat)) : Array Value → State → Outcome → State → Prop := va_Ql (S := Unit) (fun v _ => r.2 = .inl v) (fun _ t => Wr D ca false A r.1 t.heap) A
def cxV (D : va_G) (ca : Nat → ClassId) (A : Nat → Prop) (r : Mem × (Unit ⊕ Nat)) : Array Value → State → Outcome → State → Prop := va_Qv (S := Unit) (fun _ => r.2 = .inl ()) (fun _ t => Wr D ca false A r.1 t.heap) A
def cxX {γ : Type} (D : va_G) (ca : Nat → ClassId) (A : Nat → Prop) (r : Mem × (γ ⊕ Nat)) : String → State → State → Prop := vx_X (S := Unit) (fun _ => True) (fun E _ t => (∃ k, r.2 = .inr k ∧ E = exN k) ∧ Wr D ca false A r.1 t.heap) A
/-- a method's contract, by what it hands back: int (boolean), long, nothing; .. or throws -/
def CtI (l : Launch) (y : MethodName) (cc : ByteArray) (maxL : Nat) (ret : Option FieldType) (rm : Room) (D : va_G) (ca : Nat → ClassId) (b : Nat) (nx : Bool) (As : List Value) (M : Mem) (r : Mem × Int32) : Prop := ∀ sz, Met l y (Cond.code y cc maxL ret :: aw) rm (va_Pc As (Pw D ca nx b sz M)) (cvI D ca nx (fA M sz) r) 0 0 (fA M sz)
def CtL (l : Launch) (y : MethodName) (cc : ByteArray) (maxL : Nat) (ret : Option FieldType) (rm : Room) (D : va_G) (ca : Nat → ClassId) (b : Nat) (nx : Bool) (As : List Value) (M : Mem) (r : Mem × Int64) : Prop := ∀ sz, Met l y (Cond.code y cc maxL ret :: aw) rm (va_Pc As (Pw D ca nx b sz M)) (cvL D ca nx (fA M sz) r) 0 0 (fA M sz)
def CtV (l : Launch) (y : MethodName) (cc : ByteArray) (maxL : Nat) (ret : Option FieldType) (rm : Room) (D : va_G) (ca : Nat → ClassId) (b : Nat) (nx : Bool) (As : List Value) (M : Mem) (r : Mem) (mc ms : Nat) : Prop := ∀ sz, Met l y (Cond.code y cc maxL ret :: aw) rm (va_Pc As (Pw D ca nx b sz M)) (cvV D ca nx (fA M sz) r) mc ms (fA M sz)
def CxI (l : Launch) (y : MethodName) (cc : ByteArray) (maxL : Nat) (ret : Option FieldType) (rm : Room) (D : va_G) (ca : Nat → ClassId) (b : Nat) (As : List Value) (M : Mem) (r : Mem × (Int32 ⊕ Nat)) (mc ms : Nat) : Prop := ∀ sz, vx_Met l y (Cond.code y cc maxL ret :: aw) rm (va_Pc As (Pw D ca false b sz M)) (cxI D ca (fA M sz) r) (cxX D ca (fA M sz) r) mc ms (fA M sz)
def CxL (l : Launch) (y : MethodName) (cc : ByteArray) (maxL : Nat) (ret : Option FieldType) (rm : Room) (D : va_G) (ca : Nat → ClassId) (b : Nat) (As : List Value) (M : Mem) (r : Mem × (Int64 ⊕ Nat)) (mc ms : Nat) : Prop := ∀ sz, vx_Met l y (Cond.code y cc maxL ret :: aw) rm (va_Pc As (Pw D ca false b sz M)) (cxL D ca (fA M sz) r) (cxX D ca (fA M sz) r) mc ms (fA M sz)
def CxV (l : Launch) (y : MethodName) (cc : ByteArray) (maxL : Nat) (ret : Option FieldType) (rm : Room) (D : va_G) (ca : Nat → ClassId) (b : Nat) (As : List Value) (M : Mem) (r : Mem × (Unit ⊕ Nat)) (mc ms : Nat) : Prop := ∀ sz, vx_Met l y (Cond.code y cc maxL ret :: aw) rm (va_Pc As (Pw D ca false b sz M)) (cxV D ca (fA M sz) r) (cxX D ca (fA M sz) r) mc ms (fA M sz)
/-- what every body has from its start -/
def Cx (cc : ByteArray) (maxL : Nat) (y : MethodName) (D : va_G) (ca : Nat → ClassId) (b : Nat) (A : Nat → Prop) (p : Program) (s : State) (m : MethodId) (args : Array Value) (meth : Method) (c : Code) : Prop :=
  p.tables.exec = Jvm.exec ∧ c.code = cc ∧ c.maxLocals = maxL ∧ (∀ w ∈ aw, w.before args s = true) ∧ s.vm.findClass y.cls = some m.cls ∧ meth.locks = false ∧ Xe D ca b s s.heap ∧ (∀ q, s.heap.size ≤ q → A q) ∧ (∀ q, A q → b ≤ q) ∧ (y.name = "<init>" → meth.name = "<init>")
section BODY
variable {l : Launch} {y : MethodName} {cc : ByteArray} {maxL : Nat} {ret : Option FieldType} {rm : Room} {D : va_G} {ca : Nat → ClassId} {b : Nat} {nx : Bool} {As : List Value} {M : Mem}
theorem body_start {sz mc ms : Nat} {Qc : (Nat → Prop) → Array Value → State → Outcome → State → Prop} (hy : plainName y.cls = true) (hn : (lg_sl As).length ≤ maxL)
    (body : ∀ (p : Program) (e : Env) (s : State) (m : MethodId) (args : Array Value) (below : List Frame) (meth : Method) (c : Code) (A : Nat → Prop), Cx cc maxL y D ca b A p s m args meth c → meth.sig.returnType = ret → Hp D ca nx A s M s.heap [] → ∀ ls : Array Slot, lv_has ls maxL (lv_args 0 As) →
      W p l e rm s m args below meth c s.heap [] 0 0 (MQ below (Qc A) args s mc ms A) (F0 m 0 ls [])) : Met l y (Cond.code y cc maxL ret :: aw) rm (va_Pc As (Pw D ca nx b sz M)) (Qc (fA M sz)) mc ms (fA M sz) := by
  refine Met.ofW (cc := cc) (maxL := maxL) (ret := ret) hy rfl ?_
  intro p e s m args below meth c s₁ B hml hv
  obtain ⟨rfl, hsz, hbs, hkb, hR, hX, hXe⟩ := hv
  subst hsz
  have hts := atoms_spec (ws := Cond.code y cc maxL ret :: aw) B.pre
  have hown : s.vm.findClass y.cls = some m.cls := findClass_of_methodNamed B.named
  have hnm : meth.name = y.name := (name_of_methodNamed B.named B.method).1
  have hl := lv_entry As (n := maxL) hn
  rw [lg_entry_eq]
  exact body p e s m As.toArray below meth c (fA M s.heap.size) ⟨B.exec, B.bytes, hml, fun w hw => hts w (List.mem_cons_of_mem _ hw), hown, B.notSynchronized, hXe, fun q hq => Or.inr hq, fun q hq => hq.elim (hkb q) (fun h => Nat.le_trans hbs h), fun h => hnm.trans h⟩ B.returns ⟨⟨hR, hX, fun q hq => Or.inl hq⟩, va_S.rf⟩ _ hl
theorem bodyx_start {sz mc ms : Nat} {Qc : (Nat → Prop) → Array Value → State → Outcome → State → Prop} {XC : (Nat → Prop) → String → State → State → Prop} (hy : plainName y.cls = true) (hn : (lg_sl As).length ≤ maxL)
    (body : ∀ (p : Program) (e : Env) (s : State) (m : MethodId) (args : Array Value) (below : List Frame) (meth : Method) (c : Code) (A : Nat → Prop), Cx cc maxL y D ca b A p s m args meth c → (∀ x ∈ c.exceptionTable.toList, False) → meth.sig.returnType = ret → Hp D ca nx A s M s.heap [] → ∀ ls : Array Slot, lv_has ls maxL (lv_args 0 As) →
      W p l e rm s m args below meth c s.heap [] 0 0 (vx_MQ below (Qc A) (XC A) args s mc ms A) (F0 m 0 ls [])) : vx_Met l y (Cond.code y cc maxL ret :: aw) rm (va_Pc As (Pw D ca nx b sz M)) (Qc (fA M sz)) (XC (fA M sz)) mc ms (fA M sz) := by
  refine vx_ofW (cc := cc) (maxL := maxL) (ret := ret) hy rfl ?_
  intro p e s m args below meth c s₁ B hml htab hv
  obtain ⟨rfl, hsz, hbs, hkb, hR, hX, hXe⟩ := hv
  subst hsz
  have hts := atoms_spec (ws := Cond.code y cc maxL ret :: aw) B.pre
  have hown : s.vm.findClass y.cls = some m.cls := findClass_of_methodNamed B.named
  have hnm : meth.name = y.name := (name_of_methodNamed B.named B.method).1
  have hl := lv_entry As (n := maxL) hn
  rw [lg_entry_eq]
  exact body p e s m As.toArray below meth c (fA M s.heap.size) ⟨B.exec, B.bytes, hml, fun w hw => hts w (List.mem_cons_of_mem _ hw), hown, B.notSynchronized, hXe, fun q hq => Or.inr hq, fun q hq => hq.elim (hkb q) (fun h => Nat.le_trans hbs h), fun h => hnm.trans h⟩ htab B.returns ⟨⟨hR, hX, fun q hq => Or.inl hq⟩, va_S.rf⟩ _ hl
end BODY
theorem aw_good : ∀ w ∈ aw, (w.onTables && w.keeps) = true ∨ ∃ ty, w = .arrayClass ty := fun w hw => good_of_word (List.mem_filter.mp hw).2
theorem gi_aw {w : Cond} (h : w ∈ aw) : GoodIn aw (w :: aw) := fun v hv => by
  rcases List.mem_cons.mp hv with e | hv
  · subst e; exact ⟨h, aw_good _ h⟩
  · exact ⟨hv, aw_good _ hv⟩
section CALLS
variable {p : Program} {l : Launch} {e : Env} {R : Room} {s : State} {m : MethodId} {args : Array Value} {below : List Frame} {meth : Method} {c : Code} {H : Heap} {locs : List Loc} {cells slots : Nat} {Q : State → Prop}
variable {cc : ByteArray} {pc maxL : Nat} {ls : Array Slot} {rest st0 : List Value} {D : va_G} {ca : Nat → ClassId} {nx : Bool} {A : Nat → Prop} {M : Mem} {α : Type} {r : α} {b : Nat} {yo : MethodName}
theorem pw_call (C : Cx cc maxL yo D ca b A p s m args meth c) (hR : Hp D ca nx A s M H locs) : ∀ U : State, U.heap = H → s.WarmedH U.vm → Pw D ca nx b H.size M U := by
  obtain ⟨-, -, -, -, -, -, hXe, hA, hAb, -⟩ := C
  intro U hU hW
  refine ⟨by rw [hU], Nat.le_trans (hAb _ (hA _ (Nat.le_refl _))) hR.2.1, fun q hq => hAb q (hR.1.2.2 q hq), by rw [hU]; exact hR.1.1, by rw [hU]; exact hR.1.2.1, by rw [hU]; exact hXe.warm hW (fun a h1 h2 => hR.2.2.1 a h1 (fun h => h2 (hAb a h)))⟩
variable {y : MethodName} {bytes : ByteArray} {maxL' mc ms n index : Nat} {ret : Option FieldType} {rm : Room} {Qc : Array Value → State → Outcome → State → Prop} {XC : String → State → State → Prop} {free : Addr → Prop} {As : List Value} {o : Nat}
theorem rn_cb (C : Cx cc maxL yo D ca b A p s m args meth c) (h1 : Cond.methodLink yo.cls index y ∈ aw) (h3 : Cond.initialized y.cls ∈ aw) (h4 : Cond.code y bytes maxL' ret ∈ aw) (hd : y.cls ≠ "java/lang/invoke/MethodHandle" ∧ y.cls ≠ "java/lang/invoke/VarHandle" ∧ (parseMethodDescriptor y.desc).map (fun d => d.parameters.length) = some n) (hRm : rm.cells = mc ∧ rm.slots = ms ∧ rm.frames + 1 ≤ R.frames ∧ 8 + (maxL' + 11) + rm.locals ≤ R.locals) :
    CallB R s args yo.cls index y bytes maxL' ret (Cond.code y bytes maxL' ret :: aw) rm mc ms n := by
  obtain ⟨-, -, -, hts, -⟩ := C
  exact callB_of n hts (gi_aw h4) rfl hRm.1 hRm.2.1 (hts _ h3) (hts _ h1) hd hRm.2.2
/-- a static method of the same class -/
theorem rn_S (C : Cx cc maxL yo D ca b A p s m args meth c) (hR : Hp D ca nx A s M H locs) (hM : Met l y (Cond.code y bytes maxL' ret :: aw) rm (va_Pc As (Pw D ca nx b H.size M)) Qc mc ms free) (h1 : Cond.methodLink yo.cls index y ∈ aw) (h2 : Cond.static y ∈ aw) (h3 : Cond.initialized y.cls ∈ aw) (h4 : Cond.code y bytes maxL' ret ∈ aw)
    (hd : y.cls ≠ "java/lang/invoke/MethodHandle" ∧ y.cls ≠ "java/lang/invoke/VarHandle" ∧ (parseMethodDescriptor y.desc).map (fun d => d.parameters.length) = some n) (hRm : rm.cells = mc ∧ rm.slots = ms ∧ rm.frames + 1 ≤ R.frames ∧ 8 + (maxL' + 11) + rm.locals ≤ R.locals)
    (hn : As.length = n) (hl : ls.size = maxL) (hst : st0 = As.reverse ++ rest) (hW : (rest.map fun v => v.category).sum ≤ 8) (hdg : decode cc pc = .ok (.invokestatic index, 3)) (hf : cells + mc ≤ R.cells ∧ slots + ms ≤ R.slots) :
    va_Run p l e R s m args below meth c H locs cells slots mc ms (F0 m pc ls st0) rest (Qc As.toArray) free := by
  have C0 := C
  obtain ⟨hx, hb, hml, hts, hown, -⟩ := C
  exact va_runS ⟨hx, hb, hml, hown, hts⟩ hM ⟨rn_cb C0 h1 h3 h4 hd hRm, hts _ h2⟩ ⟨Pw_blind, fun U hU hW9 => ⟨rfl, pw_call C0 hR U hU hW9⟩⟩ rfl hn hl hst (lv_room hW) hdg hf
/-- a static method of a nest mate -/
theorem rn_SN {host : String} (C : Cx cc maxL yo D ca b A p s m args meth c) (hR : Hp D ca nx A s M H locs) (hM : Met l y (Cond.code y bytes maxL' ret :: aw) rm (va_Pc As (Pw D ca nx b H.size M)) Qc mc ms free) (h1 : Cond.methodLinkNest yo.cls index y host ∈ nwL) (h2 : Cond.static y ∈ aw) (h3 : Cond.initialized y.cls ∈ aw) (h4 : Cond.code y bytes maxL' ret ∈ aw)
    (hd : y.cls ≠ "java/lang/invoke/MethodHandle" ∧ y.cls ≠ "java/lang/invoke/VarHandle" ∧ (parseMethodDescriptor y.desc).map (fun d => d.parameters.length) = some n) (hRm : rm.cells = mc ∧ rm.slots = ms ∧ rm.frames + 1 ≤ R.frames ∧ 8 + (maxL' + 11) + rm.locals ≤ R.locals)
    (hn : As.length = n) (hl : ls.size = maxL) (hst : st0 = As.reverse ++ rest) (hW : (rest.map fun v => v.category).sum ≤ 8) (hdg : decode cc pc = .ok (.invokestatic index, 3)) (hf : cells + mc ≤ R.cells ∧ slots + ms ≤ R.slots) :
    va_Run p l e R s m args below meth c H locs cells slots mc ms (F0 m pc ls st0) rest (Qc As.toArray) free := by
  have C0 := C
  obtain ⟨hx, hb, hml, hts, hown, -, hXe, -⟩ := C
  exact va_runSN ⟨hx, hb, hml, hown, hts⟩ hM ⟨va_cnB n hts (gi_aw h4) rfl hRm.1 hRm.2.1 (hXe.2.1 _ h1) (hts _ h3) hd hRm.2.2, hts _ h2, trivial⟩ ⟨Pw_blind, fun U hU hW9 => ⟨rfl, pw_call C0 hR U hU hW9⟩⟩ rfl hn hl hst (lv_room hW) hdg hf
theorem rg_rec {C : String} {T : u_T} {N κ : Nat} (hK : va_K D vwCl (tysL ca) s) (hR : Hp D ca nx A s M H locs) (hc : vwCl[κ]? = some (C, T, N)) (h9 : κ < 9) (hq : M.1 o = κ) : ∃ cell : Cell, H[o]? = some cell ∧ cell.vm.isStatics = false ∧ s.vm.findClass C = some cell.cls := by
  obtain ⟨cell, q1, q2, q3, -⟩ := hR.1.1.obj hq hc h9
  exact ⟨cell, q1, by rw [q3]; rfl, by rw [q2]; exact (hK.1 κ _ hc).2.1⟩
/-- a method of an object -/
theorem rn_V {T : u_T} {N κ : Nat} (C : Cx cc maxL yo D ca b A p s m args meth c) (hR : Hp D ca nx A s M H locs) (hc : vwCl[κ]? = some (y.cls, T, N)) (h9 : κ < 9) (hq : M.1 o = κ) (hM : Met l y (Cond.code y bytes maxL' ret :: aw) rm (va_Pc (.ref o :: As) (Pw D ca nx b H.size M)) Qc mc ms free) (h1 : Cond.methodLink yo.cls index y ∈ aw) (h2 : Cond.instanceMethod y ∈ aw) (h5 : Cond.selects y.cls y y ∈ aw) (h3 : Cond.initialized y.cls ∈ aw) (h4 : Cond.code y bytes maxL' ret ∈ aw)
    (hd : y.cls ≠ "java/lang/invoke/MethodHandle" ∧ y.cls ≠ "java/lang/invoke/VarHandle" ∧ (parseMethodDescriptor y.desc).map (fun d => d.parameters.length) = some n) (hRm : rm.cells = mc ∧ rm.slots = ms ∧ rm.frames + 1 ≤ R.frames ∧ 8 + (maxL' + 11) + rm.locals ≤ R.locals)
    (hn : As.length = n) (hl : ls.size = maxL) (hst : st0 = As.reverse ++ .ref o :: rest) (hW : (rest.map fun v => v.category).sum ≤ 8) (hdg : decode cc pc = .ok (.invokevirtual index, 3)) (hf : cells + mc ≤ R.cells ∧ slots + ms ≤ R.slots) :
    va_Run p l e R s m args below meth c H locs cells slots mc ms (F0 m pc ls st0) rest (Qc (Value.ref o :: As).toArray) free := by
  have C0 := C
  obtain ⟨hx, hb, hml, hts, hown, -, hXe, -⟩ := C
  exact va_runV ⟨hx, hb, hml, hown, hts⟩ hM ⟨rn_cb C0 h1 h3 h4 hd hRm, hts _ h2, hts _ h5⟩ ⟨Pw_blind, rg_rec hXe.1 hR hc h9 hq, fun U hU hW9 => ⟨rfl, pw_call C0 hR U hU hW9⟩⟩ rfl hn hl hst (lv_room hW) hdg hf
/-- a nest mate's constructor -/
theorem rn_IN {host : String} (C : Cx cc maxL yo D ca b A p s m args meth c) (hR : Hp D ca nx A s M H locs) (hM : Met l y (Cond.code y bytes maxL' none :: aw) rm (va_Pc (.ref o :: As) (Pw D ca nx b H.size M)) Qc mc ms free) (h1 : Cond.methodLinkNest yo.cls index y host ∈ nwL) (h2 : Cond.instanceMethod y ∈ aw) (h3 : Cond.initialized y.cls ∈ aw) (h4 : Cond.code y bytes maxL' none ∈ aw) (hy1 : y.name = "<init>")
    (hd : y.cls ≠ "java/lang/invoke/MethodHandle" ∧ y.cls ≠ "java/lang/invoke/VarHandle" ∧ (parseMethodDescriptor y.desc).map (fun d => d.parameters.length) = some n) (hRm : rm.cells = mc ∧ rm.slots = ms ∧ rm.frames + 1 ≤ R.frames ∧ 8 + (maxL' + 11) + rm.locals ≤ R.locals)
    (hn : As.length = n) (hl : ls.size = maxL) (hst : st0 = As.reverse ++ .ref o :: rest) (hW : (rest.map fun v => v.category).sum ≤ 8) (hdg : decode cc pc = .ok (.invokespecial index, 3)) (hf : cells + mc ≤ R.cells ∧ slots + ms ≤ R.slots) :
    va_Run p l e R s m args below meth c H locs cells slots mc ms (F0 m pc ls st0) rest (Qc (Value.ref o :: As).toArray) free := by
  have C0 := C
  obtain ⟨hx, hb, hml, hts, hown, -, hXe, -⟩ := C
  exact va_runIN ⟨hx, hb, hml, hown, hts⟩ hM ⟨va_cnB n hts (gi_aw h4) rfl hRm.1 hRm.2.1 (hXe.2.1 _ h1) (hts _ h3) hd hRm.2.2, hy1, hts _ h2⟩ ⟨Pw_blind, fun U hU hW9 => ⟨rfl, pw_call C0 hR U hU hW9⟩⟩ rfl hn hl hst (lv_room hW) hdg hf
/-- a constructor of an open class -/
theorem rn_Ic (C : Cx cc maxL yo D ca b A p s m args meth c) (hR : Hp D ca nx A s M H locs) (hM : Met l y (Cond.code y bytes maxL' none :: aw) rm (va_Pc (.ref o :: As) (Pw D ca nx b H.size M)) Qc mc ms free) (h1 : Cond.methodLink yo.cls index y ∈ aw) (h2 : Cond.instanceMethod y ∈ aw) (h3 : Cond.initialized y.cls ∈ aw) (h4 : Cond.code y bytes maxL' none ∈ aw) (hy1 : y.name = "<init>")
    (hd : y.cls ≠ "java/lang/invoke/MethodHandle" ∧ y.cls ≠ "java/lang/invoke/VarHandle" ∧ (parseMethodDescriptor y.desc).map (fun d => d.parameters.length) = some n) (hRm : rm.cells = mc ∧ rm.slots = ms ∧ rm.frames + 1 ≤ R.frames ∧ 8 + (maxL' + 11) + rm.locals ≤ R.locals)
    (hn : As.length = n) (hl : ls.size = maxL) (hst : st0 = As.reverse ++ .ref o :: rest) (hW : (rest.map fun v => v.category).sum ≤ 8) (hdg : decode cc pc = .ok (.invokespecial index, 3)) (hf : cells + mc ≤ R.cells ∧ slots + ms ≤ R.slots) :
    va_Run p l e R s m args below meth c H locs cells slots mc ms (F0 m pc ls st0) rest (Qc (Value.ref o :: As).toArray) free := by
  have C0 := C
  obtain ⟨hx, hb, hml, hts, hown, -, hXe, -⟩ := C
  exact va_runI ⟨hx, hb, hml, hown, hts⟩ hM ⟨rn_cb C0 h1 h3 h4 hd hRm, hy1, hts _ h2⟩ ⟨Pw_blind, fun U hU hW9 => ⟨rfl, pw_call C0 hR U hU hW9⟩⟩ rfl hn hl hst (lv_room hW) hdg hf
theorem fA_A (hR : Hp D ca nx A s M H locs) (hA : ∀ q, s.heap.size ≤ q → A q) : ∀ q, fA M H.size q → A q := fun q h => h.elim (hR.1.2.2 q) (fun h => hA q (Nat.le_trans hR.2.1 h))
theorem Wr.up {A1 : Nat → Prop} {M1 : Mem} {H1 : Heap} (h : Wr D ca nx A1 M1 H1) (hA : ∀ q, A1 q → A q) : Wr D ca nx A M1 H1 := ⟨h.1, h.2.1, fun q hq => hA q (h.2.2 q hq)⟩
/-- a call goes on, by what comes back -/
theorem rg_I {a : Array Value} {fy : Option (Mem × Int32)} {F : Mem × Int32 → Option α} (hf : bd fy F = some r) (hR : Hp D ca nx A s M H locs) (hA : ∀ q, s.heap.size ≤ q → A q) (hr : ∀ z, fy = some z → va_Run p l e R s m args below meth c H locs cells slots mc ms (F0 m pc ls st0) rest (cvI D ca nx (fA M H.size) z a) (fA M H.size))
    (kk : ∀ (z : Mem × Int32) (H1 : Heap) (locs1 : List Loc), F z = some r → Hp D ca nx A s z.1 H1 locs1 → W p l e R s m args below meth c H1 locs1 (cells + mc) (slots + ms) Q (F0 m (pc + 3) ls (.int z.2 :: rest))) : W p l e R s m args below meth c H locs cells slots Q (F0 m pc ls st0) := by
  obtain ⟨z, hz, hf⟩ := bd_e hf
  have hAA := fA_A hR hA
  refine va_calli (hr z hz) hR.2 (fun q _ h => hAA q h) hAA (fun v u t H1 locs1 ht hvm hw hB hz1 hk1 hS => ?_)
  rw [ht] at hB
  rw [hw]
  exact kk z H1 locs1 hf ⟨hB.up hAA, hS⟩
theorem rg_L {a : Array Value} {fy : Option (Mem × Int64)} {F : Mem × Int64 → Option α} (hf : bd fy F = some r) (hR : Hp D ca nx A s M H locs) (hA : ∀ q, s.heap.size ≤ q → A q) (hr : ∀ z, fy = some z → va_Run p l e R s m args below meth c H locs cells slots mc ms (F0 m pc ls st0) rest (cvL D ca nx (fA M H.size) z a) (fA M H.size))
    (kk : ∀ (z : Mem × Int64) (H1 : Heap) (locs1 : List Loc), F z = some r → Hp D ca nx A s z.1 H1 locs1 → W p l e R s m args below meth c H1 locs1 (cells + mc) (slots + ms) Q (F0 m (pc + 3) ls (.long z.2 :: rest))) : W p l e R s m args below meth c H locs cells slots Q (F0 m pc ls st0) := by
  obtain ⟨z, hz, hf⟩ := bd_e hf
  have hAA := fA_A hR hA
  refine va_calll (hr z hz) hR.2 (fun q _ h => hAA q h) hAA (fun v u t H1 locs1 ht hvm hw hB hz1 hk1 hS => ?_)
  rw [ht] at hB
  rw [hw]
  exact kk z H1 locs1 hf ⟨hB.up hAA, hS⟩
theorem rg_V {a : Array Value} {fy : Option Mem} {F : Mem → Option α} (hf : bd fy F = some r) (hR : Hp D ca nx A s M H locs) (hA : ∀ q, s.heap.size ≤ q → A q) (hr : ∀ z, fy = some z → va_Run p l e R s m args below meth c H locs cells slots mc ms (F0 m pc ls st0) rest (cvV D ca nx (fA M H.size) z a) (fA M H.size))
    (kk : ∀ (z : Mem) (H1 : Heap) (locs1 : List Loc), F z = some r → Hp D ca nx A s z H1 locs1 → W p l e R s m args below meth c H1 locs1 (cells + mc) (slots + ms) Q (F0 m (pc + 3) ls rest)) : W p l e R s m args below meth c H locs cells slots Q (F0 m pc ls st0) := by
  obtain ⟨z, hz, hf⟩ := bd_e hf
  have hAA := fA_A hR hA
  refine va_callv (hr z hz) hR.2 (fun q _ h => hAA q h) hAA (fun u t H1 locs1 ht hvm hw hB hz1 hk1 hS => ?_)
  rw [ht] at hB
  exact kk z H1 locs1 hf ⟨hB.up hAA, hS⟩
/-- ends -/
theorem rg_iret (hx : p.tables.exec = Jvm.exec) (hb : c.code = cc) (hlocks : meth.locks = false) (hr : meth.sig.returnType = some .int) {v : Int32} {z : Mem × Int32} (hf : some (M, v) = some z) (hR : Hp D ca nx A s M H locs) (hdg : decode cc pc = .ok (.ireturn, 1)) :
    W p l e R s m args below meth c H locs cells slots (MQ below (cvI D ca nx A z) args s cells slots A) (F0 m pc ls [.int v]) := by
  cases hf
  exact W.iret (v := v) hx hb hr (fun t ht hW => ⟨⟨v, (), rfl, rfl, by show Wr _ _ _ _ _ t.heap; rw [ht]; exact hR.1⟩, hR.2.F ht⟩) hR.2.2.2 hdg
theorem rg_zret (hx : p.tables.exec = Jvm.exec) (hb : c.code = cc) (hlocks : meth.locks = false) (hr : meth.sig.returnType = some .boolean) {v : Int32} {z : Mem × Int32} (hf : gd (v = 0 ∨ v = 1) (some (M, v)) = some z) (hR : Hp D ca nx A s M H locs) (hdg : decode cc pc = .ok (.ireturn, 1)) :
    W p l e R s m args below meth c H locs cells slots (MQ below (cvI D ca nx A z) args s cells slots A) (F0 m pc ls [.int v]) := by
  obtain ⟨hv, hf⟩ := gd_e hf
  cases hf
  exact W.zret (v := v) hx hb hr (by rcases hv with rfl | rfl <;> rfl) (fun t ht hW => ⟨⟨v, (), rfl, rfl, by show Wr _ _ _ _ _ t.heap; rw [ht]; exact hR.1⟩, hR.2.F ht⟩) hR.2.2.2 hdg
theorem rg_lret (hx : p.tables.exec = Jvm.exec) (hb : c.code = cc) (hlocks : meth.locks = false) (hr : meth.sig.returnType = some .long) {v : Int64} {z : Mem × Int64} (hf : some (M, v) = some z) (hR : Hp D ca nx A s M H locs) (hdg : decode cc pc = .ok (.lreturn, 1)) :
    W p l e R s m args below meth c H locs cells slots (MQ below (cvL D ca nx A z) args s cells slots A) (F0 m pc ls [.long v]) := by
  cases hf
  exact W.lret (v := v) hx hb hr (fun t ht hW => ⟨⟨v, (), rfl, rfl, by show Wr _ _ _ _ _ t.heap; rw [ht]; exact hR.1⟩, hR.2.F ht⟩) hR.2.2.2 hdg
theorem rg_vret (hx : p.tables.exec = Jvm.exec) (hb : c.code = cc) (hlocks : meth.locks = false) (hr : meth.sig.returnType = none) {z : Mem} (hf : some M = some z) (hR : Hp D ca nx A s M H locs) (hdg : decode cc pc = .ok (.return_, 1)) :
    W p l e R s m args below meth c H locs cells slots (MQ below (cvV D ca nx A z) args s cells slots A) (F0 m pc ls []) := by
  cases hf
  exact W.vret hx hb hr (fun t ht hW => ⟨⟨(), rfl, trivial, by show Wr _ _ _ _ _ t.heap; rw [ht]; exact hR.1⟩, hR.2.F ht⟩) hR.2.2.2 hdg
end CALLS
end
section
/-! ===== THROWS, and calls of what throws (no traces kept) ===== -/
section XR
variable {p : Program} {l : Launch} {e : Env} {R : Room} {s : State} {m : MethodId} {args : Array Value} {below : List Frame} {meth : Method} {c : Code} {H : Heap} {locs : List Loc} {cells slots : Nat}
variable {cc : ByteArray} {pc maxL : Nat} {ls : Array Slot} {rest st0 : List Value} {D : va_G} {ca : Nat → ClassId} {A : Nat → Prop} {M : Mem} {b : Nat} {yo : MethodName}
variable {γ : Type} {r : Mem × (γ ⊕ Nat)} {Qc : Array Value → State → Outcome → State → Prop} {mcT msT mc ms : Nat} {a : Array Value}
theorem rg_xout {β : Type} {z : Mem × (β ⊕ Nat)} {k : Nat} {E : String} {ce : Cell} {q9 : Addr} {H1 : Heap} {locs1 : List Loc} (htab : ∀ x ∈ c.exceptionTable.toList, False) (hlocks : meth.locks = false) (he : E = exN k) (hr : r = (z.1, .inr k)) (hW : Wr D ca false A z.1 H1) (hS : va_S A s.heap H1 locs1) (hce : H1[q9]? = some ce) (hcv : ce.vm = .none) (hcl : s.vm.findClass E = some ce.cls) (hc : cells ≤ mcT) (hs : slots ≤ msT) :
    vx_W p l e R s m args below meth c H1 locs1 cells slots (vx_MQ below Qc (cxX D ca A r) args s mcT msT A) (F0 m pc ls rest) q9 := by
  refine vx_out (fun x hx => (htab x hx).elim) hlocks hce hcv hcl (fun t ht hvm => ?_) hS.2.2 hc hs
  subst hr
  exact ⟨(), trivial, ⟨⟨k, rfl, he⟩, by show Wr _ _ _ _ _ t.heap; rw [ht]; exact hW⟩, hS.F ht⟩
theorem rg_xI {fy : Option (Mem × (Int32 ⊕ Nat))} {F : Mem → Int32 → Option (Mem × (γ ⊕ Nat))} (hf : bx fy F = some r) (hR : Hp D ca false A s M H locs) (hA : ∀ q, s.heap.size ≤ q → A q) (htab : ∀ x ∈ c.exceptionTable.toList, False) (hlocks : meth.locks = false) (hc : cells + mc ≤ mcT) (hs : slots + ms ≤ msT)
    (hr : ∀ z, fy = some z → vx_Run p l e R s m args below meth c H locs cells slots mc ms (F0 m pc ls st0) rest (cxI D ca (fA M H.size) z a) (cxX D ca (fA M H.size) z) (fA M H.size))
    (kk : ∀ (v : Int32) (M1 : Mem) (H1 : Heap) (locs1 : List Loc), F M1 v = some r → Hp D ca false A s M1 H1 locs1 → W p l e R s m args below meth c H1 locs1 (cells + mc) (slots + ms) (vx_MQ below Qc (cxX D ca A r) args s mcT msT A) (F0 m (pc + 3) ls (.int v :: rest))) : W p l e R s m args below meth c H locs cells slots (vx_MQ below Qc (cxX D ca A r) args s mcT msT A) (F0 m pc ls st0) := by
  cases fy with
  | none => cases hf
  | some z =>
    have hAA := fA_A hR hA
    refine vx_calli (hr z rfl) hR.2 (fun q _ h => hAA q h) hAA (fun q _ h => hAA q h) (fun E ce q9 u t H1 locs1 ht hvm hp hB hz hk hS hce hcv hcl => ?_) (fun v u t H1 locs1 ht hvm hw hB hz1 hk1 hS => ?_)
    · obtain ⟨⟨k, hk2, he⟩, hB⟩ := hB
      rw [ht] at hB
      obtain ⟨z1, z2⟩ := z
      subst hk2
      exact rg_xout (z := (z1, (.inr k : Int32 ⊕ Nat))) htab hlocks he (Option.some.inj hf).symm (hB.up hAA) hS hce hcv hcl hc hs
    · rw [ht] at hB
      obtain ⟨z1, z2⟩ := z
      subst hw
      exact kk v z1 H1 locs1 hf ⟨hB.up hAA, hS⟩
theorem rg_xV {fy : Option (Mem × (Unit ⊕ Nat))} {F : Mem → Unit → Option (Mem × (γ ⊕ Nat))} (hf : bx fy F = some r) (hR : Hp D ca false A s M H locs) (hA : ∀ q, s.heap.size ≤ q → A q) (htab : ∀ x ∈ c.exceptionTable.toList, False) (hlocks : meth.locks = false) (hc : cells + mc ≤ mcT) (hs : slots + ms ≤ msT)
    (hr : ∀ z, fy = some z → vx_Run p l e R s m args below meth c H locs cells slots mc ms (F0 m pc ls st0) rest (cxV D ca (fA M H.size) z a) (cxX D ca (fA M H.size) z) (fA M H.size))
    (kk : ∀ (M1 : Mem) (H1 : Heap) (locs1 : List Loc), F M1 () = some r → Hp D ca false A s M1 H1 locs1 → W p l e R s m args below meth c H1 locs1 (cells + mc) (slots + ms) (vx_MQ below Qc (cxX D ca A r) args s mcT msT A) (F0 m (pc + 3) ls rest)) : W p l e R s m args below meth c H locs cells slots (vx_MQ below Qc (cxX D ca A r) args s mcT msT A) (F0 m pc ls st0) := by
  cases fy with
  | none => cases hf
  | some z =>
    have hAA := fA_A hR hA
    refine vx_callv (hr z rfl) hR.2 (fun q _ h => hAA q h) hAA (fun q _ h => hAA q h) (fun E ce q9 u t H1 locs1 ht hvm hp hB hz hk hS hce hcv hcl => ?_) (fun u t H1 locs1 ht hvm hw hB hz1 hk1 hS => ?_)
    · obtain ⟨⟨k, hk2, he⟩, hB⟩ := hB
      rw [ht] at hB
      obtain ⟨z1, z2⟩ := z
      subst hk2
      exact rg_xout (z := (z1, (.inr k : Unit ⊕ Nat))) htab hlocks he (Option.some.inj hf).symm (hB.up hAA) hS hce hcv hcl hc hs
    · rw [ht] at hB
      obtain ⟨z1, z2⟩ := z
      subst hw
      exact kk z1 H1 locs1 hf ⟨hB.up hAA, hS⟩
variable {y : MethodName} {bytes : ByteArray} {maxL' n index : Nat} {ret : Option FieldType} {rm : Room} {Qd : Array Value → State → Outcome → State → Prop} {XC : String → State → State → Prop} {free : Addr → Prop} {As : List Value} {o : Nat}
theorem xn_S (C : Cx cc maxL yo D ca b A p s m args meth c) (hR : Hp D ca false A s M H locs) (hM : vx_Met l y (Cond.code y bytes maxL' ret :: aw) rm (va_Pc As (Pw D ca false b H.size M)) Qd XC mc ms free) (h1 : Cond.methodLink yo.cls index y ∈ aw) (h2 : Cond.static y ∈ aw) (h3 : Cond.initialized y.cls ∈ aw) (h4 : Cond.code y bytes maxL' ret ∈ aw)
    (hd : y.cls ≠ "java/lang/invoke/MethodHandle" ∧ y.cls ≠ "java/lang/invoke/VarHandle" ∧ (parseMethodDescriptor y.desc).map (fun d => d.parameters.length) = some n) (hRm : rm.cells = mc ∧ rm.slots = ms ∧ rm.frames + 1 ≤ R.frames ∧ 8 + (maxL' + 11) + rm.locals ≤ R.locals)
    (hn : As.length = n) (hl : ls.size = maxL) (hst : st0 = As.reverse ++ rest) (hW : (rest.map fun v => v.category).sum ≤ 8) (hdg : decode cc pc = .ok (.invokestatic index, 3)) (hf : cells + mc ≤ R.cells ∧ slots + ms ≤ R.slots) :
    vx_Run p l e R s m args below meth c H locs cells slots mc ms (F0 m pc ls st0) rest (Qd As.toArray) XC free := by
  have C0 := C
  obtain ⟨hx, hb, hml, hts, hown, -⟩ := C
  exact vx_runS ⟨hx, hb, hml, hown, hts⟩ hM ⟨rn_cb C0 h1 h3 h4 hd hRm, hts _ h2⟩ ⟨Pw_blind, fun U hU hW9 => ⟨rfl, pw_call C0 hR U hU hW9⟩⟩ rfl hn hl hst (lv_room hW) hdg hf
theorem xn_V {T : u_T} {N κ : Nat} (C : Cx cc maxL yo D ca b A p s m args meth c) (hR : Hp D ca false A s M H locs) (hc : vwCl[κ]? = some (y.cls, T, N)) (h9 : κ < 9) (hq : M.1 o = κ) (hM : vx_Met l y (Cond.code y bytes maxL' ret :: aw) rm (va_Pc (.ref o :: As) (Pw D ca false b H.size M)) Qd XC mc ms free) (h1 : Cond.methodLink yo.cls index y ∈ aw) (h2 : Cond.instanceMethod y ∈ aw) (h5 : Cond.selects y.cls y y ∈ aw) (h3 : Cond.initialized y.cls ∈ aw) (h4 : Cond.code y bytes maxL' ret ∈ aw)
    (hd : y.cls ≠ "java/lang/invoke/MethodHandle" ∧ y.cls ≠ "java/lang/invoke/VarHandle" ∧ (parseMethodDescriptor y.desc).map (fun d => d.parameters.length) = some n) (hRm : rm.cells = mc ∧ rm.slots = ms ∧ rm.frames + 1 ≤ R.frames ∧ 8 + (maxL' + 11) + rm.locals ≤ R.locals)
    (hn : As.length = n) (hl : ls.size = maxL) (hst : st0 = As.reverse ++ .ref o :: rest) (hW : (rest.map fun v => v.category).sum ≤ 8) (hdg : decode cc pc = .ok (.invokevirtual index, 3)) (hf : cells + mc ≤ R.cells ∧ slots + ms ≤ R.slots) :
    vx_Run p l e R s m args below meth c H locs cells slots mc ms (F0 m pc ls st0) rest (Qd (Value.ref o :: As).toArray) XC free := by
  have C0 := C
  obtain ⟨hx, hb, hml, hts, hown, -, hXe, -⟩ := C
  exact vx_runV ⟨hx, hb, hml, hown, hts⟩ hM ⟨rn_cb C0 h1 h3 h4 hd hRm, hts _ h2, hts _ h5⟩ ⟨Pw_blind, rg_rec hXe.1 hR hc h9 hq, fun U hU hW9 => ⟨rfl, pw_call C0 hR U hU hW9⟩⟩ rfl hn hl hst (lv_room hW) hdg hf
/-- ends of a method that may throw -/
theorem rg_xiret (hx : p.tables.exec = Jvm.exec) (hb : c.code = cc) (hlocks : meth.locks = false) (hr : meth.sig.returnType = some .int) {v : Int32} {z : Mem × (Int32 ⊕ Nat)} (hf : some (M, .inl v) = some z) (hR : Hp D ca false A s M H locs) (hc : cells ≤ mcT) (hs : slots ≤ msT) (hdg : decode cc pc = .ok (.ireturn, 1)) :
    W p l e R s m args below meth c H locs cells slots (vx_MQ below (cxI D ca A z) (cxX D ca A z) args s mcT msT A) (F0 m pc ls [.int v]) := by
  cases hf
  exact W.widen hc hs (vx_ret (W.iret (v := v) hx hb hr (fun t ht hW => ⟨⟨v, (), rfl, rfl, by show Wr _ _ _ _ _ t.heap; rw [ht]; exact hR.1⟩, hR.2.F ht⟩) hR.2.2.2 hdg))
theorem rg_xzret (hx : p.tables.exec = Jvm.exec) (hb : c.code = cc) (hlocks : meth.locks = false) (hr : meth.sig.returnType = some .boolean) {v : Int32} {z : Mem × (Int32 ⊕ Nat)} (hf : gd (v = 0 ∨ v = 1) (some (M, .inl v)) = some z) (hR : Hp D ca false A s M H locs) (hc : cells ≤ mcT) (hs : slots ≤ msT) (hdg : decode cc pc = .ok (.ireturn, 1)) :
    W p l e R s m args below meth c H locs cells slots (vx_MQ below (cxI D ca A z) (cxX D ca A z) args s mcT msT A) (F0 m pc ls [.int v]) := by
  obtain ⟨hv, hf⟩ := gd_e hf
  cases hf
  exact W.widen hc hs (vx_ret (W.zret (v := v) hx hb hr (by rcases hv with rfl | rfl <;> rfl) (fun t ht hW => ⟨⟨v, (), rfl, rfl, by show Wr _ _ _ _ _ t.heap; rw [ht]; exact hR.1⟩, hR.2.F ht⟩) hR.2.2.2 hdg))
theorem rg_xlret (hx : p.tables.exec = Jvm.exec) (hb : c.code = cc) (hlocks : meth.locks = false) (hr : meth.sig.returnType = some .long) {v : Int64} {z : Mem × (Int64 ⊕ Nat)} (hf : some (M, .inl v) = some z) (hR : Hp D ca false A s M H locs) (hc : cells ≤ mcT) (hs : slots ≤ msT) (hdg : decode cc pc = .ok (.lreturn, 1)) :
    W p l e R s m args below meth c H locs cells slots (vx_MQ below (cxL D ca A z) (cxX D ca A z) args s mcT msT A) (F0 m pc ls [.long v]) := by
  cases hf
  exact W.widen hc hs (vx_ret (W.lret (v := v) hx hb hr (fun t ht hW => ⟨⟨v, (), rfl, rfl, by show Wr _ _ _ _ _ t.heap; rw [ht]; exact hR.1⟩, hR.2.F ht⟩) hR.2.2.2 hdg))
theorem rg_xvret (hx : p.tables.exec = Jvm.exec) (hb : c.code = cc) (hlocks : meth.locks = false) (hr : meth.sig.returnType = none) {z : Mem × (Unit ⊕ Nat)} (hf : some (M, .inl ()) = some z) (hR : Hp D ca false A s M H locs) (hc : cells ≤ mcT) (hs : slots ≤ msT) (hdg : decode cc pc = .ok (.return_, 1)) :
    W p l e R s m args below meth c H locs cells slots (vx_MQ below (cxV D ca A z) (cxX D ca A z) args s mcT msT A) (F0 m pc ls []) := by
  cases hf
  exact W.widen hc hs (vx_ret (W.vret hx hb hr (fun t ht hW => ⟨⟨(), rfl, rfl, by show Wr _ _ _ _ _ t.heap; rw [ht]; exact hR.1⟩, hR.2.F ht⟩) hR.2.2.2 hdg))
def exC : Nat → Nat := fun k => match k with
  | 0 => 179
  | 1 => 62
  | _ => 271
abbrev exS : List String := ["java/lang/RuntimeException", "java/lang/Exception"]
theorem at_ok : ∀ k, k < 3 → (vx_atS "RingHerd" (exC k) (exN k) exS).all (fun w => decide (w ∈ aw) || decide (w ∈ nwL)) = true := by decide +kernel
theorem at_ot : ∀ k, k < 3 → (vx_atS "RingHerd" (exC k) (exN k) exS).all vx_ot = true := by decide +kernel
theorem ex_fit : ∀ k, k < 3 → Bundle.fit (exN k) = true := by decide +kernel
theorem ex_fitS : ∀ n ∈ exS, Bundle.fit n = true := by decide +kernel
theorem ex_ini : ∀ k, k < 3 → Cond.initialized (exN k) ∈ aw := by decide +kernel
theorem at_ws {k : Nat} (hk : k < 3) (hts : ∀ w ∈ aw, w.before args s = true) (hnw : ∀ w ∈ nwL, va_Nw w s) : ∀ w ∈ vx_atS "RingHerd" (exC k) (exN k) exS, w.before args s = true := by
  intro w hw
  have h := List.all_eq_true.mp (at_ok k hk) w hw
  rw [Bool.or_eq_true] at h
  rcases h with h | h
  · exact hts w (of_decide_eq_true h)
  · have h2 := of_decide_eq_true h
    have h3 := nwL_ok w h2
    refine va_Nw.use ?_ (hnw w h2)
    cases w <;> first | rfl | (exact absurd h3 (by simp [isNW]))
theorem rg_thr (k : Nat) (hk3 : k < 3) {ik is : Nat} {text : String} (C : Cx cc maxL yo D ca b A p s m args meth c) (htab : ∀ x ∈ c.exceptionTable.toList, False) (hlt : l.stackTraces = false) (hls : ls.size = maxL) (hyo : yo.cls = "RingHerd") (hik : Cond.classLink "RingHerd" ik (exN k) ∈ aw) (hst : (is, text) ∈ stL) (hf : some (M, .inr k) = some r) (hR : Hp D ca false A s M H locs)
    (d0 : decode cc pc = .ok (.new ik, 3)) (d3 : decode cc (pc + 3) = .ok (.dup, 1)) (d4 : decode cc (pc + 4) = .ok (.ldc is, 2)) (d6 : decode cc (pc + 6) = .ok (.invokespecial (exC k), 3)) (d9 : decode cc (pc + 9) = .ok (.athrow, 1))
    (hRf : 6 ≤ R.frames) (hRl : (rest.map fun v => v.category).sum + 82 ≤ R.locals) (hRc : cells + 1 ≤ R.cells) (hRs : slots + 6 ≤ R.slots) (hc : cells + 1 ≤ mcT) (hs : slots + 6 ≤ msT) :
    W p l e R s m args below meth c H locs cells slots (vx_MQ below Qc (cxX D ca A r) args s mcT msT A) (F0 m pc ls rest) := by
  cases hf
  obtain ⟨hx, hb, hml, hts, hown, hlocks, hXe, hA, hAb, -⟩ := C
  obtain ⟨sa, hstr⟩ := hXe.2.2.2.1 _ hst
  have hats := at_ws hk3 hts hXe.2.1
  rw [hyo] at hown
  refine vx_throwS (A := A) (own := "RingHerd") (cls := exN k) (names := exS) hx hb hlt hown (ex_fit k hk3) ex_fitS (hts _ hik) (hts _ (ex_ini k hk3)) hstr hats ?_ (hXe.2.2.2.2.2.1.narrow hAb) (hXe.2.2.2.2.2.2.narrow hAb) hR.2 (hls.trans hml.symm) d0 d3 d4 d6 d9 (fun x hx => (htab x hx).elim) hRf (by show _ + 82 ≤ _; exact hRl) hRc hRs hlocks (fun t hvm h1 h2 => ?_) hR.2.2.2 hc hs
  · intro w hw
    rcases List.mem_cons.mp hw with e | hw
    · subst e; rfl
    · rcases List.mem_cons.mp hw with e | hw
      · subst e; rfl
      · exact List.all_eq_true.mp (at_ot k hk3) w hw
  · exact ⟨(), trivial, ⟨⟨k, rfl, rfl⟩, hR.1.1.kept (fun q hq => h2 q (hR.1.1.lt hq)), fun h => (by cases h), hR.1.2.2⟩, Nat.le_trans hR.2.1 h1, fun q hq hnq => (h2 q (Nat.lt_of_lt_of_le hq hR.2.1)).trans (hR.2.2.1 q hq hnq)⟩
theorem rg_thrW (k : Nat) (hk3 : k < 3) {ik is : Nat} {text : String} (C : Cx cc maxL yo D ca b A p s m args meth c) (htab : ∀ x ∈ c.exceptionTable.toList, False) (hlt : l.stackTraces = false) (hls : ls.size = maxL) (hyo : yo.cls = "RingHerd") (hik : Cond.classLink "RingHerd" ik (exN k) ∈ aw) (hst : (is, text) ∈ stL) (hf : some (M, .inr k) = some r) (hR : Hp D ca false A s M H locs)
    (d0 : decode cc pc = .ok (.new ik, 3)) (d3 : decode cc (pc + 3) = .ok (.dup, 1)) (d4 : decode cc (pc + 4) = .ok (.ldc_w is, 3)) (d7 : decode cc (pc + 7) = .ok (.invokespecial (exC k), 3)) (d10 : decode cc (pc + 10) = .ok (.athrow, 1))
    (hRf : 6 ≤ R.frames) (hRl : (rest.map fun v => v.category).sum + 82 ≤ R.locals) (hRc : cells + 1 ≤ R.cells) (hRs : slots + 6 ≤ R.slots) (hc : cells + 1 ≤ mcT) (hs : slots + 6 ≤ msT) :
    W p l e R s m args below meth c H locs cells slots (vx_MQ below Qc (cxX D ca A r) args s mcT msT A) (F0 m pc ls rest) := by
  cases hf
  obtain ⟨hx, hb, hml, hts, hown, hlocks, hXe, hA, hAb, -⟩ := C
  obtain ⟨sa, hstr⟩ := hXe.2.2.2.1 _ hst
  have hats := at_ws hk3 hts hXe.2.1
  rw [hyo] at hown
  refine vx_throwSW (A := A) (own := "RingHerd") (cls := exN k) (names := exS) hx hb hlt hown (ex_fit k hk3) ex_fitS (hts _ hik) (hts _ (ex_ini k hk3)) hstr hats ?_ (hXe.2.2.2.2.2.1.narrow hAb) (hXe.2.2.2.2.2.2.narrow hAb) hR.2 (hls.trans hml.symm) d0 d3 d4 d7 d10 (fun x hx => (htab x hx).elim) hRf (by show _ + 82 ≤ _; exact hRl) hRc hRs hlocks (fun t hvm h1 h2 => ?_) hR.2.2.2 hc hs
  · intro w hw
    rcases List.mem_cons.mp hw with e | hw
    · subst e; rfl
    · rcases List.mem_cons.mp hw with e | hw
      · subst e; rfl
      · exact List.all_eq_true.mp (at_ot k hk3) w hw
  · exact ⟨(), trivial, ⟨⟨k, rfl, rfl⟩, hR.1.1.kept (fun q hq => h2 q (hR.1.1.lt hq)), fun h => (by cases h), hR.1.2.2⟩, Nat.le_trans hR.2.1 h1, fun q hq hnq => (h2 q (Nat.lt_of_lt_of_le hq hR.2.1)).trans (hR.2.2.1 q hq hnq)⟩
end XR
/-! ===== WHAT IS MADE: objects and arrays, in constructors ===== -/
def dv_ (κ j : Nat) : Value := if fty κ j = 0 then .int 0 else if fty κ j = 1 then .long 0 else .null
theorem df_0 : ∀ j, j < 4 → defaultValue (tyX0 j) = dv_ 0 j := by
  intro j hj
  rcases (show j = 0 ∨ j = 1 ∨ j = 2 ∨ j = 3 by omega) with rfl | rfl | rfl | rfl <;> rfl
theorem in_0 : ∀ w ∈ u_ws RX0 TX0 4, w ∈ aw := by decide +kernel
theorem df_1 : ∀ j, j < 2 → defaultValue (tyX1 j) = dv_ 1 j := by
  intro j hj
  rcases (show j = 0 ∨ j = 1 by omega) with rfl | rfl <;> rfl
theorem in_1 : ∀ w ∈ u_ws RX1 TX1 2, w ∈ aw := by decide +kernel
theorem df_2 : ∀ j, j < 7 → defaultValue (tyX2 j) = dv_ 2 j := by
  intro j hj
  rcases (show j = 0 ∨ j = 1 ∨ j = 2 ∨ j = 3 ∨ j = 4 ∨ j = 5 ∨ j = 6 by omega) with rfl | rfl | rfl | rfl | rfl | rfl | rfl <;> rfl
theorem in_2 : ∀ w ∈ u_ws RX2 TX2 7, w ∈ aw := by decide +kernel
theorem df_3 : ∀ j, j < 7 → defaultValue (tyX3 j) = dv_ 3 j := by
  intro j hj
  rcases (show j = 0 ∨ j = 1 ∨ j = 2 ∨ j = 3 ∨ j = 4 ∨ j = 5 ∨ j = 6 by omega) with rfl | rfl | rfl | rfl | rfl | rfl | rfl <;> rfl
theorem in_3 : ∀ w ∈ u_ws RX3 TX3 7, w ∈ aw := by decide +kernel
theorem df_4 : ∀ j, j < 13 → defaultValue (tyX4 j) = dv_ 4 j := by
  intro j hj
  rcases (show j = 0 ∨ j = 1 ∨ j = 2 ∨ j = 3 ∨ j = 4 ∨ j = 5 ∨ j = 6 ∨ j = 7 ∨ j = 8 ∨ j = 9 ∨ j = 10 ∨ j = 11 ∨ j = 12 by omega) with rfl | rfl | rfl | rfl | rfl | rfl | rfl | rfl | rfl | rfl | rfl | rfl | rfl <;> rfl
theorem in_4 : ∀ w ∈ u_ws RX4 TX4 13, w ∈ aw := by decide +kernel
theorem df_5 : ∀ j, j < 3 → defaultValue (tyX5 j) = dv_ 5 j := by
  intro j hj
  rcases (show j = 0 ∨ j = 1 ∨ j = 2 by omega) with rfl | rfl | rfl <;> rfl
theorem in_5 : ∀ w ∈ u_ws RX5 TX5 3, w ∈ aw := by decide +kernel
theorem df_6 : ∀ j, j < 1 → defaultValue (tyX6 j) = dv_ 6 j := by
  intro j hj
  rcases (show j = 0 by omega) with rfl <;> rfl
theorem in_6 : ∀ w ∈ u_ws RX6 TX6 1, w ∈ aw := by decide +kernel
theorem df_7 : ∀ j, j < 11 → defaultValue (tyX7 j) = dv_ 7 j := by
  intro j hj
  rcases (show j = 0 ∨ j = 1 ∨ j = 2 ∨ j = 3 ∨ j = 4 ∨ j = 5 ∨ j = 6 ∨ j = 7 ∨ j = 8 ∨ j = 9 ∨ j = 10 by omega) with rfl | rfl | rfl | rfl | rfl | rfl | rfl | rfl | rfl | rfl | rfl <;> rfl
theorem in_7 : ∀ w ∈ u_ws RX7 TX7 11, w ∈ aw := by decide +kernel
theorem ov_n {M : Mem} {κ n : Nat} (j : Nat) : ov (ms_n M κ n) κ (mm_x M) j = dv_ κ j := by
  simp [ov, dv_, ms_n, zr2, mm_i, mm_l, mm_r, mm_x, va_rf]
theorem Rg.new {D : va_G} {ca : Nat → ClassId} {M : Mem} {H H1 : Heap} {κ n : Nat} (h : Rg D ca M H) (hx : mm_x M = H.size) (o1 : ∀ q, q < H.size → H1[q]? = H[q]?) (hc : cOk D ca (ms_n M κ n) (mm_x M) H1) : Rg D ca (ms_n M κ n) H1 := by
  intro q
  by_cases hq : q = mm_x M
  · rw [hq]; exact hc
  · refine (h q).kept (fun hk => o1 q (h.lt hk)) (va_up_ne _ _ hq) (va_up_ne _ _ hq) (fun k => ?_) (fun k => ?_) (fun k => ?_)
    · have hq' : ¬ q = M.2.2.2.2.2 := hq
      simp [ms_n, zr2, mm_i, hq']
    · have hq' : ¬ q = M.2.2.2.2.2 := hq
      simp [ms_n, zr2, mm_l, hq']
    · have hq' : ¬ q = M.2.2.2.2.2 := hq
      simp [ms_n, zr2, mm_r, hq']
section MK
variable {p : Program} {l : Launch} {e : Env} {R : Room} {s : State} {m : MethodId} {args : Array Value} {below : List Frame} {meth : Method} {c : Code} {H : Heap} {locs : List Loc} {cells slots : Nat} {Q : State → Prop}
variable {cc : ByteArray} {pc : Nat} {ls : Array Slot} {rest st0 : List Value} {D : va_G} {ca : Nat → ClassId} {A : Nat → Prop} {M : Mem} {α : Type} {r : α}
theorem Hp.new {H1 : Heap} {κ n : Nat} (hR : Hp D ca true A s M H locs) (hA : ∀ q, s.heap.size ≤ q → A q) (z1 : H1.size = H.size + 1) (o1 : ∀ q, q < H.size → H1[q]? = H[q]?) (hc : cOk D ca (ms_n M κ n) (mm_x M) H1) : Hp D ca true A s (ms_n M κ n) H1 locs := by
  obtain ⟨⟨h1, h2, h3⟩, hS⟩ := hR
  have hx := h2 rfl
  refine ⟨⟨h1.new hx o1 hc, fun _ => ?_, fun q hq => ?_⟩, ⟨Nat.le_trans hS.1 (by omega), fun x q1 q2 => (o1 x (Nat.lt_of_lt_of_le q1 hS.1)).trans (hS.2.1 x q1 q2), hS.2.2⟩⟩
  · show mm_x M + 1 = H1.size
    rw [hx, z1]
  · by_cases hqx : q = mm_x M
    · rw [hqx, hx]; exact hA _ hS.1
    · refine h3 q ?_
      have e1 : (ms_n M κ n).1 q = M.1 q := va_up_ne _ _ hqx
      rwa [e1] at hq
theorem rg_new (hx : p.tables.exec = Jvm.exec) (hb : c.code = cc) (hts : ∀ w ∈ aw, w.before args s = true) (hK : va_K D vwCl (tysL ca) s) (hR : Hp D ca true A s M H locs) (hA : ∀ q, s.heap.size ≤ q → A q) {own C : String} {T : u_T} {N κ index : Nat} (hown : s.vm.findClass own = some m.cls) (hin : ∀ w ∈ u_ws C T N, w ∈ aw) (hc : vwCl[κ]? = some (C, T, N)) (h9 : κ < 9)
    (ty : Nat → FieldType) (hty : ∀ k, k < N → parseFieldDescriptor (T k).2.2.1 = some (ty k)) (hdf : ∀ j, j < N → defaultValue (ty j) = dv_ κ j) (hcl : Cond.classLink own index C ∈ aw) (hinst : Cond.instantiable C N ∈ aw) (hini : Cond.initialized C ∈ aw) (hcells : cells + 1 ≤ R.cells) (hslots : slots + N ≤ R.slots) (hdg : decode cc pc = .ok (.new index, 3))
    {F : Nat → Mem → Option α} (hf : lt_ (mm_x M) (fun a => lt_ (ms_n M κ 0) (F a)) = some r)
    (kk : ∀ (a : Nat) (M1 : Mem) (H1 : Heap), F a M1 = some r → Hp D ca true A s M1 H1 locs → W p l e R s m args below meth c H1 locs (cells + 1) (slots + N) Q (F0 m (pc + 3) ls (.ref a :: rest))) : W p l e R s m args below meth c H locs cells slots Q (F0 m pc ls rest) := by
  have hKn := hK.1 κ _ hc
  have hxx := hR.1.2.1 rfl
  refine W.newcK hx hb hown (hts _ hcl) (hts _ hinst) (hts _ hini) rfl hdg hcells hslots hKn.2.1 hxx.symm fun H1 kC hkC e1 z1 o1 => ?_
  rw [hxx] at z1 o1
  refine kk _ _ H1 hf (hR.new hA z1 o1 ⟨fun _ => ⟨(C, T, N), ?_, ?_⟩, fun h => ?_⟩)
  · show vwCl[va_up M.1 _ κ _]? = _
    rw [va_up_self]; exact hc
  · show t_OB _ (D.1 (va_up M.1 _ κ _)) _ (D.2 (va_up M.1 _ κ _)) _ (ov _ (va_up M.1 _ κ _) _)
    rw [va_up_self]
    exact (u_born ty hts hin hKn hkC e1 hty).to (fun k hk => by rw [ov_n]; exact hdf k hk)
  · have : 9 ≤ va_up M.1 (mm_x M) κ (mm_x M) := h
    rw [va_up_self] at this
    omega
theorem rg_newa (hx : p.tables.exec = Jvm.exec) (hb : c.code = cc) (hts : ∀ w ∈ aw, w.before args s = true) (hK : va_K D vwCl (tysL ca) s) (hR : Hp D ca true A s M H locs) (hA : ∀ q, s.heap.size ≤ q → A q) {atype : ArrayType} {κ N : Nat} (t0 : Nat) (ht : (tysL ca)[t0]? = some (ca κ, newarray.typeOf atype)) (hκ : κ = 9 ∧ atype = .int ∨ κ = 10 ∧ atype = .boolean ∨ κ = 15 ∧ atype = .long)
    (harr : Cond.arrayClass (newarray.typeOf atype) ∈ aw) {n : Int32} (hn : ¬ n < 0) (hN : n.toNatClampNeg = N) (hbytes : N * componentBytes (newarray.typeOf atype) ≤ 536870912) (hcells : cells + 1 ≤ R.cells) (hslots : slots + N ≤ R.slots) (hdg : decode cc pc = .ok (.newarray atype, 2))
    {F : Nat → Mem → Option α} (hf : lt_ (mm_x M) (fun a => lt_ (ms_n M κ N) (F a)) = some r)
    (kk : ∀ (a : Nat) (M1 : Mem) (H1 : Heap), F a M1 = some r → Hp D ca true A s M1 H1 locs → W p l e R s m args below meth c H1 locs (cells + 1) (slots + N) Q (F0 m (pc + 2) ls (.ref a :: rest))) : W p l e R s m args below meth c H locs cells slots Q (F0 m pc ls (.int n :: rest)) := by
  have hxx := hR.1.2.1 rfl
  refine va_newaK hx hb (hts _ harr) rfl hdg rfl hn hN hbytes hcells hslots hxx.symm fun H1 cA e1 z1 o1 hAr hNm => ?_
  rw [hxx] at z1 o1
  have hra := (hK.2 t0 _ ht).2
  have hcA : cA = ca κ := by
    rcases hκ with ⟨rfl, rfl⟩ | ⟨rfl, rfl⟩ | ⟨rfl, rfl⟩ <;> exact Option.some.inj (hNm.symm.trans hra)
  refine kk _ _ H1 hf (hR.new hA z1 o1 ⟨fun h => ?_, fun _ _ => ?_⟩)
  · have : va_up M.1 (mm_x M) κ (mm_x M) < 9 := h
    rw [va_up_self] at this
    omega
  · show H1[mm_x M]? = some (arrV (ca (va_up M.1 _ κ _)) (va_up M.2.1 _ N _) (av _ (va_up M.1 _ κ _) _))
    rw [va_up_self, va_up_self, e1, hcA]
    have : av (ms_n M κ N) κ (mm_x M) = fun _ => defaultValue (newarray.typeOf atype) := by
      funext j
      rcases hκ with ⟨rfl, rfl⟩ | ⟨rfl, rfl⟩ | ⟨rfl, rfl⟩ <;> simp [av, ms_n, zr2, mm_i, mm_l, mm_x, newarray.typeOf, defaultValue]
    rw [this]
theorem rg_newq (hx : p.tables.exec = Jvm.exec) (hb : c.code = cc) (hts : ∀ w ∈ aw, w.before args s = true) (hK : va_K D vwCl (tysL ca) s) (hR : Hp D ca true A s M H locs) (hA : ∀ q, s.heap.size ≤ q → A q) {own C : String} {index κ N : Nat} (hown : s.vm.findClass own = some m.cls) (t0 : Nat) (ht : (tysL ca)[t0]? = some (ca κ, .object C)) (hκ : 11 ≤ κ ∧ κ < 15)
    (hcl : Cond.classLink own index C ∈ aw) (hover : va_AO C s) {n : Int32} (hn : ¬ n < 0) (hN : n.toNatClampNeg = N) (hbytes : N * 4 ≤ 536870912) (hcells : cells + 1 ≤ R.cells) (hslots : slots + N ≤ R.slots) (hdg : decode cc pc = .ok (.anewarray index, 3))
    {F : Nat → Mem → Option α} (hf : lt_ (mm_x M) (fun a => lt_ (ms_n M κ N) (F a)) = some r)
    (kk : ∀ (a : Nat) (M1 : Mem) (H1 : Heap), F a M1 = some r → Hp D ca true A s M1 H1 locs → W p l e R s m args below meth c H1 locs (cells + 1) (slots + N) Q (F0 m (pc + 3) ls (.ref a :: rest))) : W p l e R s m args below meth c H locs cells slots Q (F0 m pc ls (.int n :: rest)) := by
  have hxx := hR.1.2.1 rfl
  subst hN
  refine W.anew hx hb hown (hts _ hcl) (va_AO.use hover) rfl hdg rfl hn hbytes hcells hslots fun cA kA comp f1 f2 f3 f4 => ?_
  generalize hH1 : H.push ({ cls := cA, slots := Array.replicate n.toNatClampNeg .null, vm := .none } : Cell) = H1
  have z1 : H1.size = H.size + 1 := by rw [← hH1, Array.size_push]
  have e1 : H1[H.size]? = some (arrV cA n.toNatClampNeg (fun _ => .null)) := by rw [← hH1, Array.getElem?_push_size, ← arrV_new]
  have o1 : ∀ q : Nat, q < H.size → H1[q]? = H[q]? := fun q hq => by rw [← hH1, Array.getElem?_push, if_neg (Nat.ne_of_lt hq)]
  obtain ⟨kA', comp', k1, k2, k3, k4⟩ := (hK.2 t0 _ ht).2
  have hcA : cA = ca κ := Option.some.inj (f1.symm.trans k4)
  rw [← hxx] at e1 ⊢
  refine kk _ _ H1 hf (hR.new hA z1 o1 ⟨fun h => ?_, fun _ _ => ?_⟩)
  · have : va_up M.1 (mm_x M) κ (mm_x M) < 9 := h
    rw [va_up_self] at this
    omega
  · show H1[mm_x M]? = some (arrV (ca (va_up M.1 _ κ _)) (va_up M.2.1 _ n.toNatClampNeg _) (av _ (va_up M.1 _ κ _) _))
    rw [va_up_self, va_up_self, e1, hcA]
    have : av (ms_n M κ n.toNatClampNeg) κ (mm_x M) = fun _ => Value.null := by
      funext j
      have h1 : ¬ κ < 11 := by omega
      have h2 : ¬ κ = 15 := by omega
      simp [av, ms_n, zr2, mm_r, mm_x, va_rf, h1, h2]
    rw [this]
/-- an object into an array of its class -/
theorem rg_aast (hx : p.tables.exec = Jvm.exec) (hb : c.code = cc) {nx : Bool} (hK : va_K D vwCl (tysL ca) s) (hR : Hp D ca nx A s M H locs) {q o κ κo : Nat} {i : Int32} (t0 : Nat) {qc : vw_C} (ht : (tysL ca)[t0]? = some (ca κ, .object qc.1)) (hκ : 11 ≤ κ ∧ κ < 15) (hc : vwCl[κo]? = some qc) (h9 : κo < 9) (hdg : decode cc pc = .ok (.aastore, 1)) {F : Mem → Option α} (hf : gd ((M.1 q = κ ∧ M.1 o = κo) ∧ vi_ i (mm_N M q)) (lt_ (ms_r M q i.toNatClampNeg (some o)) F) = some r)
    (kk : ∀ (M1 : Mem) (H1 : Heap) (locs1 : List Loc), F M1 = some r → Hp D ca nx A s M1 H1 locs1 → W p l e R s m args below meth c H1 locs1 cells slots Q (F0 m (pc + 1) ls rest)) : W p l e R s m args below meth c H locs cells slots Q (F0 m pc ls (.ref o :: .int i :: .ref q :: rest)) := by
  obtain ⟨⟨⟨hq, ho⟩, hin⟩, hf⟩ := gd_e hf
  have hlt : i.toNatClampNeg < M.2.1 q := Nat.not_le.mp fun z => hin (Or.inr z)
  have h0 : ¬ i < 0 := fun z => hin (Or.inl z)
  obtain ⟨C, T, N⟩ := qc
  obtain ⟨cellV, g1, g2, g3, -⟩ := hR.1.1.obj ho hc h9
  have hcls := (hK.1 κo _ hc).2
  obtain ⟨kA, comp, k1, k2, k3, -⟩ := (hK.2 t0 _ ht).2
  have hcomp : comp = D.1 κo := Option.some.inj (k3.symm.trans hcls.1)
  subst hcomp
  obtain ⟨kC, hkC, -⟩ := hcls.2
  refine W.aast hx hb (hR.1.1.arr hq (by omega) (by omega)) (fun q h => by cases h) (fun h => by cases h) k1 k2 rfl hkC ⟨h0, by rw [arrV_size]; exact hlt⟩ g1 (fun q h => by rw [g3] at h; cases h) (by rw [g2]; exact hkC) (by rw [g2]; exact va_assign hcls) rfl rfl hdg fun H1 e1 e2 e3 => ?_
  exact kk _ H1 _ hf (rg_ast hR hq (by omega) (by omega) rfl rfl rfl (fun _ _ _ => rfl) (fun _ _ _ => rfl) ms_r_off (av_r (by omega) (by omega)) e1 e2 e3)
end MK
end
section
/-! ===== more rows: names in place, switches ===== -/
theorem lt_e {α β : Type} {a : α} {F : α → Option β} {r : β} (h : lt_ a F = some r) : F a = some r := h
theorem sw_ne {x : Int32} (v : Int32) {k : Int} (hv : v.toInt = k) (h : ¬ x = v) : x.toInt ≠ k := fun e => h (Int32.toInt_inj.mp (e.trans hv.symm))
section RG2
variable {p : Program} {l : Launch} {e : Env} {R : Room} {s : State} {m : MethodId} {args : Array Value} {below : List Frame} {meth : Method} {c : Code} {H : Heap} {locs : List Loc} {cells slots : Nat} {Q : State → Prop}
variable {cc : ByteArray} {pc : Nat} {ls : Array Slot} {rest : List Value} {α : Type} {r : α}
theorem rg_iinc (hx : p.tables.exec = Jvm.exec) (hb : c.code = cc) {i nL k : Nat} {n : Int} {x v : Int32} {lv : List (Nat × Value)} (hdg : decode cc pc = .ok (.iinc i n, 3)) (h : lv_has ls nL lv) (hk : lv[k]? = some (i, .int x)) (hv : x + Int32.ofInt n = v) (hn : i < nL) {F : Int32 → Option α} (hf : lt_ v F = some r)
    (kk : ∀ (y : Int32) (ls' : Array Slot), F y = some r → lv_has ls' nL ((i, Value.int y) :: lv.filter (fun q => !(q.1 == i) && !(q.1 + 1 == i && q.2.category == 2))) → W p l e R s m args below meth c H locs cells slots Q (F0 m (pc + 3) ls' rest)) : W p l e R s m args below meth c H locs cells slots Q (F0 m pc ls rest) :=
  lv_iinc hx hb hdg h hk hv hn rfl (fun ls' h' => kk v ls' hf h')
end RG2
-- selects of the private methods: the first places of the list
theorem ms_0 : Cond.selects "java/lang/Throwable" ⟨"java/lang/Throwable", "fillInStackTrace", "(I)Ljava/lang/Throwable;"⟩ ⟨"java/lang/Throwable", "fillInStackTrace", "(I)Ljava/lang/Throwable;"⟩ ∈ aw := aw_i 0 (by decide +kernel) (by decide +kernel)
theorem ms_1 : Cond.selects "RingHerd" ⟨"RingHerd", "passTick", "()V"⟩ ⟨"RingHerd", "passTick", "()V"⟩ ∈ aw := aw_i 1 (by decide +kernel) (by decide +kernel)
theorem ms_2 : Cond.selects "RingHerd$Herd" ⟨"RingHerd$Herd", "shift", "(LRingHerd$Grain;I)V"⟩ ⟨"RingHerd$Herd", "shift", "(LRingHerd$Grain;I)V"⟩ ∈ aw := aw_i 2 (by decide +kernel) (by decide +kernel)
theorem ms_3 : Cond.selects "RingHerd$Herd" ⟨"RingHerd$Herd", "partnerOf", "(II)I"⟩ ⟨"RingHerd$Herd", "partnerOf", "(II)I"⟩ ∈ aw := aw_i 3 (by decide +kernel) (by decide +kernel)
theorem ms_4 : Cond.selects "RingHerd$Herd" ⟨"RingHerd$Herd", "meet", "(LRingHerd$Grain;LRingHerd$Grain;)V"⟩ ⟨"RingHerd$Herd", "meet", "(LRingHerd$Grain;LRingHerd$Grain;)V"⟩ ∈ aw := aw_i 4 (by decide +kernel) (by decide +kernel)
theorem ms_5 : Cond.selects "RingHerd$Herd" ⟨"RingHerd$Herd", "stick", "(LRingHerd$Grain;LRingHerd$Grain;)V"⟩ ⟨"RingHerd$Herd", "stick", "(LRingHerd$Grain;LRingHerd$Grain;)V"⟩ ∈ aw := aw_i 5 (by decide +kernel) (by decide +kernel)
theorem ms_6 : Cond.selects "RingHerd$Herd" ⟨"RingHerd$Herd", "breakUp", "(LRingHerd$Grain;)V"⟩ ⟨"RingHerd$Herd", "breakUp", "(LRingHerd$Grain;)V"⟩ ∈ aw := aw_i 6 (by decide +kernel) (by decide +kernel)
theorem ms_7 : Cond.selects "RingHerd$Herd" ⟨"RingHerd$Herd", "bump", "(LRingHerd$Grain;LRingHerd$Grain;)V"⟩ ⟨"RingHerd$Herd", "bump", "(LRingHerd$Grain;LRingHerd$Grain;)V"⟩ ∈ aw := aw_i 7 (by decide +kernel) (by decide +kernel)
end
section
-- X2_carried
def f_X2_carried (v0 : Nat) (M : Mem) : Option (Mem × Int64) := gd (M.1 v0 = 2) <| gd (M.1 v0 = 2) <| some (M, (((mm_i M v0 2)).toInt64 * (((mm_i M v0 0) + (20 : Int32))).toInt64))
abbrev rm_X2_carried : Room := { frames := 0, cells := 0, slots := 0, locals := 0 }
theorem hd_X2_carried : yX2_carried.cls ≠ "java/lang/invoke/MethodHandle" ∧ yX2_carried.cls ≠ "java/lang/invoke/VarHandle" ∧ (parseMethodDescriptor yX2_carried.desc).map (fun d => d.parameters.length) = some 0 := by decide +kernel
set_option maxHeartbeats 8000000 in
set_option maxRecDepth 100000 in
theorem c_X2_carried {l : Launch} {D : va_G} {ca : Nat → ClassId} {b : Nat} {nx : Bool} {v0 : Nat} {M : Mem} {r : Mem × Int64} (hf : f_X2_carried v0 M = some r) : CtL l yX2_carried cX2_carried 1 (some .long) rm_X2_carried D ca b nx [.ref v0] M r := by
  intro sz
  refine body_start (Qc := fun A => cvL D ca nx A r) (by decide +kernel) (Nat.le_of_ble_eq_true rfl) ?_
  intro p e s m args below meth c A hC hr hR ls hl
  obtain ⟨hx, hb, hml, hts, hown, hlocks, hXe, hA, hAb, hnm⟩ := id hC
  have hK := hXe.1
  have hl : lv_has ls 1 [(0, .ref v0)] := hl
  unfold f_X2_carried at hf
  refine lv_aload_n (pc := 0) hx hb dX2_carried_0 rfl (lv_at hl 0 rfl) ?_
  refine rg_get (pc := 1) (C := RX2) (T := TX2) (N := 7) (κ := 2) (v := .int (mm_i M v0 2)) hx hb hts hK hR hown in_2 rfl (by decide) 2 (by decide) m_113 rfl dX2_carried_1 hf (fun hf => ?_)
  refine lv_i2l (pc := 4) hx hb dX2_carried_4 rfl ?_
  refine lv_aload_n (pc := 5) hx hb dX2_carried_5 rfl (lv_at hl 0 rfl) ?_
  refine rg_get (pc := 6) (C := RX2) (T := TX2) (N := 7) (κ := 2) (v := .int (mm_i M v0 0)) hx hb hts hK hR hown in_2 rfl (by decide) 0 (by decide) m_107 rfl dX2_carried_6 hf (fun hf => ?_)
  refine lv_bipush (pc := 9) (v := (20 : Int32)) hx hb dX2_carried_9 (by decide) ?_
  refine lv_iadd (pc := 11) hx hb dX2_carried_11 ?_
  refine lv_i2l (pc := 12) hx hb dX2_carried_12 rfl ?_
  refine lv_lmul (pc := 13) hx hb dX2_carried_13 ?_
  exact rg_lret (pc := 14) hx hb hlocks hr hf hR dX2_carried_14
-- X7_anglesApart
def f_X7_anglesApart (v0 : Int32) (v1 : Int32) (M : Mem) : Option (Mem × Int32) := lt_ ((if 0 ≤ (v0 - v1) then (v0 - v1) else 0 - (v0 - v1))) fun x1 => some (M, (if ((36000 : Int32) - x1) < x1 then ((36000 : Int32) - x1) else x1))
abbrev rm_X7_anglesApart : Room := { frames := 1, cells := 0, slots := 0, locals := 24 }
theorem hd_X7_anglesApart : yX7_anglesApart.cls ≠ "java/lang/invoke/MethodHandle" ∧ yX7_anglesApart.cls ≠ "java/lang/invoke/VarHandle" ∧ (parseMethodDescriptor yX7_anglesApart.desc).map (fun d => d.parameters.length) = some 2 := by decide +kernel
set_option maxHeartbeats 8000000 in
set_option maxRecDepth 100000 in
theorem c_X7_anglesApart {l : Launch} {D : va_G} {ca : Nat → ClassId} {b : Nat} {nx : Bool} {v0 : Int32} {v1 : Int32} {M : Mem} {r : Mem × Int32} (hf : f_X7_anglesApart v0 v1 M = some r) : CtI l yX7_anglesApart cX7_anglesApart 3 (some .int) rm_X7_anglesApart D ca b nx [.int v0, .int v1] M r := by
  intro sz
  refine body_start (Qc := fun A => cvI D ca nx A r) (by decide +kernel) (Nat.le_of_ble_eq_true rfl) ?_
  intro p e s m args below meth c A hC hr hR ls hl
  obtain ⟨hx, hb, hml, hts, hown, hlocks, hXe, hA, hAb, hnm⟩ := id hC
  have hK := hXe.1
  have hl : lv_has ls 3 [(0, .int v0), (1, .int v1)] := hl
  unfold f_X7_anglesApart at hf
  refine lv_iload_n (pc := 0) hx hb dX7_anglesApart_0 rfl (lv_at hl 0 rfl) ?_
  refine lv_iload_n (pc := 1) hx hb dX7_anglesApart_1 rfl (lv_at hl 1 rfl) ?_
  refine lv_isub (pc := 2) hx hb dX7_anglesApart_2 ?_
  refine va_mabs (pc := 3) hx hb (hml.trans hl.1.symm) hown (hts _ m_414) (hts _ m_409) (hts _ m_14) (hts _ m_410) (Nat.le_of_ble_eq_true rfl) (Nat.le_of_ble_eq_true rfl) (Nat.le_of_ble_eq_true rfl) (Nat.le_of_ble_eq_true rfl) dX7_anglesApart_3 ?_
  refine nm_i hf (fun x1 hf => ?_)
  refine lv_istore_n (pc := 6) (lv' := [(2, .int x1), (0, .int v0), (1, .int v1)]) hx hb dX7_anglesApart_6 rfl hl (by decide) rfl (fun ls hl => ?_)
  refine lv_iload_n (pc := 7) hx hb dX7_anglesApart_7 rfl (lv_at hl 0 rfl) ?_
  refine lv_ldcw (pc := 8) hx hb hown (hts _ m_393) dX7_anglesApart_8 ?_
  refine lv_iload_n (pc := 11) hx hb dX7_anglesApart_11 rfl (lv_at hl 0 rfl) ?_
  refine lv_isub (pc := 12) hx hb dX7_anglesApart_12 ?_
  refine va_mmin (pc := 13) hx hb (hml.trans hl.1.symm) hown (hts _ m_415) (hts _ m_416) (hts _ m_14) (hts _ m_417) (Nat.le_of_ble_eq_true rfl) (Nat.le_of_ble_eq_true rfl) (Nat.le_of_ble_eq_true rfl) (Nat.le_of_ble_eq_true rfl) dX7_anglesApart_13 ?_
  exact rg_iret (pc := 16) hx hb hlocks hr hf hR dX7_anglesApart_16
-- X2_isNear
def f_X2_isNear_b31  (s0 : Int32) (M : Mem) : Option (Mem × Int32) := gd (s0 = 0 ∨ s0 = 1) <| some (M, s0)
def f_X2_isNear_b30   (M : Mem) : Option (Mem × Int32) := f_X2_isNear_b31 (0 : Int32) M
def f_X2_isNear (v0 : Nat) (v1 : Int32) (v2 : Int32) (v3 : Int32) (v4 : Int32) (M : Mem) : Option (Mem × Int32) := gd (M.1 v0 = 2) <| if v3 < (if 0 ≤ ((mm_i M v0 0) - v1) then ((mm_i M v0 0) - v1) else 0 - ((mm_i M v0 0) - v1)) then (f_X2_isNear_b30  M) else (gd (M.1 v0 = 2) <| bd (f_X7_anglesApart (mm_i M v0 1) v2 M) fun z1 => if v4 < z1.2 then (f_X2_isNear_b30  z1.1) else (f_X2_isNear_b31 (1 : Int32) z1.1))
abbrev rm_X2_isNear : Room := { frames := 2, cells := 0, slots := 0, locals := 46 }
theorem hd_X2_isNear : yX2_isNear.cls ≠ "java/lang/invoke/MethodHandle" ∧ yX2_isNear.cls ≠ "java/lang/invoke/VarHandle" ∧ (parseMethodDescriptor yX2_isNear.desc).map (fun d => d.parameters.length) = some 4 := by decide +kernel
set_option maxHeartbeats 8000000 in
set_option maxRecDepth 100000 in
theorem c_X2_isNear {l : Launch} {D : va_G} {ca : Nat → ClassId} {b : Nat} {nx : Bool} {v0 : Nat} {v1 : Int32} {v2 : Int32} {v3 : Int32} {v4 : Int32} {M : Mem} {r : Mem × Int32} (hf : f_X2_isNear v0 v1 v2 v3 v4 M = some r) : CtI l yX2_isNear cX2_isNear 5 (some .boolean) rm_X2_isNear D ca b nx [.ref v0, .int v1, .int v2, .int v3, .int v4] M r := by
  intro sz
  refine body_start (Qc := fun A => cvI D ca nx A r) (by decide +kernel) (Nat.le_of_ble_eq_true rfl) ?_
  intro p e s m args below meth c A hC hr hR ls hl
  obtain ⟨hx, hb, hml, hts, hown, hlocks, hXe, hA, hAb, hnm⟩ := id hC
  have hK := hXe.1
  have hl : lv_has ls 5 [(0, .ref v0), (1, .int v1), (2, .int v2), (3, .int v3), (4, .int v4)] := hl
  have hB31 : ∀  (s0 : Int32) (M : Mem) (H : Heap) (locs : List Loc) (ls : Array Slot), f_X2_isNear_b31  s0 M = some r → Hp D ca nx A s M H locs → lv_has ls 5 [] → W p l e rm_X2_isNear s m args below meth c H locs 0 0 (MQ below (cvI D ca nx A r) args s 0 0 A) (F0 m 31 ls [.int s0]) := by
    intro  s0 M H locs ls hf hR hl
    unfold f_X2_isNear_b31 at hf
    exact rg_zret (pc := 31) hx hb hlocks hr hf hR dX2_isNear_31
  have hB30 : ∀   (M : Mem) (H : Heap) (locs : List Loc) (ls : Array Slot), f_X2_isNear_b30   M = some r → Hp D ca nx A s M H locs → lv_has ls 5 [] → W p l e rm_X2_isNear s m args below meth c H locs 0 0 (MQ below (cvI D ca nx A r) args s 0 0 A) (F0 m 30 ls []) := by
    intro   M H locs ls hf hR hl
    unfold f_X2_isNear_b30 at hf
    refine lv_iconst (pc := 30) (v := (0 : Int32)) hx hb dX2_isNear_30 (by decide) ?_
    exact hB31 (0 : Int32) M _ _ _ hf hR (lv_sub hl [] rfl)
  unfold f_X2_isNear at hf
  refine lv_aload_n (pc := 0) hx hb dX2_isNear_0 rfl (lv_at hl 0 rfl) ?_
  refine rg_get (pc := 1) (C := RX2) (T := TX2) (N := 7) (κ := 2) (v := .int (mm_i M v0 0)) hx hb hts hK hR hown in_2 rfl (by decide) 0 (by decide) m_107 rfl dX2_isNear_1 hf (fun hf => ?_)
  refine lv_iload_n (pc := 4) hx hb dX2_isNear_4 rfl (lv_at hl 1 rfl) ?_
  refine lv_isub (pc := 5) hx hb dX2_isNear_5 ?_
  refine va_mabs (pc := 6) hx hb (hml.trans hl.1.symm) hown (hts _ m_408) (hts _ m_409) (hts _ m_14) (hts _ m_410) (Nat.le_of_ble_eq_true rfl) (Nat.le_of_ble_eq_true rfl) (Nat.le_of_ble_eq_true rfl) (Nat.le_of_ble_eq_true rfl) dX2_isNear_6 ?_
  refine lv_iload_n (pc := 9) hx hb dX2_isNear_9 rfl (lv_at hl 3 rfl) ?_
  refine lv_icmp_gt (pc := 10) (tgt := 30) hx hb dX2_isNear_10 (by decide) (fun hc => ?_) (fun hc => ?_)
  · replace hf := it_t hf hc
    exact hB30  M _ _ _ hf hR (lv_sub hl [] rfl)
  · replace hf := it_f hf hc
    refine lv_aload_n (pc := 13) hx hb dX2_isNear_13 rfl (lv_at hl 0 rfl) ?_
    refine rg_get (pc := 14) (C := RX2) (T := TX2) (N := 7) (κ := 2) (v := .int (mm_i M v0 1)) hx hb hts hK hR hown in_2 rfl (by decide) 1 (by decide) m_111 rfl dX2_isNear_14 hf (fun hf => ?_)
    refine lv_iload_n (pc := 17) hx hb dX2_isNear_17 rfl (lv_at hl 2 rfl) ?_
    refine rg_I (pc := 18) hf hR hA (fun z hz => rn_SN (host := "RingHerd") (As := [.int (mm_i M v0 1), .int v2]) (rest := []) hC hR (c_X7_anglesApart  hz _) (by decide +kernel) m_412 m_1 m_413 hd_X7_anglesApart ⟨rfl, rfl, Nat.le_of_ble_eq_true rfl, Nat.le_of_ble_eq_true rfl⟩ rfl hl.1 rfl (Nat.le_of_ble_eq_true rfl) dX2_isNear_18 ⟨Nat.le_of_ble_eq_true rfl, Nat.le_of_ble_eq_true rfl⟩) (fun z1 H locs hf hR => ?_)
    refine lv_iload (pc := 21) hx hb dX2_isNear_21 (lv_at hl 4 rfl) ?_
    refine lv_icmp_gt (pc := 23) (tgt := 30) hx hb dX2_isNear_23 (by decide) (fun hc => ?_) (fun hc => ?_)
    · replace hf := it_t hf hc
      exact hB30  z1.1 _ _ _ hf hR (lv_sub hl [] rfl)
    · replace hf := it_f hf hc
      refine lv_iconst (pc := 26) (v := (1 : Int32)) hx hb dX2_isNear_26 (by decide) ?_
      refine lv_goto (pc := 27) (tgt := 31) hx hb dX2_isNear_27 (by decide) ?_
      exact hB31 (1 : Int32) z1.1 _ _ _ hf hR (lv_sub hl [] rfl)
-- X2_mayMeet
def f_X2_mayMeet_b19  (s0 : Int32) (M : Mem) : Option (Mem × Int32) := gd (s0 = 0 ∨ s0 = 1) <| some (M, s0)
def f_X2_mayMeet_b18   (M : Mem) : Option (Mem × Int32) := f_X2_mayMeet_b19 (0 : Int32) M
def f_X2_mayMeet (v0 : Nat) (M : Mem) : Option (Mem × Int32) := gd (M.1 v0 = 2) <| if (mm_i M v0 5) = 0 then (f_X2_mayMeet_b18  M) else (gd (M.1 v0 = 2) <| if (mm_i M v0 6) = 0 then (f_X2_mayMeet_b19 (1 : Int32) M) else (f_X2_mayMeet_b18  M))
abbrev rm_X2_mayMeet : Room := { frames := 0, cells := 0, slots := 0, locals := 0 }
theorem hd_X2_mayMeet : yX2_mayMeet.cls ≠ "java/lang/invoke/MethodHandle" ∧ yX2_mayMeet.cls ≠ "java/lang/invoke/VarHandle" ∧ (parseMethodDescriptor yX2_mayMeet.desc).map (fun d => d.parameters.length) = some 0 := by decide +kernel
set_option maxHeartbeats 8000000 in
set_option maxRecDepth 100000 in
theorem c_X2_mayMeet {l : Launch} {D : va_G} {ca : Nat → ClassId} {b : Nat} {nx : Bool} {v0 : Nat} {M : Mem} {r : Mem × Int32} (hf : f_X2_mayMeet v0 M = some r) : CtI l yX2_mayMeet cX2_mayMeet 1 (some .boolean) rm_X2_mayMeet D ca b nx [.ref v0] M r := by
  intro sz
  refine body_start (Qc := fun A => cvI D ca nx A r) (by decide +kernel) (Nat.le_of_ble_eq_true rfl) ?_
  intro p e s m args below meth c A hC hr hR ls hl
  obtain ⟨hx, hb, hml, hts, hown, hlocks, hXe, hA, hAb, hnm⟩ := id hC
  have hK := hXe.1
  have hl : lv_has ls 1 [(0, .ref v0)] := hl
  have hB19 : ∀  (s0 : Int32) (M : Mem) (H : Heap) (locs : List Loc) (ls : Array Slot), f_X2_mayMeet_b19  s0 M = some r → Hp D ca nx A s M H locs → lv_has ls 1 [] → W p l e rm_X2_mayMeet s m args below meth c H locs 0 0 (MQ below (cvI D ca nx A r) args s 0 0 A) (F0 m 19 ls [.int s0]) := by
    intro  s0 M H locs ls hf hR hl
    unfold f_X2_mayMeet_b19 at hf
    exact rg_zret (pc := 19) hx hb hlocks hr hf hR dX2_mayMeet_19
  have hB18 : ∀   (M : Mem) (H : Heap) (locs : List Loc) (ls : Array Slot), f_X2_mayMeet_b18   M = some r → Hp D ca nx A s M H locs → lv_has ls 1 [] → W p l e rm_X2_mayMeet s m args below meth c H locs 0 0 (MQ below (cvI D ca nx A r) args s 0 0 A) (F0 m 18 ls []) := by
    intro   M H locs ls hf hR hl
    unfold f_X2_mayMeet_b18 at hf
    refine lv_iconst (pc := 18) (v := (0 : Int32)) hx hb dX2_mayMeet_18 (by decide) ?_
    exact hB19 (0 : Int32) M _ _ _ hf hR (lv_sub hl [] rfl)
  unfold f_X2_mayMeet at hf
  refine lv_aload_n (pc := 0) hx hb dX2_mayMeet_0 rfl (lv_at hl 0 rfl) ?_
  refine rg_get (pc := 1) (C := RX2) (T := TX2) (N := 7) (κ := 2) (v := .int (mm_i M v0 5)) hx hb hts hK hR hown in_2 rfl (by decide) 5 (by decide) m_121 rfl dX2_mayMeet_1 hf (fun hf => ?_)
  refine lv_if_eq (pc := 4) (tgt := 18) hx hb dX2_mayMeet_4 (by decide) (fun hc => ?_) (fun hc => ?_)
  · replace hf := it_t hf hc
    exact hB18  M _ _ _ hf hR (lv_sub hl [] rfl)
  · replace hf := it_f hf hc
    refine lv_aload_n (pc := 7) hx hb dX2_mayMeet_7 rfl (lv_at hl 0 rfl) ?_
    refine rg_get (pc := 8) (C := RX2) (T := TX2) (N := 7) (κ := 2) (v := .int (mm_i M v0 6)) hx hb hts hK hR hown in_2 rfl (by decide) 6 (by decide) m_123 rfl dX2_mayMeet_8 hf (fun hf => ?_)
    refine lv_if_ne (pc := 11) (tgt := 18) hx hb dX2_mayMeet_11 (by decide) (fun hc => ?_) (fun hc => ?_)
    · replace hf := it_f hf hc
      exact hB18  M _ _ _ hf hR (lv_sub hl [] rfl)
    · replace hf := it_t hf hc
      refine lv_iconst (pc := 14) (v := (1 : Int32)) hx hb dX2_mayMeet_14 (by decide) ?_
      refine lv_goto (pc := 15) (tgt := 19) hx hb dX2_mayMeet_15 (by decide) ?_
      exact hB19 (1 : Int32) M _ _ _ hf hR (lv_sub hl [] rfl)
-- X3_put
def f_X3_put (v0 : Nat) (v1 : Int32) (v2 : Int32) (v3 : Int32) (v4 : Int32) (M : Mem) : Option (Mem × Int32) := gd (M.1 v0 = 3) <| rd (mm_r M v0 2) fun a1 => gd (M.1 v0 = 3) <| gd (M.1 a1 = 13 ∧ vi_ (mm_i M v0 3) (mm_N M a1)) <| rd (mm_r M a1 ((mm_i M v0 3)).toNatClampNeg) fun a2 => gd (M.1 a2 = 2) <| lt_ (ms_i M a2 0 v1) fun M3 => gd (M3.1 a2 = 2) <| lt_ (ms_i M3 a2 1 v2) fun M4 => gd (M4.1 a2 = 2) <| lt_ (ms_i M4 a2 2 v3) fun M5 => gd (M5.1 a2 = 2) <| lt_ (ms_i M5 a2 3 v4) fun M6 => gd (M6.1 a2 = 2) <| lt_ (ms_i M6 a2 5 (1 : Int32)) fun M7 => gd (M7.1 v0 = 3) <| rd (mm_r M7 v0 1) fun a8 => gd (M7.1 a8 = 4) <| gd (M7.1 a8 = 4) <| lt_ (ms_i M7 a8 5 ((mm_i M7 a8 5) + v3)) fun M9 => gd (M9.1 v0 = 3) <| rd (mm_r M9 v0 1) fun a10 => gd (M9.1 a10 = 4) <| gd (M9.1 a2 = 2) <| bd (f_X2_carried a2 M9) fun z11 => gd (z11.1.1 a10 = 4) <| lt_ (ms_l z11.1 a10 8 ((mm_l M9 a10 8) + z11.2)) fun M12 => gd (M12.1 v0 = 3) <| gd (M12.1 v0 = 3) <| lt_ (ms_i M12 v0 3 ((mm_i M12 v0 3) + (1 : Int32))) fun M13 => gd (M13.1 v0 = 3) <| some (M13, ((mm_i M13 v0 3) - (1 : Int32)))
abbrev rm_X3_put : Room := { frames := 1, cells := 0, slots := 0, locals := 20 }
theorem hd_X3_put : yX3_put.cls ≠ "java/lang/invoke/MethodHandle" ∧ yX3_put.cls ≠ "java/lang/invoke/VarHandle" ∧ (parseMethodDescriptor yX3_put.desc).map (fun d => d.parameters.length) = some 4 := by decide +kernel
set_option maxHeartbeats 8000000 in
set_option maxRecDepth 100000 in
theorem c_X3_put {l : Launch} {D : va_G} {ca : Nat → ClassId} {b : Nat} {nx : Bool} {v0 : Nat} {v1 : Int32} {v2 : Int32} {v3 : Int32} {v4 : Int32} {M : Mem} {r : Mem × Int32} (hf : f_X3_put v0 v1 v2 v3 v4 M = some r) : CtI l yX3_put cX3_put 6 (some .int) rm_X3_put D ca b nx [.ref v0, .int v1, .int v2, .int v3, .int v4] M r := by
  intro sz
  refine body_start (Qc := fun A => cvI D ca nx A r) (by decide +kernel) (Nat.le_of_ble_eq_true rfl) ?_
  intro p e s m args below meth c A hC hr hR ls hl
  obtain ⟨hx, hb, hml, hts, hown, hlocks, hXe, hA, hAb, hnm⟩ := id hC
  have hK := hXe.1
  have hl : lv_has ls 6 [(0, .ref v0), (1, .int v1), (2, .int v2), (3, .int v3), (4, .int v4)] := hl
  unfold f_X3_put at hf
  refine lv_aload_n (pc := 0) hx hb dX3_put_0 rfl (lv_at hl 0 rfl) ?_
  refine rg_getr (pc := 1) (C := RX3) (T := TX3) (N := 7) (κ := 3) hx hb hts hK hR hown in_3 rfl (by decide) 2 (by decide) m_144 rfl dX3_put_1 hf (fun a1 hf => ?_)
  refine lv_aload_n (pc := 4) hx hb dX3_put_4 rfl (lv_at hl 0 rfl) ?_
  refine rg_get (pc := 5) (C := RX3) (T := TX3) (N := 7) (κ := 3) (v := .int (mm_i M v0 3)) hx hb hts hK hR hown in_3 rfl (by decide) 3 (by decide) m_146 rfl dX3_put_5 hf (fun hf => ?_)
  refine rg_aald (pc := 8) (κ := 13) hx hb hK hR 3 rfl (by decide) dX3_put_8 hf (fun a2 hf => ?_)
  refine lv_astore (pc := 9) (lv' := [(5, .ref a2), (0, .ref v0), (1, .int v1), (2, .int v2), (3, .int v3), (4, .int v4)]) hx hb dX3_put_9 hl (by decide) rfl (fun ls hl => ?_)
  refine lv_aload (pc := 11) hx hb dX3_put_11 (lv_at hl 0 rfl) ?_
  refine lv_iload_n (pc := 13) hx hb dX3_put_13 rfl (lv_at hl 2 rfl) ?_
  refine rg_puti (pc := 14) (C := RX2) (T := TX2) (N := 7) (κ := 2) hx hb hts hK hR hown in_2 rfl (by decide) 0 (by decide) m_108 tyX2 tyX2_ok nmX2 rfl rfl rfl rfl dX3_put_14 hf (fun M3 H locs hf hR => ?_)
  refine lv_aload (pc := 17) hx hb dX3_put_17 (lv_at hl 0 rfl) ?_
  refine lv_iload_n (pc := 19) hx hb dX3_put_19 rfl (lv_at hl 3 rfl) ?_
  refine rg_puti (pc := 20) (C := RX2) (T := TX2) (N := 7) (κ := 2) hx hb hts hK hR hown in_2 rfl (by decide) 1 (by decide) m_110 tyX2 tyX2_ok nmX2 rfl rfl rfl rfl dX3_put_20 hf (fun M4 H locs hf hR => ?_)
  refine lv_aload (pc := 23) hx hb dX3_put_23 (lv_at hl 0 rfl) ?_
  refine lv_iload_n (pc := 25) hx hb dX3_put_25 rfl (lv_at hl 4 rfl) ?_
  refine rg_puti (pc := 26) (C := RX2) (T := TX2) (N := 7) (κ := 2) hx hb hts hK hR hown in_2 rfl (by decide) 2 (by decide) m_114 tyX2 tyX2_ok nmX2 rfl rfl rfl rfl dX3_put_26 hf (fun M5 H locs hf hR => ?_)
  refine lv_aload (pc := 29) hx hb dX3_put_29 (lv_at hl 0 rfl) ?_
  refine lv_iload (pc := 31) hx hb dX3_put_31 (lv_at hl 5 rfl) ?_
  refine rg_puti (pc := 33) (C := RX2) (T := TX2) (N := 7) (κ := 2) hx hb hts hK hR hown in_2 rfl (by decide) 3 (by decide) m_116 tyX2 tyX2_ok nmX2 rfl rfl rfl rfl dX3_put_33 hf (fun M6 H locs hf hR => ?_)
  refine lv_aload (pc := 36) hx hb dX3_put_36 (lv_at hl 0 rfl) ?_
  refine lv_iconst (pc := 38) (v := (1 : Int32)) hx hb dX3_put_38 (by decide) ?_
  refine rg_puti (pc := 39) (C := RX2) (T := TX2) (N := 7) (κ := 2) hx hb hts hK hR hown in_2 rfl (by decide) 5 (by decide) m_120 tyX2 tyX2_ok nmX2 rfl rfl rfl rfl dX3_put_39 hf (fun M7 H locs hf hR => ?_)
  refine lv_aload_n (pc := 42) hx hb dX3_put_42 rfl (lv_at hl 1 rfl) ?_
  refine rg_getr (pc := 43) (C := RX3) (T := TX3) (N := 7) (κ := 3) hx hb hts hK hR hown in_3 rfl (by decide) 1 (by decide) m_142 rfl dX3_put_43 hf (fun a8 hf => ?_)
  refine lv_dup (pc := 46) hx hb dX3_put_46 rfl ?_
  refine rg_get (pc := 47) (C := RX4) (T := TX4) (N := 13) (κ := 4) (v := .int (mm_i M7 a8 5)) hx hb hts hK hR hown in_4 rfl (by decide) 5 (by decide) m_57 rfl dX3_put_47 hf (fun hf => ?_)
  refine lv_iload_n (pc := 50) hx hb dX3_put_50 rfl (lv_at hl 4 rfl) ?_
  refine lv_iadd (pc := 51) hx hb dX3_put_51 ?_
  refine rg_puti (pc := 52) (C := RX4) (T := TX4) (N := 13) (κ := 4) hx hb hts hK hR hown in_4 rfl (by decide) 5 (by decide) m_57 tyX4 tyX4_ok nmX4 rfl rfl rfl rfl dX3_put_52 hf (fun M9 H locs hf hR => ?_)
  refine lv_aload_n (pc := 55) hx hb dX3_put_55 rfl (lv_at hl 1 rfl) ?_
  refine rg_getr (pc := 56) (C := RX3) (T := TX3) (N := 7) (κ := 3) hx hb hts hK hR hown in_3 rfl (by decide) 1 (by decide) m_142 rfl dX3_put_56 hf (fun a10 hf => ?_)
  refine lv_dup (pc := 59) hx hb dX3_put_59 rfl ?_
  refine rg_get (pc := 60) (C := RX4) (T := TX4) (N := 13) (κ := 4) (v := .long (mm_l M9 a10 8)) hx hb hts hK hR hown in_4 rfl (by decide) 8 (by decide) m_63 rfl dX3_put_60 hf (fun hf => ?_)
  refine lv_aload (pc := 63) hx hb dX3_put_63 (lv_at hl 0 rfl) ?_
  obtain ⟨hq, hf⟩ := gd_e hf
  refine rg_L (pc := 65) hf hR hA (fun z hz => rn_V (κ := 2) (As := []) (rest := [.long (mm_l M9 a10 8), .ref a10]) hC hR rfl (by decide) hq (c_X2_carried  hz _) m_353 m_354 m_355 m_5 m_356 hd_X2_carried ⟨rfl, rfl, Nat.le_of_ble_eq_true rfl, Nat.le_of_ble_eq_true rfl⟩ rfl hl.1 rfl (Nat.le_of_ble_eq_true rfl) dX3_put_65 ⟨Nat.le_of_ble_eq_true rfl, Nat.le_of_ble_eq_true rfl⟩) (fun z11 H locs hf hR => ?_)
  refine lv_ladd (pc := 68) hx hb dX3_put_68 ?_
  refine rg_putl (pc := 69) (C := RX4) (T := TX4) (N := 13) (κ := 4) hx hb hts hK hR hown in_4 rfl (by decide) 8 (by decide) m_63 tyX4 tyX4_ok nmX4 rfl rfl rfl rfl dX3_put_69 hf (fun M12 H locs hf hR => ?_)
  refine lv_aload_n (pc := 72) hx hb dX3_put_72 rfl (lv_at hl 1 rfl) ?_
  refine lv_dup (pc := 73) hx hb dX3_put_73 rfl ?_
  refine rg_get (pc := 74) (C := RX3) (T := TX3) (N := 7) (κ := 3) (v := .int (mm_i M12 v0 3)) hx hb hts hK hR hown in_3 rfl (by decide) 3 (by decide) m_146 rfl dX3_put_74 hf (fun hf => ?_)
  refine lv_iconst (pc := 77) (v := (1 : Int32)) hx hb dX3_put_77 (by decide) ?_
  refine lv_iadd (pc := 78) hx hb dX3_put_78 ?_
  refine rg_puti (pc := 79) (C := RX3) (T := TX3) (N := 7) (κ := 3) hx hb hts hK hR hown in_3 rfl (by decide) 3 (by decide) m_146 tyX3 tyX3_ok nmX3 rfl rfl rfl rfl dX3_put_79 hf (fun M13 H locs hf hR => ?_)
  refine lv_aload_n (pc := 82) hx hb dX3_put_82 rfl (lv_at hl 1 rfl) ?_
  refine rg_get (pc := 83) (C := RX3) (T := TX3) (N := 7) (κ := 3) (v := .int (mm_i M13 v0 3)) hx hb hts hK hR hown in_3 rfl (by decide) 3 (by decide) m_146 rfl dX3_put_83 hf (fun hf => ?_)
  refine lv_iconst (pc := 86) (v := (1 : Int32)) hx hb dX3_put_86 (by decide) ?_
  refine lv_isub (pc := 87) hx hb dX3_put_87 ?_
  exact rg_iret (pc := 88) hx hb hlocks hr hf hR dX3_put_88
-- X3_countThere
def f_X3_countThere_b36 (k13 : Int32 → Nat → Int32 → Int32 → Mem → Option (Mem × Int32)) (v1 : Int32) (v2 : Nat) (v3 : Int32) (v4 : Int32) (M : Mem) : Option (Mem × Int32) := lt_ (v4 + (1 : Int32)) fun x1 => k13 v1 v2 v3 x1 M
def f_X3_countThere_b13 (k13 : Int32 → Nat → Int32 → Int32 → Mem → Option (Mem × Int32)) (v1 : Int32) (v2 : Nat) (v3 : Int32) (v4 : Int32) (M : Mem) : Option (Mem × Int32) := if v3 ≤ v4 then (some (M, v1)) else (gd (M.1 v2 = 13 ∧ vi_ v4 (mm_N M v2)) <| rd (mm_r M v2 (v4).toNatClampNeg) fun a2 => gd (M.1 a2 = 2) <| if (mm_i M a2 5) = 0 then (f_X3_countThere_b36 k13 v1 v2 v3 v4 M) else (lt_ (v1 + (1 : Int32)) fun x3 => f_X3_countThere_b36 k13 x3 v2 v3 v4 M))
def f_X3_countThere_L13  : Nat → Int32 → Nat → Int32 → Int32 → Mem → Option (Mem × Int32)
  | 0 => fun _ _ _ _ _ => none
  | n + 1 => f_X3_countThere_b13  (f_X3_countThere_L13  n)
def f_X3_countThere (v0 : Nat) (M : Mem) : Option (Mem × Int32) := gd (M.1 v0 = 3) <| rd (mm_r M v0 2) fun a4 => gd (M.1 a4 = 13) <| lt_ ((nI (mm_N M a4))) fun x5 => f_X3_countThere_L13 200 (0 : Int32) a4 x5 (0 : Int32) M
abbrev rm_X3_countThere : Room := { frames := 0, cells := 0, slots := 0, locals := 0 }
theorem hd_X3_countThere : yX3_countThere.cls ≠ "java/lang/invoke/MethodHandle" ∧ yX3_countThere.cls ≠ "java/lang/invoke/VarHandle" ∧ (parseMethodDescriptor yX3_countThere.desc).map (fun d => d.parameters.length) = some 0 := by decide +kernel
set_option maxHeartbeats 8000000 in
set_option maxRecDepth 100000 in
theorem c_X3_countThere {l : Launch} {D : va_G} {ca : Nat → ClassId} {b : Nat} {nx : Bool} {v0 : Nat} {M : Mem} {r : Mem × Int32} (hf : f_X3_countThere v0 M = some r) : CtI l yX3_countThere cX3_countThere 6 (some .int) rm_X3_countThere D ca b nx [.ref v0] M r := by
  intro sz
  refine body_start (Qc := fun A => cvI D ca nx A r) (by decide +kernel) (Nat.le_of_ble_eq_true rfl) ?_
  intro p e s m args below meth c A hC hr hR ls hl
  obtain ⟨hx, hb, hml, hts, hown, hlocks, hXe, hA, hAb, hnm⟩ := id hC
  have hK := hXe.1
  have hl : lv_has ls 6 [(0, .ref v0)] := hl
  have hB36 : ∀ (k13 : Int32 → Nat → Int32 → Int32 → Mem → Option (Mem × Int32)) (hk13 : ∀ (v1 : Int32) (v2 : Nat) (v3 : Int32) (v4 : Int32) (M : Mem) (H : Heap) (locs : List Loc) (ls : Array Slot), k13 v1 v2 v3 v4 M = some r → Hp D ca nx A s M H locs → lv_has ls 6 [(1, .int v1), (2, .ref v2), (3, .int v3), (4, .int v4)] → W p l e rm_X3_countThere s m args below meth c H locs 0 0 (MQ below (cvI D ca nx A r) args s 0 0 A) (F0 m 13 ls [])) (v1 : Int32) (v2 : Nat) (v3 : Int32) (v4 : Int32) (M : Mem) (H : Heap) (locs : List Loc) (ls : Array Slot), f_X3_countThere_b36 k13 v1 v2 v3 v4 M = some r → Hp D ca nx A s M H locs → lv_has ls 6 [(1, .int v1), (2, .ref v2), (3, .int v3), (4, .int v4)] → W p l e rm_X3_countThere s m args below meth c H locs 0 0 (MQ below (cvI D ca nx A r) args s 0 0 A) (F0 m 36 ls []) := by
    intro k13 hk13 v1 v2 v3 v4 M H locs ls hf hR hl
    unfold f_X3_countThere_b36 at hf
    refine rg_iinc (pc := 36) hx hb dX3_countThere_36 hl (k := 3) rfl rfl (by decide) hf (fun x1 ls hf hl => ?_)
    have hl : lv_has ls 6 [(4, .int x1), (1, .int v1), (2, .ref v2), (3, .int v3)] := hl
    refine lv_goto (pc := 39) (tgt := 13) hx hb dX3_countThere_39 (by decide) ?_
    exact hk13 v1 v2 v3 x1 M _ _ _ hf hR (lv_sub hl [1, 2, 3, 0] rfl)
  have hB13 : ∀ (k13 : Int32 → Nat → Int32 → Int32 → Mem → Option (Mem × Int32)) (hk13 : ∀ (v1 : Int32) (v2 : Nat) (v3 : Int32) (v4 : Int32) (M : Mem) (H : Heap) (locs : List Loc) (ls : Array Slot), k13 v1 v2 v3 v4 M = some r → Hp D ca nx A s M H locs → lv_has ls 6 [(1, .int v1), (2, .ref v2), (3, .int v3), (4, .int v4)] → W p l e rm_X3_countThere s m args below meth c H locs 0 0 (MQ below (cvI D ca nx A r) args s 0 0 A) (F0 m 13 ls [])) (v1 : Int32) (v2 : Nat) (v3 : Int32) (v4 : Int32) (M : Mem) (H : Heap) (locs : List Loc) (ls : Array Slot), f_X3_countThere_b13 k13 v1 v2 v3 v4 M = some r → Hp D ca nx A s M H locs → lv_has ls 6 [(1, .int v1), (2, .ref v2), (3, .int v3), (4, .int v4)] → W p l e rm_X3_countThere s m args below meth c H locs 0 0 (MQ below (cvI D ca nx A r) args s 0 0 A) (F0 m 13 ls []) := by
    intro k13 hk13 v1 v2 v3 v4 M H locs ls hf hR hl
    unfold f_X3_countThere_b13 at hf
    refine lv_iload (pc := 13) hx hb dX3_countThere_13 (lv_at hl 3 rfl) ?_
    refine lv_iload_n (pc := 15) hx hb dX3_countThere_15 rfl (lv_at hl 2 rfl) ?_
    refine lv_icmp_ge (pc := 16) (tgt := 42) hx hb dX3_countThere_16 (by decide) (fun hc => ?_) (fun hc => ?_)
    · replace hf := it_t hf hc
      refine lv_iload_n (pc := 42) hx hb dX3_countThere_42 rfl (lv_at hl 0 rfl) ?_
      exact rg_iret (pc := 43) hx hb hlocks hr hf hR dX3_countThere_43
    · replace hf := it_f hf hc
      refine lv_aload_n (pc := 19) hx hb dX3_countThere_19 rfl (lv_at hl 1 rfl) ?_
      refine lv_iload (pc := 20) hx hb dX3_countThere_20 (lv_at hl 3 rfl) ?_
      refine rg_aald (pc := 22) (κ := 13) hx hb hK hR 3 rfl (by decide) dX3_countThere_22 hf (fun a2 hf => ?_)
      refine lv_astore (pc := 23) (lv' := [(5, .ref a2), (1, .int v1), (2, .ref v2), (3, .int v3), (4, .int v4)]) hx hb dX3_countThere_23 hl (by decide) rfl (fun ls hl => ?_)
      refine lv_aload (pc := 25) hx hb dX3_countThere_25 (lv_at hl 0 rfl) ?_
      refine rg_get (pc := 27) (C := RX2) (T := TX2) (N := 7) (κ := 2) (v := .int (mm_i M a2 5)) hx hb hts hK hR hown in_2 rfl (by decide) 5 (by decide) m_120 rfl dX3_countThere_27 hf (fun hf => ?_)
      refine lv_if_eq (pc := 30) (tgt := 36) hx hb dX3_countThere_30 (by decide) (fun hc => ?_) (fun hc => ?_)
      · replace hf := it_t hf hc
        exact hB36 k13 hk13 v1 v2 v3 v4 M _ _ _ hf hR (lv_sub hl [1, 2, 3, 4] rfl)
      · replace hf := it_f hf hc
        refine rg_iinc (pc := 33) hx hb dX3_countThere_33 hl (k := 1) rfl rfl (by decide) hf (fun x3 ls hf hl => ?_)
        have hl : lv_has ls 6 [(1, .int x3), (5, .ref a2), (2, .ref v2), (3, .int v3), (4, .int v4)] := hl
        exact hB36 k13 hk13 x3 v2 v3 v4 M _ _ _ hf hR (lv_sub hl [0, 2, 3, 4] rfl)
  have hL13 : ∀  (n : Nat) (v1 : Int32) (v2 : Nat) (v3 : Int32) (v4 : Int32) (M : Mem) (H : Heap) (locs : List Loc) (ls : Array Slot), f_X3_countThere_L13  n v1 v2 v3 v4 M = some r → Hp D ca nx A s M H locs → lv_has ls 6 [(1, .int v1), (2, .ref v2), (3, .int v3), (4, .int v4)] → W p l e rm_X3_countThere s m args below meth c H locs 0 0 (MQ below (cvI D ca nx A r) args s 0 0 A) (F0 m 13 ls []) := by
    intro  n
    induction n with
    | zero => intro v1 v2 v3 v4 M H locs ls hf; exact nomatch (show (none : Option (Mem × Int32)) = some r from hf)
    | succ n ih => intro v1 v2 v3 v4 M H locs ls hf hR hl; exact hB13  (f_X3_countThere_L13  n) ih v1 v2 v3 v4 M H locs ls hf hR hl
  unfold f_X3_countThere at hf
  refine lv_iconst (pc := 0) (v := (0 : Int32)) hx hb dX3_countThere_0 (by decide) ?_
  refine lv_istore_n (pc := 1) (lv' := [(1, .int (0 : Int32)), (0, .ref v0)]) hx hb dX3_countThere_1 rfl hl (by decide) rfl (fun ls hl => ?_)
  refine lv_aload_n (pc := 2) hx hb dX3_countThere_2 rfl (lv_at hl 1 rfl) ?_
  refine rg_getr (pc := 3) (C := RX3) (T := TX3) (N := 7) (κ := 3) hx hb hts hK hR hown in_3 rfl (by decide) 2 (by decide) m_144 rfl dX3_countThere_3 hf (fun a4 hf => ?_)
  refine lv_astore_n (pc := 6) (lv' := [(2, .ref a4), (1, .int (0 : Int32)), (0, .ref v0)]) hx hb dX3_countThere_6 rfl hl (by decide) rfl (fun ls hl => ?_)
  refine lv_aload_n (pc := 7) hx hb dX3_countThere_7 rfl (lv_at hl 0 rfl) ?_
  refine rg_alen (pc := 8) (κ := 13) hx hb hK hR 3 rfl (by decide) dX3_countThere_8 hf (fun hf => ?_)
  refine nm_i hf (fun x5 hf => ?_)
  refine lv_istore_n (pc := 9) (lv' := [(3, .int x5), (2, .ref a4), (1, .int (0 : Int32)), (0, .ref v0)]) hx hb dX3_countThere_9 rfl hl (by decide) rfl (fun ls hl => ?_)
  refine lv_iconst (pc := 10) (v := (0 : Int32)) hx hb dX3_countThere_10 (by decide) ?_
  refine lv_istore (pc := 11) (lv' := [(4, .int (0 : Int32)), (3, .int x5), (2, .ref a4), (1, .int (0 : Int32)), (0, .ref v0)]) hx hb dX3_countThere_11 hl (by decide) rfl (fun ls hl => ?_)
  exact hL13 200 (0 : Int32) a4 x5 (0 : Int32) M _ _ _ hf hR (lv_sub hl [3, 2, 1, 0] rfl)
-- X3_massThere
def f_X3_massThere_b41 (k13 : Int32 → Nat → Int32 → Int32 → Mem → Option (Mem × Int32)) (v1 : Int32) (v2 : Nat) (v3 : Int32) (v4 : Int32) (M : Mem) : Option (Mem × Int32) := lt_ (v4 + (1 : Int32)) fun x1 => k13 v1 v2 v3 x1 M
def f_X3_massThere_b13 (k13 : Int32 → Nat → Int32 → Int32 → Mem → Option (Mem × Int32)) (v1 : Int32) (v2 : Nat) (v3 : Int32) (v4 : Int32) (M : Mem) : Option (Mem × Int32) := if v3 ≤ v4 then (some (M, v1)) else (gd (M.1 v2 = 13 ∧ vi_ v4 (mm_N M v2)) <| rd (mm_r M v2 (v4).toNatClampNeg) fun a2 => gd (M.1 a2 = 2) <| if (mm_i M a2 5) = 0 then (f_X3_massThere_b41 k13 v1 v2 v3 v4 M) else (gd (M.1 a2 = 2) <| lt_ ((v1 + (mm_i M a2 2))) fun x3 => f_X3_massThere_b41 k13 x3 v2 v3 v4 M))
def f_X3_massThere_L13  : Nat → Int32 → Nat → Int32 → Int32 → Mem → Option (Mem × Int32)
  | 0 => fun _ _ _ _ _ => none
  | n + 1 => f_X3_massThere_b13  (f_X3_massThere_L13  n)
def f_X3_massThere (v0 : Nat) (M : Mem) : Option (Mem × Int32) := gd (M.1 v0 = 3) <| rd (mm_r M v0 2) fun a4 => gd (M.1 a4 = 13) <| lt_ ((nI (mm_N M a4))) fun x5 => f_X3_massThere_L13 200 (0 : Int32) a4 x5 (0 : Int32) M
abbrev rm_X3_massThere : Room := { frames := 0, cells := 0, slots := 0, locals := 0 }
theorem hd_X3_massThere : yX3_massThere.cls ≠ "java/lang/invoke/MethodHandle" ∧ yX3_massThere.cls ≠ "java/lang/invoke/VarHandle" ∧ (parseMethodDescriptor yX3_massThere.desc).map (fun d => d.parameters.length) = some 0 := by decide +kernel
set_option maxHeartbeats 8000000 in
set_option maxRecDepth 100000 in
theorem c_X3_massThere {l : Launch} {D : va_G} {ca : Nat → ClassId} {b : Nat} {nx : Bool} {v0 : Nat} {M : Mem} {r : Mem × Int32} (hf : f_X3_massThere v0 M = some r) : CtI l yX3_massThere cX3_massThere 6 (some .int) rm_X3_massThere D ca b nx [.ref v0] M r := by
  intro sz
  refine body_start (Qc := fun A => cvI D ca nx A r) (by decide +kernel) (Nat.le_of_ble_eq_true rfl) ?_
  intro p e s m args below meth c A hC hr hR ls hl
  obtain ⟨hx, hb, hml, hts, hown, hlocks, hXe, hA, hAb, hnm⟩ := id hC
  have hK := hXe.1
  have hl : lv_has ls 6 [(0, .ref v0)] := hl
  have hB41 : ∀ (k13 : Int32 → Nat → Int32 → Int32 → Mem → Option (Mem × Int32)) (hk13 : ∀ (v1 : Int32) (v2 : Nat) (v3 : Int32) (v4 : Int32) (M : Mem) (H : Heap) (locs : List Loc) (ls : Array Slot), k13 v1 v2 v3 v4 M = some r → Hp D ca nx A s M H locs → lv_has ls 6 [(1, .int v1), (2, .ref v2), (3, .int v3), (4, .int v4)] → W p l e rm_X3_massThere s m args below meth c H locs 0 0 (MQ below (cvI D ca nx A r) args s 0 0 A) (F0 m 13 ls [])) (v1 : Int32) (v2 : Nat) (v3 : Int32) (v4 : Int32) (M : Mem) (H : Heap) (locs : List Loc) (ls : Array Slot), f_X3_massThere_b41 k13 v1 v2 v3 v4 M = some r → Hp D ca nx A s M H locs → lv_has ls 6 [(1, .int v1), (2, .ref v2), (3, .int v3), (4, .int v4)] → W p l e rm_X3_massThere s m args below meth c H locs 0 0 (MQ below (cvI D ca nx A r) args s 0 0 A) (F0 m 41 ls []) := by
    intro k13 hk13 v1 v2 v3 v4 M H locs ls hf hR hl
    unfold f_X3_massThere_b41 at hf
    refine rg_iinc (pc := 41) hx hb dX3_massThere_41 hl (k := 3) rfl rfl (by decide) hf (fun x1 ls hf hl => ?_)
    have hl : lv_has ls 6 [(4, .int x1), (1, .int v1), (2, .ref v2), (3, .int v3)] := hl
    refine lv_goto (pc := 44) (tgt := 13) hx hb dX3_massThere_44 (by decide) ?_
    exact hk13 v1 v2 v3 x1 M _ _ _ hf hR (lv_sub hl [1, 2, 3, 0] rfl)
  have hB13 : ∀ (k13 : Int32 → Nat → Int32 → Int32 → Mem → Option (Mem × Int32)) (hk13 : ∀ (v1 : Int32) (v2 : Nat) (v3 : Int32) (v4 : Int32) (M : Mem) (H : Heap) (locs : List Loc) (ls : Array Slot), k13 v1 v2 v3 v4 M = some r → Hp D ca nx A s M H locs → lv_has ls 6 [(1, .int v1), (2, .ref v2), (3, .int v3), (4, .int v4)] → W p l e rm_X3_massThere s m args below meth c H locs 0 0 (MQ below (cvI D ca nx A r) args s 0 0 A) (F0 m 13 ls [])) (v1 : Int32) (v2 : Nat) (v3 : Int32) (v4 : Int32) (M : Mem) (H : Heap) (locs : List Loc) (ls : Array Slot), f_X3_massThere_b13 k13 v1 v2 v3 v4 M = some r → Hp D ca nx A s M H locs → lv_has ls 6 [(1, .int v1), (2, .ref v2), (3, .int v3), (4, .int v4)] → W p l e rm_X3_massThere s m args below meth c H locs 0 0 (MQ below (cvI D ca nx A r) args s 0 0 A) (F0 m 13 ls []) := by
    intro k13 hk13 v1 v2 v3 v4 M H locs ls hf hR hl
    unfold f_X3_massThere_b13 at hf
    refine lv_iload (pc := 13) hx hb dX3_massThere_13 (lv_at hl 3 rfl) ?_
    refine lv_iload_n (pc := 15) hx hb dX3_massThere_15 rfl (lv_at hl 2 rfl) ?_
    refine lv_icmp_ge (pc := 16) (tgt := 47) hx hb dX3_massThere_16 (by decide) (fun hc => ?_) (fun hc => ?_)
    · replace hf := it_t hf hc
      refine lv_iload_n (pc := 47) hx hb dX3_massThere_47 rfl (lv_at hl 0 rfl) ?_
      exact rg_iret (pc := 48) hx hb hlocks hr hf hR dX3_massThere_48
    · replace hf := it_f hf hc
      refine lv_aload_n (pc := 19) hx hb dX3_massThere_19 rfl (lv_at hl 1 rfl) ?_
      refine lv_iload (pc := 20) hx hb dX3_massThere_20 (lv_at hl 3 rfl) ?_
      refine rg_aald (pc := 22) (κ := 13) hx hb hK hR 3 rfl (by decide) dX3_massThere_22 hf (fun a2 hf => ?_)
      refine lv_astore (pc := 23) (lv' := [(5, .ref a2), (1, .int v1), (2, .ref v2), (3, .int v3), (4, .int v4)]) hx hb dX3_massThere_23 hl (by decide) rfl (fun ls hl => ?_)
      refine lv_aload (pc := 25) hx hb dX3_massThere_25 (lv_at hl 0 rfl) ?_
      refine rg_get (pc := 27) (C := RX2) (T := TX2) (N := 7) (κ := 2) (v := .int (mm_i M a2 5)) hx hb hts hK hR hown in_2 rfl (by decide) 5 (by decide) m_120 rfl dX3_massThere_27 hf (fun hf => ?_)
      refine lv_if_eq (pc := 30) (tgt := 41) hx hb dX3_massThere_30 (by decide) (fun hc => ?_) (fun hc => ?_)
      · replace hf := it_t hf hc
        exact hB41 k13 hk13 v1 v2 v3 v4 M _ _ _ hf hR (lv_sub hl [1, 2, 3, 4] rfl)
      · replace hf := it_f hf hc
        refine lv_iload_n (pc := 33) hx hb dX3_massThere_33 rfl (lv_at hl 1 rfl) ?_
        refine lv_aload (pc := 34) hx hb dX3_massThere_34 (lv_at hl 0 rfl) ?_
        refine rg_get (pc := 36) (C := RX2) (T := TX2) (N := 7) (κ := 2) (v := .int (mm_i M a2 2)) hx hb hts hK hR hown in_2 rfl (by decide) 2 (by decide) m_114 rfl dX3_massThere_36 hf (fun hf => ?_)
        refine lv_iadd (pc := 39) hx hb dX3_massThere_39 ?_
        refine nm_i hf (fun x3 hf => ?_)
        refine lv_istore_n (pc := 40) (lv' := [(1, .int x3), (5, .ref a2), (2, .ref v2), (3, .int v3), (4, .int v4)]) hx hb dX3_massThere_40 rfl hl (by decide) rfl (fun ls hl => ?_)
        exact hB41 k13 hk13 x3 v2 v3 v4 M _ _ _ hf hR (lv_sub hl [0, 2, 3, 4] rfl)
  have hL13 : ∀  (n : Nat) (v1 : Int32) (v2 : Nat) (v3 : Int32) (v4 : Int32) (M : Mem) (H : Heap) (locs : List Loc) (ls : Array Slot), f_X3_massThere_L13  n v1 v2 v3 v4 M = some r → Hp D ca nx A s M H locs → lv_has ls 6 [(1, .int v1), (2, .ref v2), (3, .int v3), (4, .int v4)] → W p l e rm_X3_massThere s m args below meth c H locs 0 0 (MQ below (cvI D ca nx A r) args s 0 0 A) (F0 m 13 ls []) := by
    intro  n
    induction n with
    | zero => intro v1 v2 v3 v4 M H locs ls hf; exact nomatch (show (none : Option (Mem × Int32)) = some r from hf)
    | succ n ih => intro v1 v2 v3 v4 M H locs ls hf hR hl; exact hB13  (f_X3_massThere_L13  n) ih v1 v2 v3 v4 M H locs ls hf hR hl
  unfold f_X3_massThere at hf
  refine lv_iconst (pc := 0) (v := (0 : Int32)) hx hb dX3_massThere_0 (by decide) ?_
  refine lv_istore_n (pc := 1) (lv' := [(1, .int (0 : Int32)), (0, .ref v0)]) hx hb dX3_massThere_1 rfl hl (by decide) rfl (fun ls hl => ?_)
  refine lv_aload_n (pc := 2) hx hb dX3_massThere_2 rfl (lv_at hl 1 rfl) ?_
  refine rg_getr (pc := 3) (C := RX3) (T := TX3) (N := 7) (κ := 3) hx hb hts hK hR hown in_3 rfl (by decide) 2 (by decide) m_144 rfl dX3_massThere_3 hf (fun a4 hf => ?_)
  refine lv_astore_n (pc := 6) (lv' := [(2, .ref a4), (1, .int (0 : Int32)), (0, .ref v0)]) hx hb dX3_massThere_6 rfl hl (by decide) rfl (fun ls hl => ?_)
  refine lv_aload_n (pc := 7) hx hb dX3_massThere_7 rfl (lv_at hl 0 rfl) ?_
  refine rg_alen (pc := 8) (κ := 13) hx hb hK hR 3 rfl (by decide) dX3_massThere_8 hf (fun hf => ?_)
  refine nm_i hf (fun x5 hf => ?_)
  refine lv_istore_n (pc := 9) (lv' := [(3, .int x5), (2, .ref a4), (1, .int (0 : Int32)), (0, .ref v0)]) hx hb dX3_massThere_9 rfl hl (by decide) rfl (fun ls hl => ?_)
  refine lv_iconst (pc := 10) (v := (0 : Int32)) hx hb dX3_massThere_10 (by decide) ?_
  refine lv_istore (pc := 11) (lv' := [(4, .int (0 : Int32)), (3, .int x5), (2, .ref a4), (1, .int (0 : Int32)), (0, .ref v0)]) hx hb dX3_massThere_11 hl (by decide) rfl (fun ls hl => ?_)
  exact hL13 200 (0 : Int32) a4 x5 (0 : Int32) M _ _ _ hf hR (lv_sub hl [3, 2, 1, 0] rfl)
-- X3_momentumThere
def f_X3_momentumThere_b43 (k14 : Int64 → Nat → Int32 → Int32 → Mem → Option (Mem × Int64)) (v1 : Int64) (v3 : Nat) (v4 : Int32) (v5 : Int32) (M : Mem) : Option (Mem × Int64) := lt_ (v5 + (1 : Int32)) fun x1 => k14 v1 v3 v4 x1 M
def f_X3_momentumThere_b14 (k14 : Int64 → Nat → Int32 → Int32 → Mem → Option (Mem × Int64)) (v1 : Int64) (v3 : Nat) (v4 : Int32) (v5 : Int32) (M : Mem) : Option (Mem × Int64) := if v4 ≤ v5 then (some (M, v1)) else (gd (M.1 v3 = 13 ∧ vi_ v5 (mm_N M v3)) <| rd (mm_r M v3 (v5).toNatClampNeg) fun a2 => gd (M.1 a2 = 2) <| if (mm_i M a2 5) = 0 then (f_X3_momentumThere_b43 k14 v1 v3 v4 v5 M) else (gd (M.1 a2 = 2) <| bd (f_X2_carried a2 M) fun z3 => lt_ ((v1 + z3.2)) fun x4 => f_X3_momentumThere_b43 k14 x4 v3 v4 v5 z3.1))
def f_X3_momentumThere_L14  : Nat → Int64 → Nat → Int32 → Int32 → Mem → Option (Mem × Int64)
  | 0 => fun _ _ _ _ _ => none
  | n + 1 => f_X3_momentumThere_b14  (f_X3_momentumThere_L14  n)
def f_X3_momentumThere (v0 : Nat) (M : Mem) : Option (Mem × Int64) := gd (M.1 v0 = 3) <| rd (mm_r M v0 2) fun a5 => gd (M.1 a5 = 13) <| lt_ ((nI (mm_N M a5))) fun x6 => f_X3_momentumThere_L14 200 (0 : Int64) a5 x6 (0 : Int32) M
abbrev rm_X3_momentumThere : Room := { frames := 1, cells := 0, slots := 0, locals := 20 }
theorem hd_X3_momentumThere : yX3_momentumThere.cls ≠ "java/lang/invoke/MethodHandle" ∧ yX3_momentumThere.cls ≠ "java/lang/invoke/VarHandle" ∧ (parseMethodDescriptor yX3_momentumThere.desc).map (fun d => d.parameters.length) = some 0 := by decide +kernel
set_option maxHeartbeats 8000000 in
set_option maxRecDepth 100000 in
theorem c_X3_momentumThere {l : Launch} {D : va_G} {ca : Nat → ClassId} {b : Nat} {nx : Bool} {v0 : Nat} {M : Mem} {r : Mem × Int64} (hf : f_X3_momentumThere v0 M = some r) : CtL l yX3_momentumThere cX3_momentumThere 7 (some .long) rm_X3_momentumThere D ca b nx [.ref v0] M r := by
  intro sz
  refine body_start (Qc := fun A => cvL D ca nx A r) (by decide +kernel) (Nat.le_of_ble_eq_true rfl) ?_
  intro p e s m args below meth c A hC hr hR ls hl
  obtain ⟨hx, hb, hml, hts, hown, hlocks, hXe, hA, hAb, hnm⟩ := id hC
  have hK := hXe.1
  have hl : lv_has ls 7 [(0, .ref v0)] := hl
  have hB43 : ∀ (k14 : Int64 → Nat → Int32 → Int32 → Mem → Option (Mem × Int64)) (hk14 : ∀ (v1 : Int64) (v3 : Nat) (v4 : Int32) (v5 : Int32) (M : Mem) (H : Heap) (locs : List Loc) (ls : Array Slot), k14 v1 v3 v4 v5 M = some r → Hp D ca nx A s M H locs → lv_has ls 7 [(1, .long v1), (3, .ref v3), (4, .int v4), (5, .int v5)] → W p l e rm_X3_momentumThere s m args below meth c H locs 0 0 (MQ below (cvL D ca nx A r) args s 0 0 A) (F0 m 14 ls [])) (v1 : Int64) (v3 : Nat) (v4 : Int32) (v5 : Int32) (M : Mem) (H : Heap) (locs : List Loc) (ls : Array Slot), f_X3_momentumThere_b43 k14 v1 v3 v4 v5 M = some r → Hp D ca nx A s M H locs → lv_has ls 7 [(1, .long v1), (3, .ref v3), (4, .int v4), (5, .int v5)] → W p l e rm_X3_momentumThere s m args below meth c H locs 0 0 (MQ below (cvL D ca nx A r) args s 0 0 A) (F0 m 43 ls []) := by
    intro k14 hk14 v1 v3 v4 v5 M H locs ls hf hR hl
    unfold f_X3_momentumThere_b43 at hf
    refine rg_iinc (pc := 43) hx hb dX3_momentumThere_43 hl (k := 3) rfl rfl (by decide) hf (fun x1 ls hf hl => ?_)
    have hl : lv_has ls 7 [(5, .int x1), (1, .long v1), (3, .ref v3), (4, .int v4)] := hl
    refine lv_goto (pc := 46) (tgt := 14) hx hb dX3_momentumThere_46 (by decide) ?_
    exact hk14 v1 v3 v4 x1 M _ _ _ hf hR (lv_sub hl [1, 2, 3, 0] rfl)
  have hB14 : ∀ (k14 : Int64 → Nat → Int32 → Int32 → Mem → Option (Mem × Int64)) (hk14 : ∀ (v1 : Int64) (v3 : Nat) (v4 : Int32) (v5 : Int32) (M : Mem) (H : Heap) (locs : List Loc) (ls : Array Slot), k14 v1 v3 v4 v5 M = some r → Hp D ca nx A s M H locs → lv_has ls 7 [(1, .long v1), (3, .ref v3), (4, .int v4), (5, .int v5)] → W p l e rm_X3_momentumThere s m args below meth c H locs 0 0 (MQ below (cvL D ca nx A r) args s 0 0 A) (F0 m 14 ls [])) (v1 : Int64) (v3 : Nat) (v4 : Int32) (v5 : Int32) (M : Mem) (H : Heap) (locs : List Loc) (ls : Array Slot), f_X3_momentumThere_b14 k14 v1 v3 v4 v5 M = some r → Hp D ca nx A s M H locs → lv_has ls 7 [(1, .long v1), (3, .ref v3), (4, .int v4), (5, .int v5)] → W p l e rm_X3_momentumThere s m args below meth c H locs 0 0 (MQ below (cvL D ca nx A r) args s 0 0 A) (F0 m 14 ls []) := by
    intro k14 hk14 v1 v3 v4 v5 M H locs ls hf hR hl
    unfold f_X3_momentumThere_b14 at hf
    refine lv_iload (pc := 14) hx hb dX3_momentumThere_14 (lv_at hl 3 rfl) ?_
    refine lv_iload (pc := 16) hx hb dX3_momentumThere_16 (lv_at hl 2 rfl) ?_
    refine lv_icmp_ge (pc := 18) (tgt := 49) hx hb dX3_momentumThere_18 (by decide) (fun hc => ?_) (fun hc => ?_)
    · replace hf := it_t hf hc
      refine lv_lload_n (pc := 49) hx hb dX3_momentumThere_49 rfl (lv_at hl 0 rfl) ?_
      exact rg_lret (pc := 50) hx hb hlocks hr hf hR dX3_momentumThere_50
    · replace hf := it_f hf hc
      refine lv_aload_n (pc := 21) hx hb dX3_momentumThere_21 rfl (lv_at hl 1 rfl) ?_
      refine lv_iload (pc := 22) hx hb dX3_momentumThere_22 (lv_at hl 3 rfl) ?_
      refine rg_aald (pc := 24) (κ := 13) hx hb hK hR 3 rfl (by decide) dX3_momentumThere_24 hf (fun a2 hf => ?_)
      refine lv_astore (pc := 25) (lv' := [(6, .ref a2), (1, .long v1), (3, .ref v3), (4, .int v4), (5, .int v5)]) hx hb dX3_momentumThere_25 hl (by decide) rfl (fun ls hl => ?_)
      refine lv_aload (pc := 27) hx hb dX3_momentumThere_27 (lv_at hl 0 rfl) ?_
      refine rg_get (pc := 29) (C := RX2) (T := TX2) (N := 7) (κ := 2) (v := .int (mm_i M a2 5)) hx hb hts hK hR hown in_2 rfl (by decide) 5 (by decide) m_120 rfl dX3_momentumThere_29 hf (fun hf => ?_)
      refine lv_if_eq (pc := 32) (tgt := 43) hx hb dX3_momentumThere_32 (by decide) (fun hc => ?_) (fun hc => ?_)
      · replace hf := it_t hf hc
        exact hB43 k14 hk14 v1 v3 v4 v5 M _ _ _ hf hR (lv_sub hl [1, 2, 3, 4] rfl)
      · replace hf := it_f hf hc
        refine lv_lload_n (pc := 35) hx hb dX3_momentumThere_35 rfl (lv_at hl 1 rfl) ?_
        refine lv_aload (pc := 36) hx hb dX3_momentumThere_36 (lv_at hl 0 rfl) ?_
        obtain ⟨hq, hf⟩ := gd_e hf
        refine rg_L (pc := 38) hf hR hA (fun z hz => rn_V (κ := 2) (As := []) (rest := [.long v1]) hC hR rfl (by decide) hq (c_X2_carried  hz _) m_353 m_354 m_355 m_5 m_356 hd_X2_carried ⟨rfl, rfl, Nat.le_of_ble_eq_true rfl, Nat.le_of_ble_eq_true rfl⟩ rfl hl.1 rfl (Nat.le_of_ble_eq_true rfl) dX3_momentumThere_38 ⟨Nat.le_of_ble_eq_true rfl, Nat.le_of_ble_eq_true rfl⟩) (fun z3 H locs hf hR => ?_)
        refine lv_ladd (pc := 41) hx hb dX3_momentumThere_41 ?_
        refine nm_l hf (fun x4 hf => ?_)
        refine lv_lstore_n (pc := 42) (lv' := [(1, .long x4), (6, .ref a2), (3, .ref v3), (4, .int v4), (5, .int v5)]) hx hb dX3_momentumThere_42 rfl hl (by decide) rfl (fun ls hl => ?_)
        exact hB43 k14 hk14 x4 v3 v4 v5 z3.1 _ _ _ hf hR (lv_sub hl [0, 2, 3, 4] rfl)
  have hL14 : ∀  (n : Nat) (v1 : Int64) (v3 : Nat) (v4 : Int32) (v5 : Int32) (M : Mem) (H : Heap) (locs : List Loc) (ls : Array Slot), f_X3_momentumThere_L14  n v1 v3 v4 v5 M = some r → Hp D ca nx A s M H locs → lv_has ls 7 [(1, .long v1), (3, .ref v3), (4, .int v4), (5, .int v5)] → W p l e rm_X3_momentumThere s m args below meth c H locs 0 0 (MQ below (cvL D ca nx A r) args s 0 0 A) (F0 m 14 ls []) := by
    intro  n
    induction n with
    | zero => intro v1 v3 v4 v5 M H locs ls hf; exact nomatch (show (none : Option (Mem × Int64)) = some r from hf)
    | succ n ih => intro v1 v3 v4 v5 M H locs ls hf hR hl; exact hB14  (f_X3_momentumThere_L14  n) ih v1 v3 v4 v5 M H locs ls hf hR hl
  unfold f_X3_momentumThere at hf
  refine lv_lconst (pc := 0) (v := (0 : Int64)) hx hb dX3_momentumThere_0 (by decide) ?_
  refine lv_lstore_n (pc := 1) (lv' := [(1, .long (0 : Int64)), (0, .ref v0)]) hx hb dX3_momentumThere_1 rfl hl (by decide) rfl (fun ls hl => ?_)
  refine lv_aload_n (pc := 2) hx hb dX3_momentumThere_2 rfl (lv_at hl 1 rfl) ?_
  refine rg_getr (pc := 3) (C := RX3) (T := TX3) (N := 7) (κ := 3) hx hb hts hK hR hown in_3 rfl (by decide) 2 (by decide) m_144 rfl dX3_momentumThere_3 hf (fun a5 hf => ?_)
  refine lv_astore_n (pc := 6) (lv' := [(3, .ref a5), (1, .long (0 : Int64)), (0, .ref v0)]) hx hb dX3_momentumThere_6 rfl hl (by decide) rfl (fun ls hl => ?_)
  refine lv_aload_n (pc := 7) hx hb dX3_momentumThere_7 rfl (lv_at hl 0 rfl) ?_
  refine rg_alen (pc := 8) (κ := 13) hx hb hK hR 3 rfl (by decide) dX3_momentumThere_8 hf (fun hf => ?_)
  refine nm_i hf (fun x6 hf => ?_)
  refine lv_istore (pc := 9) (lv' := [(4, .int x6), (3, .ref a5), (1, .long (0 : Int64)), (0, .ref v0)]) hx hb dX3_momentumThere_9 hl (by decide) rfl (fun ls hl => ?_)
  refine lv_iconst (pc := 11) (v := (0 : Int32)) hx hb dX3_momentumThere_11 (by decide) ?_
  refine lv_istore (pc := 12) (lv' := [(5, .int (0 : Int32)), (4, .int x6), (3, .ref a5), (1, .long (0 : Int64)), (0, .ref v0)]) hx hb dX3_momentumThere_12 hl (by decide) rfl (fun ls hl => ?_)
  exact hL14 200 (0 : Int64) a5 x6 (0 : Int32) M _ _ _ hf hR (lv_sub hl [3, 2, 1, 0] rfl)
-- X3_weighLanes
def f_X3_weighLanes_b82 (k29 : Nat → Nat → Int32 → Int32 → Mem → Option (Mem)) (v1 : Nat) (v2 : Nat) (v3 : Int32) (v4 : Int32) (M : Mem) : Option (Mem) := lt_ (v4 + (1 : Int32)) fun x1 => k29 v1 v2 v3 x1 M
def f_X3_weighLanes_b29 (k29 : Nat → Nat → Int32 → Int32 → Mem → Option (Mem)) (v1 : Nat) (v2 : Nat) (v3 : Int32) (v4 : Int32) (M : Mem) : Option (Mem) := if v3 ≤ v4 then (some M) else (gd (M.1 v2 = 13 ∧ vi_ v4 (mm_N M v2)) <| rd (mm_r M v2 (v4).toNatClampNeg) fun a2 => gd (M.1 a2 = 2) <| if (mm_i M a2 5) = 0 then (f_X3_weighLanes_b82 k29 v1 v2 v3 v4 M) else (gd (M.1 a2 = 2) <| if (mm_i M a2 0) < 0 then (f_X3_weighLanes_b82 k29 v1 v2 v3 v4 M) else (gd (M.1 a2 = 2) <| gd (M.1 v1 = 9) <| if (nI (mm_N M v1)) ≤ (mm_i M a2 0) then (f_X3_weighLanes_b82 k29 v1 v2 v3 v4 M) else (gd (M.1 a2 = 2) <| gd (M.1 v1 = 9 ∧ vi_ (mm_i M a2 0) (mm_N M v1)) <| gd (M.1 a2 = 2) <| gd (M.1 v1 = 9 ∧ vi_ (mm_i M a2 0) (mm_N M v1)) <| lt_ (ms_i M v1 ((mm_i M a2 0)).toNatClampNeg ((mm_i M v1 ((mm_i M a2 0)).toNatClampNeg) + (mm_i M a2 2))) fun M3 => f_X3_weighLanes_b82 k29 v1 v2 v3 v4 M3))))
def f_X3_weighLanes_L29  : Nat → Nat → Nat → Int32 → Int32 → Mem → Option (Mem)
  | 0 => fun _ _ _ _ _ => none
  | n + 1 => f_X3_weighLanes_b29  (f_X3_weighLanes_L29  n)
def f_X3_weighLanes_b2 (k2 : Nat → Nat → Int32 → Mem → Option (Mem)) (v0 : Nat) (v1 : Nat) (v2 : Int32) (M : Mem) : Option (Mem) := gd (M.1 v1 = 9) <| if (nI (mm_N M v1)) ≤ v2 then (gd (M.1 v0 = 3) <| rd (mm_r M v0 2) fun a4 => gd (M.1 a4 = 13) <| lt_ ((nI (mm_N M a4))) fun x5 => f_X3_weighLanes_L29 200 v1 a4 x5 (0 : Int32) M) else (gd (M.1 v1 = 9 ∧ vi_ v2 (mm_N M v1)) <| lt_ (ms_i M v1 (v2).toNatClampNeg (0 : Int32)) fun M6 => lt_ (v2 + (1 : Int32)) fun x7 => k2 v0 v1 x7 M6)
def f_X3_weighLanes_L2  : Nat → Nat → Nat → Int32 → Mem → Option (Mem)
  | 0 => fun _ _ _ _ => none
  | n + 1 => f_X3_weighLanes_b2  (f_X3_weighLanes_L2  n)
def f_X3_weighLanes (v0 : Nat) (v1 : Nat) (M : Mem) : Option (Mem) := f_X3_weighLanes_L2 200 v0 v1 (0 : Int32) M
abbrev rm_X3_weighLanes : Room := { frames := 0, cells := 0, slots := 0, locals := 0 }
theorem hd_X3_weighLanes : yX3_weighLanes.cls ≠ "java/lang/invoke/MethodHandle" ∧ yX3_weighLanes.cls ≠ "java/lang/invoke/VarHandle" ∧ (parseMethodDescriptor yX3_weighLanes.desc).map (fun d => d.parameters.length) = some 1 := by decide +kernel
set_option maxHeartbeats 8000000 in
set_option maxRecDepth 100000 in
theorem c_X3_weighLanes {l : Launch} {D : va_G} {ca : Nat → ClassId} {b : Nat} {nx : Bool} {v0 : Nat} {v1 : Nat} {M : Mem} {r : Mem} (hf : f_X3_weighLanes v0 v1 M = some r) : CtV l yX3_weighLanes cX3_weighLanes 6 none rm_X3_weighLanes D ca b nx [.ref v0, .ref v1] M r 0 0 := by
  intro sz
  refine body_start (Qc := fun A => cvV D ca nx A r) (by decide +kernel) (Nat.le_of_ble_eq_true rfl) ?_
  intro p e s m args below meth c A hC hr hR ls hl
  obtain ⟨hx, hb, hml, hts, hown, hlocks, hXe, hA, hAb, hnm⟩ := id hC
  have hK := hXe.1
  have hl : lv_has ls 6 [(0, .ref v0), (1, .ref v1)] := hl
  have hB82 : ∀ (k29 : Nat → Nat → Int32 → Int32 → Mem → Option (Mem)) (hk29 : ∀ (v1 : Nat) (v2 : Nat) (v3 : Int32) (v4 : Int32) (M : Mem) (H : Heap) (locs : List Loc) (ls : Array Slot), k29 v1 v2 v3 v4 M = some r → Hp D ca nx A s M H locs → lv_has ls 6 [(1, .ref v1), (2, .ref v2), (3, .int v3), (4, .int v4)] → W p l e rm_X3_weighLanes s m args below meth c H locs 0 0 (MQ below (cvV D ca nx A r) args s 0 0 A) (F0 m 29 ls [])) (v1 : Nat) (v2 : Nat) (v3 : Int32) (v4 : Int32) (M : Mem) (H : Heap) (locs : List Loc) (ls : Array Slot), f_X3_weighLanes_b82 k29 v1 v2 v3 v4 M = some r → Hp D ca nx A s M H locs → lv_has ls 6 [(1, .ref v1), (2, .ref v2), (3, .int v3), (4, .int v4)] → W p l e rm_X3_weighLanes s m args below meth c H locs 0 0 (MQ below (cvV D ca nx A r) args s 0 0 A) (F0 m 82 ls []) := by
    intro k29 hk29 v1 v2 v3 v4 M H locs ls hf hR hl
    unfold f_X3_weighLanes_b82 at hf
    refine rg_iinc (pc := 82) hx hb dX3_weighLanes_82 hl (k := 3) rfl rfl (by decide) hf (fun x1 ls hf hl => ?_)
    have hl : lv_has ls 6 [(4, .int x1), (1, .ref v1), (2, .ref v2), (3, .int v3)] := hl
    refine lv_goto (pc := 85) (tgt := 29) hx hb dX3_weighLanes_85 (by decide) ?_
    exact hk29 v1 v2 v3 x1 M _ _ _ hf hR (lv_sub hl [1, 2, 3, 0] rfl)
  have hB29 : ∀ (k29 : Nat → Nat → Int32 → Int32 → Mem → Option (Mem)) (hk29 : ∀ (v1 : Nat) (v2 : Nat) (v3 : Int32) (v4 : Int32) (M : Mem) (H : Heap) (locs : List Loc) (ls : Array Slot), k29 v1 v2 v3 v4 M = some r → Hp D ca nx A s M H locs → lv_has ls 6 [(1, .ref v1), (2, .ref v2), (3, .int v3), (4, .int v4)] → W p l e rm_X3_weighLanes s m args below meth c H locs 0 0 (MQ below (cvV D ca nx A r) args s 0 0 A) (F0 m 29 ls [])) (v1 : Nat) (v2 : Nat) (v3 : Int32) (v4 : Int32) (M : Mem) (H : Heap) (locs : List Loc) (ls : Array Slot), f_X3_weighLanes_b29 k29 v1 v2 v3 v4 M = some r → Hp D ca nx A s M H locs → lv_has ls 6 [(1, .ref v1), (2, .ref v2), (3, .int v3), (4, .int v4)] → W p l e rm_X3_weighLanes s m args below meth c H locs 0 0 (MQ below (cvV D ca nx A r) args s 0 0 A) (F0 m 29 ls []) := by
    intro k29 hk29 v1 v2 v3 v4 M H locs ls hf hR hl
    unfold f_X3_weighLanes_b29 at hf
    refine lv_iload (pc := 29) hx hb dX3_weighLanes_29 (lv_at hl 3 rfl) ?_
    refine lv_iload_n (pc := 31) hx hb dX3_weighLanes_31 rfl (lv_at hl 2 rfl) ?_
    refine lv_icmp_ge (pc := 32) (tgt := 88) hx hb dX3_weighLanes_32 (by decide) (fun hc => ?_) (fun hc => ?_)
    · replace hf := it_t hf hc
      exact rg_vret (pc := 88) hx hb hlocks hr hf hR dX3_weighLanes_88
    · replace hf := it_f hf hc
      refine lv_aload_n (pc := 35) hx hb dX3_weighLanes_35 rfl (lv_at hl 1 rfl) ?_
      refine lv_iload (pc := 36) hx hb dX3_weighLanes_36 (lv_at hl 3 rfl) ?_
      refine rg_aald (pc := 38) (κ := 13) hx hb hK hR 3 rfl (by decide) dX3_weighLanes_38 hf (fun a2 hf => ?_)
      refine lv_astore (pc := 39) (lv' := [(5, .ref a2), (1, .ref v1), (2, .ref v2), (3, .int v3), (4, .int v4)]) hx hb dX3_weighLanes_39 hl (by decide) rfl (fun ls hl => ?_)
      refine lv_aload (pc := 41) hx hb dX3_weighLanes_41 (lv_at hl 0 rfl) ?_
      refine rg_get (pc := 43) (C := RX2) (T := TX2) (N := 7) (κ := 2) (v := .int (mm_i M a2 5)) hx hb hts hK hR hown in_2 rfl (by decide) 5 (by decide) m_120 rfl dX3_weighLanes_43 hf (fun hf => ?_)
      refine lv_if_eq (pc := 46) (tgt := 82) hx hb dX3_weighLanes_46 (by decide) (fun hc => ?_) (fun hc => ?_)
      · replace hf := it_t hf hc
        exact hB82 k29 hk29 v1 v2 v3 v4 M _ _ _ hf hR (lv_sub hl [1, 2, 3, 4] rfl)
      · replace hf := it_f hf hc
        refine lv_aload (pc := 49) hx hb dX3_weighLanes_49 (lv_at hl 0 rfl) ?_
        refine rg_get (pc := 51) (C := RX2) (T := TX2) (N := 7) (κ := 2) (v := .int (mm_i M a2 0)) hx hb hts hK hR hown in_2 rfl (by decide) 0 (by decide) m_108 rfl dX3_weighLanes_51 hf (fun hf => ?_)
        refine lv_if_lt (pc := 54) (tgt := 82) hx hb dX3_weighLanes_54 (by decide) (fun hc => ?_) (fun hc => ?_)
        · replace hf := it_t hf hc
          exact hB82 k29 hk29 v1 v2 v3 v4 M _ _ _ hf hR (lv_sub hl [1, 2, 3, 4] rfl)
        · replace hf := it_f hf hc
          refine lv_aload (pc := 57) hx hb dX3_weighLanes_57 (lv_at hl 0 rfl) ?_
          refine rg_get (pc := 59) (C := RX2) (T := TX2) (N := 7) (κ := 2) (v := .int (mm_i M a2 0)) hx hb hts hK hR hown in_2 rfl (by decide) 0 (by decide) m_108 rfl dX3_weighLanes_59 hf (fun hf => ?_)
          refine lv_aload_n (pc := 62) hx hb dX3_weighLanes_62 rfl (lv_at hl 1 rfl) ?_
          refine rg_alen (pc := 63) (κ := 9) hx hb hK hR 0 rfl (by decide) dX3_weighLanes_63 hf (fun hf => ?_)
          refine lv_icmp_ge (pc := 64) (tgt := 82) hx hb dX3_weighLanes_64 (by decide) (fun hc => ?_) (fun hc => ?_)
          · replace hf := it_t hf hc
            exact hB82 k29 hk29 v1 v2 v3 v4 M _ _ _ hf hR (lv_sub hl [1, 2, 3, 4] rfl)
          · replace hf := it_f hf hc
            refine lv_aload_n (pc := 67) hx hb dX3_weighLanes_67 rfl (lv_at hl 1 rfl) ?_
            refine lv_aload (pc := 68) hx hb dX3_weighLanes_68 (lv_at hl 0 rfl) ?_
            refine rg_get (pc := 70) (C := RX2) (T := TX2) (N := 7) (κ := 2) (v := .int (mm_i M a2 0)) hx hb hts hK hR hown in_2 rfl (by decide) 0 (by decide) m_108 rfl dX3_weighLanes_70 hf (fun hf => ?_)
            refine lv_dup2_11 (pc := 73) hx hb dX3_weighLanes_73 rfl rfl ?_
            refine rg_iald (pc := 74) hx hb hK hR dX3_weighLanes_74 hf (fun hf => ?_)
            refine lv_aload (pc := 75) hx hb dX3_weighLanes_75 (lv_at hl 0 rfl) ?_
            refine rg_get (pc := 77) (C := RX2) (T := TX2) (N := 7) (κ := 2) (v := .int (mm_i M a2 2)) hx hb hts hK hR hown in_2 rfl (by decide) 2 (by decide) m_114 rfl dX3_weighLanes_77 hf (fun hf => ?_)
            refine lv_iadd (pc := 80) hx hb dX3_weighLanes_80 ?_
            refine rg_iast (pc := 81) hx hb hK hR dX3_weighLanes_81 hf (fun M3 H locs hf hR => ?_)
            exact hB82 k29 hk29 v1 v2 v3 v4 M3 _ _ _ hf hR (lv_sub hl [1, 2, 3, 4] rfl)
  have hL29 : ∀  (n : Nat) (v1 : Nat) (v2 : Nat) (v3 : Int32) (v4 : Int32) (M : Mem) (H : Heap) (locs : List Loc) (ls : Array Slot), f_X3_weighLanes_L29  n v1 v2 v3 v4 M = some r → Hp D ca nx A s M H locs → lv_has ls 6 [(1, .ref v1), (2, .ref v2), (3, .int v3), (4, .int v4)] → W p l e rm_X3_weighLanes s m args below meth c H locs 0 0 (MQ below (cvV D ca nx A r) args s 0 0 A) (F0 m 29 ls []) := by
    intro  n
    induction n with
    | zero => intro v1 v2 v3 v4 M H locs ls hf; exact nomatch (show (none : Option (Mem)) = some r from hf)
    | succ n ih => intro v1 v2 v3 v4 M H locs ls hf hR hl; exact hB29  (f_X3_weighLanes_L29  n) ih v1 v2 v3 v4 M H locs ls hf hR hl
  have hB2 : ∀ (k2 : Nat → Nat → Int32 → Mem → Option (Mem)) (hk2 : ∀ (v0 : Nat) (v1 : Nat) (v2 : Int32) (M : Mem) (H : Heap) (locs : List Loc) (ls : Array Slot), k2 v0 v1 v2 M = some r → Hp D ca nx A s M H locs → lv_has ls 6 [(0, .ref v0), (1, .ref v1), (2, .int v2)] → W p l e rm_X3_weighLanes s m args below meth c H locs 0 0 (MQ below (cvV D ca nx A r) args s 0 0 A) (F0 m 2 ls [])) (v0 : Nat) (v1 : Nat) (v2 : Int32) (M : Mem) (H : Heap) (locs : List Loc) (ls : Array Slot), f_X3_weighLanes_b2 k2 v0 v1 v2 M = some r → Hp D ca nx A s M H locs → lv_has ls 6 [(0, .ref v0), (1, .ref v1), (2, .int v2)] → W p l e rm_X3_weighLanes s m args below meth c H locs 0 0 (MQ below (cvV D ca nx A r) args s 0 0 A) (F0 m 2 ls []) := by
    intro k2 hk2 v0 v1 v2 M H locs ls hf hR hl
    unfold f_X3_weighLanes_b2 at hf
    refine lv_iload_n (pc := 2) hx hb dX3_weighLanes_2 rfl (lv_at hl 2 rfl) ?_
    refine lv_aload_n (pc := 3) hx hb dX3_weighLanes_3 rfl (lv_at hl 1 rfl) ?_
    refine rg_alen (pc := 4) (κ := 9) hx hb hK hR 0 rfl (by decide) dX3_weighLanes_4 hf (fun hf => ?_)
    refine lv_icmp_ge (pc := 5) (tgt := 18) hx hb dX3_weighLanes_5 (by decide) (fun hc => ?_) (fun hc => ?_)
    · replace hf := it_t hf hc
      refine lv_aload_n (pc := 18) hx hb dX3_weighLanes_18 rfl (lv_at hl 0 rfl) ?_
      refine rg_getr (pc := 19) (C := RX3) (T := TX3) (N := 7) (κ := 3) hx hb hts hK hR hown in_3 rfl (by decide) 2 (by decide) m_144 rfl dX3_weighLanes_19 hf (fun a4 hf => ?_)
      refine lv_astore_n (pc := 22) (lv' := [(2, .ref a4), (0, .ref v0), (1, .ref v1)]) hx hb dX3_weighLanes_22 rfl hl (by decide) rfl (fun ls hl => ?_)
      refine lv_aload_n (pc := 23) hx hb dX3_weighLanes_23 rfl (lv_at hl 0 rfl) ?_
      refine rg_alen (pc := 24) (κ := 13) hx hb hK hR 3 rfl (by decide) dX3_weighLanes_24 hf (fun hf => ?_)
      refine nm_i hf (fun x5 hf => ?_)
      refine lv_istore_n (pc := 25) (lv' := [(3, .int x5), (2, .ref a4), (0, .ref v0), (1, .ref v1)]) hx hb dX3_weighLanes_25 rfl hl (by decide) rfl (fun ls hl => ?_)
      refine lv_iconst (pc := 26) (v := (0 : Int32)) hx hb dX3_weighLanes_26 (by decide) ?_
      refine lv_istore (pc := 27) (lv' := [(4, .int (0 : Int32)), (3, .int x5), (2, .ref a4), (0, .ref v0), (1, .ref v1)]) hx hb dX3_weighLanes_27 hl (by decide) rfl (fun ls hl => ?_)
      exact hL29 200 v1 a4 x5 (0 : Int32) M _ _ _ hf hR (lv_sub hl [4, 2, 1, 0] rfl)
    · replace hf := it_f hf hc
      refine lv_aload_n (pc := 8) hx hb dX3_weighLanes_8 rfl (lv_at hl 1 rfl) ?_
      refine lv_iload_n (pc := 9) hx hb dX3_weighLanes_9 rfl (lv_at hl 2 rfl) ?_
      refine lv_iconst (pc := 10) (v := (0 : Int32)) hx hb dX3_weighLanes_10 (by decide) ?_
      refine rg_iast (pc := 11) hx hb hK hR dX3_weighLanes_11 hf (fun M6 H locs hf hR => ?_)
      refine rg_iinc (pc := 12) hx hb dX3_weighLanes_12 hl (k := 2) rfl rfl (by decide) hf (fun x7 ls hf hl => ?_)
      have hl : lv_has ls 6 [(2, .int x7), (0, .ref v0), (1, .ref v1)] := hl
      refine lv_goto (pc := 15) (tgt := 2) hx hb dX3_weighLanes_15 (by decide) ?_
      exact hk2 v0 v1 x7 M6 _ _ _ hf hR (lv_sub hl [1, 2, 0] rfl)
  have hL2 : ∀  (n : Nat) (v0 : Nat) (v1 : Nat) (v2 : Int32) (M : Mem) (H : Heap) (locs : List Loc) (ls : Array Slot), f_X3_weighLanes_L2  n v0 v1 v2 M = some r → Hp D ca nx A s M H locs → lv_has ls 6 [(0, .ref v0), (1, .ref v1), (2, .int v2)] → W p l e rm_X3_weighLanes s m args below meth c H locs 0 0 (MQ below (cvV D ca nx A r) args s 0 0 A) (F0 m 2 ls []) := by
    intro  n
    induction n with
    | zero => intro v0 v1 v2 M H locs ls hf; exact nomatch (show (none : Option (Mem)) = some r from hf)
    | succ n ih => intro v0 v1 v2 M H locs ls hf hR hl; exact hB2  (f_X3_weighLanes_L2  n) ih v0 v1 v2 M H locs ls hf hR hl
  unfold f_X3_weighLanes at hf
  refine lv_iconst (pc := 0) (v := (0 : Int32)) hx hb dX3_weighLanes_0 (by decide) ?_
  refine lv_istore_n (pc := 1) (lv' := [(2, .int (0 : Int32)), (0, .ref v0), (1, .ref v1)]) hx hb dX3_weighLanes_1 rfl hl (by decide) rfl (fun ls hl => ?_)
  exact hL2 200 v0 v1 (0 : Int32) M _ _ _ hf hR (lv_sub hl [1, 2, 0] rfl)
-- X7_radiusOf
def f_X7_radiusOf (v0 : Int32) (M : Mem) : Option (Mem × Int32) := some (M, (v0 + (20 : Int32)))
abbrev rm_X7_radiusOf : Room := { frames := 0, cells := 0, slots := 0, locals := 0 }
theorem hd_X7_radiusOf : yX7_radiusOf.cls ≠ "java/lang/invoke/MethodHandle" ∧ yX7_radiusOf.cls ≠ "java/lang/invoke/VarHandle" ∧ (parseMethodDescriptor yX7_radiusOf.desc).map (fun d => d.parameters.length) = some 1 := by decide +kernel
set_option maxHeartbeats 8000000 in
set_option maxRecDepth 100000 in
theorem c_X7_radiusOf {l : Launch} {D : va_G} {ca : Nat → ClassId} {b : Nat} {nx : Bool} {v0 : Int32} {M : Mem} {r : Mem × Int32} (hf : f_X7_radiusOf v0 M = some r) : CtI l yX7_radiusOf cX7_radiusOf 1 (some .int) rm_X7_radiusOf D ca b nx [.int v0] M r := by
  intro sz
  refine body_start (Qc := fun A => cvI D ca nx A r) (by decide +kernel) (Nat.le_of_ble_eq_true rfl) ?_
  intro p e s m args below meth c A hC hr hR ls hl
  obtain ⟨hx, hb, hml, hts, hown, hlocks, hXe, hA, hAb, hnm⟩ := id hC
  have hK := hXe.1
  have hl : lv_has ls 1 [(0, .int v0)] := hl
  unfold f_X7_radiusOf at hf
  refine lv_iload_n (pc := 0) hx hb dX7_radiusOf_0 rfl (lv_at hl 0 rfl) ?_
  refine lv_bipush (pc := 1) (v := (20 : Int32)) hx hb dX7_radiusOf_1 (by decide) ?_
  refine lv_iadd (pc := 3) hx hb dX7_radiusOf_3 ?_
  exact rg_iret (pc := 4) hx hb hlocks hr hf hR dX7_radiusOf_4
-- X6_speedIn
def f_X6_speedIn (v0 : Nat) (v1 : Int32) (M : Mem) : Option (Mem × Int32) := bd (f_X7_radiusOf v1 M) fun z1 => if (1 : Int32) ≤ z1.2 then (gd (¬ z1.2 = 0) <| gd (z1.1.1 v0 = 6) <| gd (¬ (z1.2 * z1.2) = 0) <| some (z1.1, (((36000 : Int32) / z1.2) + (((100 : Int32) * (mm_i z1.1 v0 0)) / (z1.2 * z1.2))))) else (some (z1.1, (0 : Int32)))
abbrev rm_X6_speedIn : Room := { frames := 1, cells := 0, slots := 0, locals := 20 }
theorem hd_X6_speedIn : yX6_speedIn.cls ≠ "java/lang/invoke/MethodHandle" ∧ yX6_speedIn.cls ≠ "java/lang/invoke/VarHandle" ∧ (parseMethodDescriptor yX6_speedIn.desc).map (fun d => d.parameters.length) = some 1 := by decide +kernel
set_option maxHeartbeats 8000000 in
set_option maxRecDepth 100000 in
theorem c_X6_speedIn {l : Launch} {D : va_G} {ca : Nat → ClassId} {b : Nat} {nx : Bool} {v0 : Nat} {v1 : Int32} {M : Mem} {r : Mem × Int32} (hf : f_X6_speedIn v0 v1 M = some r) : CtI l yX6_speedIn cX6_speedIn 3 (some .int) rm_X6_speedIn D ca b nx [.ref v0, .int v1] M r := by
  intro sz
  refine body_start (Qc := fun A => cvI D ca nx A r) (by decide +kernel) (Nat.le_of_ble_eq_true rfl) ?_
  intro p e s m args below meth c A hC hr hR ls hl
  obtain ⟨hx, hb, hml, hts, hown, hlocks, hXe, hA, hAb, hnm⟩ := id hC
  have hK := hXe.1
  have hl : lv_has ls 3 [(0, .ref v0), (1, .int v1)] := hl
  unfold f_X6_speedIn at hf
  refine lv_iload_n (pc := 0) hx hb dX6_speedIn_0 rfl (lv_at hl 1 rfl) ?_
  refine rg_I (pc := 1) hf hR hA (fun z hz => rn_SN (host := "RingHerd") (As := [.int v1]) (rest := []) hC hR (c_X7_radiusOf  hz _) (by decide +kernel) m_387 m_1 m_388 hd_X7_radiusOf ⟨rfl, rfl, Nat.le_of_ble_eq_true rfl, Nat.le_of_ble_eq_true rfl⟩ rfl hl.1 rfl (Nat.le_of_ble_eq_true rfl) dX6_speedIn_1 ⟨Nat.le_of_ble_eq_true rfl, Nat.le_of_ble_eq_true rfl⟩) (fun z1 H locs hf hR => ?_)
  refine lv_istore_n (pc := 4) (lv' := [(2, .int z1.2), (0, .ref v0), (1, .int v1)]) hx hb dX6_speedIn_4 rfl hl (by decide) rfl (fun ls hl => ?_)
  refine lv_iload_n (pc := 5) hx hb dX6_speedIn_5 rfl (lv_at hl 0 rfl) ?_
  refine lv_iconst (pc := 6) (v := (1 : Int32)) hx hb dX6_speedIn_6 (by decide) ?_
  refine lv_icmp_ge (pc := 7) (tgt := 12) hx hb dX6_speedIn_7 (by decide) (fun hc => ?_) (fun hc => ?_)
  · replace hf := it_t hf hc
    refine lv_ldc (pc := 12) hx hb hown (hts _ m_389) dX6_speedIn_12 ?_
    refine lv_iload_n (pc := 14) hx hb dX6_speedIn_14 rfl (lv_at hl 0 rfl) ?_
    obtain ⟨hz, hf⟩ := gd_e hf
    refine lv_idiv (pc := 15) hx hb dX6_speedIn_15 hz ?_
    refine lv_bipush (pc := 16) (v := (100 : Int32)) hx hb dX6_speedIn_16 (by decide) ?_
    refine lv_aload_n (pc := 18) hx hb dX6_speedIn_18 rfl (lv_at hl 1 rfl) ?_
    refine rg_get (pc := 19) (C := RX6) (T := TX6) (N := 1) (κ := 6) (v := .int (mm_i z1.1 v0 0)) hx hb hts hK hR hown in_6 rfl (by decide) 0 (by decide) m_36 rfl dX6_speedIn_19 hf (fun hf => ?_)
    refine lv_imul (pc := 22) hx hb dX6_speedIn_22 ?_
    refine lv_iload_n (pc := 23) hx hb dX6_speedIn_23 rfl (lv_at hl 0 rfl) ?_
    refine lv_iload_n (pc := 24) hx hb dX6_speedIn_24 rfl (lv_at hl 0 rfl) ?_
    refine lv_imul (pc := 25) hx hb dX6_speedIn_25 ?_
    obtain ⟨hz, hf⟩ := gd_e hf
    refine lv_idiv (pc := 26) hx hb dX6_speedIn_26 hz ?_
    refine lv_iadd (pc := 27) hx hb dX6_speedIn_27 ?_
    exact rg_iret (pc := 28) hx hb hlocks hr hf hR dX6_speedIn_28
  · replace hf := it_f hf hc
    refine lv_iconst (pc := 10) (v := (0 : Int32)) hx hb dX6_speedIn_10 (by decide) ?_
    exact rg_iret (pc := 11) hx hb hlocks hr hf hR dX6_speedIn_11
-- X7_turned
def f_X7_turned (v0 : Int32) (v1 : Int32) (M : Mem) : Option (Mem × Int32) := some (M, ((v0 + v1) - (v0 + v1) / (36000 : Int32) * (36000 : Int32)))
abbrev rm_X7_turned : Room := { frames := 0, cells := 0, slots := 0, locals := 0 }
theorem hd_X7_turned : yX7_turned.cls ≠ "java/lang/invoke/MethodHandle" ∧ yX7_turned.cls ≠ "java/lang/invoke/VarHandle" ∧ (parseMethodDescriptor yX7_turned.desc).map (fun d => d.parameters.length) = some 2 := by decide +kernel
set_option maxHeartbeats 8000000 in
set_option maxRecDepth 100000 in
theorem c_X7_turned {l : Launch} {D : va_G} {ca : Nat → ClassId} {b : Nat} {nx : Bool} {v0 : Int32} {v1 : Int32} {M : Mem} {r : Mem × Int32} (hf : f_X7_turned v0 v1 M = some r) : CtI l yX7_turned cX7_turned 2 (some .int) rm_X7_turned D ca b nx [.int v0, .int v1] M r := by
  intro sz
  refine body_start (Qc := fun A => cvI D ca nx A r) (by decide +kernel) (Nat.le_of_ble_eq_true rfl) ?_
  intro p e s m args below meth c A hC hr hR ls hl
  obtain ⟨hx, hb, hml, hts, hown, hlocks, hXe, hA, hAb, hnm⟩ := id hC
  have hK := hXe.1
  have hl : lv_has ls 2 [(0, .int v0), (1, .int v1)] := hl
  unfold f_X7_turned at hf
  refine lv_iload_n (pc := 0) hx hb dX7_turned_0 rfl (lv_at hl 0 rfl) ?_
  refine lv_iload_n (pc := 1) hx hb dX7_turned_1 rfl (lv_at hl 1 rfl) ?_
  refine lv_iadd (pc := 2) hx hb dX7_turned_2 ?_
  refine lv_ldcw (pc := 3) hx hb hown (hts _ m_393) dX7_turned_3 ?_
  refine lv_irem (pc := 6) hx hb dX7_turned_6 (by decide) ?_
  exact rg_iret (pc := 7) hx hb hlocks hr hf hR dX7_turned_7
-- X3_goRound
def f_X3_goRound_b53 (k10 : Nat → Nat → Int32 → Int32 → Mem → Option (Mem)) (v0 : Nat) (v1 : Nat) (v2 : Int32) (v3 : Int32) (M : Mem) : Option (Mem) := lt_ (v3 + (1 : Int32)) fun x1 => k10 v0 v1 v2 x1 M
def f_X3_goRound_b10 (k10 : Nat → Nat → Int32 → Int32 → Mem → Option (Mem)) (v0 : Nat) (v1 : Nat) (v2 : Int32) (v3 : Int32) (M : Mem) : Option (Mem) := if v2 ≤ v3 then (some M) else (gd (M.1 v1 = 13 ∧ vi_ v3 (mm_N M v1)) <| rd (mm_r M v1 (v3).toNatClampNeg) fun a2 => gd (M.1 a2 = 2) <| if (mm_i M a2 5) = 0 then (f_X3_goRound_b53 k10 v0 v1 v2 v3 M) else (gd (M.1 a2 = 2) <| gd (M.1 v0 = 3) <| rd (mm_r M v0 0) fun a3 => gd (M.1 a2 = 2) <| gd (M.1 a3 = 6) <| bd (f_X6_speedIn a3 (mm_i M a2 0) M) fun z4 => bd (f_X7_turned (mm_i M a2 1) z4.2 z4.1) fun z5 => gd (z5.1.1 a2 = 2) <| lt_ (ms_i z5.1 a2 1 z5.2) fun M6 => f_X3_goRound_b53 k10 v0 v1 v2 v3 M6))
def f_X3_goRound_L10  : Nat → Nat → Nat → Int32 → Int32 → Mem → Option (Mem)
  | 0 => fun _ _ _ _ _ => none
  | n + 1 => f_X3_goRound_b10  (f_X3_goRound_L10  n)
def f_X3_goRound (v0 : Nat) (M : Mem) : Option (Mem) := gd (M.1 v0 = 3) <| rd (mm_r M v0 2) fun a7 => gd (M.1 a7 = 13) <| lt_ ((nI (mm_N M a7))) fun x8 => f_X3_goRound_L10 200 v0 a7 x8 (0 : Int32) M
abbrev rm_X3_goRound : Room := { frames := 2, cells := 0, slots := 0, locals := 42 }
theorem hd_X3_goRound : yX3_goRound.cls ≠ "java/lang/invoke/MethodHandle" ∧ yX3_goRound.cls ≠ "java/lang/invoke/VarHandle" ∧ (parseMethodDescriptor yX3_goRound.desc).map (fun d => d.parameters.length) = some 0 := by decide +kernel
set_option maxHeartbeats 8000000 in
set_option maxRecDepth 100000 in
theorem c_X3_goRound {l : Launch} {D : va_G} {ca : Nat → ClassId} {b : Nat} {nx : Bool} {v0 : Nat} {M : Mem} {r : Mem} (hf : f_X3_goRound v0 M = some r) : CtV l yX3_goRound cX3_goRound 5 none rm_X3_goRound D ca b nx [.ref v0] M r 0 0 := by
  intro sz
  refine body_start (Qc := fun A => cvV D ca nx A r) (by decide +kernel) (Nat.le_of_ble_eq_true rfl) ?_
  intro p e s m args below meth c A hC hr hR ls hl
  obtain ⟨hx, hb, hml, hts, hown, hlocks, hXe, hA, hAb, hnm⟩ := id hC
  have hK := hXe.1
  have hl : lv_has ls 5 [(0, .ref v0)] := hl
  have hB53 : ∀ (k10 : Nat → Nat → Int32 → Int32 → Mem → Option (Mem)) (hk10 : ∀ (v0 : Nat) (v1 : Nat) (v2 : Int32) (v3 : Int32) (M : Mem) (H : Heap) (locs : List Loc) (ls : Array Slot), k10 v0 v1 v2 v3 M = some r → Hp D ca nx A s M H locs → lv_has ls 5 [(0, .ref v0), (1, .ref v1), (2, .int v2), (3, .int v3)] → W p l e rm_X3_goRound s m args below meth c H locs 0 0 (MQ below (cvV D ca nx A r) args s 0 0 A) (F0 m 10 ls [])) (v0 : Nat) (v1 : Nat) (v2 : Int32) (v3 : Int32) (M : Mem) (H : Heap) (locs : List Loc) (ls : Array Slot), f_X3_goRound_b53 k10 v0 v1 v2 v3 M = some r → Hp D ca nx A s M H locs → lv_has ls 5 [(0, .ref v0), (1, .ref v1), (2, .int v2), (3, .int v3)] → W p l e rm_X3_goRound s m args below meth c H locs 0 0 (MQ below (cvV D ca nx A r) args s 0 0 A) (F0 m 53 ls []) := by
    intro k10 hk10 v0 v1 v2 v3 M H locs ls hf hR hl
    unfold f_X3_goRound_b53 at hf
    refine rg_iinc (pc := 53) hx hb dX3_goRound_53 hl (k := 3) rfl rfl (by decide) hf (fun x1 ls hf hl => ?_)
    have hl : lv_has ls 5 [(3, .int x1), (0, .ref v0), (1, .ref v1), (2, .int v2)] := hl
    refine lv_goto (pc := 56) (tgt := 10) hx hb dX3_goRound_56 (by decide) ?_
    exact hk10 v0 v1 v2 x1 M _ _ _ hf hR (lv_sub hl [1, 2, 3, 0] rfl)
  have hB10 : ∀ (k10 : Nat → Nat → Int32 → Int32 → Mem → Option (Mem)) (hk10 : ∀ (v0 : Nat) (v1 : Nat) (v2 : Int32) (v3 : Int32) (M : Mem) (H : Heap) (locs : List Loc) (ls : Array Slot), k10 v0 v1 v2 v3 M = some r → Hp D ca nx A s M H locs → lv_has ls 5 [(0, .ref v0), (1, .ref v1), (2, .int v2), (3, .int v3)] → W p l e rm_X3_goRound s m args below meth c H locs 0 0 (MQ below (cvV D ca nx A r) args s 0 0 A) (F0 m 10 ls [])) (v0 : Nat) (v1 : Nat) (v2 : Int32) (v3 : Int32) (M : Mem) (H : Heap) (locs : List Loc) (ls : Array Slot), f_X3_goRound_b10 k10 v0 v1 v2 v3 M = some r → Hp D ca nx A s M H locs → lv_has ls 5 [(0, .ref v0), (1, .ref v1), (2, .int v2), (3, .int v3)] → W p l e rm_X3_goRound s m args below meth c H locs 0 0 (MQ below (cvV D ca nx A r) args s 0 0 A) (F0 m 10 ls []) := by
    intro k10 hk10 v0 v1 v2 v3 M H locs ls hf hR hl
    unfold f_X3_goRound_b10 at hf
    refine lv_iload_n (pc := 10) hx hb dX3_goRound_10 rfl (lv_at hl 3 rfl) ?_
    refine lv_iload_n (pc := 11) hx hb dX3_goRound_11 rfl (lv_at hl 2 rfl) ?_
    refine lv_icmp_ge (pc := 12) (tgt := 59) hx hb dX3_goRound_12 (by decide) (fun hc => ?_) (fun hc => ?_)
    · replace hf := it_t hf hc
      exact rg_vret (pc := 59) hx hb hlocks hr hf hR dX3_goRound_59
    · replace hf := it_f hf hc
      refine lv_aload_n (pc := 15) hx hb dX3_goRound_15 rfl (lv_at hl 1 rfl) ?_
      refine lv_iload_n (pc := 16) hx hb dX3_goRound_16 rfl (lv_at hl 3 rfl) ?_
      refine rg_aald (pc := 17) (κ := 13) hx hb hK hR 3 rfl (by decide) dX3_goRound_17 hf (fun a2 hf => ?_)
      refine lv_astore (pc := 18) (lv' := [(4, .ref a2), (0, .ref v0), (1, .ref v1), (2, .int v2), (3, .int v3)]) hx hb dX3_goRound_18 hl (by decide) rfl (fun ls hl => ?_)
      refine lv_aload (pc := 20) hx hb dX3_goRound_20 (lv_at hl 0 rfl) ?_
      refine rg_get (pc := 22) (C := RX2) (T := TX2) (N := 7) (κ := 2) (v := .int (mm_i M a2 5)) hx hb hts hK hR hown in_2 rfl (by decide) 5 (by decide) m_120 rfl dX3_goRound_22 hf (fun hf => ?_)
      refine lv_if_eq (pc := 25) (tgt := 53) hx hb dX3_goRound_25 (by decide) (fun hc => ?_) (fun hc => ?_)
      · replace hf := it_t hf hc
        exact hB53 k10 hk10 v0 v1 v2 v3 M _ _ _ hf hR (lv_sub hl [1, 2, 3, 4] rfl)
      · replace hf := it_f hf hc
        refine lv_aload (pc := 28) hx hb dX3_goRound_28 (lv_at hl 0 rfl) ?_
        refine lv_aload (pc := 30) hx hb dX3_goRound_30 (lv_at hl 0 rfl) ?_
        refine rg_get (pc := 32) (C := RX2) (T := TX2) (N := 7) (κ := 2) (v := .int (mm_i M a2 1)) hx hb hts hK hR hown in_2 rfl (by decide) 1 (by decide) m_110 rfl dX3_goRound_32 hf (fun hf => ?_)
        refine lv_aload_n (pc := 35) hx hb dX3_goRound_35 rfl (lv_at hl 1 rfl) ?_
        refine rg_getr (pc := 36) (C := RX3) (T := TX3) (N := 7) (κ := 3) hx hb hts hK hR hown in_3 rfl (by decide) 0 (by decide) m_140 rfl dX3_goRound_36 hf (fun a3 hf => ?_)
        refine lv_aload (pc := 39) hx hb dX3_goRound_39 (lv_at hl 0 rfl) ?_
        refine rg_get (pc := 41) (C := RX2) (T := TX2) (N := 7) (κ := 2) (v := .int (mm_i M a2 0)) hx hb hts hK hR hown in_2 rfl (by decide) 0 (by decide) m_108 rfl dX3_goRound_41 hf (fun hf => ?_)
        obtain ⟨hq, hf⟩ := gd_e hf
        refine rg_I (pc := 44) hf hR hA (fun z hz => rn_V (κ := 6) (As := [.int (mm_i M a2 0)]) (rest := [.int (mm_i M a2 1), .ref a2]) hC hR rfl (by decide) hq (c_X6_speedIn  hz _) m_398 m_383 m_384 m_3 m_385 hd_X6_speedIn ⟨rfl, rfl, Nat.le_of_ble_eq_true rfl, Nat.le_of_ble_eq_true rfl⟩ rfl hl.1 rfl (Nat.le_of_ble_eq_true rfl) dX3_goRound_44 ⟨Nat.le_of_ble_eq_true rfl, Nat.le_of_ble_eq_true rfl⟩) (fun z4 H locs hf hR => ?_)
        refine rg_I (pc := 47) hf hR hA (fun z hz => rn_SN (host := "RingHerd") (As := [.int (mm_i M a2 1), .int z4.2]) (rest := [.ref a2]) hC hR (c_X7_turned  hz _) (by decide +kernel) m_391 m_1 m_392 hd_X7_turned ⟨rfl, rfl, Nat.le_of_ble_eq_true rfl, Nat.le_of_ble_eq_true rfl⟩ rfl hl.1 rfl (Nat.le_of_ble_eq_true rfl) dX3_goRound_47 ⟨Nat.le_of_ble_eq_true rfl, Nat.le_of_ble_eq_true rfl⟩) (fun z5 H locs hf hR => ?_)
        refine rg_puti (pc := 50) (C := RX2) (T := TX2) (N := 7) (κ := 2) hx hb hts hK hR hown in_2 rfl (by decide) 1 (by decide) m_110 tyX2 tyX2_ok nmX2 rfl rfl rfl rfl dX3_goRound_50 hf (fun M6 H locs hf hR => ?_)
        exact hB53 k10 hk10 v0 v1 v2 v3 M6 _ _ _ hf hR (lv_sub hl [1, 2, 3, 4] rfl)
  have hL10 : ∀  (n : Nat) (v0 : Nat) (v1 : Nat) (v2 : Int32) (v3 : Int32) (M : Mem) (H : Heap) (locs : List Loc) (ls : Array Slot), f_X3_goRound_L10  n v0 v1 v2 v3 M = some r → Hp D ca nx A s M H locs → lv_has ls 5 [(0, .ref v0), (1, .ref v1), (2, .int v2), (3, .int v3)] → W p l e rm_X3_goRound s m args below meth c H locs 0 0 (MQ below (cvV D ca nx A r) args s 0 0 A) (F0 m 10 ls []) := by
    intro  n
    induction n with
    | zero => intro v0 v1 v2 v3 M H locs ls hf; exact nomatch (show (none : Option (Mem)) = some r from hf)
    | succ n ih => intro v0 v1 v2 v3 M H locs ls hf hR hl; exact hB10  (f_X3_goRound_L10  n) ih v0 v1 v2 v3 M H locs ls hf hR hl
  unfold f_X3_goRound at hf
  refine lv_aload_n (pc := 0) hx hb dX3_goRound_0 rfl (lv_at hl 0 rfl) ?_
  refine rg_getr (pc := 1) (C := RX3) (T := TX3) (N := 7) (κ := 3) hx hb hts hK hR hown in_3 rfl (by decide) 2 (by decide) m_144 rfl dX3_goRound_1 hf (fun a7 hf => ?_)
  refine lv_astore_n (pc := 4) (lv' := [(1, .ref a7), (0, .ref v0)]) hx hb dX3_goRound_4 rfl hl (by decide) rfl (fun ls hl => ?_)
  refine lv_aload_n (pc := 5) hx hb dX3_goRound_5 rfl (lv_at hl 0 rfl) ?_
  refine rg_alen (pc := 6) (κ := 13) hx hb hK hR 3 rfl (by decide) dX3_goRound_6 hf (fun hf => ?_)
  refine nm_i hf (fun x8 hf => ?_)
  refine lv_istore_n (pc := 7) (lv' := [(2, .int x8), (1, .ref a7), (0, .ref v0)]) hx hb dX3_goRound_7 rfl hl (by decide) rfl (fun ls hl => ?_)
  refine lv_iconst (pc := 8) (v := (0 : Int32)) hx hb dX3_goRound_8 (by decide) ?_
  refine lv_istore_n (pc := 9) (lv' := [(3, .int (0 : Int32)), (2, .int x8), (1, .ref a7), (0, .ref v0)]) hx hb dX3_goRound_9 rfl hl (by decide) rfl (fun ls hl => ?_)
  exact hL10 200 v0 a7 x8 (0 : Int32) M _ _ _ hf hR (lv_sub hl [3, 2, 1, 0] rfl)
-- X3_shift
def f_X3_shift_b129   (M : Mem) : Option (Mem) := some M
def f_X3_shift (v0 : Nat) (v1 : Nat) (v2 : Int32) (M : Mem) : Option (Mem) := gd (M.1 v1 = 2) <| gd (M.1 v1 = 2) <| lt_ (ms_i M v1 0 ((mm_i M v1 0) + v2)) fun M1 => gd (M1.1 v1 = 2) <| if 0 ≤ (mm_i M1 v1 0) then (gd (M1.1 v1 = 2) <| if (mm_i M1 v1 0) < (64 : Int32) then (f_X3_shift_b129  M1) else (gd (M1.1 v1 = 2) <| lt_ (ms_i M1 v1 5 (0 : Int32)) fun M2 => gd (M2.1 v0 = 3) <| rd (mm_r M2 v0 1) fun a3 => gd (M2.1 a3 = 4) <| gd (M2.1 a3 = 4) <| lt_ (ms_i M2 a3 4 ((mm_i M2 a3 4) + (1 : Int32))) fun M4 => gd (M4.1 v0 = 3) <| rd (mm_r M4 v0 1) fun a5 => gd (M4.1 a5 = 4) <| gd (M4.1 v1 = 2) <| gd (M4.1 a5 = 4) <| lt_ (ms_i M4 a5 7 ((mm_i M4 a5 7) + (mm_i M4 v1 2))) fun M6 => gd (M6.1 v0 = 3) <| rd (mm_r M6 v0 1) fun a7 => gd (M6.1 a7 = 4) <| gd (M6.1 v1 = 2) <| bd (f_X2_carried v1 M6) fun z8 => gd (z8.1.1 a7 = 4) <| lt_ (ms_l z8.1 a7 10 ((mm_l M6 a7 10) + z8.2)) fun M9 => f_X3_shift_b129  M9)) else (gd (M1.1 v1 = 2) <| lt_ (ms_i M1 v1 5 (0 : Int32)) fun M10 => gd (M10.1 v0 = 3) <| rd (mm_r M10 v0 1) fun a11 => gd (M10.1 a11 = 4) <| gd (M10.1 a11 = 4) <| lt_ (ms_i M10 a11 3 ((mm_i M10 a11 3) + (1 : Int32))) fun M12 => gd (M12.1 v0 = 3) <| rd (mm_r M12 v0 1) fun a13 => gd (M12.1 a13 = 4) <| gd (M12.1 v1 = 2) <| gd (M12.1 a13 = 4) <| lt_ (ms_i M12 a13 6 ((mm_i M12 a13 6) + (mm_i M12 v1 2))) fun M14 => gd (M14.1 v0 = 3) <| rd (mm_r M14 v0 1) fun a15 => gd (M14.1 a15 = 4) <| gd (M14.1 v1 = 2) <| bd (f_X2_carried v1 M14) fun z16 => gd (z16.1.1 a15 = 4) <| lt_ (ms_l z16.1 a15 9 ((mm_l M14 a15 9) + z16.2)) fun M17 => f_X3_shift_b129  M17)
abbrev rm_X3_shift : Room := { frames := 1, cells := 0, slots := 0, locals := 20 }
theorem hd_X3_shift : yX3_shift.cls ≠ "java/lang/invoke/MethodHandle" ∧ yX3_shift.cls ≠ "java/lang/invoke/VarHandle" ∧ (parseMethodDescriptor yX3_shift.desc).map (fun d => d.parameters.length) = some 2 := by decide +kernel
set_option maxHeartbeats 8000000 in
set_option maxRecDepth 100000 in
theorem c_X3_shift {l : Launch} {D : va_G} {ca : Nat → ClassId} {b : Nat} {nx : Bool} {v0 : Nat} {v1 : Nat} {v2 : Int32} {M : Mem} {r : Mem} (hf : f_X3_shift v0 v1 v2 M = some r) : CtV l yX3_shift cX3_shift 3 none rm_X3_shift D ca b nx [.ref v0, .ref v1, .int v2] M r 0 0 := by
  intro sz
  refine body_start (Qc := fun A => cvV D ca nx A r) (by decide +kernel) (Nat.le_of_ble_eq_true rfl) ?_
  intro p e s m args below meth c A hC hr hR ls hl
  obtain ⟨hx, hb, hml, hts, hown, hlocks, hXe, hA, hAb, hnm⟩ := id hC
  have hK := hXe.1
  have hl : lv_has ls 3 [(0, .ref v0), (1, .ref v1), (2, .int v2)] := hl
  have hB129 : ∀   (M : Mem) (H : Heap) (locs : List Loc) (ls : Array Slot), f_X3_shift_b129   M = some r → Hp D ca nx A s M H locs → lv_has ls 3 [] → W p l e rm_X3_shift s m args below meth c H locs 0 0 (MQ below (cvV D ca nx A r) args s 0 0 A) (F0 m 129 ls []) := by
    intro   M H locs ls hf hR hl
    unfold f_X3_shift_b129 at hf
    exact rg_vret (pc := 129) hx hb hlocks hr hf hR dX3_shift_129
  unfold f_X3_shift at hf
  refine lv_aload_n (pc := 0) hx hb dX3_shift_0 rfl (lv_at hl 1 rfl) ?_
  refine lv_dup (pc := 1) hx hb dX3_shift_1 rfl ?_
  refine rg_get (pc := 2) (C := RX2) (T := TX2) (N := 7) (κ := 2) (v := .int (mm_i M v1 0)) hx hb hts hK hR hown in_2 rfl (by decide) 0 (by decide) m_108 rfl dX3_shift_2 hf (fun hf => ?_)
  refine lv_iload_n (pc := 5) hx hb dX3_shift_5 rfl (lv_at hl 2 rfl) ?_
  refine lv_iadd (pc := 6) hx hb dX3_shift_6 ?_
  refine rg_puti (pc := 7) (C := RX2) (T := TX2) (N := 7) (κ := 2) hx hb hts hK hR hown in_2 rfl (by decide) 0 (by decide) m_108 tyX2 tyX2_ok nmX2 rfl rfl rfl rfl dX3_shift_7 hf (fun M1 H locs hf hR => ?_)
  refine lv_aload_n (pc := 10) hx hb dX3_shift_10 rfl (lv_at hl 1 rfl) ?_
  refine rg_get (pc := 11) (C := RX2) (T := TX2) (N := 7) (κ := 2) (v := .int (mm_i M1 v1 0)) hx hb hts hK hR hown in_2 rfl (by decide) 0 (by decide) m_108 rfl dX3_shift_11 hf (fun hf => ?_)
  refine lv_if_ge (pc := 14) (tgt := 70) hx hb dX3_shift_14 (by decide) (fun hc => ?_) (fun hc => ?_)
  · replace hf := it_t hf hc
    refine lv_aload_n (pc := 70) hx hb dX3_shift_70 rfl (lv_at hl 1 rfl) ?_
    refine rg_get (pc := 71) (C := RX2) (T := TX2) (N := 7) (κ := 2) (v := .int (mm_i M1 v1 0)) hx hb hts hK hR hown in_2 rfl (by decide) 0 (by decide) m_108 rfl dX3_shift_71 hf (fun hf => ?_)
    refine lv_bipush (pc := 74) (v := (64 : Int32)) hx hb dX3_shift_74 (by decide) ?_
    refine lv_icmp_lt (pc := 76) (tgt := 129) hx hb dX3_shift_76 (by decide) (fun hc => ?_) (fun hc => ?_)
    · replace hf := it_t hf hc
      exact hB129  M1 _ _ _ hf hR (lv_sub hl [] rfl)
    · replace hf := it_f hf hc
      refine lv_aload_n (pc := 79) hx hb dX3_shift_79 rfl (lv_at hl 1 rfl) ?_
      refine lv_iconst (pc := 80) (v := (0 : Int32)) hx hb dX3_shift_80 (by decide) ?_
      refine rg_puti (pc := 81) (C := RX2) (T := TX2) (N := 7) (κ := 2) hx hb hts hK hR hown in_2 rfl (by decide) 5 (by decide) m_120 tyX2 tyX2_ok nmX2 rfl rfl rfl rfl dX3_shift_81 hf (fun M2 H locs hf hR => ?_)
      refine lv_aload_n (pc := 84) hx hb dX3_shift_84 rfl (lv_at hl 0 rfl) ?_
      refine rg_getr (pc := 85) (C := RX3) (T := TX3) (N := 7) (κ := 3) hx hb hts hK hR hown in_3 rfl (by decide) 1 (by decide) m_142 rfl dX3_shift_85 hf (fun a3 hf => ?_)
      refine lv_dup (pc := 88) hx hb dX3_shift_88 rfl ?_
      refine rg_get (pc := 89) (C := RX4) (T := TX4) (N := 13) (κ := 4) (v := .int (mm_i M2 a3 4)) hx hb hts hK hR hown in_4 rfl (by decide) 4 (by decide) m_56 rfl dX3_shift_89 hf (fun hf => ?_)
      refine lv_iconst (pc := 92) (v := (1 : Int32)) hx hb dX3_shift_92 (by decide) ?_
      refine lv_iadd (pc := 93) hx hb dX3_shift_93 ?_
      refine rg_puti (pc := 94) (C := RX4) (T := TX4) (N := 13) (κ := 4) hx hb hts hK hR hown in_4 rfl (by decide) 4 (by decide) m_56 tyX4 tyX4_ok nmX4 rfl rfl rfl rfl dX3_shift_94 hf (fun M4 H locs hf hR => ?_)
      refine lv_aload_n (pc := 97) hx hb dX3_shift_97 rfl (lv_at hl 0 rfl) ?_
      refine rg_getr (pc := 98) (C := RX3) (T := TX3) (N := 7) (κ := 3) hx hb hts hK hR hown in_3 rfl (by decide) 1 (by decide) m_142 rfl dX3_shift_98 hf (fun a5 hf => ?_)
      refine lv_dup (pc := 101) hx hb dX3_shift_101 rfl ?_
      refine rg_get (pc := 102) (C := RX4) (T := TX4) (N := 13) (κ := 4) (v := .int (mm_i M4 a5 7)) hx hb hts hK hR hown in_4 rfl (by decide) 7 (by decide) m_62 rfl dX3_shift_102 hf (fun hf => ?_)
      refine lv_aload_n (pc := 105) hx hb dX3_shift_105 rfl (lv_at hl 1 rfl) ?_
      refine rg_get (pc := 106) (C := RX2) (T := TX2) (N := 7) (κ := 2) (v := .int (mm_i M4 v1 2)) hx hb hts hK hR hown in_2 rfl (by decide) 2 (by decide) m_114 rfl dX3_shift_106 hf (fun hf => ?_)
      refine lv_iadd (pc := 109) hx hb dX3_shift_109 ?_
      refine rg_puti (pc := 110) (C := RX4) (T := TX4) (N := 13) (κ := 4) hx hb hts hK hR hown in_4 rfl (by decide) 7 (by decide) m_62 tyX4 tyX4_ok nmX4 rfl rfl rfl rfl dX3_shift_110 hf (fun M6 H locs hf hR => ?_)
      refine lv_aload_n (pc := 113) hx hb dX3_shift_113 rfl (lv_at hl 0 rfl) ?_
      refine rg_getr (pc := 114) (C := RX3) (T := TX3) (N := 7) (κ := 3) hx hb hts hK hR hown in_3 rfl (by decide) 1 (by decide) m_142 rfl dX3_shift_114 hf (fun a7 hf => ?_)
      refine lv_dup (pc := 117) hx hb dX3_shift_117 rfl ?_
      refine rg_get (pc := 118) (C := RX4) (T := TX4) (N := 13) (κ := 4) (v := .long (mm_l M6 a7 10)) hx hb hts hK hR hown in_4 rfl (by decide) 10 (by decide) m_68 rfl dX3_shift_118 hf (fun hf => ?_)
      refine lv_aload_n (pc := 121) hx hb dX3_shift_121 rfl (lv_at hl 1 rfl) ?_
      obtain ⟨hq, hf⟩ := gd_e hf
      refine rg_L (pc := 122) hf hR hA (fun z hz => rn_V (κ := 2) (As := []) (rest := [.long (mm_l M6 a7 10), .ref a7]) hC hR rfl (by decide) hq (c_X2_carried  hz _) m_353 m_354 m_355 m_5 m_356 hd_X2_carried ⟨rfl, rfl, Nat.le_of_ble_eq_true rfl, Nat.le_of_ble_eq_true rfl⟩ rfl hl.1 rfl (Nat.le_of_ble_eq_true rfl) dX3_shift_122 ⟨Nat.le_of_ble_eq_true rfl, Nat.le_of_ble_eq_true rfl⟩) (fun z8 H locs hf hR => ?_)
      refine lv_ladd (pc := 125) hx hb dX3_shift_125 ?_
      refine rg_putl (pc := 126) (C := RX4) (T := TX4) (N := 13) (κ := 4) hx hb hts hK hR hown in_4 rfl (by decide) 10 (by decide) m_68 tyX4 tyX4_ok nmX4 rfl rfl rfl rfl dX3_shift_126 hf (fun M9 H locs hf hR => ?_)
      exact hB129  M9 _ _ _ hf hR (lv_sub hl [] rfl)
  · replace hf := it_f hf hc
    refine lv_aload_n (pc := 17) hx hb dX3_shift_17 rfl (lv_at hl 1 rfl) ?_
    refine lv_iconst (pc := 18) (v := (0 : Int32)) hx hb dX3_shift_18 (by decide) ?_
    refine rg_puti (pc := 19) (C := RX2) (T := TX2) (N := 7) (κ := 2) hx hb hts hK hR hown in_2 rfl (by decide) 5 (by decide) m_120 tyX2 tyX2_ok nmX2 rfl rfl rfl rfl dX3_shift_19 hf (fun M10 H locs hf hR => ?_)
    refine lv_aload_n (pc := 22) hx hb dX3_shift_22 rfl (lv_at hl 0 rfl) ?_
    refine rg_getr (pc := 23) (C := RX3) (T := TX3) (N := 7) (κ := 3) hx hb hts hK hR hown in_3 rfl (by decide) 1 (by decide) m_142 rfl dX3_shift_23 hf (fun a11 hf => ?_)
    refine lv_dup (pc := 26) hx hb dX3_shift_26 rfl ?_
    refine rg_get (pc := 27) (C := RX4) (T := TX4) (N := 13) (κ := 4) (v := .int (mm_i M10 a11 3)) hx hb hts hK hR hown in_4 rfl (by decide) 3 (by decide) m_54 rfl dX3_shift_27 hf (fun hf => ?_)
    refine lv_iconst (pc := 30) (v := (1 : Int32)) hx hb dX3_shift_30 (by decide) ?_
    refine lv_iadd (pc := 31) hx hb dX3_shift_31 ?_
    refine rg_puti (pc := 32) (C := RX4) (T := TX4) (N := 13) (κ := 4) hx hb hts hK hR hown in_4 rfl (by decide) 3 (by decide) m_54 tyX4 tyX4_ok nmX4 rfl rfl rfl rfl dX3_shift_32 hf (fun M12 H locs hf hR => ?_)
    refine lv_aload_n (pc := 35) hx hb dX3_shift_35 rfl (lv_at hl 0 rfl) ?_
    refine rg_getr (pc := 36) (C := RX3) (T := TX3) (N := 7) (κ := 3) hx hb hts hK hR hown in_3 rfl (by decide) 1 (by decide) m_142 rfl dX3_shift_36 hf (fun a13 hf => ?_)
    refine lv_dup (pc := 39) hx hb dX3_shift_39 rfl ?_
    refine rg_get (pc := 40) (C := RX4) (T := TX4) (N := 13) (κ := 4) (v := .int (mm_i M12 a13 6)) hx hb hts hK hR hown in_4 rfl (by decide) 6 (by decide) m_60 rfl dX3_shift_40 hf (fun hf => ?_)
    refine lv_aload_n (pc := 43) hx hb dX3_shift_43 rfl (lv_at hl 1 rfl) ?_
    refine rg_get (pc := 44) (C := RX2) (T := TX2) (N := 7) (κ := 2) (v := .int (mm_i M12 v1 2)) hx hb hts hK hR hown in_2 rfl (by decide) 2 (by decide) m_114 rfl dX3_shift_44 hf (fun hf => ?_)
    refine lv_iadd (pc := 47) hx hb dX3_shift_47 ?_
    refine rg_puti (pc := 48) (C := RX4) (T := TX4) (N := 13) (κ := 4) hx hb hts hK hR hown in_4 rfl (by decide) 6 (by decide) m_60 tyX4 tyX4_ok nmX4 rfl rfl rfl rfl dX3_shift_48 hf (fun M14 H locs hf hR => ?_)
    refine lv_aload_n (pc := 51) hx hb dX3_shift_51 rfl (lv_at hl 0 rfl) ?_
    refine rg_getr (pc := 52) (C := RX3) (T := TX3) (N := 7) (κ := 3) hx hb hts hK hR hown in_3 rfl (by decide) 1 (by decide) m_142 rfl dX3_shift_52 hf (fun a15 hf => ?_)
    refine lv_dup (pc := 55) hx hb dX3_shift_55 rfl ?_
    refine rg_get (pc := 56) (C := RX4) (T := TX4) (N := 13) (κ := 4) (v := .long (mm_l M14 a15 9)) hx hb hts hK hR hown in_4 rfl (by decide) 9 (by decide) m_66 rfl dX3_shift_56 hf (fun hf => ?_)
    refine lv_aload_n (pc := 59) hx hb dX3_shift_59 rfl (lv_at hl 1 rfl) ?_
    obtain ⟨hq, hf⟩ := gd_e hf
    refine rg_L (pc := 60) hf hR hA (fun z hz => rn_V (κ := 2) (As := []) (rest := [.long (mm_l M14 a15 9), .ref a15]) hC hR rfl (by decide) hq (c_X2_carried  hz _) m_353 m_354 m_355 m_5 m_356 hd_X2_carried ⟨rfl, rfl, Nat.le_of_ble_eq_true rfl, Nat.le_of_ble_eq_true rfl⟩ rfl hl.1 rfl (Nat.le_of_ble_eq_true rfl) dX3_shift_60 ⟨Nat.le_of_ble_eq_true rfl, Nat.le_of_ble_eq_true rfl⟩) (fun z16 H locs hf hR => ?_)
    refine lv_ladd (pc := 63) hx hb dX3_shift_63 ?_
    refine rg_putl (pc := 64) (C := RX4) (T := TX4) (N := 13) (κ := 4) hx hb hts hK hR hown in_4 rfl (by decide) 9 (by decide) m_66 tyX4 tyX4_ok nmX4 rfl rfl rfl rfl dX3_shift_64 hf (fun M17 H locs hf hR => ?_)
    refine lv_goto (pc := 67) (tgt := 129) hx hb dX3_shift_67 (by decide) ?_
    exact hB129  M17 _ _ _ hf hR (lv_sub hl [] rfl)
-- X3_yieldTo
def f_X3_yieldTo_b121 (k11 : Nat → Nat → Nat → Int32 → Int32 → Mem → Option (Mem)) (v0 : Nat) (v1 : Nat) (v2 : Nat) (v3 : Int32) (v4 : Int32) (M : Mem) : Option (Mem) := lt_ (v4 + (1 : Int32)) fun x1 => k11 v0 v1 v2 v3 x1 M
def f_X3_yieldTo_b81 (k11 : Nat → Nat → Nat → Int32 → Int32 → Mem → Option (Mem)) (s0 : Int32) (s1 : Nat) (s2 : Nat) (v0 : Nat) (v1 : Nat) (v2 : Nat) (v3 : Int32) (v4 : Int32) (v5 : Nat) (v6 : Int64) (M : Mem) : Option (Mem) := gd (M.1 s2 = 3) <| bd (f_X3_shift s2 s1 s0 M) fun z2 => gd (z2.1 v5 = 2) <| gd (z2.1 v5 = 2) <| lt_ (ms_i z2 v5 3 (if (99 : Int32) < ((mm_i z2 v5 3) + (5 : Int32)) then (99 : Int32) else ((mm_i z2 v5 3) + (5 : Int32)))) fun M3 => gd (M3.1 v0 = 3) <| rd (mm_r M3 v0 1) fun a4 => gd (M3.1 a4 = 4) <| gd (M3.1 v5 = 2) <| bd (f_X2_carried v5 M3) fun z5 => gd (z5.1.1 a4 = 4) <| lt_ (ms_l z5.1 a4 11 ((mm_l M3 a4 11) + (z5.2 - v6))) fun M6 => f_X3_yieldTo_b121 k11 v0 v1 v2 v3 v4 M6
def f_X3_yieldTo_b11 (k11 : Nat → Nat → Nat → Int32 → Int32 → Mem → Option (Mem)) (v0 : Nat) (v1 : Nat) (v2 : Nat) (v3 : Int32) (v4 : Int32) (M : Mem) : Option (Mem) := if v3 ≤ v4 then (some M) else (gd (M.1 v2 = 13 ∧ vi_ v4 (mm_N M v2)) <| rd (mm_r M v2 (v4).toNatClampNeg) fun a7 => gd (M.1 a7 = 2) <| if (mm_i M a7 5) = 0 then (f_X3_yieldTo_b121 k11 v0 v1 v2 v3 v4 M) else (gd (M.1 v1 = 5) <| gd (M.1 v1 = 5) <| gd (M.1 v1 = 5) <| gd (M.1 a7 = 2) <| bd (f_X2_isNear a7 (mm_i M v1 0) (mm_i M v1 1) (mm_i M v1 2) (1000 : Int32) M) fun z8 => if z8.2 = 0 then (f_X3_yieldTo_b121 k11 v0 v1 v2 v3 v4 z8.1) else (gd (z8.1.1 a7 = 2) <| bd (f_X2_carried a7 z8.1) fun z9 => gd (z9.1.1 a7 = 2) <| gd (z9.1.1 v1 = 5) <| if (mm_i z9.1 v1 0) ≤ (mm_i z9.1 a7 0) then (f_X3_yieldTo_b81 k11 (1 : Int32) a7 v0 v0 v1 v2 v3 v4 a7 z9.2 z9.1) else (f_X3_yieldTo_b81 k11 (-1 : Int32) a7 v0 v0 v1 v2 v3 v4 a7 z9.2 z9.1))))
def f_X3_yieldTo_L11  : Nat → Nat → Nat → Nat → Int32 → Int32 → Mem → Option (Mem)
  | 0 => fun _ _ _ _ _ _ => none
  | n + 1 => f_X3_yieldTo_b11  (f_X3_yieldTo_L11  n)
def f_X3_yieldTo (v0 : Nat) (v1 : Nat) (M : Mem) : Option (Mem) := gd (M.1 v0 = 3) <| rd (mm_r M v0 2) fun a10 => gd (M.1 a10 = 13) <| lt_ ((nI (mm_N M a10))) fun x11 => f_X3_yieldTo_L11 200 v0 v1 a10 x11 (0 : Int32) M
abbrev rm_X3_yieldTo : Room := { frames := 3, cells := 0, slots := 0, locals := 70 }
theorem hd_X3_yieldTo : yX3_yieldTo.cls ≠ "java/lang/invoke/MethodHandle" ∧ yX3_yieldTo.cls ≠ "java/lang/invoke/VarHandle" ∧ (parseMethodDescriptor yX3_yieldTo.desc).map (fun d => d.parameters.length) = some 1 := by decide +kernel
set_option maxHeartbeats 8000000 in
set_option maxRecDepth 100000 in
theorem c_X3_yieldTo {l : Launch} {D : va_G} {ca : Nat → ClassId} {b : Nat} {nx : Bool} {v0 : Nat} {v1 : Nat} {M : Mem} {r : Mem} (hf : f_X3_yieldTo v0 v1 M = some r) : CtV l yX3_yieldTo cX3_yieldTo 8 none rm_X3_yieldTo D ca b nx [.ref v0, .ref v1] M r 0 0 := by
  intro sz
  refine body_start (Qc := fun A => cvV D ca nx A r) (by decide +kernel) (Nat.le_of_ble_eq_true rfl) ?_
  intro p e s m args below meth c A hC hr hR ls hl
  obtain ⟨hx, hb, hml, hts, hown, hlocks, hXe, hA, hAb, hnm⟩ := id hC
  have hK := hXe.1
  have hl : lv_has ls 8 [(0, .ref v0), (1, .ref v1)] := hl
  have hB121 : ∀ (k11 : Nat → Nat → Nat → Int32 → Int32 → Mem → Option (Mem)) (hk11 : ∀ (v0 : Nat) (v1 : Nat) (v2 : Nat) (v3 : Int32) (v4 : Int32) (M : Mem) (H : Heap) (locs : List Loc) (ls : Array Slot), k11 v0 v1 v2 v3 v4 M = some r → Hp D ca nx A s M H locs → lv_has ls 8 [(0, .ref v0), (1, .ref v1), (2, .ref v2), (3, .int v3), (4, .int v4)] → W p l e rm_X3_yieldTo s m args below meth c H locs 0 0 (MQ below (cvV D ca nx A r) args s 0 0 A) (F0 m 11 ls [])) (v0 : Nat) (v1 : Nat) (v2 : Nat) (v3 : Int32) (v4 : Int32) (M : Mem) (H : Heap) (locs : List Loc) (ls : Array Slot), f_X3_yieldTo_b121 k11 v0 v1 v2 v3 v4 M = some r → Hp D ca nx A s M H locs → lv_has ls 8 [(0, .ref v0), (1, .ref v1), (2, .ref v2), (3, .int v3), (4, .int v4)] → W p l e rm_X3_yieldTo s m args below meth c H locs 0 0 (MQ below (cvV D ca nx A r) args s 0 0 A) (F0 m 121 ls []) := by
    intro k11 hk11 v0 v1 v2 v3 v4 M H locs ls hf hR hl
    unfold f_X3_yieldTo_b121 at hf
    refine rg_iinc (pc := 121) hx hb dX3_yieldTo_121 hl (k := 4) rfl rfl (by decide) hf (fun x1 ls hf hl => ?_)
    have hl : lv_has ls 8 [(4, .int x1), (0, .ref v0), (1, .ref v1), (2, .ref v2), (3, .int v3)] := hl
    refine lv_goto (pc := 124) (tgt := 11) hx hb dX3_yieldTo_124 (by decide) ?_
    exact hk11 v0 v1 v2 v3 x1 M _ _ _ hf hR (lv_sub hl [1, 2, 3, 4, 0] rfl)
  have hB81 : ∀ (k11 : Nat → Nat → Nat → Int32 → Int32 → Mem → Option (Mem)) (hk11 : ∀ (v0 : Nat) (v1 : Nat) (v2 : Nat) (v3 : Int32) (v4 : Int32) (M : Mem) (H : Heap) (locs : List Loc) (ls : Array Slot), k11 v0 v1 v2 v3 v4 M = some r → Hp D ca nx A s M H locs → lv_has ls 8 [(0, .ref v0), (1, .ref v1), (2, .ref v2), (3, .int v3), (4, .int v4)] → W p l e rm_X3_yieldTo s m args below meth c H locs 0 0 (MQ below (cvV D ca nx A r) args s 0 0 A) (F0 m 11 ls [])) (s0 : Int32) (s1 : Nat) (s2 : Nat) (v0 : Nat) (v1 : Nat) (v2 : Nat) (v3 : Int32) (v4 : Int32) (v5 : Nat) (v6 : Int64) (M : Mem) (H : Heap) (locs : List Loc) (ls : Array Slot), f_X3_yieldTo_b81 k11 s0 s1 s2 v0 v1 v2 v3 v4 v5 v6 M = some r → Hp D ca nx A s M H locs → lv_has ls 8 [(0, .ref v0), (1, .ref v1), (2, .ref v2), (3, .int v3), (4, .int v4), (5, .ref v5), (6, .long v6)] → W p l e rm_X3_yieldTo s m args below meth c H locs 0 0 (MQ below (cvV D ca nx A r) args s 0 0 A) (F0 m 81 ls [.int s0, .ref s1, .ref s2]) := by
    intro k11 hk11 s0 s1 s2 v0 v1 v2 v3 v4 v5 v6 M H locs ls hf hR hl
    unfold f_X3_yieldTo_b81 at hf
    obtain ⟨hq, hf⟩ := gd_e hf
    refine rg_V (pc := 81) hf hR hA (fun z hz => rn_V (κ := 3) (As := [.ref s1, .int s0]) (rest := []) hC hR rfl (by decide) hq (c_X3_shift  hz _) m_418 m_420 ms_2 m_2 m_421 hd_X3_shift ⟨rfl, rfl, Nat.le_of_ble_eq_true rfl, Nat.le_of_ble_eq_true rfl⟩ rfl hl.1 rfl (Nat.le_of_ble_eq_true rfl) dX3_yieldTo_81 ⟨Nat.le_of_ble_eq_true rfl, Nat.le_of_ble_eq_true rfl⟩) (fun z2 H locs hf hR => ?_)
    refine lv_aload (pc := 84) hx hb dX3_yieldTo_84 (lv_at hl 5 rfl) ?_
    refine lv_aload (pc := 86) hx hb dX3_yieldTo_86 (lv_at hl 5 rfl) ?_
    refine rg_get (pc := 88) (C := RX2) (T := TX2) (N := 7) (κ := 2) (v := .int (mm_i z2 v5 3)) hx hb hts hK hR hown in_2 rfl (by decide) 3 (by decide) m_116 rfl dX3_yieldTo_88 hf (fun hf => ?_)
    refine lv_iconst (pc := 91) (v := (5 : Int32)) hx hb dX3_yieldTo_91 (by decide) ?_
    refine lv_iadd (pc := 92) hx hb dX3_yieldTo_92 ?_
    refine lv_bipush (pc := 93) (v := (99 : Int32)) hx hb dX3_yieldTo_93 (by decide) ?_
    refine va_mmin (pc := 95) hx hb (hml.trans hl.1.symm) hown (hts _ m_422) (hts _ m_416) (hts _ m_14) (hts _ m_417) (Nat.le_of_ble_eq_true rfl) (Nat.le_of_ble_eq_true rfl) (Nat.le_of_ble_eq_true rfl) (Nat.le_of_ble_eq_true rfl) dX3_yieldTo_95 ?_
    refine rg_puti (pc := 98) (C := RX2) (T := TX2) (N := 7) (κ := 2) hx hb hts hK hR hown in_2 rfl (by decide) 3 (by decide) m_116 tyX2 tyX2_ok nmX2 rfl rfl rfl rfl dX3_yieldTo_98 hf (fun M3 H locs hf hR => ?_)
    refine lv_aload_n (pc := 101) hx hb dX3_yieldTo_101 rfl (lv_at hl 0 rfl) ?_
    refine rg_getr (pc := 102) (C := RX3) (T := TX3) (N := 7) (κ := 3) hx hb hts hK hR hown in_3 rfl (by decide) 1 (by decide) m_142 rfl dX3_yieldTo_102 hf (fun a4 hf => ?_)
    refine lv_dup (pc := 105) hx hb dX3_yieldTo_105 rfl ?_
    refine rg_get (pc := 106) (C := RX4) (T := TX4) (N := 13) (κ := 4) (v := .long (mm_l M3 a4 11)) hx hb hts hK hR hown in_4 rfl (by decide) 11 (by decide) m_69 rfl dX3_yieldTo_106 hf (fun hf => ?_)
    refine lv_aload (pc := 109) hx hb dX3_yieldTo_109 (lv_at hl 5 rfl) ?_
    obtain ⟨hq, hf⟩ := gd_e hf
    refine rg_L (pc := 111) hf hR hA (fun z hz => rn_V (κ := 2) (As := []) (rest := [.long (mm_l M3 a4 11), .ref a4]) hC hR rfl (by decide) hq (c_X2_carried  hz _) m_353 m_354 m_355 m_5 m_356 hd_X2_carried ⟨rfl, rfl, Nat.le_of_ble_eq_true rfl, Nat.le_of_ble_eq_true rfl⟩ rfl hl.1 rfl (Nat.le_of_ble_eq_true rfl) dX3_yieldTo_111 ⟨Nat.le_of_ble_eq_true rfl, Nat.le_of_ble_eq_true rfl⟩) (fun z5 H locs hf hR => ?_)
    refine lv_lload (pc := 114) hx hb dX3_yieldTo_114 (lv_at hl 6 rfl) ?_
    refine lv_lsub (pc := 116) hx hb dX3_yieldTo_116 ?_
    refine lv_ladd (pc := 117) hx hb dX3_yieldTo_117 ?_
    refine rg_putl (pc := 118) (C := RX4) (T := TX4) (N := 13) (κ := 4) hx hb hts hK hR hown in_4 rfl (by decide) 11 (by decide) m_69 tyX4 tyX4_ok nmX4 rfl rfl rfl rfl dX3_yieldTo_118 hf (fun M6 H locs hf hR => ?_)
    exact hB121 k11 hk11 v0 v1 v2 v3 v4 M6 _ _ _ hf hR (lv_sub hl [0, 1, 2, 3, 4] rfl)
  have hB11 : ∀ (k11 : Nat → Nat → Nat → Int32 → Int32 → Mem → Option (Mem)) (hk11 : ∀ (v0 : Nat) (v1 : Nat) (v2 : Nat) (v3 : Int32) (v4 : Int32) (M : Mem) (H : Heap) (locs : List Loc) (ls : Array Slot), k11 v0 v1 v2 v3 v4 M = some r → Hp D ca nx A s M H locs → lv_has ls 8 [(0, .ref v0), (1, .ref v1), (2, .ref v2), (3, .int v3), (4, .int v4)] → W p l e rm_X3_yieldTo s m args below meth c H locs 0 0 (MQ below (cvV D ca nx A r) args s 0 0 A) (F0 m 11 ls [])) (v0 : Nat) (v1 : Nat) (v2 : Nat) (v3 : Int32) (v4 : Int32) (M : Mem) (H : Heap) (locs : List Loc) (ls : Array Slot), f_X3_yieldTo_b11 k11 v0 v1 v2 v3 v4 M = some r → Hp D ca nx A s M H locs → lv_has ls 8 [(0, .ref v0), (1, .ref v1), (2, .ref v2), (3, .int v3), (4, .int v4)] → W p l e rm_X3_yieldTo s m args below meth c H locs 0 0 (MQ below (cvV D ca nx A r) args s 0 0 A) (F0 m 11 ls []) := by
    intro k11 hk11 v0 v1 v2 v3 v4 M H locs ls hf hR hl
    unfold f_X3_yieldTo_b11 at hf
    refine lv_iload (pc := 11) hx hb dX3_yieldTo_11 (lv_at hl 4 rfl) ?_
    refine lv_iload_n (pc := 13) hx hb dX3_yieldTo_13 rfl (lv_at hl 3 rfl) ?_
    refine lv_icmp_ge (pc := 14) (tgt := 127) hx hb dX3_yieldTo_14 (by decide) (fun hc => ?_) (fun hc => ?_)
    · replace hf := it_t hf hc
      exact rg_vret (pc := 127) hx hb hlocks hr hf hR dX3_yieldTo_127
    · replace hf := it_f hf hc
      refine lv_aload_n (pc := 17) hx hb dX3_yieldTo_17 rfl (lv_at hl 2 rfl) ?_
      refine lv_iload (pc := 18) hx hb dX3_yieldTo_18 (lv_at hl 4 rfl) ?_
      refine rg_aald (pc := 20) (κ := 13) hx hb hK hR 3 rfl (by decide) dX3_yieldTo_20 hf (fun a7 hf => ?_)
      refine lv_astore (pc := 21) (lv' := [(5, .ref a7), (0, .ref v0), (1, .ref v1), (2, .ref v2), (3, .int v3), (4, .int v4)]) hx hb dX3_yieldTo_21 hl (by decide) rfl (fun ls hl => ?_)
      refine lv_aload (pc := 23) hx hb dX3_yieldTo_23 (lv_at hl 0 rfl) ?_
      refine rg_get (pc := 25) (C := RX2) (T := TX2) (N := 7) (κ := 2) (v := .int (mm_i M a7 5)) hx hb hts hK hR hown in_2 rfl (by decide) 5 (by decide) m_120 rfl dX3_yieldTo_25 hf (fun hf => ?_)
      refine lv_if_eq (pc := 28) (tgt := 121) hx hb dX3_yieldTo_28 (by decide) (fun hc => ?_) (fun hc => ?_)
      · replace hf := it_t hf hc
        exact hB121 k11 hk11 v0 v1 v2 v3 v4 M _ _ _ hf hR (lv_sub hl [1, 2, 3, 4, 5] rfl)
      · replace hf := it_f hf hc
        refine lv_aload (pc := 31) hx hb dX3_yieldTo_31 (lv_at hl 0 rfl) ?_
        refine lv_aload_n (pc := 33) hx hb dX3_yieldTo_33 rfl (lv_at hl 2 rfl) ?_
        refine rg_get (pc := 34) (C := RX5) (T := TX5) (N := 3) (κ := 5) (v := .int (mm_i M v1 0)) hx hb hts hK hR hown in_5 rfl (by decide) 0 (by decide) m_177 rfl dX3_yieldTo_34 hf (fun hf => ?_)
        refine lv_aload_n (pc := 37) hx hb dX3_yieldTo_37 rfl (lv_at hl 2 rfl) ?_
        refine rg_get (pc := 38) (C := RX5) (T := TX5) (N := 3) (κ := 5) (v := .int (mm_i M v1 1)) hx hb hts hK hR hown in_5 rfl (by decide) 1 (by decide) m_179 rfl dX3_yieldTo_38 hf (fun hf => ?_)
        refine lv_aload_n (pc := 41) hx hb dX3_yieldTo_41 rfl (lv_at hl 2 rfl) ?_
        refine rg_get (pc := 42) (C := RX5) (T := TX5) (N := 3) (κ := 5) (v := .int (mm_i M v1 2)) hx hb hts hK hR hown in_5 rfl (by decide) 2 (by decide) m_181 rfl dX3_yieldTo_42 hf (fun hf => ?_)
        refine lv_sipush (pc := 45) (v := (1000 : Int32)) hx hb dX3_yieldTo_45 (by decide) ?_
        obtain ⟨hq, hf⟩ := gd_e hf
        refine rg_I (pc := 48) hf hR hA (fun z hz => rn_V (κ := 2) (As := [.int (mm_i M v1 0), .int (mm_i M v1 1), .int (mm_i M v1 2), .int (1000 : Int32)]) (rest := []) hC hR rfl (by decide) hq (c_X2_isNear  hz _) m_404 m_405 m_406 m_5 m_407 hd_X2_isNear ⟨rfl, rfl, Nat.le_of_ble_eq_true rfl, Nat.le_of_ble_eq_true rfl⟩ rfl hl.1 rfl (Nat.le_of_ble_eq_true rfl) dX3_yieldTo_48 ⟨Nat.le_of_ble_eq_true rfl, Nat.le_of_ble_eq_true rfl⟩) (fun z8 H locs hf hR => ?_)
        refine lv_if_eq (pc := 51) (tgt := 121) hx hb dX3_yieldTo_51 (by decide) (fun hc => ?_) (fun hc => ?_)
        · replace hf := it_t hf hc
          exact hB121 k11 hk11 v0 v1 v2 v3 v4 z8.1 _ _ _ hf hR (lv_sub hl [1, 2, 3, 4, 5] rfl)
        · replace hf := it_f hf hc
          refine lv_aload (pc := 54) hx hb dX3_yieldTo_54 (lv_at hl 0 rfl) ?_
          obtain ⟨hq, hf⟩ := gd_e hf
          refine rg_L (pc := 56) hf hR hA (fun z hz => rn_V (κ := 2) (As := []) (rest := []) hC hR rfl (by decide) hq (c_X2_carried  hz _) m_353 m_354 m_355 m_5 m_356 hd_X2_carried ⟨rfl, rfl, Nat.le_of_ble_eq_true rfl, Nat.le_of_ble_eq_true rfl⟩ rfl hl.1 rfl (Nat.le_of_ble_eq_true rfl) dX3_yieldTo_56 ⟨Nat.le_of_ble_eq_true rfl, Nat.le_of_ble_eq_true rfl⟩) (fun z9 H locs hf hR => ?_)
          refine lv_lstore (pc := 59) (lv' := [(6, .long z9.2), (5, .ref a7), (0, .ref v0), (1, .ref v1), (2, .ref v2), (3, .int v3), (4, .int v4)]) hx hb dX3_yieldTo_59 hl (by decide) rfl (fun ls hl => ?_)
          refine lv_aload_n (pc := 61) hx hb dX3_yieldTo_61 rfl (lv_at hl 2 rfl) ?_
          refine lv_aload (pc := 62) hx hb dX3_yieldTo_62 (lv_at hl 1 rfl) ?_
          refine lv_aload (pc := 64) hx hb dX3_yieldTo_64 (lv_at hl 1 rfl) ?_
          refine rg_get (pc := 66) (C := RX2) (T := TX2) (N := 7) (κ := 2) (v := .int (mm_i z9.1 a7 0)) hx hb hts hK hR hown in_2 rfl (by decide) 0 (by decide) m_108 rfl dX3_yieldTo_66 hf (fun hf => ?_)
          refine lv_aload_n (pc := 69) hx hb dX3_yieldTo_69 rfl (lv_at hl 3 rfl) ?_
          refine rg_get (pc := 70) (C := RX5) (T := TX5) (N := 3) (κ := 5) (v := .int (mm_i z9.1 v1 0)) hx hb hts hK hR hown in_5 rfl (by decide) 0 (by decide) m_177 rfl dX3_yieldTo_70 hf (fun hf => ?_)
          refine lv_icmp_ge (pc := 73) (tgt := 80) hx hb dX3_yieldTo_73 (by decide) (fun hc => ?_) (fun hc => ?_)
          · replace hf := it_t hf hc
            refine lv_iconst (pc := 80) (v := (1 : Int32)) hx hb dX3_yieldTo_80 (by decide) ?_
            exact hB81 k11 hk11 (1 : Int32) a7 v0 v0 v1 v2 v3 v4 a7 z9.2 z9.1 _ _ _ hf hR (lv_sub hl [2, 3, 4, 5, 6, 1, 0] rfl)
          · replace hf := it_f hf hc
            refine lv_iconst (pc := 76) (v := (-1 : Int32)) hx hb dX3_yieldTo_76 (by decide) ?_
            refine lv_goto (pc := 77) (tgt := 81) hx hb dX3_yieldTo_77 (by decide) ?_
            exact hB81 k11 hk11 (-1 : Int32) a7 v0 v0 v1 v2 v3 v4 a7 z9.2 z9.1 _ _ _ hf hR (lv_sub hl [2, 3, 4, 5, 6, 1, 0] rfl)
  have hL11 : ∀  (n : Nat) (v0 : Nat) (v1 : Nat) (v2 : Nat) (v3 : Int32) (v4 : Int32) (M : Mem) (H : Heap) (locs : List Loc) (ls : Array Slot), f_X3_yieldTo_L11  n v0 v1 v2 v3 v4 M = some r → Hp D ca nx A s M H locs → lv_has ls 8 [(0, .ref v0), (1, .ref v1), (2, .ref v2), (3, .int v3), (4, .int v4)] → W p l e rm_X3_yieldTo s m args below meth c H locs 0 0 (MQ below (cvV D ca nx A r) args s 0 0 A) (F0 m 11 ls []) := by
    intro  n
    induction n with
    | zero => intro v0 v1 v2 v3 v4 M H locs ls hf; exact nomatch (show (none : Option (Mem)) = some r from hf)
    | succ n ih => intro v0 v1 v2 v3 v4 M H locs ls hf hR hl; exact hB11  (f_X3_yieldTo_L11  n) ih v0 v1 v2 v3 v4 M H locs ls hf hR hl
  unfold f_X3_yieldTo at hf
  refine lv_aload_n (pc := 0) hx hb dX3_yieldTo_0 rfl (lv_at hl 0 rfl) ?_
  refine rg_getr (pc := 1) (C := RX3) (T := TX3) (N := 7) (κ := 3) hx hb hts hK hR hown in_3 rfl (by decide) 2 (by decide) m_144 rfl dX3_yieldTo_1 hf (fun a10 hf => ?_)
  refine lv_astore_n (pc := 4) (lv' := [(2, .ref a10), (0, .ref v0), (1, .ref v1)]) hx hb dX3_yieldTo_4 rfl hl (by decide) rfl (fun ls hl => ?_)
  refine lv_aload_n (pc := 5) hx hb dX3_yieldTo_5 rfl (lv_at hl 0 rfl) ?_
  refine rg_alen (pc := 6) (κ := 13) hx hb hK hR 3 rfl (by decide) dX3_yieldTo_6 hf (fun hf => ?_)
  refine nm_i hf (fun x11 hf => ?_)
  refine lv_istore_n (pc := 7) (lv' := [(3, .int x11), (2, .ref a10), (0, .ref v0), (1, .ref v1)]) hx hb dX3_yieldTo_7 rfl hl (by decide) rfl (fun ls hl => ?_)
  refine lv_iconst (pc := 8) (v := (0 : Int32)) hx hb dX3_yieldTo_8 (by decide) ?_
  refine lv_istore (pc := 9) (lv' := [(4, .int (0 : Int32)), (3, .int x11), (2, .ref a10), (0, .ref v0), (1, .ref v1)]) hx hb dX3_yieldTo_9 hl (by decide) rfl (fun ls hl => ?_)
  exact hL11 200 v0 v1 a10 x11 (0 : Int32) M _ _ _ hf hR (lv_sub hl [3, 4, 2, 1, 0] rfl)
end
section
-- X3_partnerOf
def f_X3_partnerOf_b58 (k12 : Nat → Int32 → Nat → Int32 → Mem → Option (Mem × Int32)) (v0 : Nat) (v2 : Int32) (v3 : Nat) (v4 : Int32) (M : Mem) : Option (Mem × Int32) := lt_ (v4 + (1 : Int32)) fun x1 => k12 v0 v2 v3 x1 M
def f_X3_partnerOf_b12 (k12 : Nat → Int32 → Nat → Int32 → Mem → Option (Mem × Int32)) (v0 : Nat) (v2 : Int32) (v3 : Nat) (v4 : Int32) (M : Mem) : Option (Mem × Int32) := if v2 ≤ v4 then (some (M, (-1 : Int32))) else (gd (M.1 v0 = 3) <| rd (mm_r M v0 2) fun a2 => gd (M.1 a2 = 13 ∧ vi_ v4 (mm_N M a2)) <| rd (mm_r M a2 (v4).toNatClampNeg) fun a3 => gd (M.1 a3 = 2) <| bd (f_X2_mayMeet a3 M) fun z4 => if z4.2 = 0 then (f_X3_partnerOf_b58 k12 v0 v2 v3 v4 z4.1) else (gd (z4.1.1 a3 = 2) <| gd (z4.1.1 a3 = 2) <| gd (z4.1.1 v3 = 2) <| bd (f_X2_isNear v3 (mm_i z4.1 a3 0) (mm_i z4.1 a3 1) (1 : Int32) (100 : Int32) z4.1) fun z5 => if z5.2 = 0 then (f_X3_partnerOf_b58 k12 v0 v2 v3 v4 z5.1) else (some (z5.1, v4))))
def f_X3_partnerOf_L12  : Nat → Nat → Int32 → Nat → Int32 → Mem → Option (Mem × Int32)
  | 0 => fun _ _ _ _ _ => none
  | n + 1 => f_X3_partnerOf_b12  (f_X3_partnerOf_L12  n)
def f_X3_partnerOf (v0 : Nat) (v1 : Int32) (v2 : Int32) (M : Mem) : Option (Mem × Int32) := gd (M.1 v0 = 3) <| rd (mm_r M v0 2) fun a6 => gd (M.1 a6 = 13 ∧ vi_ v1 (mm_N M a6)) <| rd (mm_r M a6 (v1).toNatClampNeg) fun a7 => lt_ ((v1 + (1 : Int32))) fun x8 => f_X3_partnerOf_L12 200 v0 v2 a7 x8 M
abbrev rm_X3_partnerOf : Room := { frames := 3, cells := 0, slots := 0, locals := 70 }
theorem hd_X3_partnerOf : yX3_partnerOf.cls ≠ "java/lang/invoke/MethodHandle" ∧ yX3_partnerOf.cls ≠ "java/lang/invoke/VarHandle" ∧ (parseMethodDescriptor yX3_partnerOf.desc).map (fun d => d.parameters.length) = some 2 := by decide +kernel
set_option maxHeartbeats 8000000 in
set_option maxRecDepth 100000 in
theorem c_X3_partnerOf {l : Launch} {D : va_G} {ca : Nat → ClassId} {b : Nat} {nx : Bool} {v0 : Nat} {v1 : Int32} {v2 : Int32} {M : Mem} {r : Mem × Int32} (hf : f_X3_partnerOf v0 v1 v2 M = some r) : CtI l yX3_partnerOf cX3_partnerOf 6 (some .int) rm_X3_partnerOf D ca b nx [.ref v0, .int v1, .int v2] M r := by
  intro sz
  refine body_start (Qc := fun A => cvI D ca nx A r) (by decide +kernel) (Nat.le_of_ble_eq_true rfl) ?_
  intro p e s m args below meth c A hC hr hR ls hl
  obtain ⟨hx, hb, hml, hts, hown, hlocks, hXe, hA, hAb, hnm⟩ := id hC
  have hK := hXe.1
  have hl : lv_has ls 6 [(0, .ref v0), (1, .int v1), (2, .int v2)] := hl
  have hB58 : ∀ (k12 : Nat → Int32 → Nat → Int32 → Mem → Option (Mem × Int32)) (hk12 : ∀ (v0 : Nat) (v2 : Int32) (v3 : Nat) (v4 : Int32) (M : Mem) (H : Heap) (locs : List Loc) (ls : Array Slot), k12 v0 v2 v3 v4 M = some r → Hp D ca nx A s M H locs → lv_has ls 6 [(0, .ref v0), (2, .int v2), (3, .ref v3), (4, .int v4)] → W p l e rm_X3_partnerOf s m args below meth c H locs 0 0 (MQ below (cvI D ca nx A r) args s 0 0 A) (F0 m 12 ls [])) (v0 : Nat) (v2 : Int32) (v3 : Nat) (v4 : Int32) (M : Mem) (H : Heap) (locs : List Loc) (ls : Array Slot), f_X3_partnerOf_b58 k12 v0 v2 v3 v4 M = some r → Hp D ca nx A s M H locs → lv_has ls 6 [(0, .ref v0), (2, .int v2), (3, .ref v3), (4, .int v4)] → W p l e rm_X3_partnerOf s m args below meth c H locs 0 0 (MQ below (cvI D ca nx A r) args s 0 0 A) (F0 m 58 ls []) := by
    intro k12 hk12 v0 v2 v3 v4 M H locs ls hf hR hl
    unfold f_X3_partnerOf_b58 at hf
    refine rg_iinc (pc := 58) hx hb dX3_partnerOf_58 hl (k := 3) rfl rfl (by decide) hf (fun x1 ls hf hl => ?_)
    have hl : lv_has ls 6 [(4, .int x1), (0, .ref v0), (2, .int v2), (3, .ref v3)] := hl
    refine lv_goto (pc := 61) (tgt := 12) hx hb dX3_partnerOf_61 (by decide) ?_
    exact hk12 v0 v2 v3 x1 M _ _ _ hf hR (lv_sub hl [1, 2, 3, 0] rfl)
  have hB12 : ∀ (k12 : Nat → Int32 → Nat → Int32 → Mem → Option (Mem × Int32)) (hk12 : ∀ (v0 : Nat) (v2 : Int32) (v3 : Nat) (v4 : Int32) (M : Mem) (H : Heap) (locs : List Loc) (ls : Array Slot), k12 v0 v2 v3 v4 M = some r → Hp D ca nx A s M H locs → lv_has ls 6 [(0, .ref v0), (2, .int v2), (3, .ref v3), (4, .int v4)] → W p l e rm_X3_partnerOf s m args below meth c H locs 0 0 (MQ below (cvI D ca nx A r) args s 0 0 A) (F0 m 12 ls [])) (v0 : Nat) (v2 : Int32) (v3 : Nat) (v4 : Int32) (M : Mem) (H : Heap) (locs : List Loc) (ls : Array Slot), f_X3_partnerOf_b12 k12 v0 v2 v3 v4 M = some r → Hp D ca nx A s M H locs → lv_has ls 6 [(0, .ref v0), (2, .int v2), (3, .ref v3), (4, .int v4)] → W p l e rm_X3_partnerOf s m args below meth c H locs 0 0 (MQ below (cvI D ca nx A r) args s 0 0 A) (F0 m 12 ls []) := by
    intro k12 hk12 v0 v2 v3 v4 M H locs ls hf hR hl
    unfold f_X3_partnerOf_b12 at hf
    refine lv_iload (pc := 12) hx hb dX3_partnerOf_12 (lv_at hl 3 rfl) ?_
    refine lv_iload_n (pc := 14) hx hb dX3_partnerOf_14 rfl (lv_at hl 1 rfl) ?_
    refine lv_icmp_ge (pc := 15) (tgt := 64) hx hb dX3_partnerOf_15 (by decide) (fun hc => ?_) (fun hc => ?_)
    · replace hf := it_t hf hc
      refine lv_iconst (pc := 64) (v := (-1 : Int32)) hx hb dX3_partnerOf_64 (by decide) ?_
      exact rg_iret (pc := 65) hx hb hlocks hr hf hR dX3_partnerOf_65
    · replace hf := it_f hf hc
      refine lv_aload_n (pc := 18) hx hb dX3_partnerOf_18 rfl (lv_at hl 0 rfl) ?_
      refine rg_getr (pc := 19) (C := RX3) (T := TX3) (N := 7) (κ := 3) hx hb hts hK hR hown in_3 rfl (by decide) 2 (by decide) m_144 rfl dX3_partnerOf_19 hf (fun a2 hf => ?_)
      refine lv_iload (pc := 22) hx hb dX3_partnerOf_22 (lv_at hl 3 rfl) ?_
      refine rg_aald (pc := 24) (κ := 13) hx hb hK hR 3 rfl (by decide) dX3_partnerOf_24 hf (fun a3 hf => ?_)
      refine lv_astore (pc := 25) (lv' := [(5, .ref a3), (0, .ref v0), (2, .int v2), (3, .ref v3), (4, .int v4)]) hx hb dX3_partnerOf_25 hl (by decide) rfl (fun ls hl => ?_)
      refine lv_aload (pc := 27) hx hb dX3_partnerOf_27 (lv_at hl 0 rfl) ?_
      obtain ⟨hq, hf⟩ := gd_e hf
      refine rg_I (pc := 29) hf hR hA (fun z hz => rn_V (κ := 2) (As := []) (rest := []) hC hR rfl (by decide) hq (c_X2_mayMeet  hz _) m_427 m_428 m_429 m_5 m_430 hd_X2_mayMeet ⟨rfl, rfl, Nat.le_of_ble_eq_true rfl, Nat.le_of_ble_eq_true rfl⟩ rfl hl.1 rfl (Nat.le_of_ble_eq_true rfl) dX3_partnerOf_29 ⟨Nat.le_of_ble_eq_true rfl, Nat.le_of_ble_eq_true rfl⟩) (fun z4 H locs hf hR => ?_)
      refine lv_if_eq (pc := 32) (tgt := 58) hx hb dX3_partnerOf_32 (by decide) (fun hc => ?_) (fun hc => ?_)
      · replace hf := it_t hf hc
        exact hB58 k12 hk12 v0 v2 v3 v4 z4.1 _ _ _ hf hR (lv_sub hl [1, 2, 3, 4] rfl)
      · replace hf := it_f hf hc
        refine lv_aload_n (pc := 35) hx hb dX3_partnerOf_35 rfl (lv_at hl 3 rfl) ?_
        refine lv_aload (pc := 36) hx hb dX3_partnerOf_36 (lv_at hl 0 rfl) ?_
        refine rg_get (pc := 38) (C := RX2) (T := TX2) (N := 7) (κ := 2) (v := .int (mm_i z4.1 a3 0)) hx hb hts hK hR hown in_2 rfl (by decide) 0 (by decide) m_108 rfl dX3_partnerOf_38 hf (fun hf => ?_)
        refine lv_aload (pc := 41) hx hb dX3_partnerOf_41 (lv_at hl 0 rfl) ?_
        refine rg_get (pc := 43) (C := RX2) (T := TX2) (N := 7) (κ := 2) (v := .int (mm_i z4.1 a3 1)) hx hb hts hK hR hown in_2 rfl (by decide) 1 (by decide) m_110 rfl dX3_partnerOf_43 hf (fun hf => ?_)
        refine lv_iconst (pc := 46) (v := (1 : Int32)) hx hb dX3_partnerOf_46 (by decide) ?_
        refine lv_bipush (pc := 47) (v := (100 : Int32)) hx hb dX3_partnerOf_47 (by decide) ?_
        obtain ⟨hq, hf⟩ := gd_e hf
        refine rg_I (pc := 49) hf hR hA (fun z hz => rn_V (κ := 2) (As := [.int (mm_i z4.1 a3 0), .int (mm_i z4.1 a3 1), .int (1 : Int32), .int (100 : Int32)]) (rest := []) hC hR rfl (by decide) hq (c_X2_isNear  hz _) m_404 m_405 m_406 m_5 m_407 hd_X2_isNear ⟨rfl, rfl, Nat.le_of_ble_eq_true rfl, Nat.le_of_ble_eq_true rfl⟩ rfl hl.1 rfl (Nat.le_of_ble_eq_true rfl) dX3_partnerOf_49 ⟨Nat.le_of_ble_eq_true rfl, Nat.le_of_ble_eq_true rfl⟩) (fun z5 H locs hf hR => ?_)
        refine lv_if_eq (pc := 52) (tgt := 58) hx hb dX3_partnerOf_52 (by decide) (fun hc => ?_) (fun hc => ?_)
        · replace hf := it_t hf hc
          exact hB58 k12 hk12 v0 v2 v3 v4 z5.1 _ _ _ hf hR (lv_sub hl [1, 2, 3, 4] rfl)
        · replace hf := it_f hf hc
          refine lv_iload (pc := 55) hx hb dX3_partnerOf_55 (lv_at hl 4 rfl) ?_
          exact rg_iret (pc := 57) hx hb hlocks hr hf hR dX3_partnerOf_57
  have hL12 : ∀  (n : Nat) (v0 : Nat) (v2 : Int32) (v3 : Nat) (v4 : Int32) (M : Mem) (H : Heap) (locs : List Loc) (ls : Array Slot), f_X3_partnerOf_L12  n v0 v2 v3 v4 M = some r → Hp D ca nx A s M H locs → lv_has ls 6 [(0, .ref v0), (2, .int v2), (3, .ref v3), (4, .int v4)] → W p l e rm_X3_partnerOf s m args below meth c H locs 0 0 (MQ below (cvI D ca nx A r) args s 0 0 A) (F0 m 12 ls []) := by
    intro  n
    induction n with
    | zero => intro v0 v2 v3 v4 M H locs ls hf; exact nomatch (show (none : Option (Mem × Int32)) = some r from hf)
    | succ n ih => intro v0 v2 v3 v4 M H locs ls hf hR hl; exact hB12  (f_X3_partnerOf_L12  n) ih v0 v2 v3 v4 M H locs ls hf hR hl
  unfold f_X3_partnerOf at hf
  refine lv_aload_n (pc := 0) hx hb dX3_partnerOf_0 rfl (lv_at hl 0 rfl) ?_
  refine rg_getr (pc := 1) (C := RX3) (T := TX3) (N := 7) (κ := 3) hx hb hts hK hR hown in_3 rfl (by decide) 2 (by decide) m_144 rfl dX3_partnerOf_1 hf (fun a6 hf => ?_)
  refine lv_iload_n (pc := 4) hx hb dX3_partnerOf_4 rfl (lv_at hl 1 rfl) ?_
  refine rg_aald (pc := 5) (κ := 13) hx hb hK hR 3 rfl (by decide) dX3_partnerOf_5 hf (fun a7 hf => ?_)
  refine lv_astore_n (pc := 6) (lv' := [(3, .ref a7), (0, .ref v0), (1, .int v1), (2, .int v2)]) hx hb dX3_partnerOf_6 rfl hl (by decide) rfl (fun ls hl => ?_)
  refine lv_iload_n (pc := 7) hx hb dX3_partnerOf_7 rfl (lv_at hl 2 rfl) ?_
  refine lv_iconst (pc := 8) (v := (1 : Int32)) hx hb dX3_partnerOf_8 (by decide) ?_
  refine lv_iadd (pc := 9) hx hb dX3_partnerOf_9 ?_
  refine nm_i hf (fun x8 hf => ?_)
  refine lv_istore (pc := 10) (lv' := [(4, .int x8), (3, .ref a7), (0, .ref v0), (1, .int v1), (2, .int v2)]) hx hb dX3_partnerOf_10 hl (by decide) rfl (fun ls hl => ?_)
  exact hL12 200 v0 v2 a7 x8 M _ _ _ hf hR (lv_sub hl [2, 4, 1, 0] rfl)
-- X3_blend
def f_X3_blend (v0 : Nat) (v1 : Int32) (v2 : Nat) (v3 : Int32) (M : Mem) : Option (Mem × Int32) := gd (M.1 v0 = 2) <| gd (M.1 v2 = 2) <| lt_ ((((mm_i M v0 2)).toInt64 + ((mm_i M v2 2)).toInt64)) fun x1 => if 0 ≤ (lg_cmp x1 (1 : Int64)) then (gd (M.1 v0 = 2) <| gd (M.1 v2 = 2) <| gd (¬ x1 = 0) <| some (M, ((((((mm_i M v0 2)).toInt64 * (v1).toInt64) + (((mm_i M v2 2)).toInt64 * (v3).toInt64)) / x1)).toInt32)) else (some (M, v1))
abbrev rm_X3_blend : Room := { frames := 0, cells := 0, slots := 0, locals := 0 }
theorem hd_X3_blend : yX3_blend.cls ≠ "java/lang/invoke/MethodHandle" ∧ yX3_blend.cls ≠ "java/lang/invoke/VarHandle" ∧ (parseMethodDescriptor yX3_blend.desc).map (fun d => d.parameters.length) = some 4 := by decide +kernel
set_option maxHeartbeats 8000000 in
set_option maxRecDepth 100000 in
theorem c_X3_blend {l : Launch} {D : va_G} {ca : Nat → ClassId} {b : Nat} {nx : Bool} {v0 : Nat} {v1 : Int32} {v2 : Nat} {v3 : Int32} {M : Mem} {r : Mem × Int32} (hf : f_X3_blend v0 v1 v2 v3 M = some r) : CtI l yX3_blend cX3_blend 6 (some .int) rm_X3_blend D ca b nx [.ref v0, .int v1, .ref v2, .int v3] M r := by
  intro sz
  refine body_start (Qc := fun A => cvI D ca nx A r) (by decide +kernel) (Nat.le_of_ble_eq_true rfl) ?_
  intro p e s m args below meth c A hC hr hR ls hl
  obtain ⟨hx, hb, hml, hts, hown, hlocks, hXe, hA, hAb, hnm⟩ := id hC
  have hK := hXe.1
  have hl : lv_has ls 6 [(0, .ref v0), (1, .int v1), (2, .ref v2), (3, .int v3)] := hl
  unfold f_X3_blend at hf
  refine lv_aload_n (pc := 0) hx hb dX3_blend_0 rfl (lv_at hl 0 rfl) ?_
  refine rg_get (pc := 1) (C := RX2) (T := TX2) (N := 7) (κ := 2) (v := .int (mm_i M v0 2)) hx hb hts hK hR hown in_2 rfl (by decide) 2 (by decide) m_114 rfl dX3_blend_1 hf (fun hf => ?_)
  refine lv_i2l (pc := 4) hx hb dX3_blend_4 rfl ?_
  refine lv_aload_n (pc := 5) hx hb dX3_blend_5 rfl (lv_at hl 2 rfl) ?_
  refine rg_get (pc := 6) (C := RX2) (T := TX2) (N := 7) (κ := 2) (v := .int (mm_i M v2 2)) hx hb hts hK hR hown in_2 rfl (by decide) 2 (by decide) m_114 rfl dX3_blend_6 hf (fun hf => ?_)
  refine lv_i2l (pc := 9) hx hb dX3_blend_9 rfl ?_
  refine lv_ladd (pc := 10) hx hb dX3_blend_10 ?_
  refine nm_l hf (fun x1 hf => ?_)
  refine lv_lstore (pc := 11) (lv' := [(4, .long x1), (0, .ref v0), (1, .int v1), (2, .ref v2), (3, .int v3)]) hx hb dX3_blend_11 hl (by decide) rfl (fun ls hl => ?_)
  refine lv_lload (pc := 13) hx hb dX3_blend_13 (lv_at hl 0 rfl) ?_
  refine lv_lconst (pc := 15) (v := (1 : Int64)) hx hb dX3_blend_15 (by decide) ?_
  refine W.lcmp (pc := 16) hx hb dX3_blend_16 ?_
  refine lv_if_ge (pc := 17) (tgt := 22) hx hb dX3_blend_17 (by decide) (fun hc => ?_) (fun hc => ?_)
  · replace hf := it_t hf hc
    refine lv_aload_n (pc := 22) hx hb dX3_blend_22 rfl (lv_at hl 1 rfl) ?_
    refine rg_get (pc := 23) (C := RX2) (T := TX2) (N := 7) (κ := 2) (v := .int (mm_i M v0 2)) hx hb hts hK hR hown in_2 rfl (by decide) 2 (by decide) m_114 rfl dX3_blend_23 hf (fun hf => ?_)
    refine lv_i2l (pc := 26) hx hb dX3_blend_26 rfl ?_
    refine lv_iload_n (pc := 27) hx hb dX3_blend_27 rfl (lv_at hl 2 rfl) ?_
    refine lv_i2l (pc := 28) hx hb dX3_blend_28 rfl ?_
    refine lv_lmul (pc := 29) hx hb dX3_blend_29 ?_
    refine lv_aload_n (pc := 30) hx hb dX3_blend_30 rfl (lv_at hl 3 rfl) ?_
    refine rg_get (pc := 31) (C := RX2) (T := TX2) (N := 7) (κ := 2) (v := .int (mm_i M v2 2)) hx hb hts hK hR hown in_2 rfl (by decide) 2 (by decide) m_114 rfl dX3_blend_31 hf (fun hf => ?_)
    refine lv_i2l (pc := 34) hx hb dX3_blend_34 rfl ?_
    refine lv_iload_n (pc := 35) hx hb dX3_blend_35 rfl (lv_at hl 4 rfl) ?_
    refine lv_i2l (pc := 36) hx hb dX3_blend_36 rfl ?_
    refine lv_lmul (pc := 37) hx hb dX3_blend_37 ?_
    refine lv_ladd (pc := 38) hx hb dX3_blend_38 ?_
    refine lv_lload (pc := 39) hx hb dX3_blend_39 (lv_at hl 0 rfl) ?_
    obtain ⟨hz, hf⟩ := gd_e hf
    refine lv_ldiv (pc := 41) hx hb dX3_blend_41 hz ?_
    refine lv_l2i (pc := 42) hx hb dX3_blend_42 rfl ?_
    exact rg_iret (pc := 43) hx hb hlocks hr hf hR dX3_blend_43
  · replace hf := it_f hf hc
    refine lv_iload_n (pc := 20) hx hb dX3_blend_20 rfl (lv_at hl 2 rfl) ?_
    exact rg_iret (pc := 21) hx hb hlocks hr hf hR dX3_blend_21
-- X3_stick
def f_X3_stick (v0 : Nat) (v1 : Nat) (v2 : Nat) (M : Mem) : Option (Mem) := gd (M.1 v1 = 2) <| bd (f_X2_carried v1 M) fun z1 => gd (z1.1.1 v2 = 2) <| bd (f_X2_carried v2 z1.1) fun z2 => lt_ ((z1.2 + z2.2)) fun x3 => gd (z2.1.1 v1 = 2) <| gd (z2.1.1 v2 = 2) <| bd (f_X3_blend v1 (mm_i z2.1 v1 0) v2 (mm_i z2.1 v2 0) z2.1) fun z4 => gd (z4.1.1 v1 = 2) <| gd (z4.1.1 v2 = 2) <| bd (f_X3_blend v1 (mm_i z4.1 v1 4) v2 (mm_i z4.1 v2 4) z4.1) fun z5 => gd (z5.1.1 v1 = 2) <| lt_ (ms_i z5.1 v1 0 z4.2) fun M6 => gd (M6.1 v1 = 2) <| lt_ (ms_i M6 v1 4 z5.2) fun M7 => gd (M7.1 v1 = 2) <| gd (M7.1 v2 = 2) <| gd (M7.1 v1 = 2) <| lt_ (ms_i M7 v1 3 (if (mm_i M7 v2 3) < (mm_i M7 v1 3) then (mm_i M7 v2 3) else (mm_i M7 v1 3))) fun M8 => gd (M8.1 v1 = 2) <| gd (M8.1 v2 = 2) <| gd (M8.1 v1 = 2) <| lt_ (ms_i M8 v1 2 ((mm_i M8 v1 2) + (mm_i M8 v2 2))) fun M9 => gd (M9.1 v2 = 2) <| lt_ (ms_i M9 v2 5 (0 : Int32)) fun M10 => gd (M10.1 v0 = 3) <| rd (mm_r M10 v0 1) fun a11 => gd (M10.1 a11 = 4) <| gd (M10.1 a11 = 4) <| lt_ (ms_i M10 a11 0 ((mm_i M10 a11 0) + (1 : Int32))) fun M12 => gd (M12.1 v0 = 3) <| rd (mm_r M12 v0 1) fun a13 => gd (M12.1 a13 = 4) <| gd (M12.1 v1 = 2) <| bd (f_X2_carried v1 M12) fun z14 => gd (z14.1.1 a13 = 4) <| lt_ (ms_l z14.1 a13 12 ((mm_l M12 a13 12) + (x3 - z14.2))) fun M15 => some M15
abbrev rm_X3_stick : Room := { frames := 1, cells := 0, slots := 0, locals := 25 }
theorem hd_X3_stick : yX3_stick.cls ≠ "java/lang/invoke/MethodHandle" ∧ yX3_stick.cls ≠ "java/lang/invoke/VarHandle" ∧ (parseMethodDescriptor yX3_stick.desc).map (fun d => d.parameters.length) = some 2 := by decide +kernel
set_option maxHeartbeats 8000000 in
set_option maxRecDepth 100000 in
theorem c_X3_stick {l : Launch} {D : va_G} {ca : Nat → ClassId} {b : Nat} {nx : Bool} {v0 : Nat} {v1 : Nat} {v2 : Nat} {M : Mem} {r : Mem} (hf : f_X3_stick v0 v1 v2 M = some r) : CtV l yX3_stick cX3_stick 7 none rm_X3_stick D ca b nx [.ref v0, .ref v1, .ref v2] M r 0 0 := by
  intro sz
  refine body_start (Qc := fun A => cvV D ca nx A r) (by decide +kernel) (Nat.le_of_ble_eq_true rfl) ?_
  intro p e s m args below meth c A hC hr hR ls hl
  obtain ⟨hx, hb, hml, hts, hown, hlocks, hXe, hA, hAb, hnm⟩ := id hC
  have hK := hXe.1
  have hl : lv_has ls 7 [(0, .ref v0), (1, .ref v1), (2, .ref v2)] := hl
  unfold f_X3_stick at hf
  refine lv_aload_n (pc := 0) hx hb dX3_stick_0 rfl (lv_at hl 1 rfl) ?_
  obtain ⟨hq, hf⟩ := gd_e hf
  refine rg_L (pc := 1) hf hR hA (fun z hz => rn_V (κ := 2) (As := []) (rest := []) hC hR rfl (by decide) hq (c_X2_carried  hz _) m_353 m_354 m_355 m_5 m_356 hd_X2_carried ⟨rfl, rfl, Nat.le_of_ble_eq_true rfl, Nat.le_of_ble_eq_true rfl⟩ rfl hl.1 rfl (Nat.le_of_ble_eq_true rfl) dX3_stick_1 ⟨Nat.le_of_ble_eq_true rfl, Nat.le_of_ble_eq_true rfl⟩) (fun z1 H locs hf hR => ?_)
  refine lv_aload_n (pc := 4) hx hb dX3_stick_4 rfl (lv_at hl 2 rfl) ?_
  obtain ⟨hq, hf⟩ := gd_e hf
  refine rg_L (pc := 5) hf hR hA (fun z hz => rn_V (κ := 2) (As := []) (rest := [.long z1.2]) hC hR rfl (by decide) hq (c_X2_carried  hz _) m_353 m_354 m_355 m_5 m_356 hd_X2_carried ⟨rfl, rfl, Nat.le_of_ble_eq_true rfl, Nat.le_of_ble_eq_true rfl⟩ rfl hl.1 rfl (Nat.le_of_ble_eq_true rfl) dX3_stick_5 ⟨Nat.le_of_ble_eq_true rfl, Nat.le_of_ble_eq_true rfl⟩) (fun z2 H locs hf hR => ?_)
  refine lv_ladd (pc := 8) hx hb dX3_stick_8 ?_
  refine nm_l hf (fun x3 hf => ?_)
  refine lv_lstore_n (pc := 9) (lv' := [(3, .long x3), (0, .ref v0), (1, .ref v1), (2, .ref v2)]) hx hb dX3_stick_9 rfl hl (by decide) rfl (fun ls hl => ?_)
  refine lv_aload_n (pc := 10) hx hb dX3_stick_10 rfl (lv_at hl 2 rfl) ?_
  refine lv_aload_n (pc := 11) hx hb dX3_stick_11 rfl (lv_at hl 2 rfl) ?_
  refine rg_get (pc := 12) (C := RX2) (T := TX2) (N := 7) (κ := 2) (v := .int (mm_i z2.1 v1 0)) hx hb hts hK hR hown in_2 rfl (by decide) 0 (by decide) m_108 rfl dX3_stick_12 hf (fun hf => ?_)
  refine lv_aload_n (pc := 15) hx hb dX3_stick_15 rfl (lv_at hl 3 rfl) ?_
  refine lv_aload_n (pc := 16) hx hb dX3_stick_16 rfl (lv_at hl 3 rfl) ?_
  refine rg_get (pc := 17) (C := RX2) (T := TX2) (N := 7) (κ := 2) (v := .int (mm_i z2.1 v2 0)) hx hb hts hK hR hown in_2 rfl (by decide) 0 (by decide) m_108 rfl dX3_stick_17 hf (fun hf => ?_)
  refine rg_I (pc := 20) hf hR hA (fun z hz => rn_S (As := [.ref v1, .int (mm_i z2.1 v1 0), .ref v2, .int (mm_i z2.1 v2 0)]) (rest := []) hC hR (c_X3_blend  hz _) m_444 m_445 m_2 m_446 hd_X3_blend ⟨rfl, rfl, Nat.le_of_ble_eq_true rfl, Nat.le_of_ble_eq_true rfl⟩ rfl hl.1 rfl (Nat.le_of_ble_eq_true rfl) dX3_stick_20 ⟨Nat.le_of_ble_eq_true rfl, Nat.le_of_ble_eq_true rfl⟩) (fun z4 H locs hf hR => ?_)
  refine lv_istore (pc := 23) (lv' := [(5, .int z4.2), (3, .long x3), (0, .ref v0), (1, .ref v1), (2, .ref v2)]) hx hb dX3_stick_23 hl (by decide) rfl (fun ls hl => ?_)
  refine lv_aload_n (pc := 25) hx hb dX3_stick_25 rfl (lv_at hl 3 rfl) ?_
  refine lv_aload_n (pc := 26) hx hb dX3_stick_26 rfl (lv_at hl 3 rfl) ?_
  refine rg_get (pc := 27) (C := RX2) (T := TX2) (N := 7) (κ := 2) (v := .int (mm_i z4.1 v1 4)) hx hb hts hK hR hown in_2 rfl (by decide) 4 (by decide) m_118 rfl dX3_stick_27 hf (fun hf => ?_)
  refine lv_aload_n (pc := 30) hx hb dX3_stick_30 rfl (lv_at hl 4 rfl) ?_
  refine lv_aload_n (pc := 31) hx hb dX3_stick_31 rfl (lv_at hl 4 rfl) ?_
  refine rg_get (pc := 32) (C := RX2) (T := TX2) (N := 7) (κ := 2) (v := .int (mm_i z4.1 v2 4)) hx hb hts hK hR hown in_2 rfl (by decide) 4 (by decide) m_118 rfl dX3_stick_32 hf (fun hf => ?_)
  refine rg_I (pc := 35) hf hR hA (fun z hz => rn_S (As := [.ref v1, .int (mm_i z4.1 v1 4), .ref v2, .int (mm_i z4.1 v2 4)]) (rest := []) hC hR (c_X3_blend  hz _) m_444 m_445 m_2 m_446 hd_X3_blend ⟨rfl, rfl, Nat.le_of_ble_eq_true rfl, Nat.le_of_ble_eq_true rfl⟩ rfl hl.1 rfl (Nat.le_of_ble_eq_true rfl) dX3_stick_35 ⟨Nat.le_of_ble_eq_true rfl, Nat.le_of_ble_eq_true rfl⟩) (fun z5 H locs hf hR => ?_)
  refine lv_istore (pc := 38) (lv' := [(6, .int z5.2), (5, .int z4.2), (3, .long x3), (0, .ref v0), (1, .ref v1), (2, .ref v2)]) hx hb dX3_stick_38 hl (by decide) rfl (fun ls hl => ?_)
  refine lv_aload_n (pc := 40) hx hb dX3_stick_40 rfl (lv_at hl 4 rfl) ?_
  refine lv_iload (pc := 41) hx hb dX3_stick_41 (lv_at hl 1 rfl) ?_
  refine rg_puti (pc := 43) (C := RX2) (T := TX2) (N := 7) (κ := 2) hx hb hts hK hR hown in_2 rfl (by decide) 0 (by decide) m_108 tyX2 tyX2_ok nmX2 rfl rfl rfl rfl dX3_stick_43 hf (fun M6 H locs hf hR => ?_)
  refine lv_aload_n (pc := 46) hx hb dX3_stick_46 rfl (lv_at hl 4 rfl) ?_
  refine lv_iload (pc := 47) hx hb dX3_stick_47 (lv_at hl 0 rfl) ?_
  refine rg_puti (pc := 49) (C := RX2) (T := TX2) (N := 7) (κ := 2) hx hb hts hK hR hown in_2 rfl (by decide) 4 (by decide) m_118 tyX2 tyX2_ok nmX2 rfl rfl rfl rfl dX3_stick_49 hf (fun M7 H locs hf hR => ?_)
  refine lv_aload_n (pc := 52) hx hb dX3_stick_52 rfl (lv_at hl 4 rfl) ?_
  refine lv_aload_n (pc := 53) hx hb dX3_stick_53 rfl (lv_at hl 4 rfl) ?_
  refine rg_get (pc := 54) (C := RX2) (T := TX2) (N := 7) (κ := 2) (v := .int (mm_i M7 v1 3)) hx hb hts hK hR hown in_2 rfl (by decide) 3 (by decide) m_116 rfl dX3_stick_54 hf (fun hf => ?_)
  refine lv_aload_n (pc := 57) hx hb dX3_stick_57 rfl (lv_at hl 5 rfl) ?_
  refine rg_get (pc := 58) (C := RX2) (T := TX2) (N := 7) (κ := 2) (v := .int (mm_i M7 v2 3)) hx hb hts hK hR hown in_2 rfl (by decide) 3 (by decide) m_116 rfl dX3_stick_58 hf (fun hf => ?_)
  refine va_mmin (pc := 61) hx hb (hml.trans hl.1.symm) hown (hts _ m_422) (hts _ m_416) (hts _ m_14) (hts _ m_417) (Nat.le_of_ble_eq_true rfl) (Nat.le_of_ble_eq_true rfl) (Nat.le_of_ble_eq_true rfl) (Nat.le_of_ble_eq_true rfl) dX3_stick_61 ?_
  refine rg_puti (pc := 64) (C := RX2) (T := TX2) (N := 7) (κ := 2) hx hb hts hK hR hown in_2 rfl (by decide) 3 (by decide) m_116 tyX2 tyX2_ok nmX2 rfl rfl rfl rfl dX3_stick_64 hf (fun M8 H locs hf hR => ?_)
  refine lv_aload_n (pc := 67) hx hb dX3_stick_67 rfl (lv_at hl 4 rfl) ?_
  refine lv_dup (pc := 68) hx hb dX3_stick_68 rfl ?_
  refine rg_get (pc := 69) (C := RX2) (T := TX2) (N := 7) (κ := 2) (v := .int (mm_i M8 v1 2)) hx hb hts hK hR hown in_2 rfl (by decide) 2 (by decide) m_114 rfl dX3_stick_69 hf (fun hf => ?_)
  refine lv_aload_n (pc := 72) hx hb dX3_stick_72 rfl (lv_at hl 5 rfl) ?_
  refine rg_get (pc := 73) (C := RX2) (T := TX2) (N := 7) (κ := 2) (v := .int (mm_i M8 v2 2)) hx hb hts hK hR hown in_2 rfl (by decide) 2 (by decide) m_114 rfl dX3_stick_73 hf (fun hf => ?_)
  refine lv_iadd (pc := 76) hx hb dX3_stick_76 ?_
  refine rg_puti (pc := 77) (C := RX2) (T := TX2) (N := 7) (κ := 2) hx hb hts hK hR hown in_2 rfl (by decide) 2 (by decide) m_114 tyX2 tyX2_ok nmX2 rfl rfl rfl rfl dX3_stick_77 hf (fun M9 H locs hf hR => ?_)
  refine lv_aload_n (pc := 80) hx hb dX3_stick_80 rfl (lv_at hl 5 rfl) ?_
  refine lv_iconst (pc := 81) (v := (0 : Int32)) hx hb dX3_stick_81 (by decide) ?_
  refine rg_puti (pc := 82) (C := RX2) (T := TX2) (N := 7) (κ := 2) hx hb hts hK hR hown in_2 rfl (by decide) 5 (by decide) m_120 tyX2 tyX2_ok nmX2 rfl rfl rfl rfl dX3_stick_82 hf (fun M10 H locs hf hR => ?_)
  refine lv_aload_n (pc := 85) hx hb dX3_stick_85 rfl (lv_at hl 3 rfl) ?_
  refine rg_getr (pc := 86) (C := RX3) (T := TX3) (N := 7) (κ := 3) hx hb hts hK hR hown in_3 rfl (by decide) 1 (by decide) m_142 rfl dX3_stick_86 hf (fun a11 hf => ?_)
  refine lv_dup (pc := 89) hx hb dX3_stick_89 rfl ?_
  refine rg_get (pc := 90) (C := RX4) (T := TX4) (N := 13) (κ := 4) (v := .int (mm_i M10 a11 0)) hx hb hts hK hR hown in_4 rfl (by decide) 0 (by decide) m_48 rfl dX3_stick_90 hf (fun hf => ?_)
  refine lv_iconst (pc := 93) (v := (1 : Int32)) hx hb dX3_stick_93 (by decide) ?_
  refine lv_iadd (pc := 94) hx hb dX3_stick_94 ?_
  refine rg_puti (pc := 95) (C := RX4) (T := TX4) (N := 13) (κ := 4) hx hb hts hK hR hown in_4 rfl (by decide) 0 (by decide) m_48 tyX4 tyX4_ok nmX4 rfl rfl rfl rfl dX3_stick_95 hf (fun M12 H locs hf hR => ?_)
  refine lv_aload_n (pc := 98) hx hb dX3_stick_98 rfl (lv_at hl 3 rfl) ?_
  refine rg_getr (pc := 99) (C := RX3) (T := TX3) (N := 7) (κ := 3) hx hb hts hK hR hown in_3 rfl (by decide) 1 (by decide) m_142 rfl dX3_stick_99 hf (fun a13 hf => ?_)
  refine lv_dup (pc := 102) hx hb dX3_stick_102 rfl ?_
  refine rg_get (pc := 103) (C := RX4) (T := TX4) (N := 13) (κ := 4) (v := .long (mm_l M12 a13 12)) hx hb hts hK hR hown in_4 rfl (by decide) 12 (by decide) m_71 rfl dX3_stick_103 hf (fun hf => ?_)
  refine lv_lload_n (pc := 106) hx hb dX3_stick_106 rfl (lv_at hl 2 rfl) ?_
  refine lv_aload_n (pc := 107) hx hb dX3_stick_107 rfl (lv_at hl 4 rfl) ?_
  obtain ⟨hq, hf⟩ := gd_e hf
  refine rg_L (pc := 108) hf hR hA (fun z hz => rn_V (κ := 2) (As := []) (rest := [.long x3, .long (mm_l M12 a13 12), .ref a13]) hC hR rfl (by decide) hq (c_X2_carried  hz _) m_353 m_354 m_355 m_5 m_356 hd_X2_carried ⟨rfl, rfl, Nat.le_of_ble_eq_true rfl, Nat.le_of_ble_eq_true rfl⟩ rfl hl.1 rfl (Nat.le_of_ble_eq_true rfl) dX3_stick_108 ⟨Nat.le_of_ble_eq_true rfl, Nat.le_of_ble_eq_true rfl⟩) (fun z14 H locs hf hR => ?_)
  refine lv_lsub (pc := 111) hx hb dX3_stick_111 ?_
  refine lv_ladd (pc := 112) hx hb dX3_stick_112 ?_
  refine rg_putl (pc := 113) (C := RX4) (T := TX4) (N := 13) (κ := 4) hx hb hts hK hR hown in_4 rfl (by decide) 12 (by decide) m_71 tyX4 tyX4_ok nmX4 rfl rfl rfl rfl dX3_stick_113 hf (fun M15 H locs hf hR => ?_)
  exact rg_vret (pc := 116) hx hb hlocks hr hf hR dX3_stick_116
-- X3_breakUp
def f_X3_breakUp (v0 : Nat) (v1 : Nat) (M : Mem) : Option (Mem) := gd (M.1 v0 = 3) <| if (mm_i M v0 3) < (80 : Int32) then (gd (M.1 v1 = 2) <| bd (f_X2_carried v1 M) fun z1 => gd (z1.1.1 v0 = 3) <| rd (mm_r z1.1 v0 2) fun a2 => gd (z1.1.1 v0 = 3) <| gd (z1.1.1 a2 = 13 ∧ vi_ (mm_i z1.1 v0 3) (mm_N z1.1 a2)) <| rd (mm_r z1.1 a2 ((mm_i z1.1 v0 3)).toNatClampNeg) fun a3 => gd (z1.1.1 v0 = 3) <| gd (z1.1.1 v0 = 3) <| lt_ (ms_i z1.1 v0 3 ((mm_i z1.1 v0 3) + (1 : Int32))) fun M4 => gd (M4.1 v1 = 2) <| gd (M4.1 a3 = 2) <| lt_ (ms_i M4 a3 0 (mm_i M4 v1 0)) fun M5 => gd (M5.1 v1 = 2) <| gd (M5.1 a3 = 2) <| lt_ (ms_i M5 a3 1 (mm_i M5 v1 1)) fun M6 => gd (M6.1 v1 = 2) <| gd (M6.1 a3 = 2) <| lt_ (ms_i M6 a3 4 (mm_i M6 v1 4)) fun M7 => gd (M7.1 a3 = 2) <| lt_ (ms_i M7 a3 3 (0 : Int32)) fun M8 => gd (M8.1 a3 = 2) <| lt_ (ms_i M8 a3 5 (1 : Int32)) fun M9 => gd (M9.1 v1 = 2) <| gd (M9.1 v1 = 2) <| gd (M9.1 a3 = 2) <| lt_ (ms_i M9 a3 2 ((mm_i M9 v1 2) - ((mm_i M9 v1 2) / (2 : Int32)))) fun M10 => gd (M10.1 v1 = 2) <| gd (M10.1 v1 = 2) <| lt_ (ms_i M10 v1 2 ((mm_i M10 v1 2) / (2 : Int32))) fun M11 => gd (M11.1 v1 = 2) <| lt_ (ms_i M11 v1 3 (0 : Int32)) fun M12 => gd (M12.1 v0 = 3) <| bd (f_X3_shift v0 v1 (-1 : Int32) M12) fun z13 => gd (z13.1 v0 = 3) <| bd (f_X3_shift v0 a3 (1 : Int32) z13) fun z14 => gd (z14.1 v0 = 3) <| rd (mm_r z14 v0 1) fun a15 => gd (z14.1 a15 = 4) <| gd (z14.1 a15 = 4) <| lt_ (ms_i z14 a15 1 ((mm_i z14 a15 1) + (1 : Int32))) fun M16 => gd (M16.1 v0 = 3) <| rd (mm_r M16 v0 1) fun a17 => gd (M16.1 a17 = 4) <| gd (M16.1 v1 = 2) <| bd (f_X2_carried v1 M16) fun z18 => gd (z18.1.1 a3 = 2) <| bd (f_X2_carried a3 z18.1) fun z19 => gd (z19.1.1 a17 = 4) <| lt_ (ms_l z19.1 a17 12 ((mm_l M16 a17 12) + ((z1.2 - z18.2) - z19.2))) fun M20 => some M20) else (some M)
abbrev rm_X3_breakUp : Room := { frames := 2, cells := 0, slots := 0, locals := 42 }
theorem hd_X3_breakUp : yX3_breakUp.cls ≠ "java/lang/invoke/MethodHandle" ∧ yX3_breakUp.cls ≠ "java/lang/invoke/VarHandle" ∧ (parseMethodDescriptor yX3_breakUp.desc).map (fun d => d.parameters.length) = some 1 := by decide +kernel
set_option maxHeartbeats 8000000 in
set_option maxRecDepth 100000 in
theorem c_X3_breakUp {l : Launch} {D : va_G} {ca : Nat → ClassId} {b : Nat} {nx : Bool} {v0 : Nat} {v1 : Nat} {M : Mem} {r : Mem} (hf : f_X3_breakUp v0 v1 M = some r) : CtV l yX3_breakUp cX3_breakUp 5 none rm_X3_breakUp D ca b nx [.ref v0, .ref v1] M r 0 0 := by
  intro sz
  refine body_start (Qc := fun A => cvV D ca nx A r) (by decide +kernel) (Nat.le_of_ble_eq_true rfl) ?_
  intro p e s m args below meth c A hC hr hR ls hl
  obtain ⟨hx, hb, hml, hts, hown, hlocks, hXe, hA, hAb, hnm⟩ := id hC
  have hK := hXe.1
  have hl : lv_has ls 5 [(0, .ref v0), (1, .ref v1)] := hl
  unfold f_X3_breakUp at hf
  refine lv_aload_n (pc := 0) hx hb dX3_breakUp_0 rfl (lv_at hl 0 rfl) ?_
  refine rg_get (pc := 1) (C := RX3) (T := TX3) (N := 7) (κ := 3) (v := .int (mm_i M v0 3)) hx hb hts hK hR hown in_3 rfl (by decide) 3 (by decide) m_146 rfl dX3_breakUp_1 hf (fun hf => ?_)
  refine lv_bipush (pc := 4) (v := (80 : Int32)) hx hb dX3_breakUp_4 (by decide) ?_
  refine lv_icmp_lt (pc := 6) (tgt := 10) hx hb dX3_breakUp_6 (by decide) (fun hc => ?_) (fun hc => ?_)
  · replace hf := it_t hf hc
    refine lv_aload_n (pc := 10) hx hb dX3_breakUp_10 rfl (lv_at hl 1 rfl) ?_
    obtain ⟨hq, hf⟩ := gd_e hf
    refine rg_L (pc := 11) hf hR hA (fun z hz => rn_V (κ := 2) (As := []) (rest := []) hC hR rfl (by decide) hq (c_X2_carried  hz _) m_353 m_354 m_355 m_5 m_356 hd_X2_carried ⟨rfl, rfl, Nat.le_of_ble_eq_true rfl, Nat.le_of_ble_eq_true rfl⟩ rfl hl.1 rfl (Nat.le_of_ble_eq_true rfl) dX3_breakUp_11 ⟨Nat.le_of_ble_eq_true rfl, Nat.le_of_ble_eq_true rfl⟩) (fun z1 H locs hf hR => ?_)
    refine lv_lstore_n (pc := 14) (lv' := [(2, .long z1.2), (0, .ref v0), (1, .ref v1)]) hx hb dX3_breakUp_14 rfl hl (by decide) rfl (fun ls hl => ?_)
    refine lv_aload_n (pc := 15) hx hb dX3_breakUp_15 rfl (lv_at hl 1 rfl) ?_
    refine rg_getr (pc := 16) (C := RX3) (T := TX3) (N := 7) (κ := 3) hx hb hts hK hR hown in_3 rfl (by decide) 2 (by decide) m_144 rfl dX3_breakUp_16 hf (fun a2 hf => ?_)
    refine lv_aload_n (pc := 19) hx hb dX3_breakUp_19 rfl (lv_at hl 1 rfl) ?_
    refine rg_get (pc := 20) (C := RX3) (T := TX3) (N := 7) (κ := 3) (v := .int (mm_i z1.1 v0 3)) hx hb hts hK hR hown in_3 rfl (by decide) 3 (by decide) m_146 rfl dX3_breakUp_20 hf (fun hf => ?_)
    refine rg_aald (pc := 23) (κ := 13) hx hb hK hR 3 rfl (by decide) dX3_breakUp_23 hf (fun a3 hf => ?_)
    refine lv_astore (pc := 24) (lv' := [(4, .ref a3), (2, .long z1.2), (0, .ref v0), (1, .ref v1)]) hx hb dX3_breakUp_24 hl (by decide) rfl (fun ls hl => ?_)
    refine lv_aload_n (pc := 26) hx hb dX3_breakUp_26 rfl (lv_at hl 2 rfl) ?_
    refine lv_dup (pc := 27) hx hb dX3_breakUp_27 rfl ?_
    refine rg_get (pc := 28) (C := RX3) (T := TX3) (N := 7) (κ := 3) (v := .int (mm_i z1.1 v0 3)) hx hb hts hK hR hown in_3 rfl (by decide) 3 (by decide) m_146 rfl dX3_breakUp_28 hf (fun hf => ?_)
    refine lv_iconst (pc := 31) (v := (1 : Int32)) hx hb dX3_breakUp_31 (by decide) ?_
    refine lv_iadd (pc := 32) hx hb dX3_breakUp_32 ?_
    refine rg_puti (pc := 33) (C := RX3) (T := TX3) (N := 7) (κ := 3) hx hb hts hK hR hown in_3 rfl (by decide) 3 (by decide) m_146 tyX3 tyX3_ok nmX3 rfl rfl rfl rfl dX3_breakUp_33 hf (fun M4 H locs hf hR => ?_)
    refine lv_aload (pc := 36) hx hb dX3_breakUp_36 (lv_at hl 0 rfl) ?_
    refine lv_aload_n (pc := 38) hx hb dX3_breakUp_38 rfl (lv_at hl 3 rfl) ?_
    refine rg_get (pc := 39) (C := RX2) (T := TX2) (N := 7) (κ := 2) (v := .int (mm_i M4 v1 0)) hx hb hts hK hR hown in_2 rfl (by decide) 0 (by decide) m_108 rfl dX3_breakUp_39 hf (fun hf => ?_)
    refine rg_puti (pc := 42) (C := RX2) (T := TX2) (N := 7) (κ := 2) hx hb hts hK hR hown in_2 rfl (by decide) 0 (by decide) m_108 tyX2 tyX2_ok nmX2 rfl rfl rfl rfl dX3_breakUp_42 hf (fun M5 H locs hf hR => ?_)
    refine lv_aload (pc := 45) hx hb dX3_breakUp_45 (lv_at hl 0 rfl) ?_
    refine lv_aload_n (pc := 47) hx hb dX3_breakUp_47 rfl (lv_at hl 3 rfl) ?_
    refine rg_get (pc := 48) (C := RX2) (T := TX2) (N := 7) (κ := 2) (v := .int (mm_i M5 v1 1)) hx hb hts hK hR hown in_2 rfl (by decide) 1 (by decide) m_110 rfl dX3_breakUp_48 hf (fun hf => ?_)
    refine rg_puti (pc := 51) (C := RX2) (T := TX2) (N := 7) (κ := 2) hx hb hts hK hR hown in_2 rfl (by decide) 1 (by decide) m_110 tyX2 tyX2_ok nmX2 rfl rfl rfl rfl dX3_breakUp_51 hf (fun M6 H locs hf hR => ?_)
    refine lv_aload (pc := 54) hx hb dX3_breakUp_54 (lv_at hl 0 rfl) ?_
    refine lv_aload_n (pc := 56) hx hb dX3_breakUp_56 rfl (lv_at hl 3 rfl) ?_
    refine rg_get (pc := 57) (C := RX2) (T := TX2) (N := 7) (κ := 2) (v := .int (mm_i M6 v1 4)) hx hb hts hK hR hown in_2 rfl (by decide) 4 (by decide) m_118 rfl dX3_breakUp_57 hf (fun hf => ?_)
    refine rg_puti (pc := 60) (C := RX2) (T := TX2) (N := 7) (κ := 2) hx hb hts hK hR hown in_2 rfl (by decide) 4 (by decide) m_118 tyX2 tyX2_ok nmX2 rfl rfl rfl rfl dX3_breakUp_60 hf (fun M7 H locs hf hR => ?_)
    refine lv_aload (pc := 63) hx hb dX3_breakUp_63 (lv_at hl 0 rfl) ?_
    refine lv_iconst (pc := 65) (v := (0 : Int32)) hx hb dX3_breakUp_65 (by decide) ?_
    refine rg_puti (pc := 66) (C := RX2) (T := TX2) (N := 7) (κ := 2) hx hb hts hK hR hown in_2 rfl (by decide) 3 (by decide) m_116 tyX2 tyX2_ok nmX2 rfl rfl rfl rfl dX3_breakUp_66 hf (fun M8 H locs hf hR => ?_)
    refine lv_aload (pc := 69) hx hb dX3_breakUp_69 (lv_at hl 0 rfl) ?_
    refine lv_iconst (pc := 71) (v := (1 : Int32)) hx hb dX3_breakUp_71 (by decide) ?_
    refine rg_puti (pc := 72) (C := RX2) (T := TX2) (N := 7) (κ := 2) hx hb hts hK hR hown in_2 rfl (by decide) 5 (by decide) m_120 tyX2 tyX2_ok nmX2 rfl rfl rfl rfl dX3_breakUp_72 hf (fun M9 H locs hf hR => ?_)
    refine lv_aload (pc := 75) hx hb dX3_breakUp_75 (lv_at hl 0 rfl) ?_
    refine lv_aload_n (pc := 77) hx hb dX3_breakUp_77 rfl (lv_at hl 3 rfl) ?_
    refine rg_get (pc := 78) (C := RX2) (T := TX2) (N := 7) (κ := 2) (v := .int (mm_i M9 v1 2)) hx hb hts hK hR hown in_2 rfl (by decide) 2 (by decide) m_114 rfl dX3_breakUp_78 hf (fun hf => ?_)
    refine lv_aload_n (pc := 81) hx hb dX3_breakUp_81 rfl (lv_at hl 3 rfl) ?_
    refine rg_get (pc := 82) (C := RX2) (T := TX2) (N := 7) (κ := 2) (v := .int (mm_i M9 v1 2)) hx hb hts hK hR hown in_2 rfl (by decide) 2 (by decide) m_114 rfl dX3_breakUp_82 hf (fun hf => ?_)
    refine lv_iconst (pc := 85) (v := (2 : Int32)) hx hb dX3_breakUp_85 (by decide) ?_
    refine lv_idiv (pc := 86) hx hb dX3_breakUp_86 (by decide) ?_
    refine lv_isub (pc := 87) hx hb dX3_breakUp_87 ?_
    refine rg_puti (pc := 88) (C := RX2) (T := TX2) (N := 7) (κ := 2) hx hb hts hK hR hown in_2 rfl (by decide) 2 (by decide) m_114 tyX2 tyX2_ok nmX2 rfl rfl rfl rfl dX3_breakUp_88 hf (fun M10 H locs hf hR => ?_)
    refine lv_aload_n (pc := 91) hx hb dX3_breakUp_91 rfl (lv_at hl 3 rfl) ?_
    refine lv_aload_n (pc := 92) hx hb dX3_breakUp_92 rfl (lv_at hl 3 rfl) ?_
    refine rg_get (pc := 93) (C := RX2) (T := TX2) (N := 7) (κ := 2) (v := .int (mm_i M10 v1 2)) hx hb hts hK hR hown in_2 rfl (by decide) 2 (by decide) m_114 rfl dX3_breakUp_93 hf (fun hf => ?_)
    refine lv_iconst (pc := 96) (v := (2 : Int32)) hx hb dX3_breakUp_96 (by decide) ?_
    refine lv_idiv (pc := 97) hx hb dX3_breakUp_97 (by decide) ?_
    refine rg_puti (pc := 98) (C := RX2) (T := TX2) (N := 7) (κ := 2) hx hb hts hK hR hown in_2 rfl (by decide) 2 (by decide) m_114 tyX2 tyX2_ok nmX2 rfl rfl rfl rfl dX3_breakUp_98 hf (fun M11 H locs hf hR => ?_)
    refine lv_aload_n (pc := 101) hx hb dX3_breakUp_101 rfl (lv_at hl 3 rfl) ?_
    refine lv_iconst (pc := 102) (v := (0 : Int32)) hx hb dX3_breakUp_102 (by decide) ?_
    refine rg_puti (pc := 103) (C := RX2) (T := TX2) (N := 7) (κ := 2) hx hb hts hK hR hown in_2 rfl (by decide) 3 (by decide) m_116 tyX2 tyX2_ok nmX2 rfl rfl rfl rfl dX3_breakUp_103 hf (fun M12 H locs hf hR => ?_)
    refine lv_aload_n (pc := 106) hx hb dX3_breakUp_106 rfl (lv_at hl 2 rfl) ?_
    refine lv_aload_n (pc := 107) hx hb dX3_breakUp_107 rfl (lv_at hl 3 rfl) ?_
    refine lv_iconst (pc := 108) (v := (-1 : Int32)) hx hb dX3_breakUp_108 (by decide) ?_
    obtain ⟨hq, hf⟩ := gd_e hf
    refine rg_V (pc := 109) hf hR hA (fun z hz => rn_V (κ := 3) (As := [.ref v1, .int (-1 : Int32)]) (rest := []) hC hR rfl (by decide) hq (c_X3_shift  hz _) m_418 m_420 ms_2 m_2 m_421 hd_X3_shift ⟨rfl, rfl, Nat.le_of_ble_eq_true rfl, Nat.le_of_ble_eq_true rfl⟩ rfl hl.1 rfl (Nat.le_of_ble_eq_true rfl) dX3_breakUp_109 ⟨Nat.le_of_ble_eq_true rfl, Nat.le_of_ble_eq_true rfl⟩) (fun z13 H locs hf hR => ?_)
    refine lv_aload_n (pc := 112) hx hb dX3_breakUp_112 rfl (lv_at hl 2 rfl) ?_
    refine lv_aload (pc := 113) hx hb dX3_breakUp_113 (lv_at hl 0 rfl) ?_
    refine lv_iconst (pc := 115) (v := (1 : Int32)) hx hb dX3_breakUp_115 (by decide) ?_
    obtain ⟨hq, hf⟩ := gd_e hf
    refine rg_V (pc := 116) hf hR hA (fun z hz => rn_V (κ := 3) (As := [.ref a3, .int (1 : Int32)]) (rest := []) hC hR rfl (by decide) hq (c_X3_shift  hz _) m_418 m_420 ms_2 m_2 m_421 hd_X3_shift ⟨rfl, rfl, Nat.le_of_ble_eq_true rfl, Nat.le_of_ble_eq_true rfl⟩ rfl hl.1 rfl (Nat.le_of_ble_eq_true rfl) dX3_breakUp_116 ⟨Nat.le_of_ble_eq_true rfl, Nat.le_of_ble_eq_true rfl⟩) (fun z14 H locs hf hR => ?_)
    refine lv_aload_n (pc := 119) hx hb dX3_breakUp_119 rfl (lv_at hl 2 rfl) ?_
    refine rg_getr (pc := 120) (C := RX3) (T := TX3) (N := 7) (κ := 3) hx hb hts hK hR hown in_3 rfl (by decide) 1 (by decide) m_142 rfl dX3_breakUp_120 hf (fun a15 hf => ?_)
    refine lv_dup (pc := 123) hx hb dX3_breakUp_123 rfl ?_
    refine rg_get (pc := 124) (C := RX4) (T := TX4) (N := 13) (κ := 4) (v := .int (mm_i z14 a15 1)) hx hb hts hK hR hown in_4 rfl (by decide) 1 (by decide) m_50 rfl dX3_breakUp_124 hf (fun hf => ?_)
    refine lv_iconst (pc := 127) (v := (1 : Int32)) hx hb dX3_breakUp_127 (by decide) ?_
    refine lv_iadd (pc := 128) hx hb dX3_breakUp_128 ?_
    refine rg_puti (pc := 129) (C := RX4) (T := TX4) (N := 13) (κ := 4) hx hb hts hK hR hown in_4 rfl (by decide) 1 (by decide) m_50 tyX4 tyX4_ok nmX4 rfl rfl rfl rfl dX3_breakUp_129 hf (fun M16 H locs hf hR => ?_)
    refine lv_aload_n (pc := 132) hx hb dX3_breakUp_132 rfl (lv_at hl 2 rfl) ?_
    refine rg_getr (pc := 133) (C := RX3) (T := TX3) (N := 7) (κ := 3) hx hb hts hK hR hown in_3 rfl (by decide) 1 (by decide) m_142 rfl dX3_breakUp_133 hf (fun a17 hf => ?_)
    refine lv_dup (pc := 136) hx hb dX3_breakUp_136 rfl ?_
    refine rg_get (pc := 137) (C := RX4) (T := TX4) (N := 13) (κ := 4) (v := .long (mm_l M16 a17 12)) hx hb hts hK hR hown in_4 rfl (by decide) 12 (by decide) m_71 rfl dX3_breakUp_137 hf (fun hf => ?_)
    refine lv_lload_n (pc := 140) hx hb dX3_breakUp_140 rfl (lv_at hl 1 rfl) ?_
    refine lv_aload_n (pc := 141) hx hb dX3_breakUp_141 rfl (lv_at hl 3 rfl) ?_
    obtain ⟨hq, hf⟩ := gd_e hf
    refine rg_L (pc := 142) hf hR hA (fun z hz => rn_V (κ := 2) (As := []) (rest := [.long z1.2, .long (mm_l M16 a17 12), .ref a17]) hC hR rfl (by decide) hq (c_X2_carried  hz _) m_353 m_354 m_355 m_5 m_356 hd_X2_carried ⟨rfl, rfl, Nat.le_of_ble_eq_true rfl, Nat.le_of_ble_eq_true rfl⟩ rfl hl.1 rfl (Nat.le_of_ble_eq_true rfl) dX3_breakUp_142 ⟨Nat.le_of_ble_eq_true rfl, Nat.le_of_ble_eq_true rfl⟩) (fun z18 H locs hf hR => ?_)
    refine lv_lsub (pc := 145) hx hb dX3_breakUp_145 ?_
    refine lv_aload (pc := 146) hx hb dX3_breakUp_146 (lv_at hl 0 rfl) ?_
    obtain ⟨hq, hf⟩ := gd_e hf
    refine rg_L (pc := 148) hf hR hA (fun z hz => rn_V (κ := 2) (As := []) (rest := [.long (z1.2 - z18.2), .long (mm_l M16 a17 12), .ref a17]) hC hR rfl (by decide) hq (c_X2_carried  hz _) m_353 m_354 m_355 m_5 m_356 hd_X2_carried ⟨rfl, rfl, Nat.le_of_ble_eq_true rfl, Nat.le_of_ble_eq_true rfl⟩ rfl hl.1 rfl (Nat.le_of_ble_eq_true rfl) dX3_breakUp_148 ⟨Nat.le_of_ble_eq_true rfl, Nat.le_of_ble_eq_true rfl⟩) (fun z19 H locs hf hR => ?_)
    refine lv_lsub (pc := 151) hx hb dX3_breakUp_151 ?_
    refine lv_ladd (pc := 152) hx hb dX3_breakUp_152 ?_
    refine rg_putl (pc := 153) (C := RX4) (T := TX4) (N := 13) (κ := 4) hx hb hts hK hR hown in_4 rfl (by decide) 12 (by decide) m_71 tyX4 tyX4_ok nmX4 rfl rfl rfl rfl dX3_breakUp_153 hf (fun M20 H locs hf hR => ?_)
    exact rg_vret (pc := 156) hx hb hlocks hr hf hR dX3_breakUp_156
  · replace hf := it_f hf hc
    exact rg_vret (pc := 9) hx hb hlocks hr hf hR dX3_breakUp_9
-- X3_bump
def f_X3_bump_b26  (s0 : Int32) (v0 : Nat) (v1 : Nat) (v2 : Nat) (v3 : Int64) (M : Mem) : Option (Mem) := gd (M.1 v0 = 3) <| bd (f_X3_shift v0 v1 s0 M) fun z1 => gd (z1.1 v0 = 3) <| bd (f_X3_shift v0 v2 (-s0) z1) fun z2 => gd (z2.1 v1 = 2) <| gd (z2.1 v0 = 3) <| gd (z2.1 v1 = 2) <| lt_ (ms_i z2 v1 3 (((mm_i z2 v1 3) * (mm_i z2 v0 6)) / (100 : Int32))) fun M3 => gd (M3.1 v2 = 2) <| gd (M3.1 v0 = 3) <| gd (M3.1 v2 = 2) <| lt_ (ms_i M3 v2 3 (((mm_i M3 v2 3) * (mm_i M3 v0 6)) / (100 : Int32))) fun M4 => gd (M4.1 v0 = 3) <| rd (mm_r M4 v0 1) fun a5 => gd (M4.1 a5 = 4) <| gd (M4.1 a5 = 4) <| lt_ (ms_i M4 a5 2 ((mm_i M4 a5 2) + (1 : Int32))) fun M6 => gd (M6.1 v0 = 3) <| rd (mm_r M6 v0 1) fun a7 => gd (M6.1 a7 = 4) <| gd (M6.1 v1 = 2) <| bd (f_X2_carried v1 M6) fun z8 => gd (z8.1.1 v2 = 2) <| bd (f_X2_carried v2 z8.1) fun z9 => gd (z9.1.1 a7 = 4) <| lt_ (ms_l z9.1 a7 12 ((mm_l M6 a7 12) + ((v3 - z8.2) - z9.2))) fun M10 => some M10
def f_X3_bump (v0 : Nat) (v1 : Nat) (v2 : Nat) (M : Mem) : Option (Mem) := gd (M.1 v1 = 2) <| bd (f_X2_carried v1 M) fun z11 => gd (z11.1.1 v2 = 2) <| bd (f_X2_carried v2 z11.1) fun z12 => lt_ ((z11.2 + z12.2)) fun x13 => gd (z12.1.1 v1 = 2) <| gd (z12.1.1 v2 = 2) <| if (mm_i z12.1 v2 0) < (mm_i z12.1 v1 0) then (f_X3_bump_b26 (1 : Int32) v0 v1 v2 x13 z12.1) else (f_X3_bump_b26 (-1 : Int32) v0 v1 v2 x13 z12.1)
abbrev rm_X3_bump : Room := { frames := 2, cells := 0, slots := 0, locals := 42 }
theorem hd_X3_bump : yX3_bump.cls ≠ "java/lang/invoke/MethodHandle" ∧ yX3_bump.cls ≠ "java/lang/invoke/VarHandle" ∧ (parseMethodDescriptor yX3_bump.desc).map (fun d => d.parameters.length) = some 2 := by decide +kernel
set_option maxHeartbeats 8000000 in
set_option maxRecDepth 100000 in
theorem c_X3_bump {l : Launch} {D : va_G} {ca : Nat → ClassId} {b : Nat} {nx : Bool} {v0 : Nat} {v1 : Nat} {v2 : Nat} {M : Mem} {r : Mem} (hf : f_X3_bump v0 v1 v2 M = some r) : CtV l yX3_bump cX3_bump 6 none rm_X3_bump D ca b nx [.ref v0, .ref v1, .ref v2] M r 0 0 := by
  intro sz
  refine body_start (Qc := fun A => cvV D ca nx A r) (by decide +kernel) (Nat.le_of_ble_eq_true rfl) ?_
  intro p e s m args below meth c A hC hr hR ls hl
  obtain ⟨hx, hb, hml, hts, hown, hlocks, hXe, hA, hAb, hnm⟩ := id hC
  have hK := hXe.1
  have hl : lv_has ls 6 [(0, .ref v0), (1, .ref v1), (2, .ref v2)] := hl
  have hB26 : ∀  (s0 : Int32) (v0 : Nat) (v1 : Nat) (v2 : Nat) (v3 : Int64) (M : Mem) (H : Heap) (locs : List Loc) (ls : Array Slot), f_X3_bump_b26  s0 v0 v1 v2 v3 M = some r → Hp D ca nx A s M H locs → lv_has ls 6 [(0, .ref v0), (1, .ref v1), (2, .ref v2), (3, .long v3)] → W p l e rm_X3_bump s m args below meth c H locs 0 0 (MQ below (cvV D ca nx A r) args s 0 0 A) (F0 m 26 ls [.int s0]) := by
    intro  s0 v0 v1 v2 v3 M H locs ls hf hR hl
    unfold f_X3_bump_b26 at hf
    refine lv_istore (pc := 26) (lv' := [(5, .int s0), (0, .ref v0), (1, .ref v1), (2, .ref v2), (3, .long v3)]) hx hb dX3_bump_26 hl (by decide) rfl (fun ls hl => ?_)
    refine lv_aload_n (pc := 28) hx hb dX3_bump_28 rfl (lv_at hl 1 rfl) ?_
    refine lv_aload_n (pc := 29) hx hb dX3_bump_29 rfl (lv_at hl 2 rfl) ?_
    refine lv_iload (pc := 30) hx hb dX3_bump_30 (lv_at hl 0 rfl) ?_
    obtain ⟨hq, hf⟩ := gd_e hf
    refine rg_V (pc := 32) hf hR hA (fun z hz => rn_V (κ := 3) (As := [.ref v1, .int s0]) (rest := []) hC hR rfl (by decide) hq (c_X3_shift  hz _) m_418 m_420 ms_2 m_2 m_421 hd_X3_shift ⟨rfl, rfl, Nat.le_of_ble_eq_true rfl, Nat.le_of_ble_eq_true rfl⟩ rfl hl.1 rfl (Nat.le_of_ble_eq_true rfl) dX3_bump_32 ⟨Nat.le_of_ble_eq_true rfl, Nat.le_of_ble_eq_true rfl⟩) (fun z1 H locs hf hR => ?_)
    refine lv_aload_n (pc := 35) hx hb dX3_bump_35 rfl (lv_at hl 1 rfl) ?_
    refine lv_aload_n (pc := 36) hx hb dX3_bump_36 rfl (lv_at hl 3 rfl) ?_
    refine lv_iload (pc := 37) hx hb dX3_bump_37 (lv_at hl 0 rfl) ?_
    refine lv_ineg (pc := 39) hx hb dX3_bump_39 ?_
    obtain ⟨hq, hf⟩ := gd_e hf
    refine rg_V (pc := 40) hf hR hA (fun z hz => rn_V (κ := 3) (As := [.ref v2, .int (-s0)]) (rest := []) hC hR rfl (by decide) hq (c_X3_shift  hz _) m_418 m_420 ms_2 m_2 m_421 hd_X3_shift ⟨rfl, rfl, Nat.le_of_ble_eq_true rfl, Nat.le_of_ble_eq_true rfl⟩ rfl hl.1 rfl (Nat.le_of_ble_eq_true rfl) dX3_bump_40 ⟨Nat.le_of_ble_eq_true rfl, Nat.le_of_ble_eq_true rfl⟩) (fun z2 H locs hf hR => ?_)
    refine lv_aload_n (pc := 43) hx hb dX3_bump_43 rfl (lv_at hl 2 rfl) ?_
    refine lv_aload_n (pc := 44) hx hb dX3_bump_44 rfl (lv_at hl 2 rfl) ?_
    refine rg_get (pc := 45) (C := RX2) (T := TX2) (N := 7) (κ := 2) (v := .int (mm_i z2 v1 3)) hx hb hts hK hR hown in_2 rfl (by decide) 3 (by decide) m_116 rfl dX3_bump_45 hf (fun hf => ?_)
    refine lv_aload_n (pc := 48) hx hb dX3_bump_48 rfl (lv_at hl 1 rfl) ?_
    refine rg_get (pc := 49) (C := RX3) (T := TX3) (N := 7) (κ := 3) (v := .int (mm_i z2 v0 6)) hx hb hts hK hR hown in_3 rfl (by decide) 6 (by decide) m_152 rfl dX3_bump_49 hf (fun hf => ?_)
    refine lv_imul (pc := 52) hx hb dX3_bump_52 ?_
    refine lv_bipush (pc := 53) (v := (100 : Int32)) hx hb dX3_bump_53 (by decide) ?_
    refine lv_idiv (pc := 55) hx hb dX3_bump_55 (by decide) ?_
    refine rg_puti (pc := 56) (C := RX2) (T := TX2) (N := 7) (κ := 2) hx hb hts hK hR hown in_2 rfl (by decide) 3 (by decide) m_116 tyX2 tyX2_ok nmX2 rfl rfl rfl rfl dX3_bump_56 hf (fun M3 H locs hf hR => ?_)
    refine lv_aload_n (pc := 59) hx hb dX3_bump_59 rfl (lv_at hl 3 rfl) ?_
    refine lv_aload_n (pc := 60) hx hb dX3_bump_60 rfl (lv_at hl 3 rfl) ?_
    refine rg_get (pc := 61) (C := RX2) (T := TX2) (N := 7) (κ := 2) (v := .int (mm_i M3 v2 3)) hx hb hts hK hR hown in_2 rfl (by decide) 3 (by decide) m_116 rfl dX3_bump_61 hf (fun hf => ?_)
    refine lv_aload_n (pc := 64) hx hb dX3_bump_64 rfl (lv_at hl 1 rfl) ?_
    refine rg_get (pc := 65) (C := RX3) (T := TX3) (N := 7) (κ := 3) (v := .int (mm_i M3 v0 6)) hx hb hts hK hR hown in_3 rfl (by decide) 6 (by decide) m_152 rfl dX3_bump_65 hf (fun hf => ?_)
    refine lv_imul (pc := 68) hx hb dX3_bump_68 ?_
    refine lv_bipush (pc := 69) (v := (100 : Int32)) hx hb dX3_bump_69 (by decide) ?_
    refine lv_idiv (pc := 71) hx hb dX3_bump_71 (by decide) ?_
    refine rg_puti (pc := 72) (C := RX2) (T := TX2) (N := 7) (κ := 2) hx hb hts hK hR hown in_2 rfl (by decide) 3 (by decide) m_116 tyX2 tyX2_ok nmX2 rfl rfl rfl rfl dX3_bump_72 hf (fun M4 H locs hf hR => ?_)
    refine lv_aload_n (pc := 75) hx hb dX3_bump_75 rfl (lv_at hl 1 rfl) ?_
    refine rg_getr (pc := 76) (C := RX3) (T := TX3) (N := 7) (κ := 3) hx hb hts hK hR hown in_3 rfl (by decide) 1 (by decide) m_142 rfl dX3_bump_76 hf (fun a5 hf => ?_)
    refine lv_dup (pc := 79) hx hb dX3_bump_79 rfl ?_
    refine rg_get (pc := 80) (C := RX4) (T := TX4) (N := 13) (κ := 4) (v := .int (mm_i M4 a5 2)) hx hb hts hK hR hown in_4 rfl (by decide) 2 (by decide) m_52 rfl dX3_bump_80 hf (fun hf => ?_)
    refine lv_iconst (pc := 83) (v := (1 : Int32)) hx hb dX3_bump_83 (by decide) ?_
    refine lv_iadd (pc := 84) hx hb dX3_bump_84 ?_
    refine rg_puti (pc := 85) (C := RX4) (T := TX4) (N := 13) (κ := 4) hx hb hts hK hR hown in_4 rfl (by decide) 2 (by decide) m_52 tyX4 tyX4_ok nmX4 rfl rfl rfl rfl dX3_bump_85 hf (fun M6 H locs hf hR => ?_)
    refine lv_aload_n (pc := 88) hx hb dX3_bump_88 rfl (lv_at hl 1 rfl) ?_
    refine rg_getr (pc := 89) (C := RX3) (T := TX3) (N := 7) (κ := 3) hx hb hts hK hR hown in_3 rfl (by decide) 1 (by decide) m_142 rfl dX3_bump_89 hf (fun a7 hf => ?_)
    refine lv_dup (pc := 92) hx hb dX3_bump_92 rfl ?_
    refine rg_get (pc := 93) (C := RX4) (T := TX4) (N := 13) (κ := 4) (v := .long (mm_l M6 a7 12)) hx hb hts hK hR hown in_4 rfl (by decide) 12 (by decide) m_71 rfl dX3_bump_93 hf (fun hf => ?_)
    refine lv_lload_n (pc := 96) hx hb dX3_bump_96 rfl (lv_at hl 4 rfl) ?_
    refine lv_aload_n (pc := 97) hx hb dX3_bump_97 rfl (lv_at hl 2 rfl) ?_
    obtain ⟨hq, hf⟩ := gd_e hf
    refine rg_L (pc := 98) hf hR hA (fun z hz => rn_V (κ := 2) (As := []) (rest := [.long v3, .long (mm_l M6 a7 12), .ref a7]) hC hR rfl (by decide) hq (c_X2_carried  hz _) m_353 m_354 m_355 m_5 m_356 hd_X2_carried ⟨rfl, rfl, Nat.le_of_ble_eq_true rfl, Nat.le_of_ble_eq_true rfl⟩ rfl hl.1 rfl (Nat.le_of_ble_eq_true rfl) dX3_bump_98 ⟨Nat.le_of_ble_eq_true rfl, Nat.le_of_ble_eq_true rfl⟩) (fun z8 H locs hf hR => ?_)
    refine lv_lsub (pc := 101) hx hb dX3_bump_101 ?_
    refine lv_aload_n (pc := 102) hx hb dX3_bump_102 rfl (lv_at hl 3 rfl) ?_
    obtain ⟨hq, hf⟩ := gd_e hf
    refine rg_L (pc := 103) hf hR hA (fun z hz => rn_V (κ := 2) (As := []) (rest := [.long (v3 - z8.2), .long (mm_l M6 a7 12), .ref a7]) hC hR rfl (by decide) hq (c_X2_carried  hz _) m_353 m_354 m_355 m_5 m_356 hd_X2_carried ⟨rfl, rfl, Nat.le_of_ble_eq_true rfl, Nat.le_of_ble_eq_true rfl⟩ rfl hl.1 rfl (Nat.le_of_ble_eq_true rfl) dX3_bump_103 ⟨Nat.le_of_ble_eq_true rfl, Nat.le_of_ble_eq_true rfl⟩) (fun z9 H locs hf hR => ?_)
    refine lv_lsub (pc := 106) hx hb dX3_bump_106 ?_
    refine lv_ladd (pc := 107) hx hb dX3_bump_107 ?_
    refine rg_putl (pc := 108) (C := RX4) (T := TX4) (N := 13) (κ := 4) hx hb hts hK hR hown in_4 rfl (by decide) 12 (by decide) m_71 tyX4 tyX4_ok nmX4 rfl rfl rfl rfl dX3_bump_108 hf (fun M10 H locs hf hR => ?_)
    exact rg_vret (pc := 111) hx hb hlocks hr hf hR dX3_bump_111
  unfold f_X3_bump at hf
  refine lv_aload_n (pc := 0) hx hb dX3_bump_0 rfl (lv_at hl 1 rfl) ?_
  obtain ⟨hq, hf⟩ := gd_e hf
  refine rg_L (pc := 1) hf hR hA (fun z hz => rn_V (κ := 2) (As := []) (rest := []) hC hR rfl (by decide) hq (c_X2_carried  hz _) m_353 m_354 m_355 m_5 m_356 hd_X2_carried ⟨rfl, rfl, Nat.le_of_ble_eq_true rfl, Nat.le_of_ble_eq_true rfl⟩ rfl hl.1 rfl (Nat.le_of_ble_eq_true rfl) dX3_bump_1 ⟨Nat.le_of_ble_eq_true rfl, Nat.le_of_ble_eq_true rfl⟩) (fun z11 H locs hf hR => ?_)
  refine lv_aload_n (pc := 4) hx hb dX3_bump_4 rfl (lv_at hl 2 rfl) ?_
  obtain ⟨hq, hf⟩ := gd_e hf
  refine rg_L (pc := 5) hf hR hA (fun z hz => rn_V (κ := 2) (As := []) (rest := [.long z11.2]) hC hR rfl (by decide) hq (c_X2_carried  hz _) m_353 m_354 m_355 m_5 m_356 hd_X2_carried ⟨rfl, rfl, Nat.le_of_ble_eq_true rfl, Nat.le_of_ble_eq_true rfl⟩ rfl hl.1 rfl (Nat.le_of_ble_eq_true rfl) dX3_bump_5 ⟨Nat.le_of_ble_eq_true rfl, Nat.le_of_ble_eq_true rfl⟩) (fun z12 H locs hf hR => ?_)
  refine lv_ladd (pc := 8) hx hb dX3_bump_8 ?_
  refine nm_l hf (fun x13 hf => ?_)
  refine lv_lstore_n (pc := 9) (lv' := [(3, .long x13), (0, .ref v0), (1, .ref v1), (2, .ref v2)]) hx hb dX3_bump_9 rfl hl (by decide) rfl (fun ls hl => ?_)
  refine lv_aload_n (pc := 10) hx hb dX3_bump_10 rfl (lv_at hl 2 rfl) ?_
  refine rg_get (pc := 11) (C := RX2) (T := TX2) (N := 7) (κ := 2) (v := .int (mm_i z12.1 v1 0)) hx hb hts hK hR hown in_2 rfl (by decide) 0 (by decide) m_108 rfl dX3_bump_11 hf (fun hf => ?_)
  refine lv_aload_n (pc := 14) hx hb dX3_bump_14 rfl (lv_at hl 3 rfl) ?_
  refine rg_get (pc := 15) (C := RX2) (T := TX2) (N := 7) (κ := 2) (v := .int (mm_i z12.1 v2 0)) hx hb hts hK hR hown in_2 rfl (by decide) 0 (by decide) m_108 rfl dX3_bump_15 hf (fun hf => ?_)
  refine lv_icmp_gt (pc := 18) (tgt := 25) hx hb dX3_bump_18 (by decide) (fun hc => ?_) (fun hc => ?_)
  · replace hf := it_t hf hc
    refine lv_iconst (pc := 25) (v := (1 : Int32)) hx hb dX3_bump_25 (by decide) ?_
    exact hB26 (1 : Int32) v0 v1 v2 x13 z12.1 _ _ _ hf hR (lv_sub hl [1, 2, 3, 0] rfl)
  · replace hf := it_f hf hc
    refine lv_iconst (pc := 21) (v := (-1 : Int32)) hx hb dX3_bump_21 (by decide) ?_
    refine lv_goto (pc := 22) (tgt := 26) hx hb dX3_bump_22 (by decide) ?_
    exact hB26 (-1 : Int32) v0 v1 v2 x13 z12.1 _ _ _ hf hR (lv_sub hl [1, 2, 3, 0] rfl)
-- X3_meet
def f_X3_meet_b123   (M : Mem) : Option (Mem) := some M
def f_X3_meet_b117  (v0 : Nat) (v1 : Nat) (v2 : Nat) (M : Mem) : Option (Mem) := gd (M.1 v0 = 3) <| bd (f_X3_bump v0 v1 v2 M) fun z1 => f_X3_meet_b123  z1
def f_X3_meet_b63  (s0 : Nat) (v0 : Nat) (v1 : Nat) (v2 : Nat) (v3 : Int32) (M : Mem) : Option (Mem) := gd (M.1 v0 = 3) <| if (mm_i M v0 4) < v3 then (gd (M.1 v0 = 3) <| if v3 ≤ (mm_i M v0 5) then (f_X3_meet_b117 v0 v1 v2 M) else (gd (M.1 s0 = 2) <| if (mm_i M s0 2) < (2 : Int32) then (f_X3_meet_b117 v0 v1 v2 M) else (gd (M.1 v0 = 3) <| if (80 : Int32) ≤ (mm_i M v0 3) then (f_X3_meet_b117 v0 v1 v2 M) else (gd (M.1 v0 = 3) <| bd (f_X3_breakUp v0 s0 M) fun z2 => f_X3_meet_b123  z2)))) else (gd (M.1 v0 = 3) <| bd (f_X3_stick v0 v1 v2 M) fun z3 => f_X3_meet_b123  z3)
def f_X3_meet (v0 : Nat) (v1 : Nat) (v2 : Nat) (M : Mem) : Option (Mem) := gd (M.1 v1 = 2) <| lt_ (ms_i M v1 6 (1 : Int32)) fun M4 => gd (M4.1 v2 = 2) <| lt_ (ms_i M4 v2 6 (1 : Int32)) fun M5 => gd (M5.1 v1 = 2) <| gd (M5.1 v2 = 2) <| gd (M5.1 v0 = 3) <| rd (mm_r M5 v0 0) fun a6 => gd (M5.1 v1 = 2) <| gd (M5.1 a6 = 6) <| bd (f_X6_speedIn a6 (mm_i M5 v1 0) M5) fun z7 => gd (z7.1.1 v0 = 3) <| rd (mm_r z7.1 v0 0) fun a8 => gd (z7.1.1 v2 = 2) <| gd (z7.1.1 a8 = 6) <| bd (f_X6_speedIn a8 (mm_i z7.1 v2 0) z7.1) fun z9 => lt_ ((((mm_i M5 v1 3) + (mm_i M5 v2 3)) + (if 0 ≤ (z7.2 - z9.2) then (z7.2 - z9.2) else 0 - (z7.2 - z9.2)))) fun x10 => gd (z9.1.1 v1 = 2) <| gd (z9.1.1 v2 = 2) <| if (mm_i z9.1 v2 2) ≤ (mm_i z9.1 v1 2) then (f_X3_meet_b63 v2 v0 v1 v2 x10 z9.1) else (f_X3_meet_b63 v1 v0 v1 v2 x10 z9.1)
abbrev rm_X3_meet : Room := { frames := 3, cells := 0, slots := 0, locals := 67 }
theorem hd_X3_meet : yX3_meet.cls ≠ "java/lang/invoke/MethodHandle" ∧ yX3_meet.cls ≠ "java/lang/invoke/VarHandle" ∧ (parseMethodDescriptor yX3_meet.desc).map (fun d => d.parameters.length) = some 2 := by decide +kernel
set_option maxHeartbeats 8000000 in
set_option maxRecDepth 100000 in
theorem c_X3_meet {l : Launch} {D : va_G} {ca : Nat → ClassId} {b : Nat} {nx : Bool} {v0 : Nat} {v1 : Nat} {v2 : Nat} {M : Mem} {r : Mem} (hf : f_X3_meet v0 v1 v2 M = some r) : CtV l yX3_meet cX3_meet 5 none rm_X3_meet D ca b nx [.ref v0, .ref v1, .ref v2] M r 0 0 := by
  intro sz
  refine body_start (Qc := fun A => cvV D ca nx A r) (by decide +kernel) (Nat.le_of_ble_eq_true rfl) ?_
  intro p e s m args below meth c A hC hr hR ls hl
  obtain ⟨hx, hb, hml, hts, hown, hlocks, hXe, hA, hAb, hnm⟩ := id hC
  have hK := hXe.1
  have hl : lv_has ls 5 [(0, .ref v0), (1, .ref v1), (2, .ref v2)] := hl
  have hB123 : ∀   (M : Mem) (H : Heap) (locs : List Loc) (ls : Array Slot), f_X3_meet_b123   M = some r → Hp D ca nx A s M H locs → lv_has ls 5 [] → W p l e rm_X3_meet s m args below meth c H locs 0 0 (MQ below (cvV D ca nx A r) args s 0 0 A) (F0 m 123 ls []) := by
    intro   M H locs ls hf hR hl
    unfold f_X3_meet_b123 at hf
    exact rg_vret (pc := 123) hx hb hlocks hr hf hR dX3_meet_123
  have hB117 : ∀  (v0 : Nat) (v1 : Nat) (v2 : Nat) (M : Mem) (H : Heap) (locs : List Loc) (ls : Array Slot), f_X3_meet_b117  v0 v1 v2 M = some r → Hp D ca nx A s M H locs → lv_has ls 5 [(0, .ref v0), (1, .ref v1), (2, .ref v2)] → W p l e rm_X3_meet s m args below meth c H locs 0 0 (MQ below (cvV D ca nx A r) args s 0 0 A) (F0 m 117 ls []) := by
    intro  v0 v1 v2 M H locs ls hf hR hl
    unfold f_X3_meet_b117 at hf
    refine lv_aload_n (pc := 117) hx hb dX3_meet_117 rfl (lv_at hl 0 rfl) ?_
    refine lv_aload_n (pc := 118) hx hb dX3_meet_118 rfl (lv_at hl 1 rfl) ?_
    refine lv_aload_n (pc := 119) hx hb dX3_meet_119 rfl (lv_at hl 2 rfl) ?_
    obtain ⟨hq, hf⟩ := gd_e hf
    refine rg_V (pc := 120) hf hR hA (fun z hz => rn_V (κ := 3) (As := [.ref v1, .ref v2]) (rest := []) hC hR rfl (by decide) hq (c_X3_bump  hz _) m_451 m_453 ms_7 m_2 m_454 hd_X3_bump ⟨rfl, rfl, Nat.le_of_ble_eq_true rfl, Nat.le_of_ble_eq_true rfl⟩ rfl hl.1 rfl (Nat.le_of_ble_eq_true rfl) dX3_meet_120 ⟨Nat.le_of_ble_eq_true rfl, Nat.le_of_ble_eq_true rfl⟩) (fun z1 H locs hf hR => ?_)
    exact hB123  z1 _ _ _ hf hR (lv_sub hl [] rfl)
  have hB63 : ∀  (s0 : Nat) (v0 : Nat) (v1 : Nat) (v2 : Nat) (v3 : Int32) (M : Mem) (H : Heap) (locs : List Loc) (ls : Array Slot), f_X3_meet_b63  s0 v0 v1 v2 v3 M = some r → Hp D ca nx A s M H locs → lv_has ls 5 [(0, .ref v0), (1, .ref v1), (2, .ref v2), (3, .int v3)] → W p l e rm_X3_meet s m args below meth c H locs 0 0 (MQ below (cvV D ca nx A r) args s 0 0 A) (F0 m 63 ls [.ref s0]) := by
    intro  s0 v0 v1 v2 v3 M H locs ls hf hR hl
    unfold f_X3_meet_b63 at hf
    refine lv_astore (pc := 63) (lv' := [(4, .ref s0), (0, .ref v0), (1, .ref v1), (2, .ref v2), (3, .int v3)]) hx hb dX3_meet_63 hl (by decide) rfl (fun ls hl => ?_)
    refine lv_iload_n (pc := 65) hx hb dX3_meet_65 rfl (lv_at hl 4 rfl) ?_
    refine lv_aload_n (pc := 66) hx hb dX3_meet_66 rfl (lv_at hl 1 rfl) ?_
    refine rg_get (pc := 67) (C := RX3) (T := TX3) (N := 7) (κ := 3) (v := .int (mm_i M v0 4)) hx hb hts hK hR hown in_3 rfl (by decide) 4 (by decide) m_148 rfl dX3_meet_67 hf (fun hf => ?_)
    refine lv_icmp_gt (pc := 70) (tgt := 82) hx hb dX3_meet_70 (by decide) (fun hc => ?_) (fun hc => ?_)
    · replace hf := it_t hf hc
      refine lv_iload_n (pc := 82) hx hb dX3_meet_82 rfl (lv_at hl 4 rfl) ?_
      refine lv_aload_n (pc := 83) hx hb dX3_meet_83 rfl (lv_at hl 1 rfl) ?_
      refine rg_get (pc := 84) (C := RX3) (T := TX3) (N := 7) (κ := 3) (v := .int (mm_i M v0 5)) hx hb hts hK hR hown in_3 rfl (by decide) 5 (by decide) m_150 rfl dX3_meet_84 hf (fun hf => ?_)
      refine lv_icmp_le (pc := 87) (tgt := 117) hx hb dX3_meet_87 (by decide) (fun hc => ?_) (fun hc => ?_)
      · replace hf := it_t hf hc
        exact hB117 v0 v1 v2 M _ _ _ hf hR (lv_sub hl [1, 2, 3] rfl)
      · replace hf := it_f hf hc
        refine lv_aload (pc := 90) hx hb dX3_meet_90 (lv_at hl 0 rfl) ?_
        refine rg_get (pc := 92) (C := RX2) (T := TX2) (N := 7) (κ := 2) (v := .int (mm_i M s0 2)) hx hb hts hK hR hown in_2 rfl (by decide) 2 (by decide) m_114 rfl dX3_meet_92 hf (fun hf => ?_)
        refine lv_iconst (pc := 95) (v := (2 : Int32)) hx hb dX3_meet_95 (by decide) ?_
        refine lv_icmp_lt (pc := 96) (tgt := 117) hx hb dX3_meet_96 (by decide) (fun hc => ?_) (fun hc => ?_)
        · replace hf := it_t hf hc
          exact hB117 v0 v1 v2 M _ _ _ hf hR (lv_sub hl [1, 2, 3] rfl)
        · replace hf := it_f hf hc
          refine lv_aload_n (pc := 99) hx hb dX3_meet_99 rfl (lv_at hl 1 rfl) ?_
          refine rg_get (pc := 100) (C := RX3) (T := TX3) (N := 7) (κ := 3) (v := .int (mm_i M v0 3)) hx hb hts hK hR hown in_3 rfl (by decide) 3 (by decide) m_146 rfl dX3_meet_100 hf (fun hf => ?_)
          refine lv_bipush (pc := 103) (v := (80 : Int32)) hx hb dX3_meet_103 (by decide) ?_
          refine lv_icmp_ge (pc := 105) (tgt := 117) hx hb dX3_meet_105 (by decide) (fun hc => ?_) (fun hc => ?_)
          · replace hf := it_t hf hc
            exact hB117 v0 v1 v2 M _ _ _ hf hR (lv_sub hl [1, 2, 3] rfl)
          · replace hf := it_f hf hc
            refine lv_aload_n (pc := 108) hx hb dX3_meet_108 rfl (lv_at hl 1 rfl) ?_
            refine lv_aload (pc := 109) hx hb dX3_meet_109 (lv_at hl 0 rfl) ?_
            obtain ⟨hq, hf⟩ := gd_e hf
            refine rg_V (pc := 111) hf hR hA (fun z hz => rn_V (κ := 3) (As := [.ref s0]) (rest := []) hC hR rfl (by decide) hq (c_X3_breakUp  hz _) m_447 m_449 ms_6 m_2 m_450 hd_X3_breakUp ⟨rfl, rfl, Nat.le_of_ble_eq_true rfl, Nat.le_of_ble_eq_true rfl⟩ rfl hl.1 rfl (Nat.le_of_ble_eq_true rfl) dX3_meet_111 ⟨Nat.le_of_ble_eq_true rfl, Nat.le_of_ble_eq_true rfl⟩) (fun z2 H locs hf hR => ?_)
            refine lv_goto (pc := 114) (tgt := 123) hx hb dX3_meet_114 (by decide) ?_
            exact hB123  z2 _ _ _ hf hR (lv_sub hl [] rfl)
    · replace hf := it_f hf hc
      refine lv_aload_n (pc := 73) hx hb dX3_meet_73 rfl (lv_at hl 1 rfl) ?_
      refine lv_aload_n (pc := 74) hx hb dX3_meet_74 rfl (lv_at hl 2 rfl) ?_
      refine lv_aload_n (pc := 75) hx hb dX3_meet_75 rfl (lv_at hl 3 rfl) ?_
      obtain ⟨hq, hf⟩ := gd_e hf
      refine rg_V (pc := 76) hf hR hA (fun z hz => rn_V (κ := 3) (As := [.ref v1, .ref v2]) (rest := []) hC hR rfl (by decide) hq (c_X3_stick  hz _) m_440 m_442 ms_5 m_2 m_443 hd_X3_stick ⟨rfl, rfl, Nat.le_of_ble_eq_true rfl, Nat.le_of_ble_eq_true rfl⟩ rfl hl.1 rfl (Nat.le_of_ble_eq_true rfl) dX3_meet_76 ⟨Nat.le_of_ble_eq_true rfl, Nat.le_of_ble_eq_true rfl⟩) (fun z3 H locs hf hR => ?_)
      refine lv_goto (pc := 79) (tgt := 123) hx hb dX3_meet_79 (by decide) ?_
      exact hB123  z3 _ _ _ hf hR (lv_sub hl [] rfl)
  unfold f_X3_meet at hf
  refine lv_aload_n (pc := 0) hx hb dX3_meet_0 rfl (lv_at hl 1 rfl) ?_
  refine lv_iconst (pc := 1) (v := (1 : Int32)) hx hb dX3_meet_1 (by decide) ?_
  refine rg_puti (pc := 2) (C := RX2) (T := TX2) (N := 7) (κ := 2) hx hb hts hK hR hown in_2 rfl (by decide) 6 (by decide) m_124 tyX2 tyX2_ok nmX2 rfl rfl rfl rfl dX3_meet_2 hf (fun M4 H locs hf hR => ?_)
  refine lv_aload_n (pc := 5) hx hb dX3_meet_5 rfl (lv_at hl 2 rfl) ?_
  refine lv_iconst (pc := 6) (v := (1 : Int32)) hx hb dX3_meet_6 (by decide) ?_
  refine rg_puti (pc := 7) (C := RX2) (T := TX2) (N := 7) (κ := 2) hx hb hts hK hR hown in_2 rfl (by decide) 6 (by decide) m_124 tyX2 tyX2_ok nmX2 rfl rfl rfl rfl dX3_meet_7 hf (fun M5 H locs hf hR => ?_)
  refine lv_aload_n (pc := 10) hx hb dX3_meet_10 rfl (lv_at hl 1 rfl) ?_
  refine rg_get (pc := 11) (C := RX2) (T := TX2) (N := 7) (κ := 2) (v := .int (mm_i M5 v1 3)) hx hb hts hK hR hown in_2 rfl (by decide) 3 (by decide) m_116 rfl dX3_meet_11 hf (fun hf => ?_)
  refine lv_aload_n (pc := 14) hx hb dX3_meet_14 rfl (lv_at hl 2 rfl) ?_
  refine rg_get (pc := 15) (C := RX2) (T := TX2) (N := 7) (κ := 2) (v := .int (mm_i M5 v2 3)) hx hb hts hK hR hown in_2 rfl (by decide) 3 (by decide) m_116 rfl dX3_meet_15 hf (fun hf => ?_)
  refine lv_iadd (pc := 18) hx hb dX3_meet_18 ?_
  refine lv_aload_n (pc := 19) hx hb dX3_meet_19 rfl (lv_at hl 0 rfl) ?_
  refine rg_getr (pc := 20) (C := RX3) (T := TX3) (N := 7) (κ := 3) hx hb hts hK hR hown in_3 rfl (by decide) 0 (by decide) m_140 rfl dX3_meet_20 hf (fun a6 hf => ?_)
  refine lv_aload_n (pc := 23) hx hb dX3_meet_23 rfl (lv_at hl 1 rfl) ?_
  refine rg_get (pc := 24) (C := RX2) (T := TX2) (N := 7) (κ := 2) (v := .int (mm_i M5 v1 0)) hx hb hts hK hR hown in_2 rfl (by decide) 0 (by decide) m_108 rfl dX3_meet_24 hf (fun hf => ?_)
  obtain ⟨hq, hf⟩ := gd_e hf
  refine rg_I (pc := 27) hf hR hA (fun z hz => rn_V (κ := 6) (As := [.int (mm_i M5 v1 0)]) (rest := [.int ((mm_i M5 v1 3) + (mm_i M5 v2 3))]) hC hR rfl (by decide) hq (c_X6_speedIn  hz _) m_398 m_383 m_384 m_3 m_385 hd_X6_speedIn ⟨rfl, rfl, Nat.le_of_ble_eq_true rfl, Nat.le_of_ble_eq_true rfl⟩ rfl hl.1 rfl (Nat.le_of_ble_eq_true rfl) dX3_meet_27 ⟨Nat.le_of_ble_eq_true rfl, Nat.le_of_ble_eq_true rfl⟩) (fun z7 H locs hf hR => ?_)
  refine lv_aload_n (pc := 30) hx hb dX3_meet_30 rfl (lv_at hl 0 rfl) ?_
  refine rg_getr (pc := 31) (C := RX3) (T := TX3) (N := 7) (κ := 3) hx hb hts hK hR hown in_3 rfl (by decide) 0 (by decide) m_140 rfl dX3_meet_31 hf (fun a8 hf => ?_)
  refine lv_aload_n (pc := 34) hx hb dX3_meet_34 rfl (lv_at hl 2 rfl) ?_
  refine rg_get (pc := 35) (C := RX2) (T := TX2) (N := 7) (κ := 2) (v := .int (mm_i z7.1 v2 0)) hx hb hts hK hR hown in_2 rfl (by decide) 0 (by decide) m_108 rfl dX3_meet_35 hf (fun hf => ?_)
  obtain ⟨hq, hf⟩ := gd_e hf
  refine rg_I (pc := 38) hf hR hA (fun z hz => rn_V (κ := 6) (As := [.int (mm_i z7.1 v2 0)]) (rest := [.int z7.2, .int ((mm_i M5 v1 3) + (mm_i M5 v2 3))]) hC hR rfl (by decide) hq (c_X6_speedIn  hz _) m_398 m_383 m_384 m_3 m_385 hd_X6_speedIn ⟨rfl, rfl, Nat.le_of_ble_eq_true rfl, Nat.le_of_ble_eq_true rfl⟩ rfl hl.1 rfl (Nat.le_of_ble_eq_true rfl) dX3_meet_38 ⟨Nat.le_of_ble_eq_true rfl, Nat.le_of_ble_eq_true rfl⟩) (fun z9 H locs hf hR => ?_)
  refine lv_isub (pc := 41) hx hb dX3_meet_41 ?_
  refine va_mabs (pc := 42) hx hb (hml.trans hl.1.symm) hown (hts _ m_439) (hts _ m_409) (hts _ m_14) (hts _ m_410) (Nat.le_of_ble_eq_true rfl) (Nat.le_of_ble_eq_true rfl) (Nat.le_of_ble_eq_true rfl) (Nat.le_of_ble_eq_true rfl) dX3_meet_42 ?_
  refine lv_iadd (pc := 45) hx hb dX3_meet_45 ?_
  refine nm_i hf (fun x10 hf => ?_)
  refine lv_istore_n (pc := 46) (lv' := [(3, .int x10), (0, .ref v0), (1, .ref v1), (2, .ref v2)]) hx hb dX3_meet_46 rfl hl (by decide) rfl (fun ls hl => ?_)
  refine lv_aload_n (pc := 47) hx hb dX3_meet_47 rfl (lv_at hl 2 rfl) ?_
  refine rg_get (pc := 48) (C := RX2) (T := TX2) (N := 7) (κ := 2) (v := .int (mm_i z9.1 v1 2)) hx hb hts hK hR hown in_2 rfl (by decide) 2 (by decide) m_114 rfl dX3_meet_48 hf (fun hf => ?_)
  refine lv_aload_n (pc := 51) hx hb dX3_meet_51 rfl (lv_at hl 3 rfl) ?_
  refine rg_get (pc := 52) (C := RX2) (T := TX2) (N := 7) (κ := 2) (v := .int (mm_i z9.1 v2 2)) hx hb hts hK hR hown in_2 rfl (by decide) 2 (by decide) m_114 rfl dX3_meet_52 hf (fun hf => ?_)
  refine lv_icmp_ge (pc := 55) (tgt := 62) hx hb dX3_meet_55 (by decide) (fun hc => ?_) (fun hc => ?_)
  · replace hf := it_t hf hc
    refine lv_aload_n (pc := 62) hx hb dX3_meet_62 rfl (lv_at hl 3 rfl) ?_
    exact hB63 v2 v0 v1 v2 x10 z9.1 _ _ _ hf hR (lv_sub hl [1, 2, 3, 0] rfl)
  · replace hf := it_f hf hc
    refine lv_aload_n (pc := 58) hx hb dX3_meet_58 rfl (lv_at hl 2 rfl) ?_
    refine lv_goto (pc := 59) (tgt := 63) hx hb dX3_meet_59 (by decide) ?_
    exact hB63 v1 v0 v1 v2 x10 z9.1 _ _ _ hf hR (lv_sub hl [1, 2, 3, 0] rfl)
-- X3_meetAll
def f_X3_meetAll_b84 (k39 : Nat → Int32 → Int32 → Mem → Option (Mem)) (v0 : Nat) (v1 : Int32) (v2 : Int32) (M : Mem) : Option (Mem) := lt_ (v2 + (1 : Int32)) fun x1 => k39 v0 v1 x1 M
def f_X3_meetAll_b39 (k39 : Nat → Int32 → Int32 → Mem → Option (Mem)) (v0 : Nat) (v1 : Int32) (v2 : Int32) (M : Mem) : Option (Mem) := if v1 ≤ v2 then (some M) else (gd (M.1 v0 = 3) <| rd (mm_r M v0 2) fun a2 => gd (M.1 a2 = 13 ∧ vi_ v2 (mm_N M a2)) <| rd (mm_r M a2 (v2).toNatClampNeg) fun a3 => gd (M.1 a3 = 2) <| bd (f_X2_mayMeet a3 M) fun z4 => if z4.2 = 0 then (f_X3_meetAll_b84 k39 v0 v1 v2 z4.1) else (gd (z4.1.1 v0 = 3) <| bd (f_X3_partnerOf v0 v2 v1 z4.1) fun z5 => if z5.2 = (-1 : Int32) then (f_X3_meetAll_b84 k39 v0 v1 v2 z5.1) else (gd (z5.1.1 v0 = 3) <| rd (mm_r z5.1 v0 2) fun a6 => gd (z5.1.1 a6 = 13 ∧ vi_ v2 (mm_N z5.1 a6)) <| rd (mm_r z5.1 a6 (v2).toNatClampNeg) fun a7 => gd (z5.1.1 v0 = 3) <| rd (mm_r z5.1 v0 2) fun a8 => gd (z5.1.1 a8 = 13 ∧ vi_ z5.2 (mm_N z5.1 a8)) <| rd (mm_r z5.1 a8 (z5.2).toNatClampNeg) fun a9 => gd (z5.1.1 v0 = 3) <| bd (f_X3_meet v0 a7 a9 z5.1) fun z10 => f_X3_meetAll_b84 k39 v0 v1 v2 z10)))
def f_X3_meetAll_L39  : Nat → Nat → Int32 → Int32 → Mem → Option (Mem)
  | 0 => fun _ _ _ _ => none
  | n + 1 => f_X3_meetAll_b39  (f_X3_meetAll_L39  n)
def f_X3_meetAll_b10 (k10 : Nat → Nat → Int32 → Int32 → Mem → Option (Mem)) (v0 : Nat) (v1 : Nat) (v2 : Int32) (v3 : Int32) (M : Mem) : Option (Mem) := if v2 ≤ v3 then (gd (M.1 v0 = 3) <| lt_ ((mm_i M v0 3)) fun x11 => f_X3_meetAll_L39 200 v0 x11 (0 : Int32) M) else (gd (M.1 v1 = 13 ∧ vi_ v3 (mm_N M v1)) <| rd (mm_r M v1 (v3).toNatClampNeg) fun a12 => gd (M.1 a12 = 2) <| lt_ (ms_i M a12 6 (0 : Int32)) fun M13 => lt_ (v3 + (1 : Int32)) fun x14 => k10 v0 v1 v2 x14 M13)
def f_X3_meetAll_L10  : Nat → Nat → Nat → Int32 → Int32 → Mem → Option (Mem)
  | 0 => fun _ _ _ _ _ => none
  | n + 1 => f_X3_meetAll_b10  (f_X3_meetAll_L10  n)
def f_X3_meetAll (v0 : Nat) (M : Mem) : Option (Mem) := gd (M.1 v0 = 3) <| rd (mm_r M v0 2) fun a15 => gd (M.1 a15 = 13) <| lt_ ((nI (mm_N M a15))) fun x16 => f_X3_meetAll_L10 200 v0 a15 x16 (0 : Int32) M
abbrev rm_X3_meetAll : Room := { frames := 4, cells := 0, slots := 0, locals := 95 }
theorem hd_X3_meetAll : yX3_meetAll.cls ≠ "java/lang/invoke/MethodHandle" ∧ yX3_meetAll.cls ≠ "java/lang/invoke/VarHandle" ∧ (parseMethodDescriptor yX3_meetAll.desc).map (fun d => d.parameters.length) = some 0 := by decide +kernel
set_option maxHeartbeats 8000000 in
set_option maxRecDepth 100000 in
theorem c_X3_meetAll {l : Launch} {D : va_G} {ca : Nat → ClassId} {b : Nat} {nx : Bool} {v0 : Nat} {M : Mem} {r : Mem} (hf : f_X3_meetAll v0 M = some r) : CtV l yX3_meetAll cX3_meetAll 5 none rm_X3_meetAll D ca b nx [.ref v0] M r 0 0 := by
  intro sz
  refine body_start (Qc := fun A => cvV D ca nx A r) (by decide +kernel) (Nat.le_of_ble_eq_true rfl) ?_
  intro p e s m args below meth c A hC hr hR ls hl
  obtain ⟨hx, hb, hml, hts, hown, hlocks, hXe, hA, hAb, hnm⟩ := id hC
  have hK := hXe.1
  have hl : lv_has ls 5 [(0, .ref v0)] := hl
  have hB84 : ∀ (k39 : Nat → Int32 → Int32 → Mem → Option (Mem)) (hk39 : ∀ (v0 : Nat) (v1 : Int32) (v2 : Int32) (M : Mem) (H : Heap) (locs : List Loc) (ls : Array Slot), k39 v0 v1 v2 M = some r → Hp D ca nx A s M H locs → lv_has ls 5 [(0, .ref v0), (1, .int v1), (2, .int v2)] → W p l e rm_X3_meetAll s m args below meth c H locs 0 0 (MQ below (cvV D ca nx A r) args s 0 0 A) (F0 m 39 ls [])) (v0 : Nat) (v1 : Int32) (v2 : Int32) (M : Mem) (H : Heap) (locs : List Loc) (ls : Array Slot), f_X3_meetAll_b84 k39 v0 v1 v2 M = some r → Hp D ca nx A s M H locs → lv_has ls 5 [(0, .ref v0), (1, .int v1), (2, .int v2)] → W p l e rm_X3_meetAll s m args below meth c H locs 0 0 (MQ below (cvV D ca nx A r) args s 0 0 A) (F0 m 84 ls []) := by
    intro k39 hk39 v0 v1 v2 M H locs ls hf hR hl
    unfold f_X3_meetAll_b84 at hf
    refine rg_iinc (pc := 84) hx hb dX3_meetAll_84 hl (k := 2) rfl rfl (by decide) hf (fun x1 ls hf hl => ?_)
    have hl : lv_has ls 5 [(2, .int x1), (0, .ref v0), (1, .int v1)] := hl
    refine lv_goto (pc := 87) (tgt := 39) hx hb dX3_meetAll_87 (by decide) ?_
    exact hk39 v0 v1 x1 M _ _ _ hf hR (lv_sub hl [1, 2, 0] rfl)
  have hB39 : ∀ (k39 : Nat → Int32 → Int32 → Mem → Option (Mem)) (hk39 : ∀ (v0 : Nat) (v1 : Int32) (v2 : Int32) (M : Mem) (H : Heap) (locs : List Loc) (ls : Array Slot), k39 v0 v1 v2 M = some r → Hp D ca nx A s M H locs → lv_has ls 5 [(0, .ref v0), (1, .int v1), (2, .int v2)] → W p l e rm_X3_meetAll s m args below meth c H locs 0 0 (MQ below (cvV D ca nx A r) args s 0 0 A) (F0 m 39 ls [])) (v0 : Nat) (v1 : Int32) (v2 : Int32) (M : Mem) (H : Heap) (locs : List Loc) (ls : Array Slot), f_X3_meetAll_b39 k39 v0 v1 v2 M = some r → Hp D ca nx A s M H locs → lv_has ls 5 [(0, .ref v0), (1, .int v1), (2, .int v2)] → W p l e rm_X3_meetAll s m args below meth c H locs 0 0 (MQ below (cvV D ca nx A r) args s 0 0 A) (F0 m 39 ls []) := by
    intro k39 hk39 v0 v1 v2 M H locs ls hf hR hl
    unfold f_X3_meetAll_b39 at hf
    refine lv_iload_n (pc := 39) hx hb dX3_meetAll_39 rfl (lv_at hl 2 rfl) ?_
    refine lv_iload_n (pc := 40) hx hb dX3_meetAll_40 rfl (lv_at hl 1 rfl) ?_
    refine lv_icmp_ge (pc := 41) (tgt := 90) hx hb dX3_meetAll_41 (by decide) (fun hc => ?_) (fun hc => ?_)
    · replace hf := it_t hf hc
      exact rg_vret (pc := 90) hx hb hlocks hr hf hR dX3_meetAll_90
    · replace hf := it_f hf hc
      refine lv_aload_n (pc := 44) hx hb dX3_meetAll_44 rfl (lv_at hl 0 rfl) ?_
      refine rg_getr (pc := 45) (C := RX3) (T := TX3) (N := 7) (κ := 3) hx hb hts hK hR hown in_3 rfl (by decide) 2 (by decide) m_144 rfl dX3_meetAll_45 hf (fun a2 hf => ?_)
      refine lv_iload_n (pc := 48) hx hb dX3_meetAll_48 rfl (lv_at hl 2 rfl) ?_
      refine rg_aald (pc := 49) (κ := 13) hx hb hK hR 3 rfl (by decide) dX3_meetAll_49 hf (fun a3 hf => ?_)
      obtain ⟨hq, hf⟩ := gd_e hf
      refine rg_I (pc := 50) hf hR hA (fun z hz => rn_V (κ := 2) (As := []) (rest := []) hC hR rfl (by decide) hq (c_X2_mayMeet  hz _) m_427 m_428 m_429 m_5 m_430 hd_X2_mayMeet ⟨rfl, rfl, Nat.le_of_ble_eq_true rfl, Nat.le_of_ble_eq_true rfl⟩ rfl hl.1 rfl (Nat.le_of_ble_eq_true rfl) dX3_meetAll_50 ⟨Nat.le_of_ble_eq_true rfl, Nat.le_of_ble_eq_true rfl⟩) (fun z4 H locs hf hR => ?_)
      refine lv_if_eq (pc := 53) (tgt := 84) hx hb dX3_meetAll_53 (by decide) (fun hc => ?_) (fun hc => ?_)
      · replace hf := it_t hf hc
        exact hB84 k39 hk39 v0 v1 v2 z4.1 _ _ _ hf hR (lv_sub hl [0, 1, 2] rfl)
      · replace hf := it_f hf hc
        refine lv_aload_n (pc := 56) hx hb dX3_meetAll_56 rfl (lv_at hl 0 rfl) ?_
        refine lv_iload_n (pc := 57) hx hb dX3_meetAll_57 rfl (lv_at hl 2 rfl) ?_
        refine lv_iload_n (pc := 58) hx hb dX3_meetAll_58 rfl (lv_at hl 1 rfl) ?_
        obtain ⟨hq, hf⟩ := gd_e hf
        refine rg_I (pc := 59) hf hR hA (fun z hz => rn_V (κ := 3) (As := [.int v2, .int v1]) (rest := []) hC hR rfl (by decide) hq (c_X3_partnerOf  hz _) m_431 m_433 ms_3 m_2 m_434 hd_X3_partnerOf ⟨rfl, rfl, Nat.le_of_ble_eq_true rfl, Nat.le_of_ble_eq_true rfl⟩ rfl hl.1 rfl (Nat.le_of_ble_eq_true rfl) dX3_meetAll_59 ⟨Nat.le_of_ble_eq_true rfl, Nat.le_of_ble_eq_true rfl⟩) (fun z5 H locs hf hR => ?_)
        refine lv_istore_n (pc := 62) (lv' := [(3, .int z5.2), (0, .ref v0), (1, .int v1), (2, .int v2)]) hx hb dX3_meetAll_62 rfl hl (by decide) rfl (fun ls hl => ?_)
        refine lv_iload_n (pc := 63) hx hb dX3_meetAll_63 rfl (lv_at hl 0 rfl) ?_
        refine lv_iconst (pc := 64) (v := (-1 : Int32)) hx hb dX3_meetAll_64 (by decide) ?_
        refine lv_icmp_eq (pc := 65) (tgt := 84) hx hb dX3_meetAll_65 (by decide) (fun hc => ?_) (fun hc => ?_)
        · replace hf := it_t hf hc
          exact hB84 k39 hk39 v0 v1 v2 z5.1 _ _ _ hf hR (lv_sub hl [1, 2, 3] rfl)
        · replace hf := it_f hf hc
          refine lv_aload_n (pc := 68) hx hb dX3_meetAll_68 rfl (lv_at hl 1 rfl) ?_
          refine lv_aload_n (pc := 69) hx hb dX3_meetAll_69 rfl (lv_at hl 1 rfl) ?_
          refine rg_getr (pc := 70) (C := RX3) (T := TX3) (N := 7) (κ := 3) hx hb hts hK hR hown in_3 rfl (by decide) 2 (by decide) m_144 rfl dX3_meetAll_70 hf (fun a6 hf => ?_)
          refine lv_iload_n (pc := 73) hx hb dX3_meetAll_73 rfl (lv_at hl 3 rfl) ?_
          refine rg_aald (pc := 74) (κ := 13) hx hb hK hR 3 rfl (by decide) dX3_meetAll_74 hf (fun a7 hf => ?_)
          refine lv_aload_n (pc := 75) hx hb dX3_meetAll_75 rfl (lv_at hl 1 rfl) ?_
          refine rg_getr (pc := 76) (C := RX3) (T := TX3) (N := 7) (κ := 3) hx hb hts hK hR hown in_3 rfl (by decide) 2 (by decide) m_144 rfl dX3_meetAll_76 hf (fun a8 hf => ?_)
          refine lv_iload_n (pc := 79) hx hb dX3_meetAll_79 rfl (lv_at hl 0 rfl) ?_
          refine rg_aald (pc := 80) (κ := 13) hx hb hK hR 3 rfl (by decide) dX3_meetAll_80 hf (fun a9 hf => ?_)
          obtain ⟨hq, hf⟩ := gd_e hf
          refine rg_V (pc := 81) hf hR hA (fun z hz => rn_V (κ := 3) (As := [.ref a7, .ref a9]) (rest := []) hC hR rfl (by decide) hq (c_X3_meet  hz _) m_435 m_437 ms_4 m_2 m_438 hd_X3_meet ⟨rfl, rfl, Nat.le_of_ble_eq_true rfl, Nat.le_of_ble_eq_true rfl⟩ rfl hl.1 rfl (Nat.le_of_ble_eq_true rfl) dX3_meetAll_81 ⟨Nat.le_of_ble_eq_true rfl, Nat.le_of_ble_eq_true rfl⟩) (fun z10 H locs hf hR => ?_)
          exact hB84 k39 hk39 v0 v1 v2 z10 _ _ _ hf hR (lv_sub hl [1, 2, 3] rfl)
  have hL39 : ∀  (n : Nat) (v0 : Nat) (v1 : Int32) (v2 : Int32) (M : Mem) (H : Heap) (locs : List Loc) (ls : Array Slot), f_X3_meetAll_L39  n v0 v1 v2 M = some r → Hp D ca nx A s M H locs → lv_has ls 5 [(0, .ref v0), (1, .int v1), (2, .int v2)] → W p l e rm_X3_meetAll s m args below meth c H locs 0 0 (MQ below (cvV D ca nx A r) args s 0 0 A) (F0 m 39 ls []) := by
    intro  n
    induction n with
    | zero => intro v0 v1 v2 M H locs ls hf; exact nomatch (show (none : Option (Mem)) = some r from hf)
    | succ n ih => intro v0 v1 v2 M H locs ls hf hR hl; exact hB39  (f_X3_meetAll_L39  n) ih v0 v1 v2 M H locs ls hf hR hl
  have hB10 : ∀ (k10 : Nat → Nat → Int32 → Int32 → Mem → Option (Mem)) (hk10 : ∀ (v0 : Nat) (v1 : Nat) (v2 : Int32) (v3 : Int32) (M : Mem) (H : Heap) (locs : List Loc) (ls : Array Slot), k10 v0 v1 v2 v3 M = some r → Hp D ca nx A s M H locs → lv_has ls 5 [(0, .ref v0), (1, .ref v1), (2, .int v2), (3, .int v3)] → W p l e rm_X3_meetAll s m args below meth c H locs 0 0 (MQ below (cvV D ca nx A r) args s 0 0 A) (F0 m 10 ls [])) (v0 : Nat) (v1 : Nat) (v2 : Int32) (v3 : Int32) (M : Mem) (H : Heap) (locs : List Loc) (ls : Array Slot), f_X3_meetAll_b10 k10 v0 v1 v2 v3 M = some r → Hp D ca nx A s M H locs → lv_has ls 5 [(0, .ref v0), (1, .ref v1), (2, .int v2), (3, .int v3)] → W p l e rm_X3_meetAll s m args below meth c H locs 0 0 (MQ below (cvV D ca nx A r) args s 0 0 A) (F0 m 10 ls []) := by
    intro k10 hk10 v0 v1 v2 v3 M H locs ls hf hR hl
    unfold f_X3_meetAll_b10 at hf
    refine lv_iload_n (pc := 10) hx hb dX3_meetAll_10 rfl (lv_at hl 3 rfl) ?_
    refine lv_iload_n (pc := 11) hx hb dX3_meetAll_11 rfl (lv_at hl 2 rfl) ?_
    refine lv_icmp_ge (pc := 12) (tgt := 32) hx hb dX3_meetAll_12 (by decide) (fun hc => ?_) (fun hc => ?_)
    · replace hf := it_t hf hc
      refine lv_aload_n (pc := 32) hx hb dX3_meetAll_32 rfl (lv_at hl 0 rfl) ?_
      refine rg_get (pc := 33) (C := RX3) (T := TX3) (N := 7) (κ := 3) (v := .int (mm_i M v0 3)) hx hb hts hK hR hown in_3 rfl (by decide) 3 (by decide) m_146 rfl dX3_meetAll_33 hf (fun hf => ?_)
      refine nm_i hf (fun x11 hf => ?_)
      refine lv_istore_n (pc := 36) (lv' := [(1, .int x11), (0, .ref v0), (2, .int v2), (3, .int v3)]) hx hb dX3_meetAll_36 rfl hl (by decide) rfl (fun ls hl => ?_)
      refine lv_iconst (pc := 37) (v := (0 : Int32)) hx hb dX3_meetAll_37 (by decide) ?_
      refine lv_istore_n (pc := 38) (lv' := [(2, .int (0 : Int32)), (1, .int x11), (0, .ref v0), (3, .int v3)]) hx hb dX3_meetAll_38 rfl hl (by decide) rfl (fun ls hl => ?_)
      exact hL39 200 v0 x11 (0 : Int32) M _ _ _ hf hR (lv_sub hl [2, 1, 0] rfl)
    · replace hf := it_f hf hc
      refine lv_aload_n (pc := 15) hx hb dX3_meetAll_15 rfl (lv_at hl 1 rfl) ?_
      refine lv_iload_n (pc := 16) hx hb dX3_meetAll_16 rfl (lv_at hl 3 rfl) ?_
      refine rg_aald (pc := 17) (κ := 13) hx hb hK hR 3 rfl (by decide) dX3_meetAll_17 hf (fun a12 hf => ?_)
      refine lv_astore (pc := 18) (lv' := [(4, .ref a12), (0, .ref v0), (1, .ref v1), (2, .int v2), (3, .int v3)]) hx hb dX3_meetAll_18 hl (by decide) rfl (fun ls hl => ?_)
      refine lv_aload (pc := 20) hx hb dX3_meetAll_20 (lv_at hl 0 rfl) ?_
      refine lv_iconst (pc := 22) (v := (0 : Int32)) hx hb dX3_meetAll_22 (by decide) ?_
      refine rg_puti (pc := 23) (C := RX2) (T := TX2) (N := 7) (κ := 2) hx hb hts hK hR hown in_2 rfl (by decide) 6 (by decide) m_124 tyX2 tyX2_ok nmX2 rfl rfl rfl rfl dX3_meetAll_23 hf (fun M13 H locs hf hR => ?_)
      refine rg_iinc (pc := 26) hx hb dX3_meetAll_26 hl (k := 4) rfl rfl (by decide) hf (fun x14 ls hf hl => ?_)
      have hl : lv_has ls 5 [(3, .int x14), (4, .ref a12), (0, .ref v0), (1, .ref v1), (2, .int v2)] := hl
      refine lv_goto (pc := 29) (tgt := 10) hx hb dX3_meetAll_29 (by decide) ?_
      exact hk10 v0 v1 v2 x14 M13 _ _ _ hf hR (lv_sub hl [2, 3, 4, 0] rfl)
  have hL10 : ∀  (n : Nat) (v0 : Nat) (v1 : Nat) (v2 : Int32) (v3 : Int32) (M : Mem) (H : Heap) (locs : List Loc) (ls : Array Slot), f_X3_meetAll_L10  n v0 v1 v2 v3 M = some r → Hp D ca nx A s M H locs → lv_has ls 5 [(0, .ref v0), (1, .ref v1), (2, .int v2), (3, .int v3)] → W p l e rm_X3_meetAll s m args below meth c H locs 0 0 (MQ below (cvV D ca nx A r) args s 0 0 A) (F0 m 10 ls []) := by
    intro  n
    induction n with
    | zero => intro v0 v1 v2 v3 M H locs ls hf; exact nomatch (show (none : Option (Mem)) = some r from hf)
    | succ n ih => intro v0 v1 v2 v3 M H locs ls hf hR hl; exact hB10  (f_X3_meetAll_L10  n) ih v0 v1 v2 v3 M H locs ls hf hR hl
  unfold f_X3_meetAll at hf
  refine lv_aload_n (pc := 0) hx hb dX3_meetAll_0 rfl (lv_at hl 0 rfl) ?_
  refine rg_getr (pc := 1) (C := RX3) (T := TX3) (N := 7) (κ := 3) hx hb hts hK hR hown in_3 rfl (by decide) 2 (by decide) m_144 rfl dX3_meetAll_1 hf (fun a15 hf => ?_)
  refine lv_astore_n (pc := 4) (lv' := [(1, .ref a15), (0, .ref v0)]) hx hb dX3_meetAll_4 rfl hl (by decide) rfl (fun ls hl => ?_)
  refine lv_aload_n (pc := 5) hx hb dX3_meetAll_5 rfl (lv_at hl 0 rfl) ?_
  refine rg_alen (pc := 6) (κ := 13) hx hb hK hR 3 rfl (by decide) dX3_meetAll_6 hf (fun hf => ?_)
  refine nm_i hf (fun x16 hf => ?_)
  refine lv_istore_n (pc := 7) (lv' := [(2, .int x16), (1, .ref a15), (0, .ref v0)]) hx hb dX3_meetAll_7 rfl hl (by decide) rfl (fun ls hl => ?_)
  refine lv_iconst (pc := 8) (v := (0 : Int32)) hx hb dX3_meetAll_8 (by decide) ?_
  refine lv_istore_n (pc := 9) (lv' := [(3, .int (0 : Int32)), (2, .int x16), (1, .ref a15), (0, .ref v0)]) hx hb dX3_meetAll_9 rfl hl (by decide) rfl (fun ls hl => ?_)
  exact hL10 200 v0 a15 x16 (0 : Int32) M _ _ _ hf hR (lv_sub hl [3, 2, 1, 0] rfl)
end
section
-- X3_darken
def f_X3_darken_b46 (k10 : Nat → Int32 → Int32 → Mem → Option (Mem)) (v1 : Nat) (v2 : Int32) (v3 : Int32) (M : Mem) : Option (Mem) := lt_ (v3 + (1 : Int32)) fun x1 => k10 v1 v2 x1 M
def f_X3_darken_b10 (k10 : Nat → Int32 → Int32 → Mem → Option (Mem)) (v1 : Nat) (v2 : Int32) (v3 : Int32) (M : Mem) : Option (Mem) := if v2 ≤ v3 then (some M) else (gd (M.1 v1 = 13 ∧ vi_ v3 (mm_N M v1)) <| rd (mm_r M v1 (v3).toNatClampNeg) fun a2 => gd (M.1 a2 = 2) <| if (mm_i M a2 5) = 0 then (f_X3_darken_b46 k10 v1 v2 v3 M) else (gd (M.1 a2 = 2) <| gd (M.1 a2 = 2) <| lt_ (ms_i M a2 4 (if (1000 : Int32) < ((mm_i M a2 4) + (1 : Int32)) then (1000 : Int32) else ((mm_i M a2 4) + (1 : Int32)))) fun M3 => f_X3_darken_b46 k10 v1 v2 v3 M3))
def f_X3_darken_L10  : Nat → Nat → Int32 → Int32 → Mem → Option (Mem)
  | 0 => fun _ _ _ _ => none
  | n + 1 => f_X3_darken_b10  (f_X3_darken_L10  n)
def f_X3_darken (v0 : Nat) (M : Mem) : Option (Mem) := gd (M.1 v0 = 3) <| rd (mm_r M v0 2) fun a4 => gd (M.1 a4 = 13) <| lt_ ((nI (mm_N M a4))) fun x5 => f_X3_darken_L10 200 a4 x5 (0 : Int32) M
abbrev rm_X3_darken : Room := { frames := 1, cells := 0, slots := 0, locals := 24 }
theorem hd_X3_darken : yX3_darken.cls ≠ "java/lang/invoke/MethodHandle" ∧ yX3_darken.cls ≠ "java/lang/invoke/VarHandle" ∧ (parseMethodDescriptor yX3_darken.desc).map (fun d => d.parameters.length) = some 0 := by decide +kernel
set_option maxHeartbeats 8000000 in
set_option maxRecDepth 100000 in
theorem c_X3_darken {l : Launch} {D : va_G} {ca : Nat → ClassId} {b : Nat} {nx : Bool} {v0 : Nat} {M : Mem} {r : Mem} (hf : f_X3_darken v0 M = some r) : CtV l yX3_darken cX3_darken 5 none rm_X3_darken D ca b nx [.ref v0] M r 0 0 := by
  intro sz
  refine body_start (Qc := fun A => cvV D ca nx A r) (by decide +kernel) (Nat.le_of_ble_eq_true rfl) ?_
  intro p e s m args below meth c A hC hr hR ls hl
  obtain ⟨hx, hb, hml, hts, hown, hlocks, hXe, hA, hAb, hnm⟩ := id hC
  have hK := hXe.1
  have hl : lv_has ls 5 [(0, .ref v0)] := hl
  have hB46 : ∀ (k10 : Nat → Int32 → Int32 → Mem → Option (Mem)) (hk10 : ∀ (v1 : Nat) (v2 : Int32) (v3 : Int32) (M : Mem) (H : Heap) (locs : List Loc) (ls : Array Slot), k10 v1 v2 v3 M = some r → Hp D ca nx A s M H locs → lv_has ls 5 [(1, .ref v1), (2, .int v2), (3, .int v3)] → W p l e rm_X3_darken s m args below meth c H locs 0 0 (MQ below (cvV D ca nx A r) args s 0 0 A) (F0 m 10 ls [])) (v1 : Nat) (v2 : Int32) (v3 : Int32) (M : Mem) (H : Heap) (locs : List Loc) (ls : Array Slot), f_X3_darken_b46 k10 v1 v2 v3 M = some r → Hp D ca nx A s M H locs → lv_has ls 5 [(1, .ref v1), (2, .int v2), (3, .int v3)] → W p l e rm_X3_darken s m args below meth c H locs 0 0 (MQ below (cvV D ca nx A r) args s 0 0 A) (F0 m 46 ls []) := by
    intro k10 hk10 v1 v2 v3 M H locs ls hf hR hl
    unfold f_X3_darken_b46 at hf
    refine rg_iinc (pc := 46) hx hb dX3_darken_46 hl (k := 2) rfl rfl (by decide) hf (fun x1 ls hf hl => ?_)
    have hl : lv_has ls 5 [(3, .int x1), (1, .ref v1), (2, .int v2)] := hl
    refine lv_goto (pc := 49) (tgt := 10) hx hb dX3_darken_49 (by decide) ?_
    exact hk10 v1 v2 x1 M _ _ _ hf hR (lv_sub hl [1, 2, 0] rfl)
  have hB10 : ∀ (k10 : Nat → Int32 → Int32 → Mem → Option (Mem)) (hk10 : ∀ (v1 : Nat) (v2 : Int32) (v3 : Int32) (M : Mem) (H : Heap) (locs : List Loc) (ls : Array Slot), k10 v1 v2 v3 M = some r → Hp D ca nx A s M H locs → lv_has ls 5 [(1, .ref v1), (2, .int v2), (3, .int v3)] → W p l e rm_X3_darken s m args below meth c H locs 0 0 (MQ below (cvV D ca nx A r) args s 0 0 A) (F0 m 10 ls [])) (v1 : Nat) (v2 : Int32) (v3 : Int32) (M : Mem) (H : Heap) (locs : List Loc) (ls : Array Slot), f_X3_darken_b10 k10 v1 v2 v3 M = some r → Hp D ca nx A s M H locs → lv_has ls 5 [(1, .ref v1), (2, .int v2), (3, .int v3)] → W p l e rm_X3_darken s m args below meth c H locs 0 0 (MQ below (cvV D ca nx A r) args s 0 0 A) (F0 m 10 ls []) := by
    intro k10 hk10 v1 v2 v3 M H locs ls hf hR hl
    unfold f_X3_darken_b10 at hf
    refine lv_iload_n (pc := 10) hx hb dX3_darken_10 rfl (lv_at hl 2 rfl) ?_
    refine lv_iload_n (pc := 11) hx hb dX3_darken_11 rfl (lv_at hl 1 rfl) ?_
    refine lv_icmp_ge (pc := 12) (tgt := 52) hx hb dX3_darken_12 (by decide) (fun hc => ?_) (fun hc => ?_)
    · replace hf := it_t hf hc
      exact rg_vret (pc := 52) hx hb hlocks hr hf hR dX3_darken_52
    · replace hf := it_f hf hc
      refine lv_aload_n (pc := 15) hx hb dX3_darken_15 rfl (lv_at hl 0 rfl) ?_
      refine lv_iload_n (pc := 16) hx hb dX3_darken_16 rfl (lv_at hl 2 rfl) ?_
      refine rg_aald (pc := 17) (κ := 13) hx hb hK hR 3 rfl (by decide) dX3_darken_17 hf (fun a2 hf => ?_)
      refine lv_astore (pc := 18) (lv' := [(4, .ref a2), (1, .ref v1), (2, .int v2), (3, .int v3)]) hx hb dX3_darken_18 hl (by decide) rfl (fun ls hl => ?_)
      refine lv_aload (pc := 20) hx hb dX3_darken_20 (lv_at hl 0 rfl) ?_
      refine rg_get (pc := 22) (C := RX2) (T := TX2) (N := 7) (κ := 2) (v := .int (mm_i M a2 5)) hx hb hts hK hR hown in_2 rfl (by decide) 5 (by decide) m_120 rfl dX3_darken_22 hf (fun hf => ?_)
      refine lv_if_eq (pc := 25) (tgt := 46) hx hb dX3_darken_25 (by decide) (fun hc => ?_) (fun hc => ?_)
      · replace hf := it_t hf hc
        exact hB46 k10 hk10 v1 v2 v3 M _ _ _ hf hR (lv_sub hl [1, 2, 3] rfl)
      · replace hf := it_f hf hc
        refine lv_aload (pc := 28) hx hb dX3_darken_28 (lv_at hl 0 rfl) ?_
        refine lv_aload (pc := 30) hx hb dX3_darken_30 (lv_at hl 0 rfl) ?_
        refine rg_get (pc := 32) (C := RX2) (T := TX2) (N := 7) (κ := 2) (v := .int (mm_i M a2 4)) hx hb hts hK hR hown in_2 rfl (by decide) 4 (by decide) m_118 rfl dX3_darken_32 hf (fun hf => ?_)
        refine lv_iconst (pc := 35) (v := (1 : Int32)) hx hb dX3_darken_35 (by decide) ?_
        refine lv_iadd (pc := 36) hx hb dX3_darken_36 ?_
        refine lv_sipush (pc := 37) (v := (1000 : Int32)) hx hb dX3_darken_37 (by decide) ?_
        refine va_mmin (pc := 40) hx hb (hml.trans hl.1.symm) hown (hts _ m_422) (hts _ m_416) (hts _ m_14) (hts _ m_417) (Nat.le_of_ble_eq_true rfl) (Nat.le_of_ble_eq_true rfl) (Nat.le_of_ble_eq_true rfl) (Nat.le_of_ble_eq_true rfl) dX3_darken_40 ?_
        refine rg_puti (pc := 43) (C := RX2) (T := TX2) (N := 7) (κ := 2) hx hb hts hK hR hown in_2 rfl (by decide) 4 (by decide) m_118 tyX2 tyX2_ok nmX2 rfl rfl rfl rfl dX3_darken_43 hf (fun M3 H locs hf hR => ?_)
        exact hB46 k10 hk10 v1 v2 v3 M3 _ _ _ hf hR (lv_sub hl [1, 2, 3] rfl)
  have hL10 : ∀  (n : Nat) (v1 : Nat) (v2 : Int32) (v3 : Int32) (M : Mem) (H : Heap) (locs : List Loc) (ls : Array Slot), f_X3_darken_L10  n v1 v2 v3 M = some r → Hp D ca nx A s M H locs → lv_has ls 5 [(1, .ref v1), (2, .int v2), (3, .int v3)] → W p l e rm_X3_darken s m args below meth c H locs 0 0 (MQ below (cvV D ca nx A r) args s 0 0 A) (F0 m 10 ls []) := by
    intro  n
    induction n with
    | zero => intro v1 v2 v3 M H locs ls hf; exact nomatch (show (none : Option (Mem)) = some r from hf)
    | succ n ih => intro v1 v2 v3 M H locs ls hf hR hl; exact hB10  (f_X3_darken_L10  n) ih v1 v2 v3 M H locs ls hf hR hl
  unfold f_X3_darken at hf
  refine lv_aload_n (pc := 0) hx hb dX3_darken_0 rfl (lv_at hl 0 rfl) ?_
  refine rg_getr (pc := 1) (C := RX3) (T := TX3) (N := 7) (κ := 3) hx hb hts hK hR hown in_3 rfl (by decide) 2 (by decide) m_144 rfl dX3_darken_1 hf (fun a4 hf => ?_)
  refine lv_astore_n (pc := 4) (lv' := [(1, .ref a4), (0, .ref v0)]) hx hb dX3_darken_4 rfl hl (by decide) rfl (fun ls hl => ?_)
  refine lv_aload_n (pc := 5) hx hb dX3_darken_5 rfl (lv_at hl 0 rfl) ?_
  refine rg_alen (pc := 6) (κ := 13) hx hb hK hR 3 rfl (by decide) dX3_darken_6 hf (fun hf => ?_)
  refine nm_i hf (fun x5 hf => ?_)
  refine lv_istore_n (pc := 7) (lv' := [(2, .int x5), (1, .ref a4), (0, .ref v0)]) hx hb dX3_darken_7 rfl hl (by decide) rfl (fun ls hl => ?_)
  refine lv_iconst (pc := 8) (v := (0 : Int32)) hx hb dX3_darken_8 (by decide) ?_
  refine lv_istore_n (pc := 9) (lv' := [(3, .int (0 : Int32)), (2, .int x5), (1, .ref a4), (0, .ref v0)]) hx hb dX3_darken_9 rfl hl (by decide) rfl (fun ls hl => ?_)
  exact hL10 200 a4 x5 (0 : Int32) M _ _ _ hf hR (lv_sub hl [2, 1, 0] rfl)
-- X7_requireRange
def f_X7_requireRange_b10   (M : Mem) : Option (Mem × (Unit ⊕ Nat)) := some (M, .inr 0)
def f_X7_requireRange (v0 : Int32) (v1 : Int32) (v2 : Int32) (M : Mem) : Option (Mem × (Unit ⊕ Nat)) := if v0 < v1 then (f_X7_requireRange_b10  M) else (if v0 ≤ v2 then (some (M, .inl ())) else (f_X7_requireRange_b10  M))
abbrev rm_X7_requireRange : Room := { frames := 6, cells := 1, slots := 6, locals := 90 }
theorem hd_X7_requireRange : yX7_requireRange.cls ≠ "java/lang/invoke/MethodHandle" ∧ yX7_requireRange.cls ≠ "java/lang/invoke/VarHandle" ∧ (parseMethodDescriptor yX7_requireRange.desc).map (fun d => d.parameters.length) = some 3 := by decide +kernel
set_option maxHeartbeats 8000000 in
set_option maxRecDepth 100000 in
theorem c_X7_requireRange {l : Launch} (hlt : l.stackTraces = false) {D : va_G} {ca : Nat → ClassId} {b : Nat} {v0 : Int32} {v1 : Int32} {v2 : Int32} {M : Mem} {r : Mem × (Unit ⊕ Nat)} (hf : f_X7_requireRange v0 v1 v2 M = some r) : CxV l yX7_requireRange cX7_requireRange 3 none rm_X7_requireRange D ca b [.int v0, .int v1, .int v2] M r 1 6 := by
  intro sz
  refine bodyx_start (nx := false) (Qc := fun A => cxV D ca A r) (XC := fun A => cxX D ca A r) (by decide +kernel) (Nat.le_of_ble_eq_true rfl) ?_
  intro p e s m args below meth c A hC htab hr hR ls hl
  obtain ⟨hx, hb, hml, hts, hown, hlocks, hXe, hA, hAb, hnm⟩ := id hC
  have hK := hXe.1
  have hl : lv_has ls 3 [(0, .int v0), (1, .int v1), (2, .int v2)] := hl
  have hB10 : ∀   (M : Mem) (H : Heap) (locs : List Loc) (ls : Array Slot), f_X7_requireRange_b10   M = some r → Hp D ca false A s M H locs → lv_has ls 3 [] → W p l e rm_X7_requireRange s m args below meth c H locs 0 0 (vx_MQ below (cxV D ca A r) (cxX D ca A r) args s 1 6 A) (F0 m 10 ls []) := by
    intro   M H locs ls hf hR hl
    unfold f_X7_requireRange_b10 at hf
    exact rg_thrW (pc := 10) 0 (by decide) hC htab hlt hl.1 rfl m_264 (is := 264) (text := "an argument is out of its range") (by decide +kernel) hf hR dX7_requireRange_10 dX7_requireRange_13 dX7_requireRange_14 dX7_requireRange_17 dX7_requireRange_20 (Nat.le_of_ble_eq_true rfl) (Nat.le_of_ble_eq_true rfl) (Nat.le_of_ble_eq_true rfl) (Nat.le_of_ble_eq_true rfl) (by show 1 ≤ 1; decide) (by show 6 ≤ 6; decide)
  unfold f_X7_requireRange at hf
  refine lv_iload_n (pc := 0) hx hb dX7_requireRange_0 rfl (lv_at hl 0 rfl) ?_
  refine lv_iload_n (pc := 1) hx hb dX7_requireRange_1 rfl (lv_at hl 1 rfl) ?_
  refine lv_icmp_lt (pc := 2) (tgt := 10) hx hb dX7_requireRange_2 (by decide) (fun hc => ?_) (fun hc => ?_)
  · replace hf := it_t hf hc
    exact hB10  M _ _ _ hf hR (lv_sub hl [] rfl)
  · replace hf := it_f hf hc
    refine lv_iload_n (pc := 5) hx hb dX7_requireRange_5 rfl (lv_at hl 0 rfl) ?_
    refine lv_iload_n (pc := 6) hx hb dX7_requireRange_6 rfl (lv_at hl 2 rfl) ?_
    refine lv_icmp_le (pc := 7) (tgt := 21) hx hb dX7_requireRange_7 (by decide) (fun hc => ?_) (fun hc => ?_)
    · replace hf := it_t hf hc
      exact rg_xvret (pc := 21) hx hb hlocks hr hf hR (by show 0 ≤ 1; decide) (by show 0 ≤ 6; decide) dX7_requireRange_21
    · replace hf := it_f hf hc
      exact hB10  M _ _ _ hf hR (lv_sub hl [] rfl)
-- X7_requireLane
def f_X7_requireLane (v0 : Int32) (M : Mem) : Option (Mem × (Unit ⊕ Nat)) := bx (f_X7_requireRange v0 (0 : Int32) (63 : Int32) M) fun M1 _ => some (M1, .inl ())
abbrev rm_X7_requireLane : Room := { frames := 7, cells := 1, slots := 6, locals := 112 }
theorem hd_X7_requireLane : yX7_requireLane.cls ≠ "java/lang/invoke/MethodHandle" ∧ yX7_requireLane.cls ≠ "java/lang/invoke/VarHandle" ∧ (parseMethodDescriptor yX7_requireLane.desc).map (fun d => d.parameters.length) = some 1 := by decide +kernel
set_option maxHeartbeats 8000000 in
set_option maxRecDepth 100000 in
theorem c_X7_requireLane {l : Launch} (hlt : l.stackTraces = false) {D : va_G} {ca : Nat → ClassId} {b : Nat} {v0 : Int32} {M : Mem} {r : Mem × (Unit ⊕ Nat)} (hf : f_X7_requireLane v0 M = some r) : CxV l yX7_requireLane cX7_requireLane 1 none rm_X7_requireLane D ca b [.int v0] M r 1 6 := by
  intro sz
  refine bodyx_start (nx := false) (Qc := fun A => cxV D ca A r) (XC := fun A => cxX D ca A r) (by decide +kernel) (Nat.le_of_ble_eq_true rfl) ?_
  intro p e s m args below meth c A hC htab hr hR ls hl
  obtain ⟨hx, hb, hml, hts, hown, hlocks, hXe, hA, hAb, hnm⟩ := id hC
  have hK := hXe.1
  have hl : lv_has ls 1 [(0, .int v0)] := hl
  unfold f_X7_requireLane at hf
  refine lv_iload_n (pc := 0) hx hb dX7_requireLane_0 rfl (lv_at hl 0 rfl) ?_
  refine lv_iconst (pc := 1) (v := (0 : Int32)) hx hb dX7_requireLane_1 (by decide) ?_
  refine lv_bipush (pc := 2) (v := (63 : Int32)) hx hb dX7_requireLane_2 (by decide) ?_
  refine rg_xV (pc := 4) hf hR hA htab hlocks (by show 1 ≤ 1; decide) (by show 6 ≤ 6; decide) (fun z hz => xn_S (As := [.int v0, .int (0 : Int32), .int (63 : Int32)]) (rest := []) hC hR (c_X7_requireRange hlt hz _) m_261 m_262 m_1 m_263 hd_X7_requireRange ⟨rfl, rfl, Nat.le_of_ble_eq_true rfl, Nat.le_of_ble_eq_true rfl⟩ rfl hl.1 rfl (Nat.le_of_ble_eq_true rfl) dX7_requireLane_4 ⟨Nat.le_of_ble_eq_true rfl, Nat.le_of_ble_eq_true rfl⟩) (fun M1 H locs hf hR => ?_)
  exact rg_xvret (pc := 7) hx hb hlocks hr hf hR (by show 1 ≤ 1; decide) (by show 6 ≤ 6; decide) dX7_requireLane_7
-- X7_requirePlace
def f_X7_requirePlace (v0 : Int32) (v1 : Int32) (v2 : Int32) (M : Mem) : Option (Mem × (Unit ⊕ Nat)) := bx (f_X7_requireLane v0 M) fun M1 _ => bx (f_X7_requireRange v1 (0 : Int32) (35999 : Int32) M1) fun M3 _ => bx (f_X7_requireRange v2 (1 : Int32) (10000 : Int32) M3) fun M5 _ => some (M5, .inl ())
abbrev rm_X7_requirePlace : Room := { frames := 8, cells := 3, slots := 18, locals := 132 }
theorem hd_X7_requirePlace : yX7_requirePlace.cls ≠ "java/lang/invoke/MethodHandle" ∧ yX7_requirePlace.cls ≠ "java/lang/invoke/VarHandle" ∧ (parseMethodDescriptor yX7_requirePlace.desc).map (fun d => d.parameters.length) = some 3 := by decide +kernel
set_option maxHeartbeats 8000000 in
set_option maxRecDepth 100000 in
theorem c_X7_requirePlace {l : Launch} (hlt : l.stackTraces = false) {D : va_G} {ca : Nat → ClassId} {b : Nat} {v0 : Int32} {v1 : Int32} {v2 : Int32} {M : Mem} {r : Mem × (Unit ⊕ Nat)} (hf : f_X7_requirePlace v0 v1 v2 M = some r) : CxV l yX7_requirePlace cX7_requirePlace 3 none rm_X7_requirePlace D ca b [.int v0, .int v1, .int v2] M r 3 18 := by
  intro sz
  refine bodyx_start (nx := false) (Qc := fun A => cxV D ca A r) (XC := fun A => cxX D ca A r) (by decide +kernel) (Nat.le_of_ble_eq_true rfl) ?_
  intro p e s m args below meth c A hC htab hr hR ls hl
  obtain ⟨hx, hb, hml, hts, hown, hlocks, hXe, hA, hAb, hnm⟩ := id hC
  have hK := hXe.1
  have hl : lv_has ls 3 [(0, .int v0), (1, .int v1), (2, .int v2)] := hl
  unfold f_X7_requirePlace at hf
  refine lv_iload_n (pc := 0) hx hb dX7_requirePlace_0 rfl (lv_at hl 0 rfl) ?_
  refine rg_xV (pc := 1) hf hR hA htab hlocks (by show 1 ≤ 3; decide) (by show 6 ≤ 18; decide) (fun z hz => xn_S (As := [.int v0]) (rest := []) hC hR (c_X7_requireLane hlt hz _) m_258 m_259 m_1 m_260 hd_X7_requireLane ⟨rfl, rfl, Nat.le_of_ble_eq_true rfl, Nat.le_of_ble_eq_true rfl⟩ rfl hl.1 rfl (Nat.le_of_ble_eq_true rfl) dX7_requirePlace_1 ⟨Nat.le_of_ble_eq_true rfl, Nat.le_of_ble_eq_true rfl⟩) (fun M1 H locs hf hR => ?_)
  refine lv_iload_n (pc := 4) hx hb dX7_requirePlace_4 rfl (lv_at hl 1 rfl) ?_
  refine lv_iconst (pc := 5) (v := (0 : Int32)) hx hb dX7_requirePlace_5 (by decide) ?_
  refine lv_ldcw (pc := 6) hx hb hown (hts _ m_332) dX7_requirePlace_6 ?_
  refine rg_xV (pc := 9) hf hR hA htab hlocks (by show 2 ≤ 3; decide) (by show 12 ≤ 18; decide) (fun z hz => xn_S (As := [.int v1, .int (0 : Int32), .int (35999 : Int32)]) (rest := []) hC hR (c_X7_requireRange hlt hz _) m_261 m_262 m_1 m_263 hd_X7_requireRange ⟨rfl, rfl, Nat.le_of_ble_eq_true rfl, Nat.le_of_ble_eq_true rfl⟩ rfl hl.1 rfl (Nat.le_of_ble_eq_true rfl) dX7_requirePlace_9 ⟨Nat.le_of_ble_eq_true rfl, Nat.le_of_ble_eq_true rfl⟩) (fun M3 H locs hf hR => ?_)
  refine lv_iload_n (pc := 12) hx hb dX7_requirePlace_12 rfl (lv_at hl 2 rfl) ?_
  refine lv_iconst (pc := 13) (v := (1 : Int32)) hx hb dX7_requirePlace_13 (by decide) ?_
  refine lv_sipush (pc := 14) (v := (10000 : Int32)) hx hb dX7_requirePlace_14 (by decide) ?_
  refine rg_xV (pc := 17) hf hR hA htab hlocks (by show 3 ≤ 3; decide) (by show 18 ≤ 18; decide) (fun z hz => xn_S (As := [.int v2, .int (1 : Int32), .int (10000 : Int32)]) (rest := []) hC hR (c_X7_requireRange hlt hz _) m_261 m_262 m_1 m_263 hd_X7_requireRange ⟨rfl, rfl, Nat.le_of_ble_eq_true rfl, Nat.le_of_ble_eq_true rfl⟩ rfl hl.1 rfl (Nat.le_of_ble_eq_true rfl) dX7_requirePlace_17 ⟨Nat.le_of_ble_eq_true rfl, Nat.le_of_ble_eq_true rfl⟩) (fun M5 H locs hf hR => ?_)
  exact rg_xvret (pc := 20) hx hb hlocks hr hf hR (by show 3 ≤ 3; decide) (by show 18 ≤ 18; decide) dX7_requirePlace_20
-- X7_grain
def f_X7_grain (v0 : Nat) (v1 : Int32) (v2 : Int32) (v3 : Int32) (v4 : Int32) (M : Mem) : Option (Mem × (Int32 ⊕ Nat)) := bx (f_X7_requirePlace v1 v2 v3 M) fun M1 _ => bx (f_X7_requireRange v4 (0 : Int32) (99 : Int32) M1) fun M3 _ => gd (M3.1 v0 = 7) <| rd (mm_r M3 v0 0) fun a5 => gd (M3.1 a5 = 3) <| if (mm_i M3 a5 3) < (80 : Int32) then (gd (M3.1 v0 = 7) <| rd (mm_r M3 v0 0) fun a6 => gd (M3.1 a6 = 3) <| bd (f_X3_put a6 v1 v2 v3 v4 M3) fun z7 => some (z7.1, .inl z7.2)) else (some (M3, .inr 1))
abbrev rm_X7_grain : Room := { frames := 9, cells := 5, slots := 30, locals := 154 }
theorem hd_X7_grain : yX7_grain.cls ≠ "java/lang/invoke/MethodHandle" ∧ yX7_grain.cls ≠ "java/lang/invoke/VarHandle" ∧ (parseMethodDescriptor yX7_grain.desc).map (fun d => d.parameters.length) = some 4 := by decide +kernel
set_option maxHeartbeats 8000000 in
set_option maxRecDepth 100000 in
theorem c_X7_grain {l : Launch} (hlt : l.stackTraces = false) {D : va_G} {ca : Nat → ClassId} {b : Nat} {v0 : Nat} {v1 : Int32} {v2 : Int32} {v3 : Int32} {v4 : Int32} {M : Mem} {r : Mem × (Int32 ⊕ Nat)} (hf : f_X7_grain v0 v1 v2 v3 v4 M = some r) : CxI l yX7_grain cX7_grain 5 (some .int) rm_X7_grain D ca b [.ref v0, .int v1, .int v2, .int v3, .int v4] M r 5 30 := by
  intro sz
  refine bodyx_start (nx := false) (Qc := fun A => cxI D ca A r) (XC := fun A => cxX D ca A r) (by decide +kernel) (Nat.le_of_ble_eq_true rfl) ?_
  intro p e s m args below meth c A hC htab hr hR ls hl
  obtain ⟨hx, hb, hml, hts, hown, hlocks, hXe, hA, hAb, hnm⟩ := id hC
  have hK := hXe.1
  have hl : lv_has ls 5 [(0, .ref v0), (1, .int v1), (2, .int v2), (3, .int v3), (4, .int v4)] := hl
  unfold f_X7_grain at hf
  refine lv_iload_n (pc := 0) hx hb dX7_grain_0 rfl (lv_at hl 1 rfl) ?_
  refine lv_iload_n (pc := 1) hx hb dX7_grain_1 rfl (lv_at hl 2 rfl) ?_
  refine lv_iload_n (pc := 2) hx hb dX7_grain_2 rfl (lv_at hl 3 rfl) ?_
  refine rg_xV (pc := 3) hf hR hA htab hlocks (by show 3 ≤ 5; decide) (by show 18 ≤ 30; decide) (fun z hz => xn_S (As := [.int v1, .int v2, .int v3]) (rest := []) hC hR (c_X7_requirePlace hlt hz _) m_255 m_256 m_1 m_257 hd_X7_requirePlace ⟨rfl, rfl, Nat.le_of_ble_eq_true rfl, Nat.le_of_ble_eq_true rfl⟩ rfl hl.1 rfl (Nat.le_of_ble_eq_true rfl) dX7_grain_3 ⟨Nat.le_of_ble_eq_true rfl, Nat.le_of_ble_eq_true rfl⟩) (fun M1 H locs hf hR => ?_)
  refine lv_iload (pc := 6) hx hb dX7_grain_6 (lv_at hl 4 rfl) ?_
  refine lv_iconst (pc := 8) (v := (0 : Int32)) hx hb dX7_grain_8 (by decide) ?_
  refine lv_bipush (pc := 9) (v := (99 : Int32)) hx hb dX7_grain_9 (by decide) ?_
  refine rg_xV (pc := 11) hf hR hA htab hlocks (by show 4 ≤ 5; decide) (by show 24 ≤ 30; decide) (fun z hz => xn_S (As := [.int v4, .int (0 : Int32), .int (99 : Int32)]) (rest := []) hC hR (c_X7_requireRange hlt hz _) m_261 m_262 m_1 m_263 hd_X7_requireRange ⟨rfl, rfl, Nat.le_of_ble_eq_true rfl, Nat.le_of_ble_eq_true rfl⟩ rfl hl.1 rfl (Nat.le_of_ble_eq_true rfl) dX7_grain_11 ⟨Nat.le_of_ble_eq_true rfl, Nat.le_of_ble_eq_true rfl⟩) (fun M3 H locs hf hR => ?_)
  refine lv_aload_n (pc := 14) hx hb dX7_grain_14 rfl (lv_at hl 0 rfl) ?_
  refine rg_getr (pc := 15) (C := RX7) (T := TX7) (N := 11) (κ := 7) hx hb hts hK hR hown in_7 rfl (by decide) 0 (by decide) m_219 rfl dX7_grain_15 hf (fun a5 hf => ?_)
  refine rg_get (pc := 18) (C := RX3) (T := TX3) (N := 7) (κ := 3) (v := .int (mm_i M3 a5 3)) hx hb hts hK hR hown in_3 rfl (by decide) 3 (by decide) m_147 rfl dX7_grain_18 hf (fun hf => ?_)
  refine lv_bipush (pc := 21) (v := (80 : Int32)) hx hb dX7_grain_21 (by decide) ?_
  refine lv_icmp_lt (pc := 23) (tgt := 36) hx hb dX7_grain_23 (by decide) (fun hc => ?_) (fun hc => ?_)
  · replace hf := it_t hf hc
    refine lv_aload_n (pc := 36) hx hb dX7_grain_36 rfl (lv_at hl 0 rfl) ?_
    refine rg_getr (pc := 37) (C := RX7) (T := TX7) (N := 11) (κ := 7) hx hb hts hK hR hown in_7 rfl (by decide) 0 (by decide) m_219 rfl dX7_grain_37 hf (fun a6 hf => ?_)
    refine lv_iload_n (pc := 40) hx hb dX7_grain_40 rfl (lv_at hl 1 rfl) ?_
    refine lv_iload_n (pc := 41) hx hb dX7_grain_41 rfl (lv_at hl 2 rfl) ?_
    refine lv_iload_n (pc := 42) hx hb dX7_grain_42 rfl (lv_at hl 3 rfl) ?_
    refine lv_iload (pc := 43) hx hb dX7_grain_43 (lv_at hl 4 rfl) ?_
    obtain ⟨hq, hf⟩ := gd_e hf
    refine rg_I (pc := 45) hf hR hA (fun z hz => rn_V (κ := 3) (As := [.int v1, .int v2, .int v3, .int v4]) (rest := []) hC hR rfl (by decide) hq (c_X3_put  hz _) m_349 m_350 m_351 m_2 m_352 hd_X3_put ⟨rfl, rfl, Nat.le_of_ble_eq_true rfl, Nat.le_of_ble_eq_true rfl⟩ rfl hl.1 rfl (Nat.le_of_ble_eq_true rfl) dX7_grain_45 ⟨Nat.le_of_ble_eq_true rfl, Nat.le_of_ble_eq_true rfl⟩) (fun z7 H locs hf hR => ?_)
    exact rg_xiret (pc := 48) hx hb hlocks hr hf hR (by show 4 ≤ 5; decide) (by show 24 ≤ 30; decide) dX7_grain_48
  · replace hf := it_f hf hc
    exact rg_thr (pc := 26) 1 (by decide) hC htab hlt hl.1 rfl m_333 (is := 60) (text := "there were 80 grains") (by decide +kernel) hf hR dX7_grain_26 dX7_grain_29 dX7_grain_30 dX7_grain_32 dX7_grain_35 (Nat.le_of_ble_eq_true rfl) (Nat.le_of_ble_eq_true rfl) (Nat.le_of_ble_eq_true rfl) (Nat.le_of_ble_eq_true rfl) (by show 5 ≤ 5; decide) (by show 30 ≤ 30; decide)
-- X7_widthOf
def f_X7_widthOf_b25  (v1 : Int32) (M : Mem) : Option (Mem × Int32) := some (M, (v1 / (20 : Int32)))
def f_X7_widthOf_b4 (k4 : Int32 → Int32 → Int32 → Mem → Option (Mem × Int32)) (v0 : Int32) (v1 : Int32) (v2 : Int32) (M : Mem) : Option (Mem × Int32) := if (100 : Int32) < v2 then (f_X7_widthOf_b25 v1 M) else (if v0 < (v2 * v2) then (f_X7_widthOf_b25 v1 M) else (lt_ (v2 + (1 : Int32)) fun x1 => k4 v0 v2 x1 M))
def f_X7_widthOf_L4  : Nat → Int32 → Int32 → Int32 → Mem → Option (Mem × Int32)
  | 0 => fun _ _ _ _ => none
  | n + 1 => f_X7_widthOf_b4  (f_X7_widthOf_L4  n)
def f_X7_widthOf (v0 : Int32) (M : Mem) : Option (Mem × Int32) := f_X7_widthOf_L4 200 v0 (0 : Int32) (1 : Int32) M
abbrev rm_X7_widthOf : Room := { frames := 0, cells := 0, slots := 0, locals := 0 }
theorem hd_X7_widthOf : yX7_widthOf.cls ≠ "java/lang/invoke/MethodHandle" ∧ yX7_widthOf.cls ≠ "java/lang/invoke/VarHandle" ∧ (parseMethodDescriptor yX7_widthOf.desc).map (fun d => d.parameters.length) = some 1 := by decide +kernel
set_option maxHeartbeats 8000000 in
set_option maxRecDepth 100000 in
theorem c_X7_widthOf {l : Launch} {D : va_G} {ca : Nat → ClassId} {b : Nat} {nx : Bool} {v0 : Int32} {M : Mem} {r : Mem × Int32} (hf : f_X7_widthOf v0 M = some r) : CtI l yX7_widthOf cX7_widthOf 3 (some .int) rm_X7_widthOf D ca b nx [.int v0] M r := by
  intro sz
  refine body_start (Qc := fun A => cvI D ca nx A r) (by decide +kernel) (Nat.le_of_ble_eq_true rfl) ?_
  intro p e s m args below meth c A hC hr hR ls hl
  obtain ⟨hx, hb, hml, hts, hown, hlocks, hXe, hA, hAb, hnm⟩ := id hC
  have hK := hXe.1
  have hl : lv_has ls 3 [(0, .int v0)] := hl
  have hB25 : ∀  (v1 : Int32) (M : Mem) (H : Heap) (locs : List Loc) (ls : Array Slot), f_X7_widthOf_b25  v1 M = some r → Hp D ca nx A s M H locs → lv_has ls 3 [(1, .int v1)] → W p l e rm_X7_widthOf s m args below meth c H locs 0 0 (MQ below (cvI D ca nx A r) args s 0 0 A) (F0 m 25 ls []) := by
    intro  v1 M H locs ls hf hR hl
    unfold f_X7_widthOf_b25 at hf
    refine lv_iload_n (pc := 25) hx hb dX7_widthOf_25 rfl (lv_at hl 0 rfl) ?_
    refine lv_bipush (pc := 26) (v := (20 : Int32)) hx hb dX7_widthOf_26 (by decide) ?_
    refine lv_idiv (pc := 28) hx hb dX7_widthOf_28 (by decide) ?_
    exact rg_iret (pc := 29) hx hb hlocks hr hf hR dX7_widthOf_29
  have hB4 : ∀ (k4 : Int32 → Int32 → Int32 → Mem → Option (Mem × Int32)) (hk4 : ∀ (v0 : Int32) (v1 : Int32) (v2 : Int32) (M : Mem) (H : Heap) (locs : List Loc) (ls : Array Slot), k4 v0 v1 v2 M = some r → Hp D ca nx A s M H locs → lv_has ls 3 [(0, .int v0), (1, .int v1), (2, .int v2)] → W p l e rm_X7_widthOf s m args below meth c H locs 0 0 (MQ below (cvI D ca nx A r) args s 0 0 A) (F0 m 4 ls [])) (v0 : Int32) (v1 : Int32) (v2 : Int32) (M : Mem) (H : Heap) (locs : List Loc) (ls : Array Slot), f_X7_widthOf_b4 k4 v0 v1 v2 M = some r → Hp D ca nx A s M H locs → lv_has ls 3 [(0, .int v0), (1, .int v1), (2, .int v2)] → W p l e rm_X7_widthOf s m args below meth c H locs 0 0 (MQ below (cvI D ca nx A r) args s 0 0 A) (F0 m 4 ls []) := by
    intro k4 hk4 v0 v1 v2 M H locs ls hf hR hl
    unfold f_X7_widthOf_b4 at hf
    refine lv_iload_n (pc := 4) hx hb dX7_widthOf_4 rfl (lv_at hl 2 rfl) ?_
    refine lv_bipush (pc := 5) (v := (100 : Int32)) hx hb dX7_widthOf_5 (by decide) ?_
    refine lv_icmp_gt (pc := 7) (tgt := 25) hx hb dX7_widthOf_7 (by decide) (fun hc => ?_) (fun hc => ?_)
    · replace hf := it_t hf hc
      exact hB25 v1 M _ _ _ hf hR (lv_sub hl [1] rfl)
    · replace hf := it_f hf hc
      refine lv_iload_n (pc := 10) hx hb dX7_widthOf_10 rfl (lv_at hl 2 rfl) ?_
      refine lv_iload_n (pc := 11) hx hb dX7_widthOf_11 rfl (lv_at hl 2 rfl) ?_
      refine lv_imul (pc := 12) hx hb dX7_widthOf_12 ?_
      refine lv_iload_n (pc := 13) hx hb dX7_widthOf_13 rfl (lv_at hl 0 rfl) ?_
      refine lv_icmp_gt (pc := 14) (tgt := 25) hx hb dX7_widthOf_14 (by decide) (fun hc => ?_) (fun hc => ?_)
      · replace hf := it_t hf hc
        exact hB25 v1 M _ _ _ hf hR (lv_sub hl [1] rfl)
      · replace hf := it_f hf hc
        refine lv_iload_n (pc := 17) hx hb dX7_widthOf_17 rfl (lv_at hl 2 rfl) ?_
        refine lv_istore_n (pc := 18) (lv' := [(1, .int v2), (0, .int v0), (2, .int v2)]) hx hb dX7_widthOf_18 rfl hl (by decide) rfl (fun ls hl => ?_)
        refine rg_iinc (pc := 19) hx hb dX7_widthOf_19 hl (k := 2) rfl rfl (by decide) hf (fun x1 ls hf hl => ?_)
        have hl : lv_has ls 3 [(2, .int x1), (1, .int v2), (0, .int v0)] := hl
        refine lv_goto (pc := 22) (tgt := 4) hx hb dX7_widthOf_22 (by decide) ?_
        exact hk4 v0 v2 x1 M _ _ _ hf hR (lv_sub hl [2, 1, 0] rfl)
  have hL4 : ∀  (n : Nat) (v0 : Int32) (v1 : Int32) (v2 : Int32) (M : Mem) (H : Heap) (locs : List Loc) (ls : Array Slot), f_X7_widthOf_L4  n v0 v1 v2 M = some r → Hp D ca nx A s M H locs → lv_has ls 3 [(0, .int v0), (1, .int v1), (2, .int v2)] → W p l e rm_X7_widthOf s m args below meth c H locs 0 0 (MQ below (cvI D ca nx A r) args s 0 0 A) (F0 m 4 ls []) := by
    intro  n
    induction n with
    | zero => intro v0 v1 v2 M H locs ls hf; exact nomatch (show (none : Option (Mem × Int32)) = some r from hf)
    | succ n ih => intro v0 v1 v2 M H locs ls hf hR hl; exact hB4  (f_X7_widthOf_L4  n) ih v0 v1 v2 M H locs ls hf hR hl
  unfold f_X7_widthOf at hf
  refine lv_iconst (pc := 0) (v := (0 : Int32)) hx hb dX7_widthOf_0 (by decide) ?_
  refine lv_istore_n (pc := 1) (lv' := [(1, .int (0 : Int32)), (0, .int v0)]) hx hb dX7_widthOf_1 rfl hl (by decide) rfl (fun ls hl => ?_)
  refine lv_iconst (pc := 2) (v := (1 : Int32)) hx hb dX7_widthOf_2 (by decide) ?_
  refine lv_istore_n (pc := 3) (lv' := [(2, .int (1 : Int32)), (1, .int (0 : Int32)), (0, .int v0)]) hx hb dX7_widthOf_3 rfl hl (by decide) rfl (fun ls hl => ?_)
  exact hL4 200 v0 (0 : Int32) (1 : Int32) M _ _ _ hf hR (lv_sub hl [2, 1, 0] rfl)
-- X7_moon
def f_X7_moon (v0 : Nat) (v1 : Int32) (v2 : Int32) (v3 : Int32) (M : Mem) : Option (Mem × (Int32 ⊕ Nat)) := bx (f_X7_requirePlace v1 v2 v3 M) fun M1 _ => gd (M1.1 v0 = 7) <| if (mm_i M1 v0 2) < (6 : Int32) then (gd (M1.1 v0 = 7) <| rd (mm_r M1 v0 1) fun a3 => gd (M1.1 v0 = 7) <| gd (M1.1 a3 = 14 ∧ vi_ (mm_i M1 v0 2) (mm_N M1 a3)) <| rd (mm_r M1 a3 ((mm_i M1 v0 2)).toNatClampNeg) fun a4 => gd (M1.1 a4 = 5) <| lt_ (ms_i M1 a4 0 v1) fun M5 => gd (M5.1 a4 = 5) <| lt_ (ms_i M5 a4 1 v2) fun M6 => bd (f_X7_widthOf v3 M6) fun z7 => gd (z7.1.1 a4 = 5) <| lt_ (ms_i z7.1 a4 2 z7.2) fun M8 => gd (M8.1 v0 = 7) <| gd (M8.1 v0 = 7) <| lt_ (ms_i M8 v0 2 ((mm_i M8 v0 2) + (1 : Int32))) fun M9 => gd (M9.1 v0 = 7) <| some (M9, .inl ((mm_i M9 v0 2) - (1 : Int32)))) else (some (M1, .inr 1))
abbrev rm_X7_moon : Room := { frames := 9, cells := 4, slots := 24, locals := 154 }
theorem hd_X7_moon : yX7_moon.cls ≠ "java/lang/invoke/MethodHandle" ∧ yX7_moon.cls ≠ "java/lang/invoke/VarHandle" ∧ (parseMethodDescriptor yX7_moon.desc).map (fun d => d.parameters.length) = some 3 := by decide +kernel
set_option maxHeartbeats 8000000 in
set_option maxRecDepth 100000 in
theorem c_X7_moon {l : Launch} (hlt : l.stackTraces = false) {D : va_G} {ca : Nat → ClassId} {b : Nat} {v0 : Nat} {v1 : Int32} {v2 : Int32} {v3 : Int32} {M : Mem} {r : Mem × (Int32 ⊕ Nat)} (hf : f_X7_moon v0 v1 v2 v3 M = some r) : CxI l yX7_moon cX7_moon 5 (some .int) rm_X7_moon D ca b [.ref v0, .int v1, .int v2, .int v3] M r 4 24 := by
  intro sz
  refine bodyx_start (nx := false) (Qc := fun A => cxI D ca A r) (XC := fun A => cxX D ca A r) (by decide +kernel) (Nat.le_of_ble_eq_true rfl) ?_
  intro p e s m args below meth c A hC htab hr hR ls hl
  obtain ⟨hx, hb, hml, hts, hown, hlocks, hXe, hA, hAb, hnm⟩ := id hC
  have hK := hXe.1
  have hl : lv_has ls 5 [(0, .ref v0), (1, .int v1), (2, .int v2), (3, .int v3)] := hl
  unfold f_X7_moon at hf
  refine lv_iload_n (pc := 0) hx hb dX7_moon_0 rfl (lv_at hl 1 rfl) ?_
  refine lv_iload_n (pc := 1) hx hb dX7_moon_1 rfl (lv_at hl 2 rfl) ?_
  refine lv_iload_n (pc := 2) hx hb dX7_moon_2 rfl (lv_at hl 3 rfl) ?_
  refine rg_xV (pc := 3) hf hR hA htab hlocks (by show 3 ≤ 4; decide) (by show 18 ≤ 24; decide) (fun z hz => xn_S (As := [.int v1, .int v2, .int v3]) (rest := []) hC hR (c_X7_requirePlace hlt hz _) m_255 m_256 m_1 m_257 hd_X7_requirePlace ⟨rfl, rfl, Nat.le_of_ble_eq_true rfl, Nat.le_of_ble_eq_true rfl⟩ rfl hl.1 rfl (Nat.le_of_ble_eq_true rfl) dX7_moon_3 ⟨Nat.le_of_ble_eq_true rfl, Nat.le_of_ble_eq_true rfl⟩) (fun M1 H locs hf hR => ?_)
  refine lv_aload_n (pc := 6) hx hb dX7_moon_6 rfl (lv_at hl 0 rfl) ?_
  refine rg_get (pc := 7) (C := RX7) (T := TX7) (N := 11) (κ := 7) (v := .int (mm_i M1 v0 2)) hx hb hts hK hR hown in_7 rfl (by decide) 2 (by decide) m_221 rfl dX7_moon_7 hf (fun hf => ?_)
  refine lv_bipush (pc := 10) (v := (6 : Int32)) hx hb dX7_moon_10 (by decide) ?_
  refine lv_icmp_lt (pc := 12) (tgt := 25) hx hb dX7_moon_12 (by decide) (fun hc => ?_) (fun hc => ?_)
  · replace hf := it_t hf hc
    refine lv_aload_n (pc := 25) hx hb dX7_moon_25 rfl (lv_at hl 0 rfl) ?_
    refine rg_getr (pc := 26) (C := RX7) (T := TX7) (N := 11) (κ := 7) hx hb hts hK hR hown in_7 rfl (by decide) 1 (by decide) m_220 rfl dX7_moon_26 hf (fun a3 hf => ?_)
    refine lv_aload_n (pc := 29) hx hb dX7_moon_29 rfl (lv_at hl 0 rfl) ?_
    refine rg_get (pc := 30) (C := RX7) (T := TX7) (N := 11) (κ := 7) (v := .int (mm_i M1 v0 2)) hx hb hts hK hR hown in_7 rfl (by decide) 2 (by decide) m_221 rfl dX7_moon_30 hf (fun hf => ?_)
    refine rg_aald (pc := 33) (κ := 14) hx hb hK hR 4 rfl (by decide) dX7_moon_33 hf (fun a4 hf => ?_)
    refine lv_astore (pc := 34) (lv' := [(4, .ref a4), (0, .ref v0), (1, .int v1), (2, .int v2), (3, .int v3)]) hx hb dX7_moon_34 hl (by decide) rfl (fun ls hl => ?_)
    refine lv_aload (pc := 36) hx hb dX7_moon_36 (lv_at hl 0 rfl) ?_
    refine lv_iload_n (pc := 38) hx hb dX7_moon_38 rfl (lv_at hl 2 rfl) ?_
    refine rg_puti (pc := 39) (C := RX5) (T := TX5) (N := 3) (κ := 5) hx hb hts hK hR hown in_5 rfl (by decide) 0 (by decide) m_176 tyX5 tyX5_ok nmX5 rfl rfl rfl rfl dX7_moon_39 hf (fun M5 H locs hf hR => ?_)
    refine lv_aload (pc := 42) hx hb dX7_moon_42 (lv_at hl 0 rfl) ?_
    refine lv_iload_n (pc := 44) hx hb dX7_moon_44 rfl (lv_at hl 3 rfl) ?_
    refine rg_puti (pc := 45) (C := RX5) (T := TX5) (N := 3) (κ := 5) hx hb hts hK hR hown in_5 rfl (by decide) 1 (by decide) m_178 tyX5 tyX5_ok nmX5 rfl rfl rfl rfl dX7_moon_45 hf (fun M6 H locs hf hR => ?_)
    refine lv_aload (pc := 48) hx hb dX7_moon_48 (lv_at hl 0 rfl) ?_
    refine lv_iload_n (pc := 50) hx hb dX7_moon_50 rfl (lv_at hl 4 rfl) ?_
    refine rg_I (pc := 51) hf hR hA (fun z hz => rn_S (As := [.int v3]) (rest := [.ref a4]) hC hR (c_X7_widthOf  hz _) m_362 m_363 m_1 m_364 hd_X7_widthOf ⟨rfl, rfl, Nat.le_of_ble_eq_true rfl, Nat.le_of_ble_eq_true rfl⟩ rfl hl.1 rfl (Nat.le_of_ble_eq_true rfl) dX7_moon_51 ⟨Nat.le_of_ble_eq_true rfl, Nat.le_of_ble_eq_true rfl⟩) (fun z7 H locs hf hR => ?_)
    refine rg_puti (pc := 54) (C := RX5) (T := TX5) (N := 3) (κ := 5) hx hb hts hK hR hown in_5 rfl (by decide) 2 (by decide) m_180 tyX5 tyX5_ok nmX5 rfl rfl rfl rfl dX7_moon_54 hf (fun M8 H locs hf hR => ?_)
    refine lv_aload_n (pc := 57) hx hb dX7_moon_57 rfl (lv_at hl 1 rfl) ?_
    refine lv_dup (pc := 58) hx hb dX7_moon_58 rfl ?_
    refine rg_get (pc := 59) (C := RX7) (T := TX7) (N := 11) (κ := 7) (v := .int (mm_i M8 v0 2)) hx hb hts hK hR hown in_7 rfl (by decide) 2 (by decide) m_221 rfl dX7_moon_59 hf (fun hf => ?_)
    refine lv_iconst (pc := 62) (v := (1 : Int32)) hx hb dX7_moon_62 (by decide) ?_
    refine lv_iadd (pc := 63) hx hb dX7_moon_63 ?_
    refine rg_puti (pc := 64) (C := RX7) (T := TX7) (N := 11) (κ := 7) hx hb hts hK hR hown in_7 rfl (by decide) 2 (by decide) m_221 tyX7 tyX7_ok nmX7 rfl rfl rfl rfl dX7_moon_64 hf (fun M9 H locs hf hR => ?_)
    refine lv_aload_n (pc := 67) hx hb dX7_moon_67 rfl (lv_at hl 1 rfl) ?_
    refine rg_get (pc := 68) (C := RX7) (T := TX7) (N := 11) (κ := 7) (v := .int (mm_i M9 v0 2)) hx hb hts hK hR hown in_7 rfl (by decide) 2 (by decide) m_221 rfl dX7_moon_68 hf (fun hf => ?_)
    refine lv_iconst (pc := 71) (v := (1 : Int32)) hx hb dX7_moon_71 (by decide) ?_
    refine lv_isub (pc := 72) hx hb dX7_moon_72 ?_
    exact rg_xiret (pc := 73) hx hb hlocks hr hf hR (by show 3 ≤ 4; decide) (by show 18 ≤ 24; decide) dX7_moon_73
  · replace hf := it_f hf hc
    exact rg_thr (pc := 15) 1 (by decide) hC htab hlt hl.1 rfl m_333 (is := 72) (text := "there are 6 moons") (by decide +kernel) hf hR dX7_moon_15 dX7_moon_18 dX7_moon_19 dX7_moon_21 dX7_moon_24 (Nat.le_of_ble_eq_true rfl) (Nat.le_of_ble_eq_true rfl) (Nat.le_of_ble_eq_true rfl) (Nat.le_of_ble_eq_true rfl) (by show 4 ≤ 4; decide) (by show 24 ≤ 24; decide)
-- X7_flatness
def f_X7_flatness (v0 : Nat) (v1 : Int32) (M : Mem) : Option (Mem × (Int32 ⊕ Nat)) := bx (f_X7_requireRange v1 (0 : Int32) (1000 : Int32) M) fun M1 _ => gd (M1.1 v0 = 7) <| rd (mm_r M1 v0 0) fun a3 => gd (M1.1 a3 = 3) <| rd (mm_r M1 a3 0) fun a4 => gd (M1.1 a4 = 6) <| lt_ ((mm_i M1 a4 0)) fun x5 => gd (M1.1 v0 = 7) <| rd (mm_r M1 v0 0) fun a6 => gd (M1.1 a6 = 3) <| rd (mm_r M1 a6 0) fun a7 => gd (M1.1 a7 = 6) <| lt_ (ms_i M1 a7 0 v1) fun M8 => some (M8, .inl x5)
abbrev rm_X7_flatness : Room := { frames := 7, cells := 1, slots := 6, locals := 112 }
theorem hd_X7_flatness : yX7_flatness.cls ≠ "java/lang/invoke/MethodHandle" ∧ yX7_flatness.cls ≠ "java/lang/invoke/VarHandle" ∧ (parseMethodDescriptor yX7_flatness.desc).map (fun d => d.parameters.length) = some 1 := by decide +kernel
set_option maxHeartbeats 8000000 in
set_option maxRecDepth 100000 in
theorem c_X7_flatness {l : Launch} (hlt : l.stackTraces = false) {D : va_G} {ca : Nat → ClassId} {b : Nat} {v0 : Nat} {v1 : Int32} {M : Mem} {r : Mem × (Int32 ⊕ Nat)} (hf : f_X7_flatness v0 v1 M = some r) : CxI l yX7_flatness cX7_flatness 3 (some .int) rm_X7_flatness D ca b [.ref v0, .int v1] M r 1 6 := by
  intro sz
  refine bodyx_start (nx := false) (Qc := fun A => cxI D ca A r) (XC := fun A => cxX D ca A r) (by decide +kernel) (Nat.le_of_ble_eq_true rfl) ?_
  intro p e s m args below meth c A hC htab hr hR ls hl
  obtain ⟨hx, hb, hml, hts, hown, hlocks, hXe, hA, hAb, hnm⟩ := id hC
  have hK := hXe.1
  have hl : lv_has ls 3 [(0, .ref v0), (1, .int v1)] := hl
  unfold f_X7_flatness at hf
  refine lv_iload_n (pc := 0) hx hb dX7_flatness_0 rfl (lv_at hl 1 rfl) ?_
  refine lv_iconst (pc := 1) (v := (0 : Int32)) hx hb dX7_flatness_1 (by decide) ?_
  refine lv_sipush (pc := 2) (v := (1000 : Int32)) hx hb dX7_flatness_2 (by decide) ?_
  refine rg_xV (pc := 5) hf hR hA htab hlocks (by show 1 ≤ 1; decide) (by show 6 ≤ 6; decide) (fun z hz => xn_S (As := [.int v1, .int (0 : Int32), .int (1000 : Int32)]) (rest := []) hC hR (c_X7_requireRange hlt hz _) m_261 m_262 m_1 m_263 hd_X7_requireRange ⟨rfl, rfl, Nat.le_of_ble_eq_true rfl, Nat.le_of_ble_eq_true rfl⟩ rfl hl.1 rfl (Nat.le_of_ble_eq_true rfl) dX7_flatness_5 ⟨Nat.le_of_ble_eq_true rfl, Nat.le_of_ble_eq_true rfl⟩) (fun M1 H locs hf hR => ?_)
  refine lv_aload_n (pc := 8) hx hb dX7_flatness_8 rfl (lv_at hl 0 rfl) ?_
  refine rg_getr (pc := 9) (C := RX7) (T := TX7) (N := 11) (κ := 7) hx hb hts hK hR hown in_7 rfl (by decide) 0 (by decide) m_219 rfl dX7_flatness_9 hf (fun a3 hf => ?_)
  refine rg_getr (pc := 12) (C := RX3) (T := TX3) (N := 7) (κ := 3) hx hb hts hK hR hown in_3 rfl (by decide) 0 (by decide) m_141 rfl dX7_flatness_12 hf (fun a4 hf => ?_)
  refine rg_get (pc := 15) (C := RX6) (T := TX6) (N := 1) (κ := 6) (v := .int (mm_i M1 a4 0)) hx hb hts hK hR hown in_6 rfl (by decide) 0 (by decide) m_37 rfl dX7_flatness_15 hf (fun hf => ?_)
  refine nm_i hf (fun x5 hf => ?_)
  refine lv_istore_n (pc := 18) (lv' := [(2, .int x5), (0, .ref v0), (1, .int v1)]) hx hb dX7_flatness_18 rfl hl (by decide) rfl (fun ls hl => ?_)
  refine lv_aload_n (pc := 19) hx hb dX7_flatness_19 rfl (lv_at hl 1 rfl) ?_
  refine rg_getr (pc := 20) (C := RX7) (T := TX7) (N := 11) (κ := 7) hx hb hts hK hR hown in_7 rfl (by decide) 0 (by decide) m_219 rfl dX7_flatness_20 hf (fun a6 hf => ?_)
  refine rg_getr (pc := 23) (C := RX3) (T := TX3) (N := 7) (κ := 3) hx hb hts hK hR hown in_3 rfl (by decide) 0 (by decide) m_141 rfl dX7_flatness_23 hf (fun a7 hf => ?_)
  refine lv_iload_n (pc := 26) hx hb dX7_flatness_26 rfl (lv_at hl 2 rfl) ?_
  refine rg_puti (pc := 27) (C := RX6) (T := TX6) (N := 1) (κ := 6) hx hb hts hK hR hown in_6 rfl (by decide) 0 (by decide) m_37 tyX6 tyX6_ok nmX6 rfl rfl rfl rfl dX7_flatness_27 hf (fun M8 H locs hf hR => ?_)
  refine lv_iload_n (pc := 30) hx hb dX7_flatness_30 rfl (lv_at hl 0 rfl) ?_
  exact rg_xiret (pc := 31) hx hb hlocks hr hf hR (by show 1 ≤ 1; decide) (by show 6 ≤ 6; decide) dX7_flatness_31
-- X7_bounds
def f_X7_bounds (v0 : Nat) (v1 : Int32) (v2 : Int32) (v3 : Int32) (M : Mem) : Option (Mem × (Unit ⊕ Nat)) := bx (f_X7_requireRange v1 (0 : Int32) (1000 : Int32) M) fun M1 _ => bx (f_X7_requireRange v2 v1 (5000 : Int32) M1) fun M3 _ => bx (f_X7_requireRange v3 (0 : Int32) (100 : Int32) M3) fun M5 _ => gd (M5.1 v0 = 7) <| rd (mm_r M5 v0 0) fun a7 => gd (M5.1 a7 = 3) <| lt_ (ms_i M5 a7 4 v1) fun M8 => gd (M8.1 v0 = 7) <| rd (mm_r M8 v0 0) fun a9 => gd (M8.1 a9 = 3) <| lt_ (ms_i M8 a9 5 v2) fun M10 => gd (M10.1 v0 = 7) <| rd (mm_r M10 v0 0) fun a11 => gd (M10.1 a11 = 3) <| lt_ (ms_i M10 a11 6 v3) fun M12 => some (M12, .inl ())
abbrev rm_X7_bounds : Room := { frames := 7, cells := 3, slots := 18, locals := 112 }
theorem hd_X7_bounds : yX7_bounds.cls ≠ "java/lang/invoke/MethodHandle" ∧ yX7_bounds.cls ≠ "java/lang/invoke/VarHandle" ∧ (parseMethodDescriptor yX7_bounds.desc).map (fun d => d.parameters.length) = some 3 := by decide +kernel
set_option maxHeartbeats 8000000 in
set_option maxRecDepth 100000 in
theorem c_X7_bounds {l : Launch} (hlt : l.stackTraces = false) {D : va_G} {ca : Nat → ClassId} {b : Nat} {v0 : Nat} {v1 : Int32} {v2 : Int32} {v3 : Int32} {M : Mem} {r : Mem × (Unit ⊕ Nat)} (hf : f_X7_bounds v0 v1 v2 v3 M = some r) : CxV l yX7_bounds cX7_bounds 4 none rm_X7_bounds D ca b [.ref v0, .int v1, .int v2, .int v3] M r 3 18 := by
  intro sz
  refine bodyx_start (nx := false) (Qc := fun A => cxV D ca A r) (XC := fun A => cxX D ca A r) (by decide +kernel) (Nat.le_of_ble_eq_true rfl) ?_
  intro p e s m args below meth c A hC htab hr hR ls hl
  obtain ⟨hx, hb, hml, hts, hown, hlocks, hXe, hA, hAb, hnm⟩ := id hC
  have hK := hXe.1
  have hl : lv_has ls 4 [(0, .ref v0), (1, .int v1), (2, .int v2), (3, .int v3)] := hl
  unfold f_X7_bounds at hf
  refine lv_iload_n (pc := 0) hx hb dX7_bounds_0 rfl (lv_at hl 1 rfl) ?_
  refine lv_iconst (pc := 1) (v := (0 : Int32)) hx hb dX7_bounds_1 (by decide) ?_
  refine lv_sipush (pc := 2) (v := (1000 : Int32)) hx hb dX7_bounds_2 (by decide) ?_
  refine rg_xV (pc := 5) hf hR hA htab hlocks (by show 1 ≤ 3; decide) (by show 6 ≤ 18; decide) (fun z hz => xn_S (As := [.int v1, .int (0 : Int32), .int (1000 : Int32)]) (rest := []) hC hR (c_X7_requireRange hlt hz _) m_261 m_262 m_1 m_263 hd_X7_requireRange ⟨rfl, rfl, Nat.le_of_ble_eq_true rfl, Nat.le_of_ble_eq_true rfl⟩ rfl hl.1 rfl (Nat.le_of_ble_eq_true rfl) dX7_bounds_5 ⟨Nat.le_of_ble_eq_true rfl, Nat.le_of_ble_eq_true rfl⟩) (fun M1 H locs hf hR => ?_)
  refine lv_iload_n (pc := 8) hx hb dX7_bounds_8 rfl (lv_at hl 2 rfl) ?_
  refine lv_iload_n (pc := 9) hx hb dX7_bounds_9 rfl (lv_at hl 1 rfl) ?_
  refine lv_sipush (pc := 10) (v := (5000 : Int32)) hx hb dX7_bounds_10 (by decide) ?_
  refine rg_xV (pc := 13) hf hR hA htab hlocks (by show 2 ≤ 3; decide) (by show 12 ≤ 18; decide) (fun z hz => xn_S (As := [.int v2, .int v1, .int (5000 : Int32)]) (rest := []) hC hR (c_X7_requireRange hlt hz _) m_261 m_262 m_1 m_263 hd_X7_requireRange ⟨rfl, rfl, Nat.le_of_ble_eq_true rfl, Nat.le_of_ble_eq_true rfl⟩ rfl hl.1 rfl (Nat.le_of_ble_eq_true rfl) dX7_bounds_13 ⟨Nat.le_of_ble_eq_true rfl, Nat.le_of_ble_eq_true rfl⟩) (fun M3 H locs hf hR => ?_)
  refine lv_iload_n (pc := 16) hx hb dX7_bounds_16 rfl (lv_at hl 3 rfl) ?_
  refine lv_iconst (pc := 17) (v := (0 : Int32)) hx hb dX7_bounds_17 (by decide) ?_
  refine lv_bipush (pc := 18) (v := (100 : Int32)) hx hb dX7_bounds_18 (by decide) ?_
  refine rg_xV (pc := 20) hf hR hA htab hlocks (by show 3 ≤ 3; decide) (by show 18 ≤ 18; decide) (fun z hz => xn_S (As := [.int v3, .int (0 : Int32), .int (100 : Int32)]) (rest := []) hC hR (c_X7_requireRange hlt hz _) m_261 m_262 m_1 m_263 hd_X7_requireRange ⟨rfl, rfl, Nat.le_of_ble_eq_true rfl, Nat.le_of_ble_eq_true rfl⟩ rfl hl.1 rfl (Nat.le_of_ble_eq_true rfl) dX7_bounds_20 ⟨Nat.le_of_ble_eq_true rfl, Nat.le_of_ble_eq_true rfl⟩) (fun M5 H locs hf hR => ?_)
  refine lv_aload_n (pc := 23) hx hb dX7_bounds_23 rfl (lv_at hl 0 rfl) ?_
  refine rg_getr (pc := 24) (C := RX7) (T := TX7) (N := 11) (κ := 7) hx hb hts hK hR hown in_7 rfl (by decide) 0 (by decide) m_219 rfl dX7_bounds_24 hf (fun a7 hf => ?_)
  refine lv_iload_n (pc := 27) hx hb dX7_bounds_27 rfl (lv_at hl 1 rfl) ?_
  refine rg_puti (pc := 28) (C := RX3) (T := TX3) (N := 7) (κ := 3) hx hb hts hK hR hown in_3 rfl (by decide) 4 (by decide) m_149 tyX3 tyX3_ok nmX3 rfl rfl rfl rfl dX7_bounds_28 hf (fun M8 H locs hf hR => ?_)
  refine lv_aload_n (pc := 31) hx hb dX7_bounds_31 rfl (lv_at hl 0 rfl) ?_
  refine rg_getr (pc := 32) (C := RX7) (T := TX7) (N := 11) (κ := 7) hx hb hts hK hR hown in_7 rfl (by decide) 0 (by decide) m_219 rfl dX7_bounds_32 hf (fun a9 hf => ?_)
  refine lv_iload_n (pc := 35) hx hb dX7_bounds_35 rfl (lv_at hl 2 rfl) ?_
  refine rg_puti (pc := 36) (C := RX3) (T := TX3) (N := 7) (κ := 3) hx hb hts hK hR hown in_3 rfl (by decide) 5 (by decide) m_151 tyX3 tyX3_ok nmX3 rfl rfl rfl rfl dX7_bounds_36 hf (fun M10 H locs hf hR => ?_)
  refine lv_aload_n (pc := 39) hx hb dX7_bounds_39 rfl (lv_at hl 0 rfl) ?_
  refine rg_getr (pc := 40) (C := RX7) (T := TX7) (N := 11) (κ := 7) hx hb hts hK hR hown in_7 rfl (by decide) 0 (by decide) m_219 rfl dX7_bounds_40 hf (fun a11 hf => ?_)
  refine lv_iload_n (pc := 43) hx hb dX7_bounds_43 rfl (lv_at hl 3 rfl) ?_
  refine rg_puti (pc := 44) (C := RX3) (T := TX3) (N := 7) (κ := 3) hx hb hts hK hR hown in_3 rfl (by decide) 6 (by decide) m_153 tyX3 tyX3_ok nmX3 rfl rfl rfl rfl dX7_bounds_44 hf (fun M12 H locs hf hR => ?_)
  exact rg_xvret (pc := 47) hx hb hlocks hr hf hR (by show 3 ≤ 3; decide) (by show 18 ≤ 18; decide) dX7_bounds_47
-- X7_passTick
def f_X7_passTick_b65 (k65 : Nat → Int32 → Mem → Option (Mem)) (v0 : Nat) (v1 : Int32) (M : Mem) : Option (Mem) := gd (M.1 v0 = 7) <| if (mm_i M v0 2) ≤ v1 then (gd (M.1 v0 = 7) <| rd (mm_r M v0 0) fun a1 => gd (M.1 a1 = 3) <| bd (f_X3_meetAll a1 M) fun z2 => gd (z2.1 v0 = 7) <| rd (mm_r z2 v0 0) fun a3 => gd (z2.1 a3 = 3) <| bd (f_X3_darken a3 z2) fun z4 => gd (z4.1 v0 = 7) <| gd (z4.1 v0 = 7) <| lt_ (ms_i z4 v0 7 ((mm_i z4 v0 7) + (1 : Int32))) fun M5 => some M5) else (gd (M.1 v0 = 7) <| rd (mm_r M v0 0) fun a6 => gd (M.1 v0 = 7) <| rd (mm_r M v0 1) fun a7 => gd (M.1 a7 = 14 ∧ vi_ v1 (mm_N M a7)) <| rd (mm_r M a7 (v1).toNatClampNeg) fun a8 => gd (M.1 a6 = 3) <| bd (f_X3_yieldTo a6 a8 M) fun z9 => lt_ (v1 + (1 : Int32)) fun x10 => k65 v0 x10 z9)
def f_X7_passTick_L65  : Nat → Nat → Int32 → Mem → Option (Mem)
  | 0 => fun _ _ _ => none
  | n + 1 => f_X7_passTick_b65  (f_X7_passTick_L65  n)
def f_X7_passTick_b2 (k2 : Nat → Int32 → Mem → Option (Mem)) (v0 : Nat) (v1 : Int32) (M : Mem) : Option (Mem) := gd (M.1 v0 = 7) <| if (mm_i M v0 2) ≤ v1 then (gd (M.1 v0 = 7) <| rd (mm_r M v0 0) fun a11 => gd (M.1 a11 = 3) <| bd (f_X3_goRound a11 M) fun z12 => f_X7_passTick_L65 200 v0 (0 : Int32) z12) else (gd (M.1 v0 = 7) <| rd (mm_r M v0 1) fun a13 => gd (M.1 a13 = 14 ∧ vi_ v1 (mm_N M a13)) <| rd (mm_r M a13 (v1).toNatClampNeg) fun a14 => gd (M.1 v0 = 7) <| rd (mm_r M v0 1) fun a15 => gd (M.1 a15 = 14 ∧ vi_ v1 (mm_N M a15)) <| rd (mm_r M a15 (v1).toNatClampNeg) fun a16 => gd (M.1 a16 = 5) <| gd (M.1 v0 = 7) <| rd (mm_r M v0 0) fun a17 => gd (M.1 a17 = 3) <| rd (mm_r M a17 0) fun a18 => gd (M.1 v0 = 7) <| rd (mm_r M v0 1) fun a19 => gd (M.1 a19 = 14 ∧ vi_ v1 (mm_N M a19)) <| rd (mm_r M a19 (v1).toNatClampNeg) fun a20 => gd (M.1 a20 = 5) <| gd (M.1 a18 = 6) <| bd (f_X6_speedIn a18 (mm_i M a20 0) M) fun z21 => bd (f_X7_turned (mm_i M a16 1) z21.2 z21.1) fun z22 => gd (z22.1.1 a14 = 5) <| lt_ (ms_i z22.1 a14 1 z22.2) fun M23 => lt_ (v1 + (1 : Int32)) fun x24 => k2 v0 x24 M23)
def f_X7_passTick_L2  : Nat → Nat → Int32 → Mem → Option (Mem)
  | 0 => fun _ _ _ => none
  | n + 1 => f_X7_passTick_b2  (f_X7_passTick_L2  n)
def f_X7_passTick (v0 : Nat) (M : Mem) : Option (Mem) := f_X7_passTick_L2 200 v0 (0 : Int32) M
abbrev rm_X7_passTick : Room := { frames := 5, cells := 0, slots := 0, locals := 119 }
theorem hd_X7_passTick : yX7_passTick.cls ≠ "java/lang/invoke/MethodHandle" ∧ yX7_passTick.cls ≠ "java/lang/invoke/VarHandle" ∧ (parseMethodDescriptor yX7_passTick.desc).map (fun d => d.parameters.length) = some 0 := by decide +kernel
set_option maxHeartbeats 8000000 in
set_option maxRecDepth 100000 in
theorem c_X7_passTick {l : Launch} {D : va_G} {ca : Nat → ClassId} {b : Nat} {nx : Bool} {v0 : Nat} {M : Mem} {r : Mem} (hf : f_X7_passTick v0 M = some r) : CtV l yX7_passTick cX7_passTick 2 none rm_X7_passTick D ca b nx [.ref v0] M r 0 0 := by
  intro sz
  refine body_start (Qc := fun A => cvV D ca nx A r) (by decide +kernel) (Nat.le_of_ble_eq_true rfl) ?_
  intro p e s m args below meth c A hC hr hR ls hl
  obtain ⟨hx, hb, hml, hts, hown, hlocks, hXe, hA, hAb, hnm⟩ := id hC
  have hK := hXe.1
  have hl : lv_has ls 2 [(0, .ref v0)] := hl
  have hB65 : ∀ (k65 : Nat → Int32 → Mem → Option (Mem)) (hk65 : ∀ (v0 : Nat) (v1 : Int32) (M : Mem) (H : Heap) (locs : List Loc) (ls : Array Slot), k65 v0 v1 M = some r → Hp D ca nx A s M H locs → lv_has ls 2 [(0, .ref v0), (1, .int v1)] → W p l e rm_X7_passTick s m args below meth c H locs 0 0 (MQ below (cvV D ca nx A r) args s 0 0 A) (F0 m 65 ls [])) (v0 : Nat) (v1 : Int32) (M : Mem) (H : Heap) (locs : List Loc) (ls : Array Slot), f_X7_passTick_b65 k65 v0 v1 M = some r → Hp D ca nx A s M H locs → lv_has ls 2 [(0, .ref v0), (1, .int v1)] → W p l e rm_X7_passTick s m args below meth c H locs 0 0 (MQ below (cvV D ca nx A r) args s 0 0 A) (F0 m 65 ls []) := by
    intro k65 hk65 v0 v1 M H locs ls hf hR hl
    unfold f_X7_passTick_b65 at hf
    refine lv_iload_n (pc := 65) hx hb dX7_passTick_65 rfl (lv_at hl 1 rfl) ?_
    refine lv_aload_n (pc := 66) hx hb dX7_passTick_66 rfl (lv_at hl 0 rfl) ?_
    refine rg_get (pc := 67) (C := RX7) (T := TX7) (N := 11) (κ := 7) (v := .int (mm_i M v0 2)) hx hb hts hK hR hown in_7 rfl (by decide) 2 (by decide) m_221 rfl dX7_passTick_67 hf (fun hf => ?_)
    refine lv_icmp_ge (pc := 70) (tgt := 92) hx hb dX7_passTick_70 (by decide) (fun hc => ?_) (fun hc => ?_)
    · replace hf := it_t hf hc
      refine lv_aload_n (pc := 92) hx hb dX7_passTick_92 rfl (lv_at hl 0 rfl) ?_
      refine rg_getr (pc := 93) (C := RX7) (T := TX7) (N := 11) (κ := 7) hx hb hts hK hR hown in_7 rfl (by decide) 0 (by decide) m_219 rfl dX7_passTick_93 hf (fun a1 hf => ?_)
      obtain ⟨hq, hf⟩ := gd_e hf
      refine rg_V (pc := 96) hf hR hA (fun z hz => rn_V (κ := 3) (As := []) (rest := []) hC hR rfl (by decide) hq (c_X3_meetAll  hz _) m_423 m_424 m_425 m_2 m_426 hd_X3_meetAll ⟨rfl, rfl, Nat.le_of_ble_eq_true rfl, Nat.le_of_ble_eq_true rfl⟩ rfl hl.1 rfl (Nat.le_of_ble_eq_true rfl) dX7_passTick_96 ⟨Nat.le_of_ble_eq_true rfl, Nat.le_of_ble_eq_true rfl⟩) (fun z2 H locs hf hR => ?_)
      refine lv_aload_n (pc := 99) hx hb dX7_passTick_99 rfl (lv_at hl 0 rfl) ?_
      refine rg_getr (pc := 100) (C := RX7) (T := TX7) (N := 11) (κ := 7) hx hb hts hK hR hown in_7 rfl (by decide) 0 (by decide) m_219 rfl dX7_passTick_100 hf (fun a3 hf => ?_)
      obtain ⟨hq, hf⟩ := gd_e hf
      refine rg_V (pc := 103) hf hR hA (fun z hz => rn_V (κ := 3) (As := []) (rest := []) hC hR rfl (by decide) hq (c_X3_darken  hz _) m_455 m_456 m_457 m_2 m_458 hd_X3_darken ⟨rfl, rfl, Nat.le_of_ble_eq_true rfl, Nat.le_of_ble_eq_true rfl⟩ rfl hl.1 rfl (Nat.le_of_ble_eq_true rfl) dX7_passTick_103 ⟨Nat.le_of_ble_eq_true rfl, Nat.le_of_ble_eq_true rfl⟩) (fun z4 H locs hf hR => ?_)
      refine lv_aload_n (pc := 106) hx hb dX7_passTick_106 rfl (lv_at hl 0 rfl) ?_
      refine lv_dup (pc := 107) hx hb dX7_passTick_107 rfl ?_
      refine rg_get (pc := 108) (C := RX7) (T := TX7) (N := 11) (κ := 7) (v := .int (mm_i z4 v0 7)) hx hb hts hK hR hown in_7 rfl (by decide) 7 (by decide) m_224 rfl dX7_passTick_108 hf (fun hf => ?_)
      refine lv_iconst (pc := 111) (v := (1 : Int32)) hx hb dX7_passTick_111 (by decide) ?_
      refine lv_iadd (pc := 112) hx hb dX7_passTick_112 ?_
      refine rg_puti (pc := 113) (C := RX7) (T := TX7) (N := 11) (κ := 7) hx hb hts hK hR hown in_7 rfl (by decide) 7 (by decide) m_224 tyX7 tyX7_ok nmX7 rfl rfl rfl rfl dX7_passTick_113 hf (fun M5 H locs hf hR => ?_)
      exact rg_vret (pc := 116) hx hb hlocks hr hf hR dX7_passTick_116
    · replace hf := it_f hf hc
      refine lv_aload_n (pc := 73) hx hb dX7_passTick_73 rfl (lv_at hl 0 rfl) ?_
      refine rg_getr (pc := 74) (C := RX7) (T := TX7) (N := 11) (κ := 7) hx hb hts hK hR hown in_7 rfl (by decide) 0 (by decide) m_219 rfl dX7_passTick_74 hf (fun a6 hf => ?_)
      refine lv_aload_n (pc := 77) hx hb dX7_passTick_77 rfl (lv_at hl 0 rfl) ?_
      refine rg_getr (pc := 78) (C := RX7) (T := TX7) (N := 11) (κ := 7) hx hb hts hK hR hown in_7 rfl (by decide) 1 (by decide) m_220 rfl dX7_passTick_78 hf (fun a7 hf => ?_)
      refine lv_iload_n (pc := 81) hx hb dX7_passTick_81 rfl (lv_at hl 1 rfl) ?_
      refine rg_aald (pc := 82) (κ := 14) hx hb hK hR 4 rfl (by decide) dX7_passTick_82 hf (fun a8 hf => ?_)
      obtain ⟨hq, hf⟩ := gd_e hf
      refine rg_V (pc := 83) hf hR hA (fun z hz => rn_V (κ := 3) (As := [.ref a8]) (rest := []) hC hR rfl (by decide) hq (c_X3_yieldTo  hz _) m_400 m_401 m_402 m_2 m_403 hd_X3_yieldTo ⟨rfl, rfl, Nat.le_of_ble_eq_true rfl, Nat.le_of_ble_eq_true rfl⟩ rfl hl.1 rfl (Nat.le_of_ble_eq_true rfl) dX7_passTick_83 ⟨Nat.le_of_ble_eq_true rfl, Nat.le_of_ble_eq_true rfl⟩) (fun z9 H locs hf hR => ?_)
      refine rg_iinc (pc := 86) hx hb dX7_passTick_86 hl (k := 1) rfl rfl (by decide) hf (fun x10 ls hf hl => ?_)
      have hl : lv_has ls 2 [(1, .int x10), (0, .ref v0)] := hl
      refine lv_goto (pc := 89) (tgt := 65) hx hb dX7_passTick_89 (by decide) ?_
      exact hk65 v0 x10 z9 _ _ _ hf hR (lv_sub hl [1, 0] rfl)
  have hL65 : ∀  (n : Nat) (v0 : Nat) (v1 : Int32) (M : Mem) (H : Heap) (locs : List Loc) (ls : Array Slot), f_X7_passTick_L65  n v0 v1 M = some r → Hp D ca nx A s M H locs → lv_has ls 2 [(0, .ref v0), (1, .int v1)] → W p l e rm_X7_passTick s m args below meth c H locs 0 0 (MQ below (cvV D ca nx A r) args s 0 0 A) (F0 m 65 ls []) := by
    intro  n
    induction n with
    | zero => intro v0 v1 M H locs ls hf; exact nomatch (show (none : Option (Mem)) = some r from hf)
    | succ n ih => intro v0 v1 M H locs ls hf hR hl; exact hB65  (f_X7_passTick_L65  n) ih v0 v1 M H locs ls hf hR hl
  have hB2 : ∀ (k2 : Nat → Int32 → Mem → Option (Mem)) (hk2 : ∀ (v0 : Nat) (v1 : Int32) (M : Mem) (H : Heap) (locs : List Loc) (ls : Array Slot), k2 v0 v1 M = some r → Hp D ca nx A s M H locs → lv_has ls 2 [(0, .ref v0), (1, .int v1)] → W p l e rm_X7_passTick s m args below meth c H locs 0 0 (MQ below (cvV D ca nx A r) args s 0 0 A) (F0 m 2 ls [])) (v0 : Nat) (v1 : Int32) (M : Mem) (H : Heap) (locs : List Loc) (ls : Array Slot), f_X7_passTick_b2 k2 v0 v1 M = some r → Hp D ca nx A s M H locs → lv_has ls 2 [(0, .ref v0), (1, .int v1)] → W p l e rm_X7_passTick s m args below meth c H locs 0 0 (MQ below (cvV D ca nx A r) args s 0 0 A) (F0 m 2 ls []) := by
    intro k2 hk2 v0 v1 M H locs ls hf hR hl
    unfold f_X7_passTick_b2 at hf
    refine lv_iload_n (pc := 2) hx hb dX7_passTick_2 rfl (lv_at hl 1 rfl) ?_
    refine lv_aload_n (pc := 3) hx hb dX7_passTick_3 rfl (lv_at hl 0 rfl) ?_
    refine rg_get (pc := 4) (C := RX7) (T := TX7) (N := 11) (κ := 7) (v := .int (mm_i M v0 2)) hx hb hts hK hR hown in_7 rfl (by decide) 2 (by decide) m_221 rfl dX7_passTick_4 hf (fun hf => ?_)
    refine lv_icmp_ge (pc := 7) (tgt := 56) hx hb dX7_passTick_7 (by decide) (fun hc => ?_) (fun hc => ?_)
    · replace hf := it_t hf hc
      refine lv_aload_n (pc := 56) hx hb dX7_passTick_56 rfl (lv_at hl 0 rfl) ?_
      refine rg_getr (pc := 57) (C := RX7) (T := TX7) (N := 11) (κ := 7) hx hb hts hK hR hown in_7 rfl (by decide) 0 (by decide) m_219 rfl dX7_passTick_57 hf (fun a11 hf => ?_)
      obtain ⟨hq, hf⟩ := gd_e hf
      refine rg_V (pc := 60) hf hR hA (fun z hz => rn_V (κ := 3) (As := []) (rest := []) hC hR rfl (by decide) hq (c_X3_goRound  hz _) m_394 m_395 m_396 m_2 m_397 hd_X3_goRound ⟨rfl, rfl, Nat.le_of_ble_eq_true rfl, Nat.le_of_ble_eq_true rfl⟩ rfl hl.1 rfl (Nat.le_of_ble_eq_true rfl) dX7_passTick_60 ⟨Nat.le_of_ble_eq_true rfl, Nat.le_of_ble_eq_true rfl⟩) (fun z12 H locs hf hR => ?_)
      refine lv_iconst (pc := 63) (v := (0 : Int32)) hx hb dX7_passTick_63 (by decide) ?_
      refine lv_istore_n (pc := 64) (lv' := [(1, .int (0 : Int32)), (0, .ref v0)]) hx hb dX7_passTick_64 rfl hl (by decide) rfl (fun ls hl => ?_)
      exact hL65 200 v0 (0 : Int32) z12 _ _ _ hf hR (lv_sub hl [1, 0] rfl)
    · replace hf := it_f hf hc
      refine lv_aload_n (pc := 10) hx hb dX7_passTick_10 rfl (lv_at hl 0 rfl) ?_
      refine rg_getr (pc := 11) (C := RX7) (T := TX7) (N := 11) (κ := 7) hx hb hts hK hR hown in_7 rfl (by decide) 1 (by decide) m_220 rfl dX7_passTick_11 hf (fun a13 hf => ?_)
      refine lv_iload_n (pc := 14) hx hb dX7_passTick_14 rfl (lv_at hl 1 rfl) ?_
      refine rg_aald (pc := 15) (κ := 14) hx hb hK hR 4 rfl (by decide) dX7_passTick_15 hf (fun a14 hf => ?_)
      refine lv_aload_n (pc := 16) hx hb dX7_passTick_16 rfl (lv_at hl 0 rfl) ?_
      refine rg_getr (pc := 17) (C := RX7) (T := TX7) (N := 11) (κ := 7) hx hb hts hK hR hown in_7 rfl (by decide) 1 (by decide) m_220 rfl dX7_passTick_17 hf (fun a15 hf => ?_)
      refine lv_iload_n (pc := 20) hx hb dX7_passTick_20 rfl (lv_at hl 1 rfl) ?_
      refine rg_aald (pc := 21) (κ := 14) hx hb hK hR 4 rfl (by decide) dX7_passTick_21 hf (fun a16 hf => ?_)
      refine rg_get (pc := 22) (C := RX5) (T := TX5) (N := 3) (κ := 5) (v := .int (mm_i M a16 1)) hx hb hts hK hR hown in_5 rfl (by decide) 1 (by decide) m_178 rfl dX7_passTick_22 hf (fun hf => ?_)
      refine lv_aload_n (pc := 25) hx hb dX7_passTick_25 rfl (lv_at hl 0 rfl) ?_
      refine rg_getr (pc := 26) (C := RX7) (T := TX7) (N := 11) (κ := 7) hx hb hts hK hR hown in_7 rfl (by decide) 0 (by decide) m_219 rfl dX7_passTick_26 hf (fun a17 hf => ?_)
      refine rg_getr (pc := 29) (C := RX3) (T := TX3) (N := 7) (κ := 3) hx hb hts hK hR hown in_3 rfl (by decide) 0 (by decide) m_141 rfl dX7_passTick_29 hf (fun a18 hf => ?_)
      refine lv_aload_n (pc := 32) hx hb dX7_passTick_32 rfl (lv_at hl 0 rfl) ?_
      refine rg_getr (pc := 33) (C := RX7) (T := TX7) (N := 11) (κ := 7) hx hb hts hK hR hown in_7 rfl (by decide) 1 (by decide) m_220 rfl dX7_passTick_33 hf (fun a19 hf => ?_)
      refine lv_iload_n (pc := 36) hx hb dX7_passTick_36 rfl (lv_at hl 1 rfl) ?_
      refine rg_aald (pc := 37) (κ := 14) hx hb hK hR 4 rfl (by decide) dX7_passTick_37 hf (fun a20 hf => ?_)
      refine rg_get (pc := 38) (C := RX5) (T := TX5) (N := 3) (κ := 5) (v := .int (mm_i M a20 0)) hx hb hts hK hR hown in_5 rfl (by decide) 0 (by decide) m_176 rfl dX7_passTick_38 hf (fun hf => ?_)
      obtain ⟨hq, hf⟩ := gd_e hf
      refine rg_I (pc := 41) hf hR hA (fun z hz => rn_V (κ := 6) (As := [.int (mm_i M a20 0)]) (rest := [.int (mm_i M a16 1), .ref a14]) hC hR rfl (by decide) hq (c_X6_speedIn  hz _) m_382 m_383 m_384 m_3 m_385 hd_X6_speedIn ⟨rfl, rfl, Nat.le_of_ble_eq_true rfl, Nat.le_of_ble_eq_true rfl⟩ rfl hl.1 rfl (Nat.le_of_ble_eq_true rfl) dX7_passTick_41 ⟨Nat.le_of_ble_eq_true rfl, Nat.le_of_ble_eq_true rfl⟩) (fun z21 H locs hf hR => ?_)
      refine rg_I (pc := 44) hf hR hA (fun z hz => rn_S (As := [.int (mm_i M a16 1), .int z21.2]) (rest := [.ref a14]) hC hR (c_X7_turned  hz _) m_390 m_391 m_1 m_392 hd_X7_turned ⟨rfl, rfl, Nat.le_of_ble_eq_true rfl, Nat.le_of_ble_eq_true rfl⟩ rfl hl.1 rfl (Nat.le_of_ble_eq_true rfl) dX7_passTick_44 ⟨Nat.le_of_ble_eq_true rfl, Nat.le_of_ble_eq_true rfl⟩) (fun z22 H locs hf hR => ?_)
      refine rg_puti (pc := 47) (C := RX5) (T := TX5) (N := 3) (κ := 5) hx hb hts hK hR hown in_5 rfl (by decide) 1 (by decide) m_178 tyX5 tyX5_ok nmX5 rfl rfl rfl rfl dX7_passTick_47 hf (fun M23 H locs hf hR => ?_)
      refine rg_iinc (pc := 50) hx hb dX7_passTick_50 hl (k := 1) rfl rfl (by decide) hf (fun x24 ls hf hl => ?_)
      have hl : lv_has ls 2 [(1, .int x24), (0, .ref v0)] := hl
      refine lv_goto (pc := 53) (tgt := 2) hx hb dX7_passTick_53 (by decide) ?_
      exact hk2 v0 x24 M23 _ _ _ hf hR (lv_sub hl [1, 0] rfl)
  have hL2 : ∀  (n : Nat) (v0 : Nat) (v1 : Int32) (M : Mem) (H : Heap) (locs : List Loc) (ls : Array Slot), f_X7_passTick_L2  n v0 v1 M = some r → Hp D ca nx A s M H locs → lv_has ls 2 [(0, .ref v0), (1, .int v1)] → W p l e rm_X7_passTick s m args below meth c H locs 0 0 (MQ below (cvV D ca nx A r) args s 0 0 A) (F0 m 2 ls []) := by
    intro  n
    induction n with
    | zero => intro v0 v1 M H locs ls hf; exact nomatch (show (none : Option (Mem)) = some r from hf)
    | succ n ih => intro v0 v1 M H locs ls hf hR hl; exact hB2  (f_X7_passTick_L2  n) ih v0 v1 M H locs ls hf hR hl
  unfold f_X7_passTick at hf
  refine lv_iconst (pc := 0) (v := (0 : Int32)) hx hb dX7_passTick_0 (by decide) ?_
  refine lv_istore_n (pc := 1) (lv' := [(1, .int (0 : Int32)), (0, .ref v0)]) hx hb dX7_passTick_1 rfl hl (by decide) rfl (fun ls hl => ?_)
  exact hL2 200 v0 (0 : Int32) M _ _ _ hf hR (lv_sub hl [1, 0] rfl)
-- X7_tick
def f_X7_tick_b31 (k31 : Nat → Int32 → Int32 → Mem → Option (Mem × (Int32 ⊕ Nat))) (v0 : Nat) (v1 : Int32) (v2 : Int32) (M : Mem) : Option (Mem × (Int32 ⊕ Nat)) := if v1 ≤ v2 then (gd (M.1 v0 = 7) <| some (M, .inl (mm_i M v0 7))) else (gd (M.1 v0 = 7) <| bd (f_X7_passTick v0 M) fun z1 => lt_ (v2 + (1 : Int32)) fun x2 => k31 v0 v1 x2 z1)
def f_X7_tick_L31  : Nat → Nat → Int32 → Int32 → Mem → Option (Mem × (Int32 ⊕ Nat))
  | 0 => fun _ _ _ _ => none
  | n + 1 => f_X7_tick_b31  (f_X7_tick_L31  n)
def f_X7_tick (v0 : Nat) (v1 : Int32) (M : Mem) : Option (Mem × (Int32 ⊕ Nat)) := bx (f_X7_requireRange v1 (1 : Int32) (50 : Int32) M) fun M3 _ => gd (M3.1 v0 = 7) <| if ((mm_i M3 v0 7) + v1) ≤ (2000 : Int32) then (f_X7_tick_L31 200 v0 v1 (0 : Int32) M3) else (some (M3, .inr 1))
abbrev rm_X7_tick : Room := { frames := 7, cells := 2, slots := 12, locals := 140 }
theorem hd_X7_tick : yX7_tick.cls ≠ "java/lang/invoke/MethodHandle" ∧ yX7_tick.cls ≠ "java/lang/invoke/VarHandle" ∧ (parseMethodDescriptor yX7_tick.desc).map (fun d => d.parameters.length) = some 1 := by decide +kernel
set_option maxHeartbeats 8000000 in
set_option maxRecDepth 100000 in
theorem c_X7_tick {l : Launch} (hlt : l.stackTraces = false) {D : va_G} {ca : Nat → ClassId} {b : Nat} {v0 : Nat} {v1 : Int32} {M : Mem} {r : Mem × (Int32 ⊕ Nat)} (hf : f_X7_tick v0 v1 M = some r) : CxI l yX7_tick cX7_tick 3 (some .int) rm_X7_tick D ca b [.ref v0, .int v1] M r 2 12 := by
  intro sz
  refine bodyx_start (nx := false) (Qc := fun A => cxI D ca A r) (XC := fun A => cxX D ca A r) (by decide +kernel) (Nat.le_of_ble_eq_true rfl) ?_
  intro p e s m args below meth c A hC htab hr hR ls hl
  obtain ⟨hx, hb, hml, hts, hown, hlocks, hXe, hA, hAb, hnm⟩ := id hC
  have hK := hXe.1
  have hl : lv_has ls 3 [(0, .ref v0), (1, .int v1)] := hl
  have hB31 : ∀ (k31 : Nat → Int32 → Int32 → Mem → Option (Mem × (Int32 ⊕ Nat))) (hk31 : ∀ (v0 : Nat) (v1 : Int32) (v2 : Int32) (M : Mem) (H : Heap) (locs : List Loc) (ls : Array Slot), k31 v0 v1 v2 M = some r → Hp D ca false A s M H locs → lv_has ls 3 [(0, .ref v0), (1, .int v1), (2, .int v2)] → W p l e rm_X7_tick s m args below meth c H locs 1 6 (vx_MQ below (cxI D ca A r) (cxX D ca A r) args s 2 12 A) (F0 m 31 ls [])) (v0 : Nat) (v1 : Int32) (v2 : Int32) (M : Mem) (H : Heap) (locs : List Loc) (ls : Array Slot), f_X7_tick_b31 k31 v0 v1 v2 M = some r → Hp D ca false A s M H locs → lv_has ls 3 [(0, .ref v0), (1, .int v1), (2, .int v2)] → W p l e rm_X7_tick s m args below meth c H locs 1 6 (vx_MQ below (cxI D ca A r) (cxX D ca A r) args s 2 12 A) (F0 m 31 ls []) := by
    intro k31 hk31 v0 v1 v2 M H locs ls hf hR hl
    unfold f_X7_tick_b31 at hf
    refine lv_iload_n (pc := 31) hx hb dX7_tick_31 rfl (lv_at hl 2 rfl) ?_
    refine lv_iload_n (pc := 32) hx hb dX7_tick_32 rfl (lv_at hl 1 rfl) ?_
    refine lv_icmp_ge (pc := 33) (tgt := 46) hx hb dX7_tick_33 (by decide) (fun hc => ?_) (fun hc => ?_)
    · replace hf := it_t hf hc
      refine lv_aload_n (pc := 46) hx hb dX7_tick_46 rfl (lv_at hl 0 rfl) ?_
      refine rg_get (pc := 47) (C := RX7) (T := TX7) (N := 11) (κ := 7) (v := .int (mm_i M v0 7)) hx hb hts hK hR hown in_7 rfl (by decide) 7 (by decide) m_224 rfl dX7_tick_47 hf (fun hf => ?_)
      exact rg_xiret (pc := 50) hx hb hlocks hr hf hR (by show 1 ≤ 2; decide) (by show 6 ≤ 12; decide) dX7_tick_50
    · replace hf := it_f hf hc
      refine lv_aload_n (pc := 36) hx hb dX7_tick_36 rfl (lv_at hl 0 rfl) ?_
      obtain ⟨hq, hf⟩ := gd_e hf
      refine rg_V (pc := 37) hf hR hA (fun z hz => rn_V (κ := 7) (As := []) (rest := []) hC hR rfl (by decide) hq (c_X7_passTick  hz _) m_378 m_380 ms_1 m_1 m_381 hd_X7_passTick ⟨rfl, rfl, Nat.le_of_ble_eq_true rfl, Nat.le_of_ble_eq_true rfl⟩ rfl hl.1 rfl (Nat.le_of_ble_eq_true rfl) dX7_tick_37 ⟨Nat.le_of_ble_eq_true rfl, Nat.le_of_ble_eq_true rfl⟩) (fun z1 H locs hf hR => ?_)
      refine rg_iinc (pc := 40) hx hb dX7_tick_40 hl (k := 2) rfl rfl (by decide) hf (fun x2 ls hf hl => ?_)
      have hl : lv_has ls 3 [(2, .int x2), (0, .ref v0), (1, .int v1)] := hl
      refine lv_goto (pc := 43) (tgt := 31) hx hb dX7_tick_43 (by decide) ?_
      exact hk31 v0 v1 x2 z1 _ _ _ hf hR (lv_sub hl [1, 2, 0] rfl)
  have hL31 : ∀  (n : Nat) (v0 : Nat) (v1 : Int32) (v2 : Int32) (M : Mem) (H : Heap) (locs : List Loc) (ls : Array Slot), f_X7_tick_L31  n v0 v1 v2 M = some r → Hp D ca false A s M H locs → lv_has ls 3 [(0, .ref v0), (1, .int v1), (2, .int v2)] → W p l e rm_X7_tick s m args below meth c H locs 1 6 (vx_MQ below (cxI D ca A r) (cxX D ca A r) args s 2 12 A) (F0 m 31 ls []) := by
    intro  n
    induction n with
    | zero => intro v0 v1 v2 M H locs ls hf; exact nomatch (show (none : Option (Mem × (Int32 ⊕ Nat))) = some r from hf)
    | succ n ih => intro v0 v1 v2 M H locs ls hf hR hl; exact hB31  (f_X7_tick_L31  n) ih v0 v1 v2 M H locs ls hf hR hl
  unfold f_X7_tick at hf
  refine lv_iload_n (pc := 0) hx hb dX7_tick_0 rfl (lv_at hl 1 rfl) ?_
  refine lv_iconst (pc := 1) (v := (1 : Int32)) hx hb dX7_tick_1 (by decide) ?_
  refine lv_bipush (pc := 2) (v := (50 : Int32)) hx hb dX7_tick_2 (by decide) ?_
  refine rg_xV (pc := 4) hf hR hA htab hlocks (by show 1 ≤ 2; decide) (by show 6 ≤ 12; decide) (fun z hz => xn_S (As := [.int v1, .int (1 : Int32), .int (50 : Int32)]) (rest := []) hC hR (c_X7_requireRange hlt hz _) m_261 m_262 m_1 m_263 hd_X7_requireRange ⟨rfl, rfl, Nat.le_of_ble_eq_true rfl, Nat.le_of_ble_eq_true rfl⟩ rfl hl.1 rfl (Nat.le_of_ble_eq_true rfl) dX7_tick_4 ⟨Nat.le_of_ble_eq_true rfl, Nat.le_of_ble_eq_true rfl⟩) (fun M3 H locs hf hR => ?_)
  refine lv_aload_n (pc := 7) hx hb dX7_tick_7 rfl (lv_at hl 0 rfl) ?_
  refine rg_get (pc := 8) (C := RX7) (T := TX7) (N := 11) (κ := 7) (v := .int (mm_i M3 v0 7)) hx hb hts hK hR hown in_7 rfl (by decide) 7 (by decide) m_224 rfl dX7_tick_8 hf (fun hf => ?_)
  refine lv_iload_n (pc := 11) hx hb dX7_tick_11 rfl (lv_at hl 1 rfl) ?_
  refine lv_iadd (pc := 12) hx hb dX7_tick_12 ?_
  refine lv_sipush (pc := 13) (v := (2000 : Int32)) hx hb dX7_tick_13 (by decide) ?_
  refine lv_icmp_le (pc := 16) (tgt := 29) hx hb dX7_tick_16 (by decide) (fun hc => ?_) (fun hc => ?_)
  · replace hf := it_t hf hc
    refine lv_iconst (pc := 29) (v := (0 : Int32)) hx hb dX7_tick_29 (by decide) ?_
    refine lv_istore_n (pc := 30) (lv' := [(2, .int (0 : Int32)), (0, .ref v0), (1, .int v1)]) hx hb dX7_tick_30 rfl hl (by decide) rfl (fun ls hl => ?_)
    exact hL31 200 v0 v1 (0 : Int32) M3 _ _ _ hf hR (lv_sub hl [1, 2, 0] rfl)
  · replace hf := it_f hf hc
    exact rg_thr (pc := 19) 1 (by decide) hC htab hlt hl.1 rfl m_333 (is := 108) (text := "the tick would be above 2000") (by decide +kernel) hf hR dX7_tick_19 dX7_tick_22 dX7_tick_23 dX7_tick_25 dX7_tick_28 (Nat.le_of_ble_eq_true rfl) (Nat.le_of_ble_eq_true rfl) (Nat.le_of_ble_eq_true rfl) (Nat.le_of_ble_eq_true rfl) (by show 2 ≤ 2; decide) (by show 12 ≤ 12; decide)
-- X7_requireNumber
def f_X7_requireNumber_b9   (M : Mem) : Option (Mem × (Unit ⊕ Nat)) := some (M, .inr 2)
def f_X7_requireNumber (v0 : Int32) (v1 : Int32) (M : Mem) : Option (Mem × (Unit ⊕ Nat)) := if v0 < 0 then (f_X7_requireNumber_b9  M) else (if v0 < v1 then (some (M, .inl ())) else (f_X7_requireNumber_b9  M))
abbrev rm_X7_requireNumber : Room := { frames := 6, cells := 1, slots := 6, locals := 90 }
theorem hd_X7_requireNumber : yX7_requireNumber.cls ≠ "java/lang/invoke/MethodHandle" ∧ yX7_requireNumber.cls ≠ "java/lang/invoke/VarHandle" ∧ (parseMethodDescriptor yX7_requireNumber.desc).map (fun d => d.parameters.length) = some 2 := by decide +kernel
set_option maxHeartbeats 8000000 in
set_option maxRecDepth 100000 in
theorem c_X7_requireNumber {l : Launch} (hlt : l.stackTraces = false) {D : va_G} {ca : Nat → ClassId} {b : Nat} {v0 : Int32} {v1 : Int32} {M : Mem} {r : Mem × (Unit ⊕ Nat)} (hf : f_X7_requireNumber v0 v1 M = some r) : CxV l yX7_requireNumber cX7_requireNumber 2 none rm_X7_requireNumber D ca b [.int v0, .int v1] M r 1 6 := by
  intro sz
  refine bodyx_start (nx := false) (Qc := fun A => cxV D ca A r) (XC := fun A => cxX D ca A r) (by decide +kernel) (Nat.le_of_ble_eq_true rfl) ?_
  intro p e s m args below meth c A hC htab hr hR ls hl
  obtain ⟨hx, hb, hml, hts, hown, hlocks, hXe, hA, hAb, hnm⟩ := id hC
  have hK := hXe.1
  have hl : lv_has ls 2 [(0, .int v0), (1, .int v1)] := hl
  have hB9 : ∀   (M : Mem) (H : Heap) (locs : List Loc) (ls : Array Slot), f_X7_requireNumber_b9   M = some r → Hp D ca false A s M H locs → lv_has ls 2 [] → W p l e rm_X7_requireNumber s m args below meth c H locs 0 0 (vx_MQ below (cxV D ca A r) (cxX D ca A r) args s 1 6 A) (F0 m 9 ls []) := by
    intro   M H locs ls hf hR hl
    unfold f_X7_requireNumber_b9 at hf
    exact rg_thrW (pc := 9) 2 (by decide) hC htab hlt hl.1 rfl m_466 (is := 269) (text := "there is none with this number") (by decide +kernel) hf hR dX7_requireNumber_9 dX7_requireNumber_12 dX7_requireNumber_13 dX7_requireNumber_16 dX7_requireNumber_19 (Nat.le_of_ble_eq_true rfl) (Nat.le_of_ble_eq_true rfl) (Nat.le_of_ble_eq_true rfl) (Nat.le_of_ble_eq_true rfl) (by show 1 ≤ 1; decide) (by show 6 ≤ 6; decide)
  unfold f_X7_requireNumber at hf
  refine lv_iload_n (pc := 0) hx hb dX7_requireNumber_0 rfl (lv_at hl 0 rfl) ?_
  refine lv_if_lt (pc := 1) (tgt := 9) hx hb dX7_requireNumber_1 (by decide) (fun hc => ?_) (fun hc => ?_)
  · replace hf := it_t hf hc
    exact hB9  M _ _ _ hf hR (lv_sub hl [] rfl)
  · replace hf := it_f hf hc
    refine lv_iload_n (pc := 4) hx hb dX7_requireNumber_4 rfl (lv_at hl 0 rfl) ?_
    refine lv_iload_n (pc := 5) hx hb dX7_requireNumber_5 rfl (lv_at hl 1 rfl) ?_
    refine lv_icmp_lt (pc := 6) (tgt := 20) hx hb dX7_requireNumber_6 (by decide) (fun hc => ?_) (fun hc => ?_)
    · replace hf := it_t hf hc
      exact rg_xvret (pc := 20) hx hb hlocks hr hf hR (by show 0 ≤ 1; decide) (by show 0 ≤ 6; decide) dX7_requireNumber_20
    · replace hf := it_f hf hc
      exact hB9  M _ _ _ hf hR (lv_sub hl [] rfl)
-- X7_told
def f_X7_told_b97  (s0 : Int32) (M : Mem) : Option (Mem × (Int32 ⊕ Nat)) := some (M, .inl s0)
def f_X7_told (v0 : Nat) (v1 : Int32) (v2 : Int32) (M : Mem) : Option (Mem × (Int32 ⊕ Nat)) := gd (M.1 v0 = 7) <| rd (mm_r M v0 0) fun a1 => gd (M.1 a1 = 3) <| bx (f_X7_requireNumber v1 (mm_i M a1 3) M) fun M2 _ => gd (M2.1 v0 = 7) <| rd (mm_r M2 v0 0) fun a4 => gd (M2.1 a4 = 3) <| rd (mm_r M2 a4 2) fun a5 => gd (M2.1 a5 = 13 ∧ vi_ v1 (mm_N M2 a5)) <| rd (mm_r M2 a5 (v1).toNatClampNeg) fun a6 => if v2 = (0 : Int32) then (gd (M2.1 a6 = 2) <| some (M2, .inl (mm_i M2 a6 0))) else if v2 = (1 : Int32) then (gd (M2.1 a6 = 2) <| some (M2, .inl (mm_i M2 a6 1))) else if v2 = (2 : Int32) then (gd (M2.1 a6 = 2) <| some (M2, .inl (mm_i M2 a6 2))) else if v2 = (3 : Int32) then (gd (M2.1 a6 = 2) <| some (M2, .inl (mm_i M2 a6 3))) else if v2 = (4 : Int32) then (gd (M2.1 a6 = 2) <| some (M2, .inl (mm_i M2 a6 4))) else if v2 = (5 : Int32) then (gd (M2.1 a6 = 2) <| if (mm_i M2 a6 5) = 0 then (f_X7_told_b97 (0 : Int32) M2) else (f_X7_told_b97 (1 : Int32) M2)) else (some (M2, .inr 0))
abbrev rm_X7_told : Room := { frames := 7, cells := 2, slots := 12, locals := 111 }
theorem hd_X7_told : yX7_told.cls ≠ "java/lang/invoke/MethodHandle" ∧ yX7_told.cls ≠ "java/lang/invoke/VarHandle" ∧ (parseMethodDescriptor yX7_told.desc).map (fun d => d.parameters.length) = some 2 := by decide +kernel
set_option maxHeartbeats 8000000 in
set_option maxRecDepth 100000 in
theorem c_X7_told {l : Launch} (hlt : l.stackTraces = false) {D : va_G} {ca : Nat → ClassId} {b : Nat} {v0 : Nat} {v1 : Int32} {v2 : Int32} {M : Mem} {r : Mem × (Int32 ⊕ Nat)} (hf : f_X7_told v0 v1 v2 M = some r) : CxI l yX7_told cX7_told 4 (some .int) rm_X7_told D ca b [.ref v0, .int v1, .int v2] M r 2 12 := by
  intro sz
  refine bodyx_start (nx := false) (Qc := fun A => cxI D ca A r) (XC := fun A => cxX D ca A r) (by decide +kernel) (Nat.le_of_ble_eq_true rfl) ?_
  intro p e s m args below meth c A hC htab hr hR ls hl
  obtain ⟨hx, hb, hml, hts, hown, hlocks, hXe, hA, hAb, hnm⟩ := id hC
  have hK := hXe.1
  have hl : lv_has ls 4 [(0, .ref v0), (1, .int v1), (2, .int v2)] := hl
  have hB97 : ∀  (s0 : Int32) (M : Mem) (H : Heap) (locs : List Loc) (ls : Array Slot), f_X7_told_b97  s0 M = some r → Hp D ca false A s M H locs → lv_has ls 4 [] → W p l e rm_X7_told s m args below meth c H locs 1 6 (vx_MQ below (cxI D ca A r) (cxX D ca A r) args s 2 12 A) (F0 m 97 ls [.int s0]) := by
    intro  s0 M H locs ls hf hR hl
    unfold f_X7_told_b97 at hf
    exact rg_xiret (pc := 97) hx hb hlocks hr hf hR (by show 1 ≤ 2; decide) (by show 6 ≤ 12; decide) dX7_told_97
  unfold f_X7_told at hf
  refine lv_iload_n (pc := 0) hx hb dX7_told_0 rfl (lv_at hl 1 rfl) ?_
  refine lv_aload_n (pc := 1) hx hb dX7_told_1 rfl (lv_at hl 0 rfl) ?_
  refine rg_getr (pc := 2) (C := RX7) (T := TX7) (N := 11) (κ := 7) hx hb hts hK hR hown in_7 rfl (by decide) 0 (by decide) m_219 rfl dX7_told_2 hf (fun a1 hf => ?_)
  refine rg_get (pc := 5) (C := RX3) (T := TX3) (N := 7) (κ := 3) (v := .int (mm_i M a1 3)) hx hb hts hK hR hown in_3 rfl (by decide) 3 (by decide) m_147 rfl dX7_told_5 hf (fun hf => ?_)
  refine rg_xV (pc := 8) hf hR hA htab hlocks (by show 1 ≤ 2; decide) (by show 6 ≤ 12; decide) (fun z hz => xn_S (As := [.int v1, .int (mm_i M a1 3)]) (rest := []) hC hR (c_X7_requireNumber hlt hz _) m_463 m_464 m_1 m_465 hd_X7_requireNumber ⟨rfl, rfl, Nat.le_of_ble_eq_true rfl, Nat.le_of_ble_eq_true rfl⟩ rfl hl.1 rfl (Nat.le_of_ble_eq_true rfl) dX7_told_8 ⟨Nat.le_of_ble_eq_true rfl, Nat.le_of_ble_eq_true rfl⟩) (fun M2 H locs hf hR => ?_)
  refine lv_aload_n (pc := 11) hx hb dX7_told_11 rfl (lv_at hl 0 rfl) ?_
  refine rg_getr (pc := 12) (C := RX7) (T := TX7) (N := 11) (κ := 7) hx hb hts hK hR hown in_7 rfl (by decide) 0 (by decide) m_219 rfl dX7_told_12 hf (fun a4 hf => ?_)
  refine rg_getr (pc := 15) (C := RX3) (T := TX3) (N := 7) (κ := 3) hx hb hts hK hR hown in_3 rfl (by decide) 2 (by decide) m_145 rfl dX7_told_15 hf (fun a5 hf => ?_)
  refine lv_iload_n (pc := 18) hx hb dX7_told_18 rfl (lv_at hl 1 rfl) ?_
  refine rg_aald (pc := 19) (κ := 13) hx hb hK hR 3 rfl (by decide) dX7_told_19 hf (fun a6 hf => ?_)
  refine lv_astore_n (pc := 20) (lv' := [(3, .ref a6), (0, .ref v0), (1, .int v1), (2, .int v2)]) hx hb dX7_told_20 rfl hl (by decide) rfl (fun ls hl => ?_)
  refine lv_iload_n (pc := 21) hx hb dX7_told_21 rfl (lv_at hl 3 rfl) ?_
  by_cases hw0 : v2 = (0 : Int32)
  · replace hf := it_t hf hw0
    refine lv_tableIn (pc := 22) (off := 38) (tgt := 60) hx hb dX7_told_22 (by rw [hw0]; decide) (by rw [hw0]; decide) (by rw [hw0]; decide) (by decide) ?_
    refine lv_aload_n (pc := 60) hx hb dX7_told_60 rfl (lv_at hl 0 rfl) ?_
    refine rg_get (pc := 61) (C := RX2) (T := TX2) (N := 7) (κ := 2) (v := .int (mm_i M2 a6 0)) hx hb hts hK hR hown in_2 rfl (by decide) 0 (by decide) m_109 rfl dX7_told_61 hf (fun hf => ?_)
    exact rg_xiret (pc := 64) hx hb hlocks hr hf hR (by show 1 ≤ 2; decide) (by show 6 ≤ 12; decide) dX7_told_64
  replace hf := it_f hf hw0
  by_cases hw1 : v2 = (1 : Int32)
  · replace hf := it_t hf hw1
    refine lv_tableIn (pc := 22) (off := 43) (tgt := 65) hx hb dX7_told_22 (by rw [hw1]; decide) (by rw [hw1]; decide) (by rw [hw1]; decide) (by decide) ?_
    refine lv_aload_n (pc := 65) hx hb dX7_told_65 rfl (lv_at hl 0 rfl) ?_
    refine rg_get (pc := 66) (C := RX2) (T := TX2) (N := 7) (κ := 2) (v := .int (mm_i M2 a6 1)) hx hb hts hK hR hown in_2 rfl (by decide) 1 (by decide) m_112 rfl dX7_told_66 hf (fun hf => ?_)
    exact rg_xiret (pc := 69) hx hb hlocks hr hf hR (by show 1 ≤ 2; decide) (by show 6 ≤ 12; decide) dX7_told_69
  replace hf := it_f hf hw1
  by_cases hw2 : v2 = (2 : Int32)
  · replace hf := it_t hf hw2
    refine lv_tableIn (pc := 22) (off := 48) (tgt := 70) hx hb dX7_told_22 (by rw [hw2]; decide) (by rw [hw2]; decide) (by rw [hw2]; decide) (by decide) ?_
    refine lv_aload_n (pc := 70) hx hb dX7_told_70 rfl (lv_at hl 0 rfl) ?_
    refine rg_get (pc := 71) (C := RX2) (T := TX2) (N := 7) (κ := 2) (v := .int (mm_i M2 a6 2)) hx hb hts hK hR hown in_2 rfl (by decide) 2 (by decide) m_115 rfl dX7_told_71 hf (fun hf => ?_)
    exact rg_xiret (pc := 74) hx hb hlocks hr hf hR (by show 1 ≤ 2; decide) (by show 6 ≤ 12; decide) dX7_told_74
  replace hf := it_f hf hw2
  by_cases hw3 : v2 = (3 : Int32)
  · replace hf := it_t hf hw3
    refine lv_tableIn (pc := 22) (off := 53) (tgt := 75) hx hb dX7_told_22 (by rw [hw3]; decide) (by rw [hw3]; decide) (by rw [hw3]; decide) (by decide) ?_
    refine lv_aload_n (pc := 75) hx hb dX7_told_75 rfl (lv_at hl 0 rfl) ?_
    refine rg_get (pc := 76) (C := RX2) (T := TX2) (N := 7) (κ := 2) (v := .int (mm_i M2 a6 3)) hx hb hts hK hR hown in_2 rfl (by decide) 3 (by decide) m_117 rfl dX7_told_76 hf (fun hf => ?_)
    exact rg_xiret (pc := 79) hx hb hlocks hr hf hR (by show 1 ≤ 2; decide) (by show 6 ≤ 12; decide) dX7_told_79
  replace hf := it_f hf hw3
  by_cases hw4 : v2 = (4 : Int32)
  · replace hf := it_t hf hw4
    refine lv_tableIn (pc := 22) (off := 58) (tgt := 80) hx hb dX7_told_22 (by rw [hw4]; decide) (by rw [hw4]; decide) (by rw [hw4]; decide) (by decide) ?_
    refine lv_aload_n (pc := 80) hx hb dX7_told_80 rfl (lv_at hl 0 rfl) ?_
    refine rg_get (pc := 81) (C := RX2) (T := TX2) (N := 7) (κ := 2) (v := .int (mm_i M2 a6 4)) hx hb hts hK hR hown in_2 rfl (by decide) 4 (by decide) m_119 rfl dX7_told_81 hf (fun hf => ?_)
    exact rg_xiret (pc := 84) hx hb hlocks hr hf hR (by show 1 ≤ 2; decide) (by show 6 ≤ 12; decide) dX7_told_84
  replace hf := it_f hf hw4
  by_cases hw5 : v2 = (5 : Int32)
  · replace hf := it_t hf hw5
    refine lv_tableIn (pc := 22) (off := 63) (tgt := 85) hx hb dX7_told_22 (by rw [hw5]; decide) (by rw [hw5]; decide) (by rw [hw5]; decide) (by decide) ?_
    refine lv_aload_n (pc := 85) hx hb dX7_told_85 rfl (lv_at hl 0 rfl) ?_
    refine rg_get (pc := 86) (C := RX2) (T := TX2) (N := 7) (κ := 2) (v := .int (mm_i M2 a6 5)) hx hb hts hK hR hown in_2 rfl (by decide) 5 (by decide) m_122 rfl dX7_told_86 hf (fun hf => ?_)
    refine lv_if_eq (pc := 89) (tgt := 96) hx hb dX7_told_89 (by decide) (fun hc => ?_) (fun hc => ?_)
    · replace hf := it_t hf hc
      refine lv_iconst (pc := 96) (v := (0 : Int32)) hx hb dX7_told_96 (by decide) ?_
      exact hB97 (0 : Int32) M2 _ _ _ hf hR (lv_sub hl [] rfl)
    · replace hf := it_f hf hc
      refine lv_iconst (pc := 92) (v := (1 : Int32)) hx hb dX7_told_92 (by decide) ?_
      refine lv_goto (pc := 93) (tgt := 97) hx hb dX7_told_93 (by decide) ?_
      exact hB97 (1 : Int32) M2 _ _ _ hf hR (lv_sub hl [] rfl)
  replace hf := it_f hf hw5
  refine lv_tableOut (pc := 22) (tgt := 98) hx hb dX7_told_22 (by have h0 := sw_ne (0 : Int32) (k := 0) (by decide) hw0; have h1 := sw_ne (1 : Int32) (k := 1) (by decide) hw1; have h2 := sw_ne (2 : Int32) (k := 2) (by decide) hw2; have h3 := sw_ne (3 : Int32) (k := 3) (by decide) hw3; have h4 := sw_ne (4 : Int32) (k := 4) (by decide) hw4; have h5 := sw_ne (5 : Int32) (k := 5) (by decide) hw5; omega) (by decide) ?_
  exact rg_thr (pc := 98) 0 (by decide) hC htab hlt hl.1 rfl m_264 (is := 177) (text := "what is 0 to 5") (by decide +kernel) hf hR dX7_told_98 dX7_told_101 dX7_told_102 dX7_told_104 dX7_told_107 (Nat.le_of_ble_eq_true rfl) (Nat.le_of_ble_eq_true rfl) (Nat.le_of_ble_eq_true rfl) (Nat.le_of_ble_eq_true rfl) (by show 2 ≤ 2; decide) (by show 12 ≤ 12; decide)
-- X7_angle
def f_X7_angle (v0 : Nat) (v1 : Int32) (M : Mem) : Option (Mem × (Int32 ⊕ Nat)) := gd (M.1 v0 = 7) <| bx (f_X7_requireNumber v1 (mm_i M v0 2) M) fun M1 _ => gd (M1.1 v0 = 7) <| rd (mm_r M1 v0 1) fun a3 => gd (M1.1 a3 = 14 ∧ vi_ v1 (mm_N M1 a3)) <| rd (mm_r M1 a3 (v1).toNatClampNeg) fun a4 => gd (M1.1 a4 = 5) <| some (M1, .inl (mm_i M1 a4 1))
abbrev rm_X7_angle : Room := { frames := 7, cells := 1, slots := 6, locals := 111 }
theorem hd_X7_angle : yX7_angle.cls ≠ "java/lang/invoke/MethodHandle" ∧ yX7_angle.cls ≠ "java/lang/invoke/VarHandle" ∧ (parseMethodDescriptor yX7_angle.desc).map (fun d => d.parameters.length) = some 1 := by decide +kernel
set_option maxHeartbeats 8000000 in
set_option maxRecDepth 100000 in
theorem c_X7_angle {l : Launch} (hlt : l.stackTraces = false) {D : va_G} {ca : Nat → ClassId} {b : Nat} {v0 : Nat} {v1 : Int32} {M : Mem} {r : Mem × (Int32 ⊕ Nat)} (hf : f_X7_angle v0 v1 M = some r) : CxI l yX7_angle cX7_angle 2 (some .int) rm_X7_angle D ca b [.ref v0, .int v1] M r 1 6 := by
  intro sz
  refine bodyx_start (nx := false) (Qc := fun A => cxI D ca A r) (XC := fun A => cxX D ca A r) (by decide +kernel) (Nat.le_of_ble_eq_true rfl) ?_
  intro p e s m args below meth c A hC htab hr hR ls hl
  obtain ⟨hx, hb, hml, hts, hown, hlocks, hXe, hA, hAb, hnm⟩ := id hC
  have hK := hXe.1
  have hl : lv_has ls 2 [(0, .ref v0), (1, .int v1)] := hl
  unfold f_X7_angle at hf
  refine lv_iload_n (pc := 0) hx hb dX7_angle_0 rfl (lv_at hl 1 rfl) ?_
  refine lv_aload_n (pc := 1) hx hb dX7_angle_1 rfl (lv_at hl 0 rfl) ?_
  refine rg_get (pc := 2) (C := RX7) (T := TX7) (N := 11) (κ := 7) (v := .int (mm_i M v0 2)) hx hb hts hK hR hown in_7 rfl (by decide) 2 (by decide) m_221 rfl dX7_angle_2 hf (fun hf => ?_)
  refine rg_xV (pc := 5) hf hR hA htab hlocks (by show 1 ≤ 1; decide) (by show 6 ≤ 6; decide) (fun z hz => xn_S (As := [.int v1, .int (mm_i M v0 2)]) (rest := []) hC hR (c_X7_requireNumber hlt hz _) m_463 m_464 m_1 m_465 hd_X7_requireNumber ⟨rfl, rfl, Nat.le_of_ble_eq_true rfl, Nat.le_of_ble_eq_true rfl⟩ rfl hl.1 rfl (Nat.le_of_ble_eq_true rfl) dX7_angle_5 ⟨Nat.le_of_ble_eq_true rfl, Nat.le_of_ble_eq_true rfl⟩) (fun M1 H locs hf hR => ?_)
  refine lv_aload_n (pc := 8) hx hb dX7_angle_8 rfl (lv_at hl 0 rfl) ?_
  refine rg_getr (pc := 9) (C := RX7) (T := TX7) (N := 11) (κ := 7) hx hb hts hK hR hown in_7 rfl (by decide) 1 (by decide) m_220 rfl dX7_angle_9 hf (fun a3 hf => ?_)
  refine lv_iload_n (pc := 12) hx hb dX7_angle_12 rfl (lv_at hl 1 rfl) ?_
  refine rg_aald (pc := 13) (κ := 14) hx hb hK hR 4 rfl (by decide) dX7_angle_13 hf (fun a4 hf => ?_)
  refine rg_get (pc := 14) (C := RX5) (T := TX5) (N := 3) (κ := 5) (v := .int (mm_i M1 a4 1)) hx hb hts hK hR hown in_5 rfl (by decide) 1 (by decide) m_178 rfl dX7_angle_14 hf (fun hf => ?_)
  exact rg_xiret (pc := 17) hx hb hlocks hr hf hR (by show 1 ≤ 1; decide) (by show 6 ≤ 6; decide) dX7_angle_17
-- X7_speed
def f_X7_speed (v0 : Nat) (v1 : Int32) (M : Mem) : Option (Mem × (Int32 ⊕ Nat)) := bx (f_X7_requireLane v1 M) fun M1 _ => gd (M1.1 v0 = 7) <| rd (mm_r M1 v0 0) fun a3 => gd (M1.1 a3 = 3) <| rd (mm_r M1 a3 0) fun a4 => gd (M1.1 a4 = 6) <| bd (f_X6_speedIn a4 v1 M1) fun z5 => some (z5.1, .inl z5.2)
abbrev rm_X7_speed : Room := { frames := 8, cells := 1, slots := 6, locals := 132 }
theorem hd_X7_speed : yX7_speed.cls ≠ "java/lang/invoke/MethodHandle" ∧ yX7_speed.cls ≠ "java/lang/invoke/VarHandle" ∧ (parseMethodDescriptor yX7_speed.desc).map (fun d => d.parameters.length) = some 1 := by decide +kernel
set_option maxHeartbeats 8000000 in
set_option maxRecDepth 100000 in
theorem c_X7_speed {l : Launch} (hlt : l.stackTraces = false) {D : va_G} {ca : Nat → ClassId} {b : Nat} {v0 : Nat} {v1 : Int32} {M : Mem} {r : Mem × (Int32 ⊕ Nat)} (hf : f_X7_speed v0 v1 M = some r) : CxI l yX7_speed cX7_speed 2 (some .int) rm_X7_speed D ca b [.ref v0, .int v1] M r 1 6 := by
  intro sz
  refine bodyx_start (nx := false) (Qc := fun A => cxI D ca A r) (XC := fun A => cxX D ca A r) (by decide +kernel) (Nat.le_of_ble_eq_true rfl) ?_
  intro p e s m args below meth c A hC htab hr hR ls hl
  obtain ⟨hx, hb, hml, hts, hown, hlocks, hXe, hA, hAb, hnm⟩ := id hC
  have hK := hXe.1
  have hl : lv_has ls 2 [(0, .ref v0), (1, .int v1)] := hl
  unfold f_X7_speed at hf
  refine lv_iload_n (pc := 0) hx hb dX7_speed_0 rfl (lv_at hl 1 rfl) ?_
  refine rg_xV (pc := 1) hf hR hA htab hlocks (by show 1 ≤ 1; decide) (by show 6 ≤ 6; decide) (fun z hz => xn_S (As := [.int v1]) (rest := []) hC hR (c_X7_requireLane hlt hz _) m_258 m_259 m_1 m_260 hd_X7_requireLane ⟨rfl, rfl, Nat.le_of_ble_eq_true rfl, Nat.le_of_ble_eq_true rfl⟩ rfl hl.1 rfl (Nat.le_of_ble_eq_true rfl) dX7_speed_1 ⟨Nat.le_of_ble_eq_true rfl, Nat.le_of_ble_eq_true rfl⟩) (fun M1 H locs hf hR => ?_)
  refine lv_aload_n (pc := 4) hx hb dX7_speed_4 rfl (lv_at hl 0 rfl) ?_
  refine rg_getr (pc := 5) (C := RX7) (T := TX7) (N := 11) (κ := 7) hx hb hts hK hR hown in_7 rfl (by decide) 0 (by decide) m_219 rfl dX7_speed_5 hf (fun a3 hf => ?_)
  refine rg_getr (pc := 8) (C := RX3) (T := TX3) (N := 7) (κ := 3) hx hb hts hK hR hown in_3 rfl (by decide) 0 (by decide) m_141 rfl dX7_speed_8 hf (fun a4 hf => ?_)
  refine lv_iload_n (pc := 11) hx hb dX7_speed_11 rfl (lv_at hl 1 rfl) ?_
  obtain ⟨hq, hf⟩ := gd_e hf
  refine rg_I (pc := 12) hf hR hA (fun z hz => rn_V (κ := 6) (As := [.int v1]) (rest := []) hC hR rfl (by decide) hq (c_X6_speedIn  hz _) m_382 m_383 m_384 m_3 m_385 hd_X6_speedIn ⟨rfl, rfl, Nat.le_of_ble_eq_true rfl, Nat.le_of_ble_eq_true rfl⟩ rfl hl.1 rfl (Nat.le_of_ble_eq_true rfl) dX7_speed_12 ⟨Nat.le_of_ble_eq_true rfl, Nat.le_of_ble_eq_true rfl⟩) (fun z5 H locs hf hR => ?_)
  exact rg_xiret (pc := 15) hx hb hlocks hr hf hR (by show 1 ≤ 1; decide) (by show 6 ≤ 6; decide) dX7_speed_15
-- X7_count
def f_X7_count (v0 : Nat) (v1 : Int32) (M : Mem) : Option (Mem × (Int32 ⊕ Nat)) := if v1 = (0 : Int32) then (gd (M.1 v0 = 7) <| rd (mm_r M v0 0) fun a1 => gd (M.1 a1 = 3) <| some (M, .inl (mm_i M a1 3))) else if v1 = (1 : Int32) then (gd (M.1 v0 = 7) <| rd (mm_r M v0 0) fun a2 => gd (M.1 a2 = 3) <| bd (f_X3_countThere a2 M) fun z3 => some (z3.1, .inl z3.2)) else if v1 = (2 : Int32) then (gd (M.1 v0 = 7) <| rd (mm_r M v0 0) fun a4 => gd (M.1 a4 = 3) <| rd (mm_r M a4 1) fun a5 => gd (M.1 a5 = 4) <| some (M, .inl (mm_i M a5 0))) else if v1 = (3 : Int32) then (gd (M.1 v0 = 7) <| rd (mm_r M v0 0) fun a6 => gd (M.1 a6 = 3) <| rd (mm_r M a6 1) fun a7 => gd (M.1 a7 = 4) <| some (M, .inl (mm_i M a7 1))) else if v1 = (4 : Int32) then (gd (M.1 v0 = 7) <| rd (mm_r M v0 0) fun a8 => gd (M.1 a8 = 3) <| rd (mm_r M a8 1) fun a9 => gd (M.1 a9 = 4) <| some (M, .inl (mm_i M a9 2))) else if v1 = (5 : Int32) then (gd (M.1 v0 = 7) <| rd (mm_r M v0 0) fun a10 => gd (M.1 a10 = 3) <| rd (mm_r M a10 1) fun a11 => gd (M.1 a11 = 4) <| some (M, .inl (mm_i M a11 3))) else if v1 = (6 : Int32) then (gd (M.1 v0 = 7) <| rd (mm_r M v0 0) fun a12 => gd (M.1 a12 = 3) <| rd (mm_r M a12 1) fun a13 => gd (M.1 a13 = 4) <| some (M, .inl (mm_i M a13 4))) else (some (M, .inr 0))
abbrev rm_X7_count : Room := { frames := 6, cells := 1, slots := 6, locals := 90 }
theorem hd_X7_count : yX7_count.cls ≠ "java/lang/invoke/MethodHandle" ∧ yX7_count.cls ≠ "java/lang/invoke/VarHandle" ∧ (parseMethodDescriptor yX7_count.desc).map (fun d => d.parameters.length) = some 1 := by decide +kernel
set_option maxHeartbeats 8000000 in
set_option maxRecDepth 100000 in
theorem c_X7_count {l : Launch} (hlt : l.stackTraces = false) {D : va_G} {ca : Nat → ClassId} {b : Nat} {v0 : Nat} {v1 : Int32} {M : Mem} {r : Mem × (Int32 ⊕ Nat)} (hf : f_X7_count v0 v1 M = some r) : CxI l yX7_count cX7_count 2 (some .int) rm_X7_count D ca b [.ref v0, .int v1] M r 1 6 := by
  intro sz
  refine bodyx_start (nx := false) (Qc := fun A => cxI D ca A r) (XC := fun A => cxX D ca A r) (by decide +kernel) (Nat.le_of_ble_eq_true rfl) ?_
  intro p e s m args below meth c A hC htab hr hR ls hl
  obtain ⟨hx, hb, hml, hts, hown, hlocks, hXe, hA, hAb, hnm⟩ := id hC
  have hK := hXe.1
  have hl : lv_has ls 2 [(0, .ref v0), (1, .int v1)] := hl
  unfold f_X7_count at hf
  refine lv_iload_n (pc := 0) hx hb dX7_count_0 rfl (lv_at hl 1 rfl) ?_
  by_cases hw0 : v1 = (0 : Int32)
  · replace hf := it_t hf hw0
    refine lv_tableIn (pc := 1) (off := 43) (tgt := 44) hx hb dX7_count_1 (by rw [hw0]; decide) (by rw [hw0]; decide) (by rw [hw0]; decide) (by decide) ?_
    refine lv_aload_n (pc := 44) hx hb dX7_count_44 rfl (lv_at hl 0 rfl) ?_
    refine rg_getr (pc := 45) (C := RX7) (T := TX7) (N := 11) (κ := 7) hx hb hts hK hR hown in_7 rfl (by decide) 0 (by decide) m_219 rfl dX7_count_45 hf (fun a1 hf => ?_)
    refine rg_get (pc := 48) (C := RX3) (T := TX3) (N := 7) (κ := 3) (v := .int (mm_i M a1 3)) hx hb hts hK hR hown in_3 rfl (by decide) 3 (by decide) m_147 rfl dX7_count_48 hf (fun hf => ?_)
    exact rg_xiret (pc := 51) hx hb hlocks hr hf hR (by show 0 ≤ 1; decide) (by show 0 ≤ 6; decide) dX7_count_51
  replace hf := it_f hf hw0
  by_cases hw1 : v1 = (1 : Int32)
  · replace hf := it_t hf hw1
    refine lv_tableIn (pc := 1) (off := 51) (tgt := 52) hx hb dX7_count_1 (by rw [hw1]; decide) (by rw [hw1]; decide) (by rw [hw1]; decide) (by decide) ?_
    refine lv_aload_n (pc := 52) hx hb dX7_count_52 rfl (lv_at hl 0 rfl) ?_
    refine rg_getr (pc := 53) (C := RX7) (T := TX7) (N := 11) (κ := 7) hx hb hts hK hR hown in_7 rfl (by decide) 0 (by decide) m_219 rfl dX7_count_53 hf (fun a2 hf => ?_)
    obtain ⟨hq, hf⟩ := gd_e hf
    refine rg_I (pc := 56) hf hR hA (fun z hz => rn_V (κ := 3) (As := []) (rest := []) hC hR rfl (by decide) hq (c_X3_countThere  hz _) m_495 m_496 m_497 m_2 m_498 hd_X3_countThere ⟨rfl, rfl, Nat.le_of_ble_eq_true rfl, Nat.le_of_ble_eq_true rfl⟩ rfl hl.1 rfl (Nat.le_of_ble_eq_true rfl) dX7_count_56 ⟨Nat.le_of_ble_eq_true rfl, Nat.le_of_ble_eq_true rfl⟩) (fun z3 H locs hf hR => ?_)
    exact rg_xiret (pc := 59) hx hb hlocks hr hf hR (by show 0 ≤ 1; decide) (by show 0 ≤ 6; decide) dX7_count_59
  replace hf := it_f hf hw1
  by_cases hw2 : v1 = (2 : Int32)
  · replace hf := it_t hf hw2
    refine lv_tableIn (pc := 1) (off := 59) (tgt := 60) hx hb dX7_count_1 (by rw [hw2]; decide) (by rw [hw2]; decide) (by rw [hw2]; decide) (by decide) ?_
    refine lv_aload_n (pc := 60) hx hb dX7_count_60 rfl (lv_at hl 0 rfl) ?_
    refine rg_getr (pc := 61) (C := RX7) (T := TX7) (N := 11) (κ := 7) hx hb hts hK hR hown in_7 rfl (by decide) 0 (by decide) m_219 rfl dX7_count_61 hf (fun a4 hf => ?_)
    refine rg_getr (pc := 64) (C := RX3) (T := TX3) (N := 7) (κ := 3) hx hb hts hK hR hown in_3 rfl (by decide) 1 (by decide) m_143 rfl dX7_count_64 hf (fun a5 hf => ?_)
    refine rg_get (pc := 67) (C := RX4) (T := TX4) (N := 13) (κ := 4) (v := .int (mm_i M a5 0)) hx hb hts hK hR hown in_4 rfl (by decide) 0 (by decide) m_47 rfl dX7_count_67 hf (fun hf => ?_)
    exact rg_xiret (pc := 70) hx hb hlocks hr hf hR (by show 0 ≤ 1; decide) (by show 0 ≤ 6; decide) dX7_count_70
  replace hf := it_f hf hw2
  by_cases hw3 : v1 = (3 : Int32)
  · replace hf := it_t hf hw3
    refine lv_tableIn (pc := 1) (off := 70) (tgt := 71) hx hb dX7_count_1 (by rw [hw3]; decide) (by rw [hw3]; decide) (by rw [hw3]; decide) (by decide) ?_
    refine lv_aload_n (pc := 71) hx hb dX7_count_71 rfl (lv_at hl 0 rfl) ?_
    refine rg_getr (pc := 72) (C := RX7) (T := TX7) (N := 11) (κ := 7) hx hb hts hK hR hown in_7 rfl (by decide) 0 (by decide) m_219 rfl dX7_count_72 hf (fun a6 hf => ?_)
    refine rg_getr (pc := 75) (C := RX3) (T := TX3) (N := 7) (κ := 3) hx hb hts hK hR hown in_3 rfl (by decide) 1 (by decide) m_143 rfl dX7_count_75 hf (fun a7 hf => ?_)
    refine rg_get (pc := 78) (C := RX4) (T := TX4) (N := 13) (κ := 4) (v := .int (mm_i M a7 1)) hx hb hts hK hR hown in_4 rfl (by decide) 1 (by decide) m_49 rfl dX7_count_78 hf (fun hf => ?_)
    exact rg_xiret (pc := 81) hx hb hlocks hr hf hR (by show 0 ≤ 1; decide) (by show 0 ≤ 6; decide) dX7_count_81
  replace hf := it_f hf hw3
  by_cases hw4 : v1 = (4 : Int32)
  · replace hf := it_t hf hw4
    refine lv_tableIn (pc := 1) (off := 81) (tgt := 82) hx hb dX7_count_1 (by rw [hw4]; decide) (by rw [hw4]; decide) (by rw [hw4]; decide) (by decide) ?_
    refine lv_aload_n (pc := 82) hx hb dX7_count_82 rfl (lv_at hl 0 rfl) ?_
    refine rg_getr (pc := 83) (C := RX7) (T := TX7) (N := 11) (κ := 7) hx hb hts hK hR hown in_7 rfl (by decide) 0 (by decide) m_219 rfl dX7_count_83 hf (fun a8 hf => ?_)
    refine rg_getr (pc := 86) (C := RX3) (T := TX3) (N := 7) (κ := 3) hx hb hts hK hR hown in_3 rfl (by decide) 1 (by decide) m_143 rfl dX7_count_86 hf (fun a9 hf => ?_)
    refine rg_get (pc := 89) (C := RX4) (T := TX4) (N := 13) (κ := 4) (v := .int (mm_i M a9 2)) hx hb hts hK hR hown in_4 rfl (by decide) 2 (by decide) m_51 rfl dX7_count_89 hf (fun hf => ?_)
    exact rg_xiret (pc := 92) hx hb hlocks hr hf hR (by show 0 ≤ 1; decide) (by show 0 ≤ 6; decide) dX7_count_92
  replace hf := it_f hf hw4
  by_cases hw5 : v1 = (5 : Int32)
  · replace hf := it_t hf hw5
    refine lv_tableIn (pc := 1) (off := 92) (tgt := 93) hx hb dX7_count_1 (by rw [hw5]; decide) (by rw [hw5]; decide) (by rw [hw5]; decide) (by decide) ?_
    refine lv_aload_n (pc := 93) hx hb dX7_count_93 rfl (lv_at hl 0 rfl) ?_
    refine rg_getr (pc := 94) (C := RX7) (T := TX7) (N := 11) (κ := 7) hx hb hts hK hR hown in_7 rfl (by decide) 0 (by decide) m_219 rfl dX7_count_94 hf (fun a10 hf => ?_)
    refine rg_getr (pc := 97) (C := RX3) (T := TX3) (N := 7) (κ := 3) hx hb hts hK hR hown in_3 rfl (by decide) 1 (by decide) m_143 rfl dX7_count_97 hf (fun a11 hf => ?_)
    refine rg_get (pc := 100) (C := RX4) (T := TX4) (N := 13) (κ := 4) (v := .int (mm_i M a11 3)) hx hb hts hK hR hown in_4 rfl (by decide) 3 (by decide) m_53 rfl dX7_count_100 hf (fun hf => ?_)
    exact rg_xiret (pc := 103) hx hb hlocks hr hf hR (by show 0 ≤ 1; decide) (by show 0 ≤ 6; decide) dX7_count_103
  replace hf := it_f hf hw5
  by_cases hw6 : v1 = (6 : Int32)
  · replace hf := it_t hf hw6
    refine lv_tableIn (pc := 1) (off := 103) (tgt := 104) hx hb dX7_count_1 (by rw [hw6]; decide) (by rw [hw6]; decide) (by rw [hw6]; decide) (by decide) ?_
    refine lv_aload_n (pc := 104) hx hb dX7_count_104 rfl (lv_at hl 0 rfl) ?_
    refine rg_getr (pc := 105) (C := RX7) (T := TX7) (N := 11) (κ := 7) hx hb hts hK hR hown in_7 rfl (by decide) 0 (by decide) m_219 rfl dX7_count_105 hf (fun a12 hf => ?_)
    refine rg_getr (pc := 108) (C := RX3) (T := TX3) (N := 7) (κ := 3) hx hb hts hK hR hown in_3 rfl (by decide) 1 (by decide) m_143 rfl dX7_count_108 hf (fun a13 hf => ?_)
    refine rg_get (pc := 111) (C := RX4) (T := TX4) (N := 13) (κ := 4) (v := .int (mm_i M a13 4)) hx hb hts hK hR hown in_4 rfl (by decide) 4 (by decide) m_55 rfl dX7_count_111 hf (fun hf => ?_)
    exact rg_xiret (pc := 114) hx hb hlocks hr hf hR (by show 0 ≤ 1; decide) (by show 0 ≤ 6; decide) dX7_count_114
  replace hf := it_f hf hw6
  refine lv_tableOut (pc := 1) (tgt := 115) hx hb dX7_count_1 (by have h0 := sw_ne (0 : Int32) (k := 0) (by decide) hw0; have h1 := sw_ne (1 : Int32) (k := 1) (by decide) hw1; have h2 := sw_ne (2 : Int32) (k := 2) (by decide) hw2; have h3 := sw_ne (3 : Int32) (k := 3) (by decide) hw3; have h4 := sw_ne (4 : Int32) (k := 4) (by decide) hw4; have h5 := sw_ne (5 : Int32) (k := 5) (by decide) hw5; have h6 := sw_ne (6 : Int32) (k := 6) (by decide) hw6; omega) (by decide) ?_
  exact rg_thr (pc := 115) 0 (by decide) hC htab hlt hl.1 rfl m_264 (is := 208) (text := "what is 0 to 6") (by decide +kernel) hf hR dX7_count_115 dX7_count_118 dX7_count_119 dX7_count_121 dX7_count_124 (Nat.le_of_ble_eq_true rfl) (Nat.le_of_ble_eq_true rfl) (Nat.le_of_ble_eq_true rfl) (Nat.le_of_ble_eq_true rfl) (by show 1 ≤ 1; decide) (by show 6 ≤ 6; decide)
-- X7_mass
def f_X7_mass (v0 : Nat) (v1 : Int32) (M : Mem) : Option (Mem × (Int32 ⊕ Nat)) := bx (f_X7_requireLane v1 M) fun M1 _ => gd (M1.1 v0 = 7) <| rd (mm_r M1 v0 0) fun a3 => gd (M1.1 v0 = 7) <| rd (mm_r M1 v0 8) fun a4 => gd (M1.1 a3 = 3) <| bd (f_X3_weighLanes a3 a4 M1) fun z5 => gd (z5.1 v0 = 7) <| rd (mm_r z5 v0 8) fun a6 => gd (z5.1 a6 = 9 ∧ vi_ v1 (mm_N z5 a6)) <| some (z5, .inl (mm_i z5 a6 (v1).toNatClampNeg))
abbrev rm_X7_mass : Room := { frames := 8, cells := 1, slots := 6, locals := 132 }
theorem hd_X7_mass : yX7_mass.cls ≠ "java/lang/invoke/MethodHandle" ∧ yX7_mass.cls ≠ "java/lang/invoke/VarHandle" ∧ (parseMethodDescriptor yX7_mass.desc).map (fun d => d.parameters.length) = some 1 := by decide +kernel
set_option maxHeartbeats 8000000 in
set_option maxRecDepth 100000 in
theorem c_X7_mass {l : Launch} (hlt : l.stackTraces = false) {D : va_G} {ca : Nat → ClassId} {b : Nat} {v0 : Nat} {v1 : Int32} {M : Mem} {r : Mem × (Int32 ⊕ Nat)} (hf : f_X7_mass v0 v1 M = some r) : CxI l yX7_mass cX7_mass 2 (some .int) rm_X7_mass D ca b [.ref v0, .int v1] M r 1 6 := by
  intro sz
  refine bodyx_start (nx := false) (Qc := fun A => cxI D ca A r) (XC := fun A => cxX D ca A r) (by decide +kernel) (Nat.le_of_ble_eq_true rfl) ?_
  intro p e s m args below meth c A hC htab hr hR ls hl
  obtain ⟨hx, hb, hml, hts, hown, hlocks, hXe, hA, hAb, hnm⟩ := id hC
  have hK := hXe.1
  have hl : lv_has ls 2 [(0, .ref v0), (1, .int v1)] := hl
  unfold f_X7_mass at hf
  refine lv_iload_n (pc := 0) hx hb dX7_mass_0 rfl (lv_at hl 1 rfl) ?_
  refine rg_xV (pc := 1) hf hR hA htab hlocks (by show 1 ≤ 1; decide) (by show 6 ≤ 6; decide) (fun z hz => xn_S (As := [.int v1]) (rest := []) hC hR (c_X7_requireLane hlt hz _) m_258 m_259 m_1 m_260 hd_X7_requireLane ⟨rfl, rfl, Nat.le_of_ble_eq_true rfl, Nat.le_of_ble_eq_true rfl⟩ rfl hl.1 rfl (Nat.le_of_ble_eq_true rfl) dX7_mass_1 ⟨Nat.le_of_ble_eq_true rfl, Nat.le_of_ble_eq_true rfl⟩) (fun M1 H locs hf hR => ?_)
  refine lv_aload_n (pc := 4) hx hb dX7_mass_4 rfl (lv_at hl 0 rfl) ?_
  refine rg_getr (pc := 5) (C := RX7) (T := TX7) (N := 11) (κ := 7) hx hb hts hK hR hown in_7 rfl (by decide) 0 (by decide) m_219 rfl dX7_mass_5 hf (fun a3 hf => ?_)
  refine lv_aload_n (pc := 8) hx hb dX7_mass_8 rfl (lv_at hl 0 rfl) ?_
  refine rg_getr (pc := 9) (C := RX7) (T := TX7) (N := 11) (κ := 7) hx hb hts hK hR hown in_7 rfl (by decide) 8 (by decide) m_225 rfl dX7_mass_9 hf (fun a4 hf => ?_)
  obtain ⟨hq, hf⟩ := gd_e hf
  refine rg_V (pc := 12) hf hR hA (fun z hz => rn_V (κ := 3) (As := [.ref a4]) (rest := []) hC hR rfl (by decide) hq (c_X3_weighLanes  hz _) m_504 m_505 m_506 m_2 m_507 hd_X3_weighLanes ⟨rfl, rfl, Nat.le_of_ble_eq_true rfl, Nat.le_of_ble_eq_true rfl⟩ rfl hl.1 rfl (Nat.le_of_ble_eq_true rfl) dX7_mass_12 ⟨Nat.le_of_ble_eq_true rfl, Nat.le_of_ble_eq_true rfl⟩) (fun z5 H locs hf hR => ?_)
  refine lv_aload_n (pc := 15) hx hb dX7_mass_15 rfl (lv_at hl 0 rfl) ?_
  refine rg_getr (pc := 16) (C := RX7) (T := TX7) (N := 11) (κ := 7) hx hb hts hK hR hown in_7 rfl (by decide) 8 (by decide) m_225 rfl dX7_mass_16 hf (fun a6 hf => ?_)
  refine lv_iload_n (pc := 19) hx hb dX7_mass_19 rfl (lv_at hl 1 rfl) ?_
  refine rg_iald (pc := 20) hx hb hK hR dX7_mass_20 hf (fun hf => ?_)
  exact rg_xiret (pc := 21) hx hb hlocks hr hf hR (by show 1 ≤ 1; decide) (by show 6 ≤ 6; decide) dX7_mass_21
-- X7_sum
def f_X7_sum (v0 : Nat) (v1 : Int32) (M : Mem) : Option (Mem × (Int32 ⊕ Nat)) := if v1 = (0 : Int32) then (gd (M.1 v0 = 7) <| rd (mm_r M v0 0) fun a1 => gd (M.1 a1 = 3) <| bd (f_X3_massThere a1 M) fun z2 => some (z2.1, .inl z2.2)) else if v1 = (1 : Int32) then (gd (M.1 v0 = 7) <| rd (mm_r M v0 0) fun a3 => gd (M.1 a3 = 3) <| rd (mm_r M a3 1) fun a4 => gd (M.1 a4 = 4) <| some (M, .inl (mm_i M a4 6))) else if v1 = (2 : Int32) then (gd (M.1 v0 = 7) <| rd (mm_r M v0 0) fun a5 => gd (M.1 a5 = 3) <| rd (mm_r M a5 1) fun a6 => gd (M.1 a6 = 4) <| some (M, .inl (mm_i M a6 7))) else if v1 = (3 : Int32) then (gd (M.1 v0 = 7) <| rd (mm_r M v0 0) fun a7 => gd (M.1 a7 = 3) <| rd (mm_r M a7 1) fun a8 => gd (M.1 a8 = 4) <| some (M, .inl (mm_i M a8 5))) else (some (M, .inr 0))
abbrev rm_X7_sum : Room := { frames := 6, cells := 1, slots := 6, locals := 90 }
theorem hd_X7_sum : yX7_sum.cls ≠ "java/lang/invoke/MethodHandle" ∧ yX7_sum.cls ≠ "java/lang/invoke/VarHandle" ∧ (parseMethodDescriptor yX7_sum.desc).map (fun d => d.parameters.length) = some 1 := by decide +kernel
set_option maxHeartbeats 8000000 in
set_option maxRecDepth 100000 in
theorem c_X7_sum {l : Launch} (hlt : l.stackTraces = false) {D : va_G} {ca : Nat → ClassId} {b : Nat} {v0 : Nat} {v1 : Int32} {M : Mem} {r : Mem × (Int32 ⊕ Nat)} (hf : f_X7_sum v0 v1 M = some r) : CxI l yX7_sum cX7_sum 2 (some .int) rm_X7_sum D ca b [.ref v0, .int v1] M r 1 6 := by
  intro sz
  refine bodyx_start (nx := false) (Qc := fun A => cxI D ca A r) (XC := fun A => cxX D ca A r) (by decide +kernel) (Nat.le_of_ble_eq_true rfl) ?_
  intro p e s m args below meth c A hC htab hr hR ls hl
  obtain ⟨hx, hb, hml, hts, hown, hlocks, hXe, hA, hAb, hnm⟩ := id hC
  have hK := hXe.1
  have hl : lv_has ls 2 [(0, .ref v0), (1, .int v1)] := hl
  unfold f_X7_sum at hf
  refine lv_iload_n (pc := 0) hx hb dX7_sum_0 rfl (lv_at hl 1 rfl) ?_
  by_cases hw0 : v1 = (0 : Int32)
  · replace hf := it_t hf hw0
    refine lv_tableIn (pc := 1) (off := 31) (tgt := 32) hx hb dX7_sum_1 (by rw [hw0]; decide) (by rw [hw0]; decide) (by rw [hw0]; decide) (by decide) ?_
    refine lv_aload_n (pc := 32) hx hb dX7_sum_32 rfl (lv_at hl 0 rfl) ?_
    refine rg_getr (pc := 33) (C := RX7) (T := TX7) (N := 11) (κ := 7) hx hb hts hK hR hown in_7 rfl (by decide) 0 (by decide) m_219 rfl dX7_sum_33 hf (fun a1 hf => ?_)
    obtain ⟨hq, hf⟩ := gd_e hf
    refine rg_I (pc := 36) hf hR hA (fun z hz => rn_V (κ := 3) (As := []) (rest := []) hC hR rfl (by decide) hq (c_X3_massThere  hz _) m_512 m_513 m_514 m_2 m_515 hd_X3_massThere ⟨rfl, rfl, Nat.le_of_ble_eq_true rfl, Nat.le_of_ble_eq_true rfl⟩ rfl hl.1 rfl (Nat.le_of_ble_eq_true rfl) dX7_sum_36 ⟨Nat.le_of_ble_eq_true rfl, Nat.le_of_ble_eq_true rfl⟩) (fun z2 H locs hf hR => ?_)
    exact rg_xiret (pc := 39) hx hb hlocks hr hf hR (by show 0 ≤ 1; decide) (by show 0 ≤ 6; decide) dX7_sum_39
  replace hf := it_f hf hw0
  by_cases hw1 : v1 = (1 : Int32)
  · replace hf := it_t hf hw1
    refine lv_tableIn (pc := 1) (off := 39) (tgt := 40) hx hb dX7_sum_1 (by rw [hw1]; decide) (by rw [hw1]; decide) (by rw [hw1]; decide) (by decide) ?_
    refine lv_aload_n (pc := 40) hx hb dX7_sum_40 rfl (lv_at hl 0 rfl) ?_
    refine rg_getr (pc := 41) (C := RX7) (T := TX7) (N := 11) (κ := 7) hx hb hts hK hR hown in_7 rfl (by decide) 0 (by decide) m_219 rfl dX7_sum_41 hf (fun a3 hf => ?_)
    refine rg_getr (pc := 44) (C := RX3) (T := TX3) (N := 7) (κ := 3) hx hb hts hK hR hown in_3 rfl (by decide) 1 (by decide) m_143 rfl dX7_sum_44 hf (fun a4 hf => ?_)
    refine rg_get (pc := 47) (C := RX4) (T := TX4) (N := 13) (κ := 4) (v := .int (mm_i M a4 6)) hx hb hts hK hR hown in_4 rfl (by decide) 6 (by decide) m_59 rfl dX7_sum_47 hf (fun hf => ?_)
    exact rg_xiret (pc := 50) hx hb hlocks hr hf hR (by show 0 ≤ 1; decide) (by show 0 ≤ 6; decide) dX7_sum_50
  replace hf := it_f hf hw1
  by_cases hw2 : v1 = (2 : Int32)
  · replace hf := it_t hf hw2
    refine lv_tableIn (pc := 1) (off := 50) (tgt := 51) hx hb dX7_sum_1 (by rw [hw2]; decide) (by rw [hw2]; decide) (by rw [hw2]; decide) (by decide) ?_
    refine lv_aload_n (pc := 51) hx hb dX7_sum_51 rfl (lv_at hl 0 rfl) ?_
    refine rg_getr (pc := 52) (C := RX7) (T := TX7) (N := 11) (κ := 7) hx hb hts hK hR hown in_7 rfl (by decide) 0 (by decide) m_219 rfl dX7_sum_52 hf (fun a5 hf => ?_)
    refine rg_getr (pc := 55) (C := RX3) (T := TX3) (N := 7) (κ := 3) hx hb hts hK hR hown in_3 rfl (by decide) 1 (by decide) m_143 rfl dX7_sum_55 hf (fun a6 hf => ?_)
    refine rg_get (pc := 58) (C := RX4) (T := TX4) (N := 13) (κ := 4) (v := .int (mm_i M a6 7)) hx hb hts hK hR hown in_4 rfl (by decide) 7 (by decide) m_61 rfl dX7_sum_58 hf (fun hf => ?_)
    exact rg_xiret (pc := 61) hx hb hlocks hr hf hR (by show 0 ≤ 1; decide) (by show 0 ≤ 6; decide) dX7_sum_61
  replace hf := it_f hf hw2
  by_cases hw3 : v1 = (3 : Int32)
  · replace hf := it_t hf hw3
    refine lv_tableIn (pc := 1) (off := 61) (tgt := 62) hx hb dX7_sum_1 (by rw [hw3]; decide) (by rw [hw3]; decide) (by rw [hw3]; decide) (by decide) ?_
    refine lv_aload_n (pc := 62) hx hb dX7_sum_62 rfl (lv_at hl 0 rfl) ?_
    refine rg_getr (pc := 63) (C := RX7) (T := TX7) (N := 11) (κ := 7) hx hb hts hK hR hown in_7 rfl (by decide) 0 (by decide) m_219 rfl dX7_sum_63 hf (fun a7 hf => ?_)
    refine rg_getr (pc := 66) (C := RX3) (T := TX3) (N := 7) (κ := 3) hx hb hts hK hR hown in_3 rfl (by decide) 1 (by decide) m_143 rfl dX7_sum_66 hf (fun a8 hf => ?_)
    refine rg_get (pc := 69) (C := RX4) (T := TX4) (N := 13) (κ := 4) (v := .int (mm_i M a8 5)) hx hb hts hK hR hown in_4 rfl (by decide) 5 (by decide) m_58 rfl dX7_sum_69 hf (fun hf => ?_)
    exact rg_xiret (pc := 72) hx hb hlocks hr hf hR (by show 0 ≤ 1; decide) (by show 0 ≤ 6; decide) dX7_sum_72
  replace hf := it_f hf hw3
  refine lv_tableOut (pc := 1) (tgt := 73) hx hb dX7_sum_1 (by have h0 := sw_ne (0 : Int32) (k := 0) (by decide) hw0; have h1 := sw_ne (1 : Int32) (k := 1) (by decide) hw1; have h2 := sw_ne (2 : Int32) (k := 2) (by decide) hw2; have h3 := sw_ne (3 : Int32) (k := 3) (by decide) hw3; omega) (by decide) ?_
  exact rg_thr (pc := 73) 0 (by decide) hC htab hlt hl.1 rfl m_264 (is := 222) (text := "what is 0 to 3") (by decide +kernel) hf hR dX7_sum_73 dX7_sum_76 dX7_sum_77 dX7_sum_79 dX7_sum_82 (Nat.le_of_ble_eq_true rfl) (Nat.le_of_ble_eq_true rfl) (Nat.le_of_ble_eq_true rfl) (Nat.le_of_ble_eq_true rfl) (by show 1 ≤ 1; decide) (by show 6 ≤ 6; decide)
end
section
-- X7_momentum
def f_X7_momentum (v0 : Nat) (v1 : Int32) (M : Mem) : Option (Mem × (Int64 ⊕ Nat)) := if v1 = (0 : Int32) then (gd (M.1 v0 = 7) <| rd (mm_r M v0 0) fun a1 => gd (M.1 a1 = 3) <| bd (f_X3_momentumThere a1 M) fun z2 => some (z2.1, .inl z2.2)) else if v1 = (1 : Int32) then (gd (M.1 v0 = 7) <| rd (mm_r M v0 0) fun a3 => gd (M.1 a3 = 3) <| rd (mm_r M a3 1) fun a4 => gd (M.1 a4 = 4) <| some (M, .inl (mm_l M a4 9))) else if v1 = (2 : Int32) then (gd (M.1 v0 = 7) <| rd (mm_r M v0 0) fun a5 => gd (M.1 a5 = 3) <| rd (mm_r M a5 1) fun a6 => gd (M.1 a6 = 4) <| some (M, .inl (mm_l M a6 10))) else if v1 = (3 : Int32) then (gd (M.1 v0 = 7) <| rd (mm_r M v0 0) fun a7 => gd (M.1 a7 = 3) <| rd (mm_r M a7 1) fun a8 => gd (M.1 a8 = 4) <| some (M, .inl (mm_l M a8 8))) else if v1 = (4 : Int32) then (gd (M.1 v0 = 7) <| rd (mm_r M v0 0) fun a9 => gd (M.1 a9 = 3) <| rd (mm_r M a9 1) fun a10 => gd (M.1 a10 = 4) <| some (M, .inl (mm_l M a10 11))) else if v1 = (5 : Int32) then (gd (M.1 v0 = 7) <| rd (mm_r M v0 0) fun a11 => gd (M.1 a11 = 3) <| rd (mm_r M a11 1) fun a12 => gd (M.1 a12 = 4) <| some (M, .inl (mm_l M a12 12))) else (some (M, .inr 0))
abbrev rm_X7_momentum : Room := { frames := 6, cells := 1, slots := 6, locals := 90 }
theorem hd_X7_momentum : yX7_momentum.cls ≠ "java/lang/invoke/MethodHandle" ∧ yX7_momentum.cls ≠ "java/lang/invoke/VarHandle" ∧ (parseMethodDescriptor yX7_momentum.desc).map (fun d => d.parameters.length) = some 1 := by decide +kernel
set_option maxHeartbeats 8000000 in
set_option maxRecDepth 100000 in
theorem c_X7_momentum {l : Launch} (hlt : l.stackTraces = false) {D : va_G} {ca : Nat → ClassId} {b : Nat} {v0 : Nat} {v1 : Int32} {M : Mem} {r : Mem × (Int64 ⊕ Nat)} (hf : f_X7_momentum v0 v1 M = some r) : CxL l yX7_momentum cX7_momentum 2 (some .long) rm_X7_momentum D ca b [.ref v0, .int v1] M r 1 6 := by
  intro sz
  refine bodyx_start (nx := false) (Qc := fun A => cxL D ca A r) (XC := fun A => cxX D ca A r) (by decide +kernel) (Nat.le_of_ble_eq_true rfl) ?_
  intro p e s m args below meth c A hC htab hr hR ls hl
  obtain ⟨hx, hb, hml, hts, hown, hlocks, hXe, hA, hAb, hnm⟩ := id hC
  have hK := hXe.1
  have hl : lv_has ls 2 [(0, .ref v0), (1, .int v1)] := hl
  unfold f_X7_momentum at hf
  refine lv_iload_n (pc := 0) hx hb dX7_momentum_0 rfl (lv_at hl 1 rfl) ?_
  by_cases hw0 : v1 = (0 : Int32)
  · replace hf := it_t hf hw0
    refine lv_tableIn (pc := 1) (off := 39) (tgt := 40) hx hb dX7_momentum_1 (by rw [hw0]; decide) (by rw [hw0]; decide) (by rw [hw0]; decide) (by decide) ?_
    refine lv_aload_n (pc := 40) hx hb dX7_momentum_40 rfl (lv_at hl 0 rfl) ?_
    refine rg_getr (pc := 41) (C := RX7) (T := TX7) (N := 11) (κ := 7) hx hb hts hK hR hown in_7 rfl (by decide) 0 (by decide) m_219 rfl dX7_momentum_41 hf (fun a1 hf => ?_)
    obtain ⟨hq, hf⟩ := gd_e hf
    refine rg_L (pc := 44) hf hR hA (fun z hz => rn_V (κ := 3) (As := []) (rest := []) hC hR rfl (by decide) hq (c_X3_momentumThere  hz _) m_521 m_522 m_523 m_2 m_524 hd_X3_momentumThere ⟨rfl, rfl, Nat.le_of_ble_eq_true rfl, Nat.le_of_ble_eq_true rfl⟩ rfl hl.1 rfl (Nat.le_of_ble_eq_true rfl) dX7_momentum_44 ⟨Nat.le_of_ble_eq_true rfl, Nat.le_of_ble_eq_true rfl⟩) (fun z2 H locs hf hR => ?_)
    exact rg_xlret (pc := 47) hx hb hlocks hr hf hR (by show 0 ≤ 1; decide) (by show 0 ≤ 6; decide) dX7_momentum_47
  replace hf := it_f hf hw0
  by_cases hw1 : v1 = (1 : Int32)
  · replace hf := it_t hf hw1
    refine lv_tableIn (pc := 1) (off := 47) (tgt := 48) hx hb dX7_momentum_1 (by rw [hw1]; decide) (by rw [hw1]; decide) (by rw [hw1]; decide) (by decide) ?_
    refine lv_aload_n (pc := 48) hx hb dX7_momentum_48 rfl (lv_at hl 0 rfl) ?_
    refine rg_getr (pc := 49) (C := RX7) (T := TX7) (N := 11) (κ := 7) hx hb hts hK hR hown in_7 rfl (by decide) 0 (by decide) m_219 rfl dX7_momentum_49 hf (fun a3 hf => ?_)
    refine rg_getr (pc := 52) (C := RX3) (T := TX3) (N := 7) (κ := 3) hx hb hts hK hR hown in_3 rfl (by decide) 1 (by decide) m_143 rfl dX7_momentum_52 hf (fun a4 hf => ?_)
    refine rg_get (pc := 55) (C := RX4) (T := TX4) (N := 13) (κ := 4) (v := .long (mm_l M a4 9)) hx hb hts hK hR hown in_4 rfl (by decide) 9 (by decide) m_65 rfl dX7_momentum_55 hf (fun hf => ?_)
    exact rg_xlret (pc := 58) hx hb hlocks hr hf hR (by show 0 ≤ 1; decide) (by show 0 ≤ 6; decide) dX7_momentum_58
  replace hf := it_f hf hw1
  by_cases hw2 : v1 = (2 : Int32)
  · replace hf := it_t hf hw2
    refine lv_tableIn (pc := 1) (off := 58) (tgt := 59) hx hb dX7_momentum_1 (by rw [hw2]; decide) (by rw [hw2]; decide) (by rw [hw2]; decide) (by decide) ?_
    refine lv_aload_n (pc := 59) hx hb dX7_momentum_59 rfl (lv_at hl 0 rfl) ?_
    refine rg_getr (pc := 60) (C := RX7) (T := TX7) (N := 11) (κ := 7) hx hb hts hK hR hown in_7 rfl (by decide) 0 (by decide) m_219 rfl dX7_momentum_60 hf (fun a5 hf => ?_)
    refine rg_getr (pc := 63) (C := RX3) (T := TX3) (N := 7) (κ := 3) hx hb hts hK hR hown in_3 rfl (by decide) 1 (by decide) m_143 rfl dX7_momentum_63 hf (fun a6 hf => ?_)
    refine rg_get (pc := 66) (C := RX4) (T := TX4) (N := 13) (κ := 4) (v := .long (mm_l M a6 10)) hx hb hts hK hR hown in_4 rfl (by decide) 10 (by decide) m_67 rfl dX7_momentum_66 hf (fun hf => ?_)
    exact rg_xlret (pc := 69) hx hb hlocks hr hf hR (by show 0 ≤ 1; decide) (by show 0 ≤ 6; decide) dX7_momentum_69
  replace hf := it_f hf hw2
  by_cases hw3 : v1 = (3 : Int32)
  · replace hf := it_t hf hw3
    refine lv_tableIn (pc := 1) (off := 69) (tgt := 70) hx hb dX7_momentum_1 (by rw [hw3]; decide) (by rw [hw3]; decide) (by rw [hw3]; decide) (by decide) ?_
    refine lv_aload_n (pc := 70) hx hb dX7_momentum_70 rfl (lv_at hl 0 rfl) ?_
    refine rg_getr (pc := 71) (C := RX7) (T := TX7) (N := 11) (κ := 7) hx hb hts hK hR hown in_7 rfl (by decide) 0 (by decide) m_219 rfl dX7_momentum_71 hf (fun a7 hf => ?_)
    refine rg_getr (pc := 74) (C := RX3) (T := TX3) (N := 7) (κ := 3) hx hb hts hK hR hown in_3 rfl (by decide) 1 (by decide) m_143 rfl dX7_momentum_74 hf (fun a8 hf => ?_)
    refine rg_get (pc := 77) (C := RX4) (T := TX4) (N := 13) (κ := 4) (v := .long (mm_l M a8 8)) hx hb hts hK hR hown in_4 rfl (by decide) 8 (by decide) m_64 rfl dX7_momentum_77 hf (fun hf => ?_)
    exact rg_xlret (pc := 80) hx hb hlocks hr hf hR (by show 0 ≤ 1; decide) (by show 0 ≤ 6; decide) dX7_momentum_80
  replace hf := it_f hf hw3
  by_cases hw4 : v1 = (4 : Int32)
  · replace hf := it_t hf hw4
    refine lv_tableIn (pc := 1) (off := 80) (tgt := 81) hx hb dX7_momentum_1 (by rw [hw4]; decide) (by rw [hw4]; decide) (by rw [hw4]; decide) (by decide) ?_
    refine lv_aload_n (pc := 81) hx hb dX7_momentum_81 rfl (lv_at hl 0 rfl) ?_
    refine rg_getr (pc := 82) (C := RX7) (T := TX7) (N := 11) (κ := 7) hx hb hts hK hR hown in_7 rfl (by decide) 0 (by decide) m_219 rfl dX7_momentum_82 hf (fun a9 hf => ?_)
    refine rg_getr (pc := 85) (C := RX3) (T := TX3) (N := 7) (κ := 3) hx hb hts hK hR hown in_3 rfl (by decide) 1 (by decide) m_143 rfl dX7_momentum_85 hf (fun a10 hf => ?_)
    refine rg_get (pc := 88) (C := RX4) (T := TX4) (N := 13) (κ := 4) (v := .long (mm_l M a10 11)) hx hb hts hK hR hown in_4 rfl (by decide) 11 (by decide) m_70 rfl dX7_momentum_88 hf (fun hf => ?_)
    exact rg_xlret (pc := 91) hx hb hlocks hr hf hR (by show 0 ≤ 1; decide) (by show 0 ≤ 6; decide) dX7_momentum_91
  replace hf := it_f hf hw4
  by_cases hw5 : v1 = (5 : Int32)
  · replace hf := it_t hf hw5
    refine lv_tableIn (pc := 1) (off := 91) (tgt := 92) hx hb dX7_momentum_1 (by rw [hw5]; decide) (by rw [hw5]; decide) (by rw [hw5]; decide) (by decide) ?_
    refine lv_aload_n (pc := 92) hx hb dX7_momentum_92 rfl (lv_at hl 0 rfl) ?_
    refine rg_getr (pc := 93) (C := RX7) (T := TX7) (N := 11) (κ := 7) hx hb hts hK hR hown in_7 rfl (by decide) 0 (by decide) m_219 rfl dX7_momentum_93 hf (fun a11 hf => ?_)
    refine rg_getr (pc := 96) (C := RX3) (T := TX3) (N := 7) (κ := 3) hx hb hts hK hR hown in_3 rfl (by decide) 1 (by decide) m_143 rfl dX7_momentum_96 hf (fun a12 hf => ?_)
    refine rg_get (pc := 99) (C := RX4) (T := TX4) (N := 13) (κ := 4) (v := .long (mm_l M a12 12)) hx hb hts hK hR hown in_4 rfl (by decide) 12 (by decide) m_72 rfl dX7_momentum_99 hf (fun hf => ?_)
    exact rg_xlret (pc := 102) hx hb hlocks hr hf hR (by show 0 ≤ 1; decide) (by show 0 ≤ 6; decide) dX7_momentum_102
  replace hf := it_f hf hw5
  refine lv_tableOut (pc := 1) (tgt := 103) hx hb dX7_momentum_1 (by have h0 := sw_ne (0 : Int32) (k := 0) (by decide) hw0; have h1 := sw_ne (1 : Int32) (k := 1) (by decide) hw1; have h2 := sw_ne (2 : Int32) (k := 2) (by decide) hw2; have h3 := sw_ne (3 : Int32) (k := 3) (by decide) hw3; have h4 := sw_ne (4 : Int32) (k := 4) (by decide) hw4; have h5 := sw_ne (5 : Int32) (k := 5) (by decide) hw5; omega) (by decide) ?_
  exact rg_thr (pc := 103) 0 (by decide) hC htab hlt hl.1 rfl m_264 (is := 177) (text := "what is 0 to 5") (by decide +kernel) hf hR dX7_momentum_103 dX7_momentum_106 dX7_momentum_107 dX7_momentum_109 dX7_momentum_112 (Nat.le_of_ble_eq_true rfl) (Nat.le_of_ble_eq_true rfl) (Nat.le_of_ble_eq_true rfl) (Nat.le_of_ble_eq_true rfl) (by show 1 ≤ 1; decide) (by show 6 ≤ 6; decide)
-- X7_momentumByLanes
def f_X7_momentumByLanes_b15 (k15 : Nat → Int64 → Int32 → Mem → Option (Mem × Int64)) (v0 : Nat) (v1 : Int64) (v3 : Int32) (M : Mem) : Option (Mem × Int64) := if (64 : Int32) ≤ v3 then (some (M, v1)) else (gd (M.1 v0 = 7) <| rd (mm_r M v0 8) fun a1 => gd (M.1 a1 = 9 ∧ vi_ v3 (mm_N M a1)) <| bd (f_X7_radiusOf v3 M) fun z2 => lt_ ((v1 + (((mm_i M a1 (v3).toNatClampNeg)).toInt64 * (z2.2).toInt64))) fun x3 => lt_ (v3 + (1 : Int32)) fun x4 => k15 v0 x3 x4 z2.1)
def f_X7_momentumByLanes_L15  : Nat → Nat → Int64 → Int32 → Mem → Option (Mem × Int64)
  | 0 => fun _ _ _ _ => none
  | n + 1 => f_X7_momentumByLanes_b15  (f_X7_momentumByLanes_L15  n)
def f_X7_momentumByLanes (v0 : Nat) (M : Mem) : Option (Mem × Int64) := gd (M.1 v0 = 7) <| rd (mm_r M v0 0) fun a5 => gd (M.1 v0 = 7) <| rd (mm_r M v0 8) fun a6 => gd (M.1 a5 = 3) <| bd (f_X3_weighLanes a5 a6 M) fun z7 => f_X7_momentumByLanes_L15 200 v0 (0 : Int64) (0 : Int32) z7
abbrev rm_X7_momentumByLanes : Room := { frames := 1, cells := 0, slots := 0, locals := 25 }
theorem hd_X7_momentumByLanes : yX7_momentumByLanes.cls ≠ "java/lang/invoke/MethodHandle" ∧ yX7_momentumByLanes.cls ≠ "java/lang/invoke/VarHandle" ∧ (parseMethodDescriptor yX7_momentumByLanes.desc).map (fun d => d.parameters.length) = some 0 := by decide +kernel
set_option maxHeartbeats 8000000 in
set_option maxRecDepth 100000 in
theorem c_X7_momentumByLanes {l : Launch} {D : va_G} {ca : Nat → ClassId} {b : Nat} {nx : Bool} {v0 : Nat} {M : Mem} {r : Mem × Int64} (hf : f_X7_momentumByLanes v0 M = some r) : CtL l yX7_momentumByLanes cX7_momentumByLanes 4 (some .long) rm_X7_momentumByLanes D ca b nx [.ref v0] M r := by
  intro sz
  refine body_start (Qc := fun A => cvL D ca nx A r) (by decide +kernel) (Nat.le_of_ble_eq_true rfl) ?_
  intro p e s m args below meth c A hC hr hR ls hl
  obtain ⟨hx, hb, hml, hts, hown, hlocks, hXe, hA, hAb, hnm⟩ := id hC
  have hK := hXe.1
  have hl : lv_has ls 4 [(0, .ref v0)] := hl
  have hB15 : ∀ (k15 : Nat → Int64 → Int32 → Mem → Option (Mem × Int64)) (hk15 : ∀ (v0 : Nat) (v1 : Int64) (v3 : Int32) (M : Mem) (H : Heap) (locs : List Loc) (ls : Array Slot), k15 v0 v1 v3 M = some r → Hp D ca nx A s M H locs → lv_has ls 4 [(0, .ref v0), (1, .long v1), (3, .int v3)] → W p l e rm_X7_momentumByLanes s m args below meth c H locs 0 0 (MQ below (cvL D ca nx A r) args s 0 0 A) (F0 m 15 ls [])) (v0 : Nat) (v1 : Int64) (v3 : Int32) (M : Mem) (H : Heap) (locs : List Loc) (ls : Array Slot), f_X7_momentumByLanes_b15 k15 v0 v1 v3 M = some r → Hp D ca nx A s M H locs → lv_has ls 4 [(0, .ref v0), (1, .long v1), (3, .int v3)] → W p l e rm_X7_momentumByLanes s m args below meth c H locs 0 0 (MQ below (cvL D ca nx A r) args s 0 0 A) (F0 m 15 ls []) := by
    intro k15 hk15 v0 v1 v3 M H locs ls hf hR hl
    unfold f_X7_momentumByLanes_b15 at hf
    refine lv_iload_n (pc := 15) hx hb dX7_momentumByLanes_15 rfl (lv_at hl 2 rfl) ?_
    refine lv_bipush (pc := 16) (v := (64 : Int32)) hx hb dX7_momentumByLanes_16 (by decide) ?_
    refine lv_icmp_ge (pc := 18) (tgt := 43) hx hb dX7_momentumByLanes_18 (by decide) (fun hc => ?_) (fun hc => ?_)
    · replace hf := it_t hf hc
      refine lv_lload_n (pc := 43) hx hb dX7_momentumByLanes_43 rfl (lv_at hl 1 rfl) ?_
      exact rg_lret (pc := 44) hx hb hlocks hr hf hR dX7_momentumByLanes_44
    · replace hf := it_f hf hc
      refine lv_lload_n (pc := 21) hx hb dX7_momentumByLanes_21 rfl (lv_at hl 1 rfl) ?_
      refine lv_aload_n (pc := 22) hx hb dX7_momentumByLanes_22 rfl (lv_at hl 0 rfl) ?_
      refine rg_getr (pc := 23) (C := RX7) (T := TX7) (N := 11) (κ := 7) hx hb hts hK hR hown in_7 rfl (by decide) 8 (by decide) m_225 rfl dX7_momentumByLanes_23 hf (fun a1 hf => ?_)
      refine lv_iload_n (pc := 26) hx hb dX7_momentumByLanes_26 rfl (lv_at hl 2 rfl) ?_
      refine rg_iald (pc := 27) hx hb hK hR dX7_momentumByLanes_27 hf (fun hf => ?_)
      refine lv_i2l (pc := 28) hx hb dX7_momentumByLanes_28 rfl ?_
      refine lv_iload_n (pc := 29) hx hb dX7_momentumByLanes_29 rfl (lv_at hl 2 rfl) ?_
      refine rg_I (pc := 30) hf hR hA (fun z hz => rn_S (As := [.int v3]) (rest := [.long ((mm_i M a1 (v3).toNatClampNeg)).toInt64, .long v1]) hC hR (c_X7_radiusOf  hz _) m_529 m_387 m_1 m_388 hd_X7_radiusOf ⟨rfl, rfl, Nat.le_of_ble_eq_true rfl, Nat.le_of_ble_eq_true rfl⟩ rfl hl.1 rfl (Nat.le_of_ble_eq_true rfl) dX7_momentumByLanes_30 ⟨Nat.le_of_ble_eq_true rfl, Nat.le_of_ble_eq_true rfl⟩) (fun z2 H locs hf hR => ?_)
      refine lv_i2l (pc := 33) hx hb dX7_momentumByLanes_33 rfl ?_
      refine lv_lmul (pc := 34) hx hb dX7_momentumByLanes_34 ?_
      refine lv_ladd (pc := 35) hx hb dX7_momentumByLanes_35 ?_
      refine nm_l hf (fun x3 hf => ?_)
      refine lv_lstore_n (pc := 36) (lv' := [(1, .long x3), (0, .ref v0), (3, .int v3)]) hx hb dX7_momentumByLanes_36 rfl hl (by decide) rfl (fun ls hl => ?_)
      refine rg_iinc (pc := 37) hx hb dX7_momentumByLanes_37 hl (k := 2) rfl rfl (by decide) hf (fun x4 ls hf hl => ?_)
      have hl : lv_has ls 4 [(3, .int x4), (1, .long x3), (0, .ref v0)] := hl
      refine lv_goto (pc := 40) (tgt := 15) hx hb dX7_momentumByLanes_40 (by decide) ?_
      exact hk15 v0 x3 x4 z2.1 _ _ _ hf hR (lv_sub hl [2, 1, 0] rfl)
  have hL15 : ∀  (n : Nat) (v0 : Nat) (v1 : Int64) (v3 : Int32) (M : Mem) (H : Heap) (locs : List Loc) (ls : Array Slot), f_X7_momentumByLanes_L15  n v0 v1 v3 M = some r → Hp D ca nx A s M H locs → lv_has ls 4 [(0, .ref v0), (1, .long v1), (3, .int v3)] → W p l e rm_X7_momentumByLanes s m args below meth c H locs 0 0 (MQ below (cvL D ca nx A r) args s 0 0 A) (F0 m 15 ls []) := by
    intro  n
    induction n with
    | zero => intro v0 v1 v3 M H locs ls hf; exact nomatch (show (none : Option (Mem × Int64)) = some r from hf)
    | succ n ih => intro v0 v1 v3 M H locs ls hf hR hl; exact hB15  (f_X7_momentumByLanes_L15  n) ih v0 v1 v3 M H locs ls hf hR hl
  unfold f_X7_momentumByLanes at hf
  refine lv_aload_n (pc := 0) hx hb dX7_momentumByLanes_0 rfl (lv_at hl 0 rfl) ?_
  refine rg_getr (pc := 1) (C := RX7) (T := TX7) (N := 11) (κ := 7) hx hb hts hK hR hown in_7 rfl (by decide) 0 (by decide) m_219 rfl dX7_momentumByLanes_1 hf (fun a5 hf => ?_)
  refine lv_aload_n (pc := 4) hx hb dX7_momentumByLanes_4 rfl (lv_at hl 0 rfl) ?_
  refine rg_getr (pc := 5) (C := RX7) (T := TX7) (N := 11) (κ := 7) hx hb hts hK hR hown in_7 rfl (by decide) 8 (by decide) m_225 rfl dX7_momentumByLanes_5 hf (fun a6 hf => ?_)
  obtain ⟨hq, hf⟩ := gd_e hf
  refine rg_V (pc := 8) hf hR hA (fun z hz => rn_V (κ := 3) (As := [.ref a6]) (rest := []) hC hR rfl (by decide) hq (c_X3_weighLanes  hz _) m_504 m_505 m_506 m_2 m_507 hd_X3_weighLanes ⟨rfl, rfl, Nat.le_of_ble_eq_true rfl, Nat.le_of_ble_eq_true rfl⟩ rfl hl.1 rfl (Nat.le_of_ble_eq_true rfl) dX7_momentumByLanes_8 ⟨Nat.le_of_ble_eq_true rfl, Nat.le_of_ble_eq_true rfl⟩) (fun z7 H locs hf hR => ?_)
  refine lv_lconst (pc := 11) (v := (0 : Int64)) hx hb dX7_momentumByLanes_11 (by decide) ?_
  refine lv_lstore_n (pc := 12) (lv' := [(1, .long (0 : Int64)), (0, .ref v0)]) hx hb dX7_momentumByLanes_12 rfl hl (by decide) rfl (fun ls hl => ?_)
  refine lv_iconst (pc := 13) (v := (0 : Int32)) hx hb dX7_momentumByLanes_13 (by decide) ?_
  refine lv_istore_n (pc := 14) (lv' := [(3, .int (0 : Int32)), (1, .long (0 : Int64)), (0, .ref v0)]) hx hb dX7_momentumByLanes_14 rfl hl (by decide) rfl (fun ls hl => ?_)
  exact hL15 200 v0 (0 : Int64) (0 : Int32) z7 _ _ _ hf hR (lv_sub hl [2, 1, 0] rfl)
end
section
-- X0_init
def f_X0_init (v0 : Nat) (M : Mem) : Option (Mem) := some M
abbrev rm_X0_init : Room := { frames := 1, cells := 0, slots := 0, locals := 24 }
theorem hd_X0_init : yX0_init.cls ≠ "java/lang/invoke/MethodHandle" ∧ yX0_init.cls ≠ "java/lang/invoke/VarHandle" ∧ (parseMethodDescriptor yX0_init.desc).map (fun d => d.parameters.length) = some 0 := by decide +kernel
set_option maxHeartbeats 8000000 in
set_option maxRecDepth 100000 in
theorem c_X0_init {l : Launch} {D : va_G} {ca : Nat → ClassId} {b : Nat} {v0 : Nat} {M : Mem} {r : Mem} (hf : f_X0_init v0 M = some r) : CtV l yX0_init cX0_init 1 none rm_X0_init D ca b true [.ref v0] M r 0 0 := by
  intro sz
  refine body_start (Qc := fun A => cvV D ca true A r) (by decide +kernel) (Nat.le_of_ble_eq_true rfl) ?_
  intro p e s m args below meth c A hC hr hR ls hl
  obtain ⟨hx, hb, hml, hts, hown, hlocks, hXe, hA, hAb, hnm⟩ := id hC
  have hK := hXe.1
  have hl : lv_has ls 1 [(0, .ref v0)] := hl
  unfold f_X0_init at hf
  refine lv_aload_n (pc := 0) hx hb dX0_init_0 rfl (lv_at hl 0 rfl) ?_
  refine W.objInit (g := F0 m 1 ls _) hx hb hown (hts _ m_209) (hts _ m_22) (hts _ m_23) rfl (by rw [hml]; exact hl.1) rfl dX0_init_1 (Nat.le_of_ble_eq_true rfl) (Nat.le_of_ble_eq_true rfl) ?_
  refine W.eq (g2 := F0 m 4 ls []) rfl ?_
  refine W.widen (k := 0) (n := 0) (by show 0 ≤ 0; decide) (by show 0 ≤ 0; decide) ?_
  exact rg_vret (pc := 4) hx hb hlocks hr hf hR dX0_init_4
-- X1_init
def f_X1_init (v0 : Nat) (M : Mem) : Option (Mem) := lt_ (mm_x M) fun a1 => lt_ (ms_n M 9 64) fun M2 => gd (M2.1 v0 = 1) <| lt_ (ms_r M2 v0 0 (some a1)) fun M3 => some M3
abbrev rm_X1_init : Room := { frames := 1, cells := 1, slots := 64, locals := 24 }
theorem hd_X1_init : yX1_init.cls ≠ "java/lang/invoke/MethodHandle" ∧ yX1_init.cls ≠ "java/lang/invoke/VarHandle" ∧ (parseMethodDescriptor yX1_init.desc).map (fun d => d.parameters.length) = some 0 := by decide +kernel
set_option maxHeartbeats 8000000 in
set_option maxRecDepth 100000 in
theorem c_X1_init {l : Launch} {D : va_G} {ca : Nat → ClassId} {b : Nat} {v0 : Nat} {M : Mem} {r : Mem} (hf : f_X1_init v0 M = some r) : CtV l yX1_init cX1_init 1 none rm_X1_init D ca b true [.ref v0] M r 1 64 := by
  intro sz
  refine body_start (Qc := fun A => cvV D ca true A r) (by decide +kernel) (Nat.le_of_ble_eq_true rfl) ?_
  intro p e s m args below meth c A hC hr hR ls hl
  obtain ⟨hx, hb, hml, hts, hown, hlocks, hXe, hA, hAb, hnm⟩ := id hC
  have hK := hXe.1
  have hl : lv_has ls 1 [(0, .ref v0)] := hl
  unfold f_X1_init at hf
  refine lv_aload_n (pc := 0) hx hb dX1_init_0 rfl (lv_at hl 0 rfl) ?_
  refine W.objInit (g := F0 m 1 ls _) hx hb hown (hts _ m_195) (hts _ m_22) (hts _ m_23) rfl (by rw [hml]; exact hl.1) rfl dX1_init_1 (Nat.le_of_ble_eq_true rfl) (Nat.le_of_ble_eq_true rfl) ?_
  refine W.eq (g2 := F0 m 4 ls []) rfl ?_
  refine lv_aload_n (pc := 4) hx hb dX1_init_4 rfl (lv_at hl 0 rfl) ?_
  refine lv_bipush (pc := 5) (v := (64 : Int32)) hx hb dX1_init_5 (by decide) ?_
  refine rg_newa (pc := 7) (atype := .int) (κ := 9) (N := 64) hx hb hts hK hR hA 0 rfl (by decide) m_202 (by decide) (by decide) (by decide) (Nat.le_of_ble_eq_true rfl) (Nat.le_of_ble_eq_true rfl) dX1_init_7 hf (fun a1 M2 H hf hR => ?_)
  refine rg_putr (pc := 9) (C := RX1) (T := TX1) (N := 2) (κ := 1) hx hb hts hK hR hown in_1 rfl (by decide) 0 (by decide) m_196 tyX1 tyX1_ok nmX1 ⟨rfl, hnm rfl, rfl⟩ rfl rfl rfl dX1_init_9 hf (fun M3 H locs hf hR => ?_)
  refine W.widen (k := 1) (n := 64) (by show 1 ≤ 1; decide) (by show 64 ≤ 64; decide) ?_
  exact rg_vret (pc := 12) hx hb hlocks hr hf hR dX1_init_12
-- X2_init
def f_X2_init (v0 : Nat) (M : Mem) : Option (Mem) := some M
abbrev rm_X2_init : Room := { frames := 1, cells := 0, slots := 0, locals := 24 }
theorem hd_X2_init : yX2_init.cls ≠ "java/lang/invoke/MethodHandle" ∧ yX2_init.cls ≠ "java/lang/invoke/VarHandle" ∧ (parseMethodDescriptor yX2_init.desc).map (fun d => d.parameters.length) = some 0 := by decide +kernel
set_option maxHeartbeats 8000000 in
set_option maxRecDepth 100000 in
theorem c_X2_init {l : Launch} {D : va_G} {ca : Nat → ClassId} {b : Nat} {v0 : Nat} {M : Mem} {r : Mem} (hf : f_X2_init v0 M = some r) : CtV l yX2_init cX2_init 1 none rm_X2_init D ca b true [.ref v0] M r 0 0 := by
  intro sz
  refine body_start (Qc := fun A => cvV D ca true A r) (by decide +kernel) (Nat.le_of_ble_eq_true rfl) ?_
  intro p e s m args below meth c A hC hr hR ls hl
  obtain ⟨hx, hb, hml, hts, hown, hlocks, hXe, hA, hAb, hnm⟩ := id hC
  have hK := hXe.1
  have hl : lv_has ls 1 [(0, .ref v0)] := hl
  unfold f_X2_init at hf
  refine lv_aload_n (pc := 0) hx hb dX2_init_0 rfl (lv_at hl 0 rfl) ?_
  refine W.objInit (g := F0 m 1 ls _) hx hb hown (hts _ m_106) (hts _ m_22) (hts _ m_23) rfl (by rw [hml]; exact hl.1) rfl dX2_init_1 (Nat.le_of_ble_eq_true rfl) (Nat.le_of_ble_eq_true rfl) ?_
  refine W.eq (g2 := F0 m 4 ls []) rfl ?_
  refine W.widen (k := 0) (n := 0) (by show 0 ≤ 0; decide) (by show 0 ≤ 0; decide) ?_
  exact rg_vret (pc := 4) hx hb hlocks hr hf hR dX2_init_4
-- X4_init
def f_X4_init (v0 : Nat) (M : Mem) : Option (Mem) := some M
abbrev rm_X4_init : Room := { frames := 1, cells := 0, slots := 0, locals := 24 }
theorem hd_X4_init : yX4_init.cls ≠ "java/lang/invoke/MethodHandle" ∧ yX4_init.cls ≠ "java/lang/invoke/VarHandle" ∧ (parseMethodDescriptor yX4_init.desc).map (fun d => d.parameters.length) = some 0 := by decide +kernel
set_option maxHeartbeats 8000000 in
set_option maxRecDepth 100000 in
theorem c_X4_init {l : Launch} {D : va_G} {ca : Nat → ClassId} {b : Nat} {v0 : Nat} {M : Mem} {r : Mem} (hf : f_X4_init v0 M = some r) : CtV l yX4_init cX4_init 1 none rm_X4_init D ca b true [.ref v0] M r 0 0 := by
  intro sz
  refine body_start (Qc := fun A => cvV D ca true A r) (by decide +kernel) (Nat.le_of_ble_eq_true rfl) ?_
  intro p e s m args below meth c A hC hr hR ls hl
  obtain ⟨hx, hb, hml, hts, hown, hlocks, hXe, hA, hAb, hnm⟩ := id hC
  have hK := hXe.1
  have hl : lv_has ls 1 [(0, .ref v0)] := hl
  unfold f_X4_init at hf
  refine lv_aload_n (pc := 0) hx hb dX4_init_0 rfl (lv_at hl 0 rfl) ?_
  refine W.objInit (g := F0 m 1 ls _) hx hb hown (hts _ m_46) (hts _ m_22) (hts _ m_23) rfl (by rw [hml]; exact hl.1) rfl dX4_init_1 (Nat.le_of_ble_eq_true rfl) (Nat.le_of_ble_eq_true rfl) ?_
  refine W.eq (g2 := F0 m 4 ls []) rfl ?_
  refine W.widen (k := 0) (n := 0) (by show 0 ≤ 0; decide) (by show 0 ≤ 0; decide) ?_
  exact rg_vret (pc := 4) hx hb hlocks hr hf hR dX4_init_4
-- X5_init
def f_X5_init (v0 : Nat) (M : Mem) : Option (Mem) := some M
abbrev rm_X5_init : Room := { frames := 1, cells := 0, slots := 0, locals := 24 }
theorem hd_X5_init : yX5_init.cls ≠ "java/lang/invoke/MethodHandle" ∧ yX5_init.cls ≠ "java/lang/invoke/VarHandle" ∧ (parseMethodDescriptor yX5_init.desc).map (fun d => d.parameters.length) = some 0 := by decide +kernel
set_option maxHeartbeats 8000000 in
set_option maxRecDepth 100000 in
theorem c_X5_init {l : Launch} {D : va_G} {ca : Nat → ClassId} {b : Nat} {v0 : Nat} {M : Mem} {r : Mem} (hf : f_X5_init v0 M = some r) : CtV l yX5_init cX5_init 1 none rm_X5_init D ca b true [.ref v0] M r 0 0 := by
  intro sz
  refine body_start (Qc := fun A => cvV D ca true A r) (by decide +kernel) (Nat.le_of_ble_eq_true rfl) ?_
  intro p e s m args below meth c A hC hr hR ls hl
  obtain ⟨hx, hb, hml, hts, hown, hlocks, hXe, hA, hAb, hnm⟩ := id hC
  have hK := hXe.1
  have hl : lv_has ls 1 [(0, .ref v0)] := hl
  unfold f_X5_init at hf
  refine lv_aload_n (pc := 0) hx hb dX5_init_0 rfl (lv_at hl 0 rfl) ?_
  refine W.objInit (g := F0 m 1 ls _) hx hb hown (hts _ m_175) (hts _ m_22) (hts _ m_23) rfl (by rw [hml]; exact hl.1) rfl dX5_init_1 (Nat.le_of_ble_eq_true rfl) (Nat.le_of_ble_eq_true rfl) ?_
  refine W.eq (g2 := F0 m 4 ls []) rfl ?_
  refine W.widen (k := 0) (n := 0) (by show 0 ≤ 0; decide) (by show 0 ≤ 0; decide) ?_
  exact rg_vret (pc := 4) hx hb hlocks hr hf hR dX5_init_4
-- X6_init
def f_X6_init (v0 : Nat) (M : Mem) : Option (Mem) := some M
abbrev rm_X6_init : Room := { frames := 1, cells := 0, slots := 0, locals := 24 }
theorem hd_X6_init : yX6_init.cls ≠ "java/lang/invoke/MethodHandle" ∧ yX6_init.cls ≠ "java/lang/invoke/VarHandle" ∧ (parseMethodDescriptor yX6_init.desc).map (fun d => d.parameters.length) = some 0 := by decide +kernel
set_option maxHeartbeats 8000000 in
set_option maxRecDepth 100000 in
theorem c_X6_init {l : Launch} {D : va_G} {ca : Nat → ClassId} {b : Nat} {v0 : Nat} {M : Mem} {r : Mem} (hf : f_X6_init v0 M = some r) : CtV l yX6_init cX6_init 1 none rm_X6_init D ca b true [.ref v0] M r 0 0 := by
  intro sz
  refine body_start (Qc := fun A => cvV D ca true A r) (by decide +kernel) (Nat.le_of_ble_eq_true rfl) ?_
  intro p e s m args below meth c A hC hr hR ls hl
  obtain ⟨hx, hb, hml, hts, hown, hlocks, hXe, hA, hAb, hnm⟩ := id hC
  have hK := hXe.1
  have hl : lv_has ls 1 [(0, .ref v0)] := hl
  unfold f_X6_init at hf
  refine lv_aload_n (pc := 0) hx hb dX6_init_0 rfl (lv_at hl 0 rfl) ?_
  refine W.objInit (g := F0 m 1 ls _) hx hb hown (hts _ m_35) (hts _ m_22) (hts _ m_23) rfl (by rw [hml]; exact hl.1) rfl dX6_init_1 (Nat.le_of_ble_eq_true rfl) (Nat.le_of_ble_eq_true rfl) ?_
  refine W.eq (g2 := F0 m 4 ls []) rfl ?_
  refine W.widen (k := 0) (n := 0) (by show 0 ≤ 0; decide) (by show 0 ≤ 0; decide) ?_
  exact rg_vret (pc := 4) hx hb hlocks hr hf hR dX6_init_4
-- X3_init
def f_X3_init_b37 (k37 : Nat → Int32 → Mem → Option (Mem)) (v0 : Nat) (v1 : Int32) (M : Mem) : Option (Mem) := if (80 : Int32) ≤ v1 then (gd (M.1 v0 = 3) <| lt_ (ms_i M v0 4 (20 : Int32)) fun M1 => gd (M1.1 v0 = 3) <| lt_ (ms_i M1 v0 5 (80 : Int32)) fun M2 => gd (M2.1 v0 = 3) <| lt_ (ms_i M2 v0 6 (50 : Int32)) fun M3 => some M3) else (gd (M.1 v0 = 3) <| rd (mm_r M v0 2) fun a4 => lt_ (mm_x M) fun a5 => lt_ (ms_n M 2 0) fun M6 => bd (f_X2_init a5 M6) fun z7 => gd ((z7.1 a4 = 13 ∧ z7.1 a5 = 2) ∧ vi_ v1 (mm_N z7 a4)) <| lt_ (ms_r z7 a4 (v1).toNatClampNeg (some a5)) fun M8 => lt_ (v1 + (1 : Int32)) fun x9 => k37 v0 x9 M8)
def f_X3_init_L37  : Nat → Nat → Int32 → Mem → Option (Mem)
  | 0 => fun _ _ _ => none
  | n + 1 => f_X3_init_b37  (f_X3_init_L37  n)
def f_X3_init (v0 : Nat) (M : Mem) : Option (Mem) := lt_ (mm_x M) fun a10 => lt_ (ms_n M 6 0) fun M11 => bd (f_X6_init a10 M11) fun z12 => gd (z12.1 v0 = 3) <| lt_ (ms_r z12 v0 0 (some a10)) fun M13 => lt_ (mm_x M13) fun a14 => lt_ (ms_n M13 4 0) fun M15 => bd (f_X4_init a14 M15) fun z16 => gd (z16.1 v0 = 3) <| lt_ (ms_r z16 v0 1 (some a14)) fun M17 => lt_ (mm_x M17) fun a18 => lt_ (ms_n M17 13 80) fun M19 => gd (M19.1 v0 = 3) <| lt_ (ms_r M19 v0 2 (some a18)) fun M20 => f_X3_init_L37 81 v0 (0 : Int32) M20
abbrev rm_X3_init : Room := { frames := 2, cells := 84, slots := 661, locals := 44 }
theorem hd_X3_init : yX3_init.cls ≠ "java/lang/invoke/MethodHandle" ∧ yX3_init.cls ≠ "java/lang/invoke/VarHandle" ∧ (parseMethodDescriptor yX3_init.desc).map (fun d => d.parameters.length) = some 0 := by decide +kernel
set_option maxHeartbeats 8000000 in
set_option maxRecDepth 100000 in
theorem c_X3_init {l : Launch} {D : va_G} {ca : Nat → ClassId} {b : Nat} {v0 : Nat} {M : Mem} {r : Mem} (hf : f_X3_init v0 M = some r) : CtV l yX3_init cX3_init 2 none rm_X3_init D ca b true [.ref v0] M r 84 661 := by
  intro sz
  refine body_start (Qc := fun A => cvV D ca true A r) (by decide +kernel) (Nat.le_of_ble_eq_true rfl) ?_
  intro p e s m args below meth c A hC hr hR ls hl
  obtain ⟨hx, hb, hml, hts, hown, hlocks, hXe, hA, hAb, hnm⟩ := id hC
  have hK := hXe.1
  have hl : lv_has ls 2 [(0, .ref v0)] := hl
  have hB37 : ∀ (n : Nat) (k37 : Nat → Int32 → Mem → Option (Mem)) (hk37 : ∀ (v0 : Nat) (v1 : Int32) (M : Mem) (H : Heap) (locs : List Loc) (ls : Array Slot) (nc ns : Nat), k37 v0 v1 M = some r → Hp D ca true A s M H locs → lv_has ls 2 [(0, .ref v0), (1, .int v1)] → nc + n * 1 ≤ 84 → ns + n * 7 ≤ 661 → W p l e rm_X3_init s m args below meth c H locs nc ns (MQ below (cvV D ca true A r) args s 84 661 A) (F0 m 37 ls [])) (v0 : Nat) (v1 : Int32) (M : Mem) (H : Heap) (locs : List Loc) (ls : Array Slot) (nc ns : Nat), f_X3_init_b37 k37 v0 v1 M = some r → Hp D ca true A s M H locs → lv_has ls 2 [(0, .ref v0), (1, .int v1)] → nc + (n + 1) * 1 ≤ 84 → ns + (n + 1) * 7 ≤ 661 → W p l e rm_X3_init s m args below meth c H locs nc ns (MQ below (cvV D ca true A r) args s 84 661 A) (F0 m 37 ls []) := by
    intro n k37 hk37 v0 v1 M H locs ls nc ns hf hR hl hnc hns
    unfold f_X3_init_b37 at hf
    refine lv_iload_n (pc := 37) hx hb dX3_init_37 rfl (lv_at hl 1 rfl) ?_
    refine lv_bipush (pc := 38) (v := (80 : Int32)) hx hb dX3_init_38 (by decide) ?_
    refine lv_icmp_ge (pc := 40) (tgt := 62) hx hb dX3_init_40 (by decide) (fun hc => ?_) (fun hc => ?_)
    · replace hf := it_t hf hc
      refine W.widen (k := 84) (n := 661) (by omega) (by omega) ?_
      refine lv_aload_n (pc := 62) hx hb dX3_init_62 rfl (lv_at hl 0 rfl) ?_
      refine lv_bipush (pc := 63) (v := (20 : Int32)) hx hb dX3_init_63 (by decide) ?_
      refine rg_puti (pc := 65) (C := RX3) (T := TX3) (N := 7) (κ := 3) hx hb hts hK hR hown in_3 rfl (by decide) 4 (by decide) m_148 tyX3 tyX3_ok nmX3 rfl rfl rfl rfl dX3_init_65 hf (fun M1 H locs hf hR => ?_)
      refine lv_aload_n (pc := 68) hx hb dX3_init_68 rfl (lv_at hl 0 rfl) ?_
      refine lv_bipush (pc := 69) (v := (80 : Int32)) hx hb dX3_init_69 (by decide) ?_
      refine rg_puti (pc := 71) (C := RX3) (T := TX3) (N := 7) (κ := 3) hx hb hts hK hR hown in_3 rfl (by decide) 5 (by decide) m_150 tyX3 tyX3_ok nmX3 rfl rfl rfl rfl dX3_init_71 hf (fun M2 H locs hf hR => ?_)
      refine lv_aload_n (pc := 74) hx hb dX3_init_74 rfl (lv_at hl 0 rfl) ?_
      refine lv_bipush (pc := 75) (v := (50 : Int32)) hx hb dX3_init_75 (by decide) ?_
      refine rg_puti (pc := 77) (C := RX3) (T := TX3) (N := 7) (κ := 3) hx hb hts hK hR hown in_3 rfl (by decide) 6 (by decide) m_152 tyX3 tyX3_ok nmX3 rfl rfl rfl rfl dX3_init_77 hf (fun M3 H locs hf hR => ?_)
      refine W.widen (k := 84) (n := 661) (by show 84 ≤ 84; decide) (by show 661 ≤ 661; decide) ?_
      exact rg_vret (pc := 80) hx hb hlocks hr hf hR dX3_init_80
    · replace hf := it_f hf hc
      refine lv_aload_n (pc := 43) hx hb dX3_init_43 rfl (lv_at hl 0 rfl) ?_
      refine rg_getr (pc := 44) (C := RX3) (T := TX3) (N := 7) (κ := 3) hx hb hts hK hR hown in_3 rfl (by decide) 2 (by decide) m_144 rfl dX3_init_44 hf (fun a4 hf => ?_)
      refine lv_iload_n (pc := 47) hx hb dX3_init_47 rfl (lv_at hl 1 rfl) ?_
      refine rg_new (pc := 48) (C := RX2) (T := TX2) (N := 7) (κ := 2) hx hb hts hK hR hA hown in_2 rfl (by decide) tyX2 tyX2_ok df_2 m_100 m_102 m_5 (by show _ ≤ 84; omega) (by show _ ≤ 661; omega) dX3_init_48 hf (fun a5 M6 H hf hR => ?_)
      refine lv_dup (pc := 51) hx hb dX3_init_51 rfl ?_
      refine rg_V (pc := 52) hf hR hA (fun z hz => rn_IN (host := "RingHerd") (As := []) (rest := [.ref a5, .int v1, .ref a4]) hC hR (c_X2_init  hz _) (by decide +kernel) m_104 m_5 m_105 rfl hd_X2_init ⟨rfl, rfl, Nat.le_of_ble_eq_true rfl, Nat.le_of_ble_eq_true rfl⟩ rfl hl.1 rfl (Nat.le_of_ble_eq_true rfl) dX3_init_52 ⟨by show _ ≤ 84; omega, by show _ ≤ 661; omega⟩) (fun z7 H locs hf hR => ?_)
      refine rg_aast (pc := 55) (κ := 13) (κo := 2) hx hb hK hR 3 rfl (by decide) rfl (by decide) dX3_init_55 hf (fun M8 H locs hf hR => ?_)
      refine rg_iinc (pc := 56) hx hb dX3_init_56 hl (k := 1) rfl rfl (by decide) hf (fun x9 ls hf hl => ?_)
      have hl : lv_has ls 2 [(1, .int x9), (0, .ref v0)] := hl
      refine lv_goto (pc := 59) (tgt := 37) hx hb dX3_init_59 (by decide) ?_
      exact hk37 v0 x9 M8 _ _ _ _ _ hf hR (lv_sub hl [1, 0] rfl) (by omega) (by omega)
  have hL37 : ∀  (n : Nat) (v0 : Nat) (v1 : Int32) (M : Mem) (H : Heap) (locs : List Loc) (ls : Array Slot) (nc ns : Nat), f_X3_init_L37  n v0 v1 M = some r → Hp D ca true A s M H locs → lv_has ls 2 [(0, .ref v0), (1, .int v1)] → nc + n * 1 ≤ 84 → ns + n * 7 ≤ 661 → W p l e rm_X3_init s m args below meth c H locs nc ns (MQ below (cvV D ca true A r) args s 84 661 A) (F0 m 37 ls []) := by
    intro  n
    induction n with
    | zero => intro v0 v1 M H locs ls nc ns hf; exact nomatch (show (none : Option (Mem)) = some r from hf)
    | succ n ih => intro v0 v1 M H locs ls nc ns hf hR hl; exact hB37 n  (f_X3_init_L37  n) ih v0 v1 M H locs ls nc ns hf hR hl
  unfold f_X3_init at hf
  refine lv_aload_n (pc := 0) hx hb dX3_init_0 rfl (lv_at hl 0 rfl) ?_
  refine W.objInit (g := F0 m 1 ls _) hx hb hown (hts _ m_29) (hts _ m_22) (hts _ m_23) rfl (by rw [hml]; exact hl.1) rfl dX3_init_1 (Nat.le_of_ble_eq_true rfl) (Nat.le_of_ble_eq_true rfl) ?_
  refine W.eq (g2 := F0 m 4 ls []) rfl ?_
  refine lv_aload_n (pc := 4) hx hb dX3_init_4 rfl (lv_at hl 0 rfl) ?_
  refine rg_new (pc := 5) (C := RX6) (T := TX6) (N := 1) (κ := 6) hx hb hts hK hR hA hown in_6 rfl (by decide) tyX6 tyX6_ok df_6 m_30 m_31 m_3 (Nat.le_of_ble_eq_true rfl) (Nat.le_of_ble_eq_true rfl) dX3_init_5 hf (fun a10 M11 H hf hR => ?_)
  refine lv_dup (pc := 8) hx hb dX3_init_8 rfl ?_
  refine rg_V (pc := 9) hf hR hA (fun z hz => rn_IN (host := "RingHerd") (As := []) (rest := [.ref a10, .ref v0]) hC hR (c_X6_init  hz _) (by decide +kernel) m_33 m_3 m_34 rfl hd_X6_init ⟨rfl, rfl, Nat.le_of_ble_eq_true rfl, Nat.le_of_ble_eq_true rfl⟩ rfl hl.1 rfl (Nat.le_of_ble_eq_true rfl) dX3_init_9 ⟨Nat.le_of_ble_eq_true rfl, Nat.le_of_ble_eq_true rfl⟩) (fun z12 H locs hf hR => ?_)
  refine rg_putr (pc := 12) (C := RX3) (T := TX3) (N := 7) (κ := 3) hx hb hts hK hR hown in_3 rfl (by decide) 0 (by decide) m_140 tyX3 tyX3_ok nmX3 ⟨rfl, hnm rfl, rfl⟩ rfl rfl rfl dX3_init_12 hf (fun M13 H locs hf hR => ?_)
  refine lv_aload_n (pc := 15) hx hb dX3_init_15 rfl (lv_at hl 0 rfl) ?_
  refine rg_new (pc := 16) (C := RX4) (T := TX4) (N := 13) (κ := 4) hx hb hts hK hR hA hown in_4 rfl (by decide) tyX4 tyX4_ok df_4 m_41 m_42 m_4 (Nat.le_of_ble_eq_true rfl) (Nat.le_of_ble_eq_true rfl) dX3_init_16 hf (fun a14 M15 H hf hR => ?_)
  refine lv_dup (pc := 19) hx hb dX3_init_19 rfl ?_
  refine rg_V (pc := 20) hf hR hA (fun z hz => rn_IN (host := "RingHerd") (As := []) (rest := [.ref a14, .ref v0]) hC hR (c_X4_init  hz _) (by decide +kernel) m_44 m_4 m_45 rfl hd_X4_init ⟨rfl, rfl, Nat.le_of_ble_eq_true rfl, Nat.le_of_ble_eq_true rfl⟩ rfl hl.1 rfl (Nat.le_of_ble_eq_true rfl) dX3_init_20 ⟨Nat.le_of_ble_eq_true rfl, Nat.le_of_ble_eq_true rfl⟩) (fun z16 H locs hf hR => ?_)
  refine rg_putr (pc := 23) (C := RX3) (T := TX3) (N := 7) (κ := 3) hx hb hts hK hR hown in_3 rfl (by decide) 1 (by decide) m_142 tyX3 tyX3_ok nmX3 ⟨rfl, hnm rfl, rfl⟩ rfl rfl rfl dX3_init_23 hf (fun M17 H locs hf hR => ?_)
  refine lv_aload_n (pc := 26) hx hb dX3_init_26 rfl (lv_at hl 0 rfl) ?_
  refine lv_bipush (pc := 27) (v := (80 : Int32)) hx hb dX3_init_27 (by decide) ?_
  refine rg_newq (pc := 29) (κ := 13) (N := 80) hx hb hts hK hR hA hown 3 rfl (by decide) m_100 (hXe.2.2.2.2.1 _ (by decide)) (by decide) (by decide) (by decide) (Nat.le_of_ble_eq_true rfl) (Nat.le_of_ble_eq_true rfl) dX3_init_29 hf (fun a18 M19 H hf hR => ?_)
  refine rg_putr (pc := 32) (C := RX3) (T := TX3) (N := 7) (κ := 3) hx hb hts hK hR hown in_3 rfl (by decide) 2 (by decide) m_144 tyX3 tyX3_ok nmX3 ⟨rfl, hnm rfl, rfl⟩ rfl rfl rfl dX3_init_32 hf (fun M20 H locs hf hR => ?_)
  refine lv_iconst (pc := 35) (v := (0 : Int32)) hx hb dX3_init_35 (by decide) ?_
  refine lv_istore_n (pc := 36) (lv' := [(1, .int (0 : Int32)), (0, .ref v0)]) hx hb dX3_init_36 rfl hl (by decide) rfl (fun ls hl => ?_)
  exact hL37 81 v0 (0 : Int32) M20 _ _ _ _ _ hf hR (lv_sub hl [1, 0] rfl) (by show 3 + _ ≤ _; decide) (by show 94 + _ ≤ _; decide)
-- X7_init
def f_X7_init_b98 (k98 : Nat → Int32 → Mem → Option (Mem)) (v0 : Nat) (v1 : Int32) (M : Mem) : Option (Mem) := if (40 : Int32) ≤ v1 then (lt_ (mm_x M) fun a1 => lt_ (ms_n M 9 64) fun M2 => gd (M2.1 v0 = 7) <| lt_ (ms_r M2 v0 8 (some a1)) fun M3 => lt_ (mm_x M3) fun a4 => lt_ (ms_n M3 9 21) fun M5 => gd (M5.1 v0 = 7) <| lt_ (ms_r M5 v0 9 (some a4)) fun M6 => lt_ (mm_x M6) fun a7 => lt_ (ms_n M6 9 21) fun M8 => gd (M8.1 v0 = 7) <| lt_ (ms_r M8 v0 10 (some a7)) fun M9 => some M9) else (gd (M.1 v0 = 7) <| rd (mm_r M v0 5) fun a10 => lt_ (mm_x M) fun a11 => lt_ (ms_n M 0 0) fun M12 => bd (f_X0_init a11 M12) fun z13 => gd ((z13.1 a10 = 11 ∧ z13.1 a11 = 0) ∧ vi_ v1 (mm_N z13 a10)) <| lt_ (ms_r z13 a10 (v1).toNatClampNeg (some a11)) fun M14 => lt_ (v1 + (1 : Int32)) fun x15 => k98 v0 x15 M14)
def f_X7_init_L98  : Nat → Nat → Int32 → Mem → Option (Mem)
  | 0 => fun _ _ _ => none
  | n + 1 => f_X7_init_b98  (f_X7_init_L98  n)
def f_X7_init_b62 (k62 : Nat → Int32 → Mem → Option (Mem)) (v0 : Nat) (v1 : Int32) (M : Mem) : Option (Mem) := if (20 : Int32) ≤ v1 then (lt_ (mm_x M) fun a16 => lt_ (ms_n M 11 40) fun M17 => gd (M17.1 v0 = 7) <| lt_ (ms_r M17 v0 5 (some a16)) fun M18 => f_X7_init_L98 41 v0 (0 : Int32) M18) else (gd (M.1 v0 = 7) <| rd (mm_r M v0 3) fun a19 => lt_ (mm_x M) fun a20 => lt_ (ms_n M 1 0) fun M21 => bd (f_X1_init a20 M21) fun z22 => gd ((z22.1 a19 = 12 ∧ z22.1 a20 = 1) ∧ vi_ v1 (mm_N z22 a19)) <| lt_ (ms_r z22 a19 (v1).toNatClampNeg (some a20)) fun M23 => lt_ (v1 + (1 : Int32)) fun x24 => k62 v0 x24 M23)
def f_X7_init_L62  : Nat → Nat → Int32 → Mem → Option (Mem)
  | 0 => fun _ _ _ => none
  | n + 1 => f_X7_init_b62  (f_X7_init_L62  n)
def f_X7_init_b26 (k26 : Nat → Int32 → Mem → Option (Mem)) (v0 : Nat) (v1 : Int32) (M : Mem) : Option (Mem) := if (6 : Int32) ≤ v1 then (lt_ (mm_x M) fun a25 => lt_ (ms_n M 12 20) fun M26 => gd (M26.1 v0 = 7) <| lt_ (ms_r M26 v0 3 (some a25)) fun M27 => f_X7_init_L62 21 v0 (0 : Int32) M27) else (gd (M.1 v0 = 7) <| rd (mm_r M v0 1) fun a28 => lt_ (mm_x M) fun a29 => lt_ (ms_n M 5 0) fun M30 => bd (f_X5_init a29 M30) fun z31 => gd ((z31.1 a28 = 14 ∧ z31.1 a29 = 5) ∧ vi_ v1 (mm_N z31 a28)) <| lt_ (ms_r z31 a28 (v1).toNatClampNeg (some a29)) fun M32 => lt_ (v1 + (1 : Int32)) fun x33 => k26 v0 x33 M32)
def f_X7_init_L26  : Nat → Nat → Int32 → Mem → Option (Mem)
  | 0 => fun _ _ _ => none
  | n + 1 => f_X7_init_b26  (f_X7_init_L26  n)
def f_X7_init (v0 : Nat) (M : Mem) : Option (Mem) := lt_ (mm_x M) fun a34 => lt_ (ms_n M 3 0) fun M35 => bd (f_X3_init a34 M35) fun z36 => gd (z36.1 v0 = 7) <| lt_ (ms_r z36 v0 0 (some a34)) fun M37 => lt_ (mm_x M37) fun a38 => lt_ (ms_n M37 14 6) fun M39 => gd (M39.1 v0 = 7) <| lt_ (ms_r M39 v0 1 (some a38)) fun M40 => f_X7_init_L26 7 v0 (0 : Int32) M40
abbrev rm_X7_init : Room := { frames := 3, cells := 181, slots := 2411, locals := 65 }
theorem hd_X7_init : yX7_init.cls ≠ "java/lang/invoke/MethodHandle" ∧ yX7_init.cls ≠ "java/lang/invoke/VarHandle" ∧ (parseMethodDescriptor yX7_init.desc).map (fun d => d.parameters.length) = some 0 := by decide +kernel
set_option maxHeartbeats 8000000 in
set_option maxRecDepth 100000 in
theorem c_X7_init {l : Launch} {D : va_G} {ca : Nat → ClassId} {b : Nat} {v0 : Nat} {M : Mem} {r : Mem} (hf : f_X7_init v0 M = some r) : CtV l yX7_init cX7_init 2 none rm_X7_init D ca b true [.ref v0] M r 181 2411 := by
  intro sz
  refine body_start (Qc := fun A => cvV D ca true A r) (by decide +kernel) (Nat.le_of_ble_eq_true rfl) ?_
  intro p e s m args below meth c A hC hr hR ls hl
  obtain ⟨hx, hb, hml, hts, hown, hlocks, hXe, hA, hAb, hnm⟩ := id hC
  have hK := hXe.1
  have hl : lv_has ls 2 [(0, .ref v0)] := hl
  have hB98 : ∀ (n : Nat) (k98 : Nat → Int32 → Mem → Option (Mem)) (hk98 : ∀ (v0 : Nat) (v1 : Int32) (M : Mem) (H : Heap) (locs : List Loc) (ls : Array Slot) (nc ns : Nat), k98 v0 v1 M = some r → Hp D ca true A s M H locs → lv_has ls 2 [(0, .ref v0), (1, .int v1)] → nc + n * 1 ≤ 178 → ns + n * 4 ≤ 2305 → W p l e rm_X7_init s m args below meth c H locs nc ns (MQ below (cvV D ca true A r) args s 181 2411 A) (F0 m 98 ls [])) (v0 : Nat) (v1 : Int32) (M : Mem) (H : Heap) (locs : List Loc) (ls : Array Slot) (nc ns : Nat), f_X7_init_b98 k98 v0 v1 M = some r → Hp D ca true A s M H locs → lv_has ls 2 [(0, .ref v0), (1, .int v1)] → nc + (n + 1) * 1 ≤ 178 → ns + (n + 1) * 4 ≤ 2305 → W p l e rm_X7_init s m args below meth c H locs nc ns (MQ below (cvV D ca true A r) args s 181 2411 A) (F0 m 98 ls []) := by
    intro n k98 hk98 v0 v1 M H locs ls nc ns hf hR hl hnc hns
    unfold f_X7_init_b98 at hf
    refine lv_iload_n (pc := 98) hx hb dX7_init_98 rfl (lv_at hl 1 rfl) ?_
    refine lv_bipush (pc := 99) (v := (40 : Int32)) hx hb dX7_init_99 (by decide) ?_
    refine lv_icmp_ge (pc := 101) (tgt := 123) hx hb dX7_init_101 (by decide) (fun hc => ?_) (fun hc => ?_)
    · replace hf := it_t hf hc
      refine W.widen (k := 178) (n := 2305) (by omega) (by omega) ?_
      refine lv_aload_n (pc := 123) hx hb dX7_init_123 rfl (lv_at hl 0 rfl) ?_
      refine lv_bipush (pc := 124) (v := (64 : Int32)) hx hb dX7_init_124 (by decide) ?_
      refine rg_newa (pc := 126) (atype := .int) (κ := 9) (N := 64) hx hb hts hK hR hA 0 rfl (by decide) m_202 (by decide) (by decide) (by decide) (Nat.le_of_ble_eq_true rfl) (Nat.le_of_ble_eq_true rfl) dX7_init_126 hf (fun a1 M2 H hf hR => ?_)
      refine rg_putr (pc := 128) (C := RX7) (T := TX7) (N := 11) (κ := 7) hx hb hts hK hR hown in_7 rfl (by decide) 8 (by decide) m_225 tyX7 tyX7_ok nmX7 ⟨rfl, hnm rfl, rfl⟩ rfl rfl rfl dX7_init_128 hf (fun M3 H locs hf hR => ?_)
      refine lv_aload_n (pc := 131) hx hb dX7_init_131 rfl (lv_at hl 0 rfl) ?_
      refine lv_bipush (pc := 132) (v := (21 : Int32)) hx hb dX7_init_132 (by decide) ?_
      refine rg_newa (pc := 134) (atype := .int) (κ := 9) (N := 21) hx hb hts hK hR hA 0 rfl (by decide) m_202 (by decide) (by decide) (by decide) (Nat.le_of_ble_eq_true rfl) (Nat.le_of_ble_eq_true rfl) dX7_init_134 hf (fun a4 M5 H hf hR => ?_)
      refine rg_putr (pc := 136) (C := RX7) (T := TX7) (N := 11) (κ := 7) hx hb hts hK hR hown in_7 rfl (by decide) 9 (by decide) m_226 tyX7 tyX7_ok nmX7 ⟨rfl, hnm rfl, rfl⟩ rfl rfl rfl dX7_init_136 hf (fun M6 H locs hf hR => ?_)
      refine lv_aload_n (pc := 139) hx hb dX7_init_139 rfl (lv_at hl 0 rfl) ?_
      refine lv_bipush (pc := 140) (v := (21 : Int32)) hx hb dX7_init_140 (by decide) ?_
      refine rg_newa (pc := 142) (atype := .int) (κ := 9) (N := 21) hx hb hts hK hR hA 0 rfl (by decide) m_202 (by decide) (by decide) (by decide) (Nat.le_of_ble_eq_true rfl) (Nat.le_of_ble_eq_true rfl) dX7_init_142 hf (fun a7 M8 H hf hR => ?_)
      refine rg_putr (pc := 144) (C := RX7) (T := TX7) (N := 11) (κ := 7) hx hb hts hK hR hown in_7 rfl (by decide) 10 (by decide) m_227 tyX7 tyX7_ok nmX7 ⟨rfl, hnm rfl, rfl⟩ rfl rfl rfl dX7_init_144 hf (fun M9 H locs hf hR => ?_)
      refine W.widen (k := 181) (n := 2411) (by show 181 ≤ 181; decide) (by show 2411 ≤ 2411; decide) ?_
      exact rg_vret (pc := 147) hx hb hlocks hr hf hR dX7_init_147
    · replace hf := it_f hf hc
      refine lv_aload_n (pc := 104) hx hb dX7_init_104 rfl (lv_at hl 0 rfl) ?_
      refine rg_getr (pc := 105) (C := RX7) (T := TX7) (N := 11) (κ := 7) hx hb hts hK hR hown in_7 rfl (by decide) 5 (by decide) m_223 rfl dX7_init_105 hf (fun a10 hf => ?_)
      refine lv_iload_n (pc := 108) hx hb dX7_init_108 rfl (lv_at hl 1 rfl) ?_
      refine rg_new (pc := 109) (C := RX0) (T := TX0) (N := 4) (κ := 0) hx hb hts hK hR hA hown in_0 rfl (by decide) tyX0 tyX0_ok df_0 m_203 m_205 m_8 (by show _ ≤ 181; omega) (by show _ ≤ 2411; omega) dX7_init_109 hf (fun a11 M12 H hf hR => ?_)
      refine lv_dup (pc := 112) hx hb dX7_init_112 rfl ?_
      refine rg_V (pc := 113) hf hR hA (fun z hz => rn_IN (host := "RingHerd") (As := []) (rest := [.ref a11, .int v1, .ref a10]) hC hR (c_X0_init  hz _) (by decide +kernel) m_207 m_8 m_208 rfl hd_X0_init ⟨rfl, rfl, Nat.le_of_ble_eq_true rfl, Nat.le_of_ble_eq_true rfl⟩ rfl hl.1 rfl (Nat.le_of_ble_eq_true rfl) dX7_init_113 ⟨by show _ ≤ 181; omega, by show _ ≤ 2411; omega⟩) (fun z13 H locs hf hR => ?_)
      refine rg_aast (pc := 116) (κ := 11) (κo := 0) hx hb hK hR 1 rfl (by decide) rfl (by decide) dX7_init_116 hf (fun M14 H locs hf hR => ?_)
      refine rg_iinc (pc := 117) hx hb dX7_init_117 hl (k := 1) rfl rfl (by decide) hf (fun x15 ls hf hl => ?_)
      have hl : lv_has ls 2 [(1, .int x15), (0, .ref v0)] := hl
      refine lv_goto (pc := 120) (tgt := 98) hx hb dX7_init_120 (by decide) ?_
      exact hk98 v0 x15 M14 _ _ _ _ _ hf hR (lv_sub hl [1, 0] rfl) (by omega) (by omega)
  have hL98 : ∀  (n : Nat) (v0 : Nat) (v1 : Int32) (M : Mem) (H : Heap) (locs : List Loc) (ls : Array Slot) (nc ns : Nat), f_X7_init_L98  n v0 v1 M = some r → Hp D ca true A s M H locs → lv_has ls 2 [(0, .ref v0), (1, .int v1)] → nc + n * 1 ≤ 178 → ns + n * 4 ≤ 2305 → W p l e rm_X7_init s m args below meth c H locs nc ns (MQ below (cvV D ca true A r) args s 181 2411 A) (F0 m 98 ls []) := by
    intro  n
    induction n with
    | zero => intro v0 v1 M H locs ls nc ns hf; exact nomatch (show (none : Option (Mem)) = some r from hf)
    | succ n ih => intro v0 v1 M H locs ls nc ns hf hR hl; exact hB98 n  (f_X7_init_L98  n) ih v0 v1 M H locs ls nc ns hf hR hl
  have hB62 : ∀ (n : Nat) (k62 : Nat → Int32 → Mem → Option (Mem)) (hk62 : ∀ (v0 : Nat) (v1 : Int32) (M : Mem) (H : Heap) (locs : List Loc) (ls : Array Slot) (nc ns : Nat), k62 v0 v1 M = some r → Hp D ca true A s M H locs → lv_has ls 2 [(0, .ref v0), (1, .int v1)] → nc + n * 2 ≤ 136 → ns + n * 66 ≤ 2101 → W p l e rm_X7_init s m args below meth c H locs nc ns (MQ below (cvV D ca true A r) args s 181 2411 A) (F0 m 62 ls [])) (v0 : Nat) (v1 : Int32) (M : Mem) (H : Heap) (locs : List Loc) (ls : Array Slot) (nc ns : Nat), f_X7_init_b62 k62 v0 v1 M = some r → Hp D ca true A s M H locs → lv_has ls 2 [(0, .ref v0), (1, .int v1)] → nc + (n + 1) * 2 ≤ 136 → ns + (n + 1) * 66 ≤ 2101 → W p l e rm_X7_init s m args below meth c H locs nc ns (MQ below (cvV D ca true A r) args s 181 2411 A) (F0 m 62 ls []) := by
    intro n k62 hk62 v0 v1 M H locs ls nc ns hf hR hl hnc hns
    unfold f_X7_init_b62 at hf
    refine lv_iload_n (pc := 62) hx hb dX7_init_62 rfl (lv_at hl 1 rfl) ?_
    refine lv_bipush (pc := 63) (v := (20 : Int32)) hx hb dX7_init_63 (by decide) ?_
    refine lv_icmp_ge (pc := 65) (tgt := 87) hx hb dX7_init_65 (by decide) (fun hc => ?_) (fun hc => ?_)
    · replace hf := it_t hf hc
      refine W.widen (k := 136) (n := 2101) (by omega) (by omega) ?_
      refine lv_aload_n (pc := 87) hx hb dX7_init_87 rfl (lv_at hl 0 rfl) ?_
      refine lv_bipush (pc := 88) (v := (40 : Int32)) hx hb dX7_init_88 (by decide) ?_
      refine rg_newq (pc := 90) (κ := 11) (N := 40) hx hb hts hK hR hA hown 1 rfl (by decide) m_203 (hXe.2.2.2.2.1 _ (by decide)) (by decide) (by decide) (by decide) (Nat.le_of_ble_eq_true rfl) (Nat.le_of_ble_eq_true rfl) dX7_init_90 hf (fun a16 M17 H hf hR => ?_)
      refine rg_putr (pc := 93) (C := RX7) (T := TX7) (N := 11) (κ := 7) hx hb hts hK hR hown in_7 rfl (by decide) 5 (by decide) m_223 tyX7 tyX7_ok nmX7 ⟨rfl, hnm rfl, rfl⟩ rfl rfl rfl dX7_init_93 hf (fun M18 H locs hf hR => ?_)
      refine lv_iconst (pc := 96) (v := (0 : Int32)) hx hb dX7_init_96 (by decide) ?_
      refine lv_istore_n (pc := 97) (lv' := [(1, .int (0 : Int32)), (0, .ref v0)]) hx hb dX7_init_97 rfl hl (by decide) rfl (fun ls hl => ?_)
      exact hL98 41 v0 (0 : Int32) M18 _ _ _ _ _ hf hR (lv_sub hl [1, 0] rfl) (by show 137 + _ ≤ _; decide) (by show 2141 + _ ≤ _; decide)
    · replace hf := it_f hf hc
      refine lv_aload_n (pc := 68) hx hb dX7_init_68 rfl (lv_at hl 0 rfl) ?_
      refine rg_getr (pc := 69) (C := RX7) (T := TX7) (N := 11) (κ := 7) hx hb hts hK hR hown in_7 rfl (by decide) 3 (by decide) m_222 rfl dX7_init_69 hf (fun a19 hf => ?_)
      refine lv_iload_n (pc := 72) hx hb dX7_init_72 rfl (lv_at hl 1 rfl) ?_
      refine rg_new (pc := 73) (C := RX1) (T := TX1) (N := 2) (κ := 1) hx hb hts hK hR hA hown in_1 rfl (by decide) tyX1 tyX1_ok df_1 m_189 m_191 m_7 (by show _ ≤ 181; omega) (by show _ ≤ 2411; omega) dX7_init_73 hf (fun a20 M21 H hf hR => ?_)
      refine lv_dup (pc := 76) hx hb dX7_init_76 rfl ?_
      refine rg_V (pc := 77) hf hR hA (fun z hz => rn_IN (host := "RingHerd") (As := []) (rest := [.ref a20, .int v1, .ref a19]) hC hR (c_X1_init  hz _) (by decide +kernel) m_193 m_7 m_194 rfl hd_X1_init ⟨rfl, rfl, Nat.le_of_ble_eq_true rfl, Nat.le_of_ble_eq_true rfl⟩ rfl hl.1 rfl (Nat.le_of_ble_eq_true rfl) dX7_init_77 ⟨by show _ ≤ 181; omega, by show _ ≤ 2411; omega⟩) (fun z22 H locs hf hR => ?_)
      refine rg_aast (pc := 80) (κ := 12) (κo := 1) hx hb hK hR 2 rfl (by decide) rfl (by decide) dX7_init_80 hf (fun M23 H locs hf hR => ?_)
      refine rg_iinc (pc := 81) hx hb dX7_init_81 hl (k := 1) rfl rfl (by decide) hf (fun x24 ls hf hl => ?_)
      have hl : lv_has ls 2 [(1, .int x24), (0, .ref v0)] := hl
      refine lv_goto (pc := 84) (tgt := 62) hx hb dX7_init_84 (by decide) ?_
      exact hk62 v0 x24 M23 _ _ _ _ _ hf hR (lv_sub hl [1, 0] rfl) (by omega) (by omega)
  have hL62 : ∀  (n : Nat) (v0 : Nat) (v1 : Int32) (M : Mem) (H : Heap) (locs : List Loc) (ls : Array Slot) (nc ns : Nat), f_X7_init_L62  n v0 v1 M = some r → Hp D ca true A s M H locs → lv_has ls 2 [(0, .ref v0), (1, .int v1)] → nc + n * 2 ≤ 136 → ns + n * 66 ≤ 2101 → W p l e rm_X7_init s m args below meth c H locs nc ns (MQ below (cvV D ca true A r) args s 181 2411 A) (F0 m 62 ls []) := by
    intro  n
    induction n with
    | zero => intro v0 v1 M H locs ls nc ns hf; exact nomatch (show (none : Option (Mem)) = some r from hf)
    | succ n ih => intro v0 v1 M H locs ls nc ns hf hR hl; exact hB62 n  (f_X7_init_L62  n) ih v0 v1 M H locs ls nc ns hf hR hl
  have hB26 : ∀ (n : Nat) (k26 : Nat → Int32 → Mem → Option (Mem)) (hk26 : ∀ (v0 : Nat) (v1 : Int32) (M : Mem) (H : Heap) (locs : List Loc) (ls : Array Slot) (nc ns : Nat), k26 v0 v1 M = some r → Hp D ca true A s M H locs → lv_has ls 2 [(0, .ref v0), (1, .int v1)] → nc + n * 1 ≤ 93 → ns + n * 3 ≤ 695 → W p l e rm_X7_init s m args below meth c H locs nc ns (MQ below (cvV D ca true A r) args s 181 2411 A) (F0 m 26 ls [])) (v0 : Nat) (v1 : Int32) (M : Mem) (H : Heap) (locs : List Loc) (ls : Array Slot) (nc ns : Nat), f_X7_init_b26 k26 v0 v1 M = some r → Hp D ca true A s M H locs → lv_has ls 2 [(0, .ref v0), (1, .int v1)] → nc + (n + 1) * 1 ≤ 93 → ns + (n + 1) * 3 ≤ 695 → W p l e rm_X7_init s m args below meth c H locs nc ns (MQ below (cvV D ca true A r) args s 181 2411 A) (F0 m 26 ls []) := by
    intro n k26 hk26 v0 v1 M H locs ls nc ns hf hR hl hnc hns
    unfold f_X7_init_b26 at hf
    refine lv_iload_n (pc := 26) hx hb dX7_init_26 rfl (lv_at hl 1 rfl) ?_
    refine lv_bipush (pc := 27) (v := (6 : Int32)) hx hb dX7_init_27 (by decide) ?_
    refine lv_icmp_ge (pc := 29) (tgt := 51) hx hb dX7_init_29 (by decide) (fun hc => ?_) (fun hc => ?_)
    · replace hf := it_t hf hc
      refine W.widen (k := 93) (n := 695) (by omega) (by omega) ?_
      refine lv_aload_n (pc := 51) hx hb dX7_init_51 rfl (lv_at hl 0 rfl) ?_
      refine lv_bipush (pc := 52) (v := (20 : Int32)) hx hb dX7_init_52 (by decide) ?_
      refine rg_newq (pc := 54) (κ := 12) (N := 20) hx hb hts hK hR hA hown 2 rfl (by decide) m_189 (hXe.2.2.2.2.1 _ (by decide)) (by decide) (by decide) (by decide) (Nat.le_of_ble_eq_true rfl) (Nat.le_of_ble_eq_true rfl) dX7_init_54 hf (fun a25 M26 H hf hR => ?_)
      refine rg_putr (pc := 57) (C := RX7) (T := TX7) (N := 11) (κ := 7) hx hb hts hK hR hown in_7 rfl (by decide) 3 (by decide) m_222 tyX7 tyX7_ok nmX7 ⟨rfl, hnm rfl, rfl⟩ rfl rfl rfl dX7_init_57 hf (fun M27 H locs hf hR => ?_)
      refine lv_iconst (pc := 60) (v := (0 : Int32)) hx hb dX7_init_60 (by decide) ?_
      refine lv_istore_n (pc := 61) (lv' := [(1, .int (0 : Int32)), (0, .ref v0)]) hx hb dX7_init_61 rfl hl (by decide) rfl (fun ls hl => ?_)
      exact hL62 21 v0 (0 : Int32) M27 _ _ _ _ _ hf hR (lv_sub hl [1, 0] rfl) (by show 94 + _ ≤ _; decide) (by show 715 + _ ≤ _; decide)
    · replace hf := it_f hf hc
      refine lv_aload_n (pc := 32) hx hb dX7_init_32 rfl (lv_at hl 0 rfl) ?_
      refine rg_getr (pc := 33) (C := RX7) (T := TX7) (N := 11) (κ := 7) hx hb hts hK hR hown in_7 rfl (by decide) 1 (by decide) m_220 rfl dX7_init_33 hf (fun a28 hf => ?_)
      refine lv_iload_n (pc := 36) hx hb dX7_init_36 rfl (lv_at hl 1 rfl) ?_
      refine rg_new (pc := 37) (C := RX5) (T := TX5) (N := 3) (κ := 5) hx hb hts hK hR hA hown in_5 rfl (by decide) tyX5 tyX5_ok df_5 m_169 m_171 m_6 (by show _ ≤ 181; omega) (by show _ ≤ 2411; omega) dX7_init_37 hf (fun a29 M30 H hf hR => ?_)
      refine lv_dup (pc := 40) hx hb dX7_init_40 rfl ?_
      refine rg_V (pc := 41) hf hR hA (fun z hz => rn_IN (host := "RingHerd") (As := []) (rest := [.ref a29, .int v1, .ref a28]) hC hR (c_X5_init  hz _) (by decide +kernel) m_173 m_6 m_174 rfl hd_X5_init ⟨rfl, rfl, Nat.le_of_ble_eq_true rfl, Nat.le_of_ble_eq_true rfl⟩ rfl hl.1 rfl (Nat.le_of_ble_eq_true rfl) dX7_init_41 ⟨by show _ ≤ 181; omega, by show _ ≤ 2411; omega⟩) (fun z31 H locs hf hR => ?_)
      refine rg_aast (pc := 44) (κ := 14) (κo := 5) hx hb hK hR 4 rfl (by decide) rfl (by decide) dX7_init_44 hf (fun M32 H locs hf hR => ?_)
      refine rg_iinc (pc := 45) hx hb dX7_init_45 hl (k := 1) rfl rfl (by decide) hf (fun x33 ls hf hl => ?_)
      have hl : lv_has ls 2 [(1, .int x33), (0, .ref v0)] := hl
      refine lv_goto (pc := 48) (tgt := 26) hx hb dX7_init_48 (by decide) ?_
      exact hk26 v0 x33 M32 _ _ _ _ _ hf hR (lv_sub hl [1, 0] rfl) (by omega) (by omega)
  have hL26 : ∀  (n : Nat) (v0 : Nat) (v1 : Int32) (M : Mem) (H : Heap) (locs : List Loc) (ls : Array Slot) (nc ns : Nat), f_X7_init_L26  n v0 v1 M = some r → Hp D ca true A s M H locs → lv_has ls 2 [(0, .ref v0), (1, .int v1)] → nc + n * 1 ≤ 93 → ns + n * 3 ≤ 695 → W p l e rm_X7_init s m args below meth c H locs nc ns (MQ below (cvV D ca true A r) args s 181 2411 A) (F0 m 26 ls []) := by
    intro  n
    induction n with
    | zero => intro v0 v1 M H locs ls nc ns hf; exact nomatch (show (none : Option (Mem)) = some r from hf)
    | succ n ih => intro v0 v1 M H locs ls nc ns hf hR hl; exact hB26 n  (f_X7_init_L26  n) ih v0 v1 M H locs ls nc ns hf hR hl
  unfold f_X7_init at hf
  refine lv_aload_n (pc := 0) hx hb dX7_init_0 rfl (lv_at hl 0 rfl) ?_
  refine W.objInit (g := F0 m 1 ls _) hx hb hown (hts _ m_21) (hts _ m_22) (hts _ m_23) rfl (by rw [hml]; exact hl.1) rfl dX7_init_1 (Nat.le_of_ble_eq_true rfl) (Nat.le_of_ble_eq_true rfl) ?_
  refine W.eq (g2 := F0 m 4 ls []) rfl ?_
  refine lv_aload_n (pc := 4) hx hb dX7_init_4 rfl (lv_at hl 0 rfl) ?_
  refine rg_new (pc := 5) (C := RX3) (T := TX3) (N := 7) (κ := 3) hx hb hts hK hR hA hown in_3 rfl (by decide) tyX3 tyX3_ok df_3 m_24 m_25 m_2 (Nat.le_of_ble_eq_true rfl) (Nat.le_of_ble_eq_true rfl) dX7_init_5 hf (fun a34 M35 H hf hR => ?_)
  refine lv_dup (pc := 8) hx hb dX7_init_8 rfl ?_
  refine rg_V (pc := 9) hf hR hA (fun z hz => rn_Ic (As := []) (rest := [.ref a34, .ref v0]) hC hR (c_X3_init  hz _) m_26 m_27 m_2 m_28 rfl hd_X3_init ⟨rfl, rfl, Nat.le_of_ble_eq_true rfl, Nat.le_of_ble_eq_true rfl⟩ rfl hl.1 rfl (Nat.le_of_ble_eq_true rfl) dX7_init_9 ⟨Nat.le_of_ble_eq_true rfl, Nat.le_of_ble_eq_true rfl⟩) (fun z36 H locs hf hR => ?_)
  refine rg_putr (pc := 12) (C := RX7) (T := TX7) (N := 11) (κ := 7) hx hb hts hK hR hown in_7 rfl (by decide) 0 (by decide) m_219 tyX7 tyX7_ok nmX7 ⟨rfl, hnm rfl, rfl⟩ rfl rfl rfl dX7_init_12 hf (fun M37 H locs hf hR => ?_)
  refine lv_aload_n (pc := 15) hx hb dX7_init_15 rfl (lv_at hl 0 rfl) ?_
  refine lv_bipush (pc := 16) (v := (6 : Int32)) hx hb dX7_init_16 (by decide) ?_
  refine rg_newq (pc := 18) (κ := 14) (N := 6) hx hb hts hK hR hA hown 4 rfl (by decide) m_169 (hXe.2.2.2.2.1 _ (by decide)) (by decide) (by decide) (by decide) (Nat.le_of_ble_eq_true rfl) (Nat.le_of_ble_eq_true rfl) dX7_init_18 hf (fun a38 M39 H hf hR => ?_)
  refine rg_putr (pc := 21) (C := RX7) (T := TX7) (N := 11) (κ := 7) hx hb hts hK hR hown in_7 rfl (by decide) 1 (by decide) m_220 tyX7 tyX7_ok nmX7 ⟨rfl, hnm rfl, rfl⟩ rfl rfl rfl dX7_init_21 hf (fun M40 H locs hf hR => ?_)
  refine lv_iconst (pc := 24) (v := (0 : Int32)) hx hb dX7_init_24 (by decide) ?_
  refine lv_istore_n (pc := 25) (lv' := [(1, .int (0 : Int32)), (0, .ref v0)]) hx hb dX7_init_25 rfl hl (by decide) rfl (fun ls hl => ?_)
  exact hL26 7 v0 (0 : Int32) M40 _ _ _ _ _ hf hR (lv_sub hl [1, 0] rfl) (by show 86 + _ ≤ _; decide) (by show 674 + _ ≤ _; decide)
end
section
-- L_low
def f_L_low (v0 : Int32) (v1 : Int32) (M : Mem) : Option (Mem × Int32) := gd (¬ v1 = 0) <| some (M, ((v0 &&& (2147483647 : Int32)) - (v0 &&& (2147483647 : Int32)) / v1 * v1))
abbrev rm_L_low : Room := { frames := 0, cells := 0, slots := 0, locals := 0 }
theorem hd_L_low : yL_low.cls ≠ "java/lang/invoke/MethodHandle" ∧ yL_low.cls ≠ "java/lang/invoke/VarHandle" ∧ (parseMethodDescriptor yL_low.desc).map (fun d => d.parameters.length) = some 2 := by decide +kernel
set_option maxHeartbeats 8000000 in
set_option maxRecDepth 100000 in
theorem c_L_low {l : Launch} {D : va_G} {ca : Nat → ClassId} {b : Nat} {nx : Bool} {v0 : Int32} {v1 : Int32} {M : Mem} {r : Mem × Int32} (hf : f_L_low v0 v1 M = some r) : CtI l yL_low cL_low 2 (some .int) rm_L_low D ca b nx [.int v0, .int v1] M r := by
  intro sz
  refine body_start (Qc := fun A => cvI D ca nx A r) (by decide +kernel) (Nat.le_of_ble_eq_true rfl) ?_
  intro p e s m args below meth c A hC hr hR ls hl
  obtain ⟨hx, hb, hml, hts, hown, hlocks, hXe, hA, hAb, hnm⟩ := id hC
  have hK := hXe.1
  have hl : lv_has ls 2 [(0, .int v0), (1, .int v1)] := hl
  unfold f_L_low at hf
  refine lv_iload_n (pc := 0) hx hb dL_low_0 rfl (lv_at hl 0 rfl) ?_
  refine lv_ldc (pc := 1) hx hb hown (hts _ m_538) dL_low_1 ?_
  refine lv_iand (pc := 3) hx hb dL_low_3 ?_
  refine lv_iload_n (pc := 4) hx hb dL_low_4 rfl (lv_at hl 1 rfl) ?_
  obtain ⟨hz, hf⟩ := gd_e hf
  refine lv_irem (pc := 5) hx hb dL_low_5 hz ?_
  exact rg_iret (pc := 6) hx hb hlocks hr hf hR dL_low_6
-- L_speed
def f_L_speed (v0 : Nat) (v1 : Int32) (M : Mem) : Option (Mem × Int32) := lt_ ((v1 + (20 : Int32))) fun x1 => gd (¬ x1 = 0) <| gd (M.1 v0 = 9 ∧ vi_ (6 : Int32) (mm_N M v0)) <| gd (¬ (x1 * x1) = 0) <| some (M, (((36000 : Int32) / x1) + (((100 : Int32) * (mm_i M v0 ((6 : Int32)).toNatClampNeg)) / (x1 * x1))))
abbrev rm_L_speed : Room := { frames := 0, cells := 0, slots := 0, locals := 0 }
theorem hd_L_speed : yL_speed.cls ≠ "java/lang/invoke/MethodHandle" ∧ yL_speed.cls ≠ "java/lang/invoke/VarHandle" ∧ (parseMethodDescriptor yL_speed.desc).map (fun d => d.parameters.length) = some 2 := by decide +kernel
set_option maxHeartbeats 8000000 in
set_option maxRecDepth 100000 in
theorem c_L_speed {l : Launch} {D : va_G} {ca : Nat → ClassId} {b : Nat} {nx : Bool} {v0 : Nat} {v1 : Int32} {M : Mem} {r : Mem × Int32} (hf : f_L_speed v0 v1 M = some r) : CtI l yL_speed cL_speed 3 (some .int) rm_L_speed D ca b nx [.ref v0, .int v1] M r := by
  intro sz
  refine body_start (Qc := fun A => cvI D ca nx A r) (by decide +kernel) (Nat.le_of_ble_eq_true rfl) ?_
  intro p e s m args below meth c A hC hr hR ls hl
  obtain ⟨hx, hb, hml, hts, hown, hlocks, hXe, hA, hAb, hnm⟩ := id hC
  have hK := hXe.1
  have hl : lv_has ls 3 [(0, .ref v0), (1, .int v1)] := hl
  unfold f_L_speed at hf
  refine lv_iload_n (pc := 0) hx hb dL_speed_0 rfl (lv_at hl 1 rfl) ?_
  refine lv_bipush (pc := 1) (v := (20 : Int32)) hx hb dL_speed_1 (by decide) ?_
  refine lv_iadd (pc := 3) hx hb dL_speed_3 ?_
  refine nm_i hf (fun x1 hf => ?_)
  refine lv_istore_n (pc := 4) (lv' := [(2, .int x1), (0, .ref v0), (1, .int v1)]) hx hb dL_speed_4 rfl hl (by decide) rfl (fun ls hl => ?_)
  refine lv_ldc (pc := 5) hx hb hown (hts _ m_542) dL_speed_5 ?_
  refine lv_iload_n (pc := 7) hx hb dL_speed_7 rfl (lv_at hl 0 rfl) ?_
  obtain ⟨hz, hf⟩ := gd_e hf
  refine lv_idiv (pc := 8) hx hb dL_speed_8 hz ?_
  refine lv_bipush (pc := 9) (v := (100 : Int32)) hx hb dL_speed_9 (by decide) ?_
  refine lv_aload_n (pc := 11) hx hb dL_speed_11 rfl (lv_at hl 1 rfl) ?_
  refine lv_bipush (pc := 12) (v := (6 : Int32)) hx hb dL_speed_12 (by decide) ?_
  refine rg_iald (pc := 14) hx hb hK hR dL_speed_14 hf (fun hf => ?_)
  refine lv_imul (pc := 15) hx hb dL_speed_15 ?_
  refine lv_iload_n (pc := 16) hx hb dL_speed_16 rfl (lv_at hl 0 rfl) ?_
  refine lv_iload_n (pc := 17) hx hb dL_speed_17 rfl (lv_at hl 0 rfl) ?_
  refine lv_imul (pc := 18) hx hb dL_speed_18 ?_
  obtain ⟨hz, hf⟩ := gd_e hf
  refine lv_idiv (pc := 19) hx hb dL_speed_19 hz ?_
  refine lv_iadd (pc := 20) hx hb dL_speed_20 ?_
  exact rg_iret (pc := 21) hx hb hlocks hr hf hR dL_speed_21
-- L_apart
def f_L_apart_b31  (s0 : Int32) (M : Mem) : Option (Mem × Int32) := some (M, s0)
def f_L_apart_b14  (s0 : Int32) (M : Mem) : Option (Mem × Int32) := if ((36000 : Int32) - s0) ≤ s0 then (f_L_apart_b31 ((36000 : Int32) - s0) M) else (f_L_apart_b31 s0 M)
def f_L_apart (v0 : Int32) (v1 : Int32) (M : Mem) : Option (Mem × Int32) := if v1 ≤ v0 then (f_L_apart_b14 (v0 - v1) M) else (f_L_apart_b14 (v1 - v0) M)
abbrev rm_L_apart : Room := { frames := 0, cells := 0, slots := 0, locals := 0 }
theorem hd_L_apart : yL_apart.cls ≠ "java/lang/invoke/MethodHandle" ∧ yL_apart.cls ≠ "java/lang/invoke/VarHandle" ∧ (parseMethodDescriptor yL_apart.desc).map (fun d => d.parameters.length) = some 2 := by decide +kernel
set_option maxHeartbeats 8000000 in
set_option maxRecDepth 100000 in
theorem c_L_apart {l : Launch} {D : va_G} {ca : Nat → ClassId} {b : Nat} {nx : Bool} {v0 : Int32} {v1 : Int32} {M : Mem} {r : Mem × Int32} (hf : f_L_apart v0 v1 M = some r) : CtI l yL_apart cL_apart 3 (some .int) rm_L_apart D ca b nx [.int v0, .int v1] M r := by
  intro sz
  refine body_start (Qc := fun A => cvI D ca nx A r) (by decide +kernel) (Nat.le_of_ble_eq_true rfl) ?_
  intro p e s m args below meth c A hC hr hR ls hl
  obtain ⟨hx, hb, hml, hts, hown, hlocks, hXe, hA, hAb, hnm⟩ := id hC
  have hK := hXe.1
  have hl : lv_has ls 3 [(0, .int v0), (1, .int v1)] := hl
  have hB31 : ∀  (s0 : Int32) (M : Mem) (H : Heap) (locs : List Loc) (ls : Array Slot), f_L_apart_b31  s0 M = some r → Hp D ca nx A s M H locs → lv_has ls 3 [] → W p l e rm_L_apart s m args below meth c H locs 0 0 (MQ below (cvI D ca nx A r) args s 0 0 A) (F0 m 31 ls [.int s0]) := by
    intro  s0 M H locs ls hf hR hl
    unfold f_L_apart_b31 at hf
    exact rg_iret (pc := 31) hx hb hlocks hr hf hR dL_apart_31
  have hB14 : ∀  (s0 : Int32) (M : Mem) (H : Heap) (locs : List Loc) (ls : Array Slot), f_L_apart_b14  s0 M = some r → Hp D ca nx A s M H locs → lv_has ls 3 [] → W p l e rm_L_apart s m args below meth c H locs 0 0 (MQ below (cvI D ca nx A r) args s 0 0 A) (F0 m 14 ls [.int s0]) := by
    intro  s0 M H locs ls hf hR hl
    unfold f_L_apart_b14 at hf
    refine lv_istore_n (pc := 14) (lv' := [(2, .int s0)]) hx hb dL_apart_14 rfl hl (by decide) rfl (fun ls hl => ?_)
    refine lv_iload_n (pc := 15) hx hb dL_apart_15 rfl (lv_at hl 0 rfl) ?_
    refine lv_ldc (pc := 16) hx hb hown (hts _ m_542) dL_apart_16 ?_
    refine lv_iload_n (pc := 18) hx hb dL_apart_18 rfl (lv_at hl 0 rfl) ?_
    refine lv_isub (pc := 19) hx hb dL_apart_19 ?_
    refine lv_icmp_ge (pc := 20) (tgt := 27) hx hb dL_apart_20 (by decide) (fun hc => ?_) (fun hc => ?_)
    · replace hf := it_t hf hc
      refine lv_ldc (pc := 27) hx hb hown (hts _ m_542) dL_apart_27 ?_
      refine lv_iload_n (pc := 29) hx hb dL_apart_29 rfl (lv_at hl 0 rfl) ?_
      refine lv_isub (pc := 30) hx hb dL_apart_30 ?_
      exact hB31 ((36000 : Int32) - s0) M _ _ _ hf hR (lv_sub hl [] rfl)
    · replace hf := it_f hf hc
      refine lv_iload_n (pc := 23) hx hb dL_apart_23 rfl (lv_at hl 0 rfl) ?_
      refine lv_goto (pc := 24) (tgt := 31) hx hb dL_apart_24 (by decide) ?_
      exact hB31 s0 M _ _ _ hf hR (lv_sub hl [] rfl)
  unfold f_L_apart at hf
  refine lv_iload_n (pc := 0) hx hb dL_apart_0 rfl (lv_at hl 0 rfl) ?_
  refine lv_iload_n (pc := 1) hx hb dL_apart_1 rfl (lv_at hl 1 rfl) ?_
  refine lv_icmp_ge (pc := 2) (tgt := 11) hx hb dL_apart_2 (by decide) (fun hc => ?_) (fun hc => ?_)
  · replace hf := it_t hf hc
    refine lv_iload_n (pc := 11) hx hb dL_apart_11 rfl (lv_at hl 0 rfl) ?_
    refine lv_iload_n (pc := 12) hx hb dL_apart_12 rfl (lv_at hl 1 rfl) ?_
    refine lv_isub (pc := 13) hx hb dL_apart_13 ?_
    exact hB14 (v0 - v1) M _ _ _ hf hR (lv_sub hl [] rfl)
  · replace hf := it_f hf hc
    refine lv_iload_n (pc := 5) hx hb dL_apart_5 rfl (lv_at hl 1 rfl) ?_
    refine lv_iload_n (pc := 6) hx hb dL_apart_6 rfl (lv_at hl 0 rfl) ?_
    refine lv_isub (pc := 7) hx hb dL_apart_7 ?_
    refine lv_goto (pc := 8) (tgt := 14) hx hb dL_apart_8 (by decide) ?_
    exact hB14 (v1 - v0) M _ _ _ hf hR (lv_sub hl [] rfl)
-- L_comes
def f_L_comes_b51  (v1 : Nat) (v4 : Int32) (v5 : Int32) (M : Mem) : Option (Mem × Int64) := gd (M.1 v1 = 9 ∧ vi_ v4 (mm_N M v1)) <| some (M, (((mm_i M v1 (v4).toNatClampNeg)).toInt64 * ((v5 + (20 : Int32))).toInt64))
def f_L_comes_b46  (v1 : Nat) (v2 : Nat) (v4 : Int32) (v5 : Int32) (M : Mem) : Option (Mem × Int64) := gd (M.1 v2 = 9 ∧ vi_ v4 (mm_N M v2)) <| lt_ (ms_i M v2 (v4).toNatClampNeg (0 : Int32)) fun M1 => f_L_comes_b51 v1 v4 v5 M1
def f_L_comes_b33  (v1 : Nat) (v2 : Nat) (v4 : Int32) (v5 : Int32) (M : Mem) : Option (Mem × Int64) := if v5 = (-1 : Int32) then (f_L_comes_b46 v1 v2 v4 v5 M) else (if v5 = (64 : Int32) then (f_L_comes_b46 v1 v2 v4 v5 M) else (f_L_comes_b51 v1 v4 v5 M))
def f_L_comes_b19  (v1 : Nat) (v2 : Nat) (v3 : Nat) (v4 : Int32) (v5 : Int32) (M : Mem) : Option (Mem × Int64) := if v5 = (64 : Int32) then (gd (M.1 v3 = 9 ∧ vi_ (5 : Int32) (mm_N M v3)) <| gd (M.1 v3 = 9 ∧ vi_ (5 : Int32) (mm_N M v3)) <| lt_ (ms_i M v3 ((5 : Int32)).toNatClampNeg ((mm_i M v3 ((5 : Int32)).toNatClampNeg) + (1 : Int32))) fun M2 => f_L_comes_b33 v1 v2 v4 v5 M2) else (f_L_comes_b33 v1 v2 v4 v5 M)
def f_L_comes (v0 : Nat) (v1 : Nat) (v2 : Nat) (v3 : Nat) (v4 : Int32) (v5 : Int32) (M : Mem) : Option (Mem × Int64) := gd (M.1 v0 = 9 ∧ vi_ v4 (mm_N M v0)) <| lt_ (ms_i M v0 (v4).toNatClampNeg v5) fun M3 => if v5 = (-1 : Int32) then (gd (M3.1 v3 = 9 ∧ vi_ (4 : Int32) (mm_N M3 v3)) <| gd (M3.1 v3 = 9 ∧ vi_ (4 : Int32) (mm_N M3 v3)) <| lt_ (ms_i M3 v3 ((4 : Int32)).toNatClampNeg ((mm_i M3 v3 ((4 : Int32)).toNatClampNeg) + (1 : Int32))) fun M4 => f_L_comes_b19 v1 v2 v3 v4 v5 M4) else (f_L_comes_b19 v1 v2 v3 v4 v5 M3)
abbrev rm_L_comes : Room := { frames := 0, cells := 0, slots := 0, locals := 0 }
theorem hd_L_comes : yL_comes.cls ≠ "java/lang/invoke/MethodHandle" ∧ yL_comes.cls ≠ "java/lang/invoke/VarHandle" ∧ (parseMethodDescriptor yL_comes.desc).map (fun d => d.parameters.length) = some 6 := by decide +kernel
set_option maxHeartbeats 8000000 in
set_option maxRecDepth 100000 in
theorem c_L_comes {l : Launch} {D : va_G} {ca : Nat → ClassId} {b : Nat} {nx : Bool} {v0 : Nat} {v1 : Nat} {v2 : Nat} {v3 : Nat} {v4 : Int32} {v5 : Int32} {M : Mem} {r : Mem × Int64} (hf : f_L_comes v0 v1 v2 v3 v4 v5 M = some r) : CtL l yL_comes cL_comes 6 (some .long) rm_L_comes D ca b nx [.ref v0, .ref v1, .ref v2, .ref v3, .int v4, .int v5] M r := by
  intro sz
  refine body_start (Qc := fun A => cvL D ca nx A r) (by decide +kernel) (Nat.le_of_ble_eq_true rfl) ?_
  intro p e s m args below meth c A hC hr hR ls hl
  obtain ⟨hx, hb, hml, hts, hown, hlocks, hXe, hA, hAb, hnm⟩ := id hC
  have hK := hXe.1
  have hl : lv_has ls 6 [(0, .ref v0), (1, .ref v1), (2, .ref v2), (3, .ref v3), (4, .int v4), (5, .int v5)] := hl
  have hB51 : ∀  (v1 : Nat) (v4 : Int32) (v5 : Int32) (M : Mem) (H : Heap) (locs : List Loc) (ls : Array Slot), f_L_comes_b51  v1 v4 v5 M = some r → Hp D ca nx A s M H locs → lv_has ls 6 [(1, .ref v1), (4, .int v4), (5, .int v5)] → W p l e rm_L_comes s m args below meth c H locs 0 0 (MQ below (cvL D ca nx A r) args s 0 0 A) (F0 m 51 ls []) := by
    intro  v1 v4 v5 M H locs ls hf hR hl
    unfold f_L_comes_b51 at hf
    refine lv_aload_n (pc := 51) hx hb dL_comes_51 rfl (lv_at hl 0 rfl) ?_
    refine lv_iload (pc := 52) hx hb dL_comes_52 (lv_at hl 1 rfl) ?_
    refine rg_iald (pc := 54) hx hb hK hR dL_comes_54 hf (fun hf => ?_)
    refine lv_i2l (pc := 55) hx hb dL_comes_55 rfl ?_
    refine lv_iload (pc := 56) hx hb dL_comes_56 (lv_at hl 2 rfl) ?_
    refine lv_bipush (pc := 58) (v := (20 : Int32)) hx hb dL_comes_58 (by decide) ?_
    refine lv_iadd (pc := 60) hx hb dL_comes_60 ?_
    refine lv_i2l (pc := 61) hx hb dL_comes_61 rfl ?_
    refine lv_lmul (pc := 62) hx hb dL_comes_62 ?_
    exact rg_lret (pc := 63) hx hb hlocks hr hf hR dL_comes_63
  have hB46 : ∀  (v1 : Nat) (v2 : Nat) (v4 : Int32) (v5 : Int32) (M : Mem) (H : Heap) (locs : List Loc) (ls : Array Slot), f_L_comes_b46  v1 v2 v4 v5 M = some r → Hp D ca nx A s M H locs → lv_has ls 6 [(1, .ref v1), (2, .ref v2), (4, .int v4), (5, .int v5)] → W p l e rm_L_comes s m args below meth c H locs 0 0 (MQ below (cvL D ca nx A r) args s 0 0 A) (F0 m 46 ls []) := by
    intro  v1 v2 v4 v5 M H locs ls hf hR hl
    unfold f_L_comes_b46 at hf
    refine lv_aload_n (pc := 46) hx hb dL_comes_46 rfl (lv_at hl 1 rfl) ?_
    refine lv_iload (pc := 47) hx hb dL_comes_47 (lv_at hl 2 rfl) ?_
    refine lv_iconst (pc := 49) (v := (0 : Int32)) hx hb dL_comes_49 (by decide) ?_
    refine rg_iast (pc := 50) hx hb hK hR dL_comes_50 hf (fun M1 H locs hf hR => ?_)
    exact hB51 v1 v4 v5 M1 _ _ _ hf hR (lv_sub hl [0, 2, 3] rfl)
  have hB33 : ∀  (v1 : Nat) (v2 : Nat) (v4 : Int32) (v5 : Int32) (M : Mem) (H : Heap) (locs : List Loc) (ls : Array Slot), f_L_comes_b33  v1 v2 v4 v5 M = some r → Hp D ca nx A s M H locs → lv_has ls 6 [(1, .ref v1), (2, .ref v2), (4, .int v4), (5, .int v5)] → W p l e rm_L_comes s m args below meth c H locs 0 0 (MQ below (cvL D ca nx A r) args s 0 0 A) (F0 m 33 ls []) := by
    intro  v1 v2 v4 v5 M H locs ls hf hR hl
    unfold f_L_comes_b33 at hf
    refine lv_iload (pc := 33) hx hb dL_comes_33 (lv_at hl 3 rfl) ?_
    refine lv_iconst (pc := 35) (v := (-1 : Int32)) hx hb dL_comes_35 (by decide) ?_
    refine lv_icmp_eq (pc := 36) (tgt := 46) hx hb dL_comes_36 (by decide) (fun hc => ?_) (fun hc => ?_)
    · replace hf := it_t hf hc
      exact hB46 v1 v2 v4 v5 M _ _ _ hf hR (lv_sub hl [0, 1, 2, 3] rfl)
    · replace hf := it_f hf hc
      refine lv_iload (pc := 39) hx hb dL_comes_39 (lv_at hl 3 rfl) ?_
      refine lv_bipush (pc := 41) (v := (64 : Int32)) hx hb dL_comes_41 (by decide) ?_
      refine lv_icmp_ne (pc := 43) (tgt := 51) hx hb dL_comes_43 (by decide) (fun hc => ?_) (fun hc => ?_)
      · replace hf := it_f hf hc
        exact hB51 v1 v4 v5 M _ _ _ hf hR (lv_sub hl [0, 2, 3] rfl)
      · replace hf := it_t hf hc
        exact hB46 v1 v2 v4 v5 M _ _ _ hf hR (lv_sub hl [0, 1, 2, 3] rfl)
  have hB19 : ∀  (v1 : Nat) (v2 : Nat) (v3 : Nat) (v4 : Int32) (v5 : Int32) (M : Mem) (H : Heap) (locs : List Loc) (ls : Array Slot), f_L_comes_b19  v1 v2 v3 v4 v5 M = some r → Hp D ca nx A s M H locs → lv_has ls 6 [(1, .ref v1), (2, .ref v2), (3, .ref v3), (4, .int v4), (5, .int v5)] → W p l e rm_L_comes s m args below meth c H locs 0 0 (MQ below (cvL D ca nx A r) args s 0 0 A) (F0 m 19 ls []) := by
    intro  v1 v2 v3 v4 v5 M H locs ls hf hR hl
    unfold f_L_comes_b19 at hf
    refine lv_iload (pc := 19) hx hb dL_comes_19 (lv_at hl 4 rfl) ?_
    refine lv_bipush (pc := 21) (v := (64 : Int32)) hx hb dL_comes_21 (by decide) ?_
    refine lv_icmp_ne (pc := 23) (tgt := 33) hx hb dL_comes_23 (by decide) (fun hc => ?_) (fun hc => ?_)
    · replace hf := it_f hf hc
      exact hB33 v1 v2 v4 v5 M _ _ _ hf hR (lv_sub hl [0, 1, 3, 4] rfl)
    · replace hf := it_t hf hc
      refine lv_aload_n (pc := 26) hx hb dL_comes_26 rfl (lv_at hl 2 rfl) ?_
      refine lv_iconst (pc := 27) (v := (5 : Int32)) hx hb dL_comes_27 (by decide) ?_
      refine lv_dup2_11 (pc := 28) hx hb dL_comes_28 rfl rfl ?_
      refine rg_iald (pc := 29) hx hb hK hR dL_comes_29 hf (fun hf => ?_)
      refine lv_iconst (pc := 30) (v := (1 : Int32)) hx hb dL_comes_30 (by decide) ?_
      refine lv_iadd (pc := 31) hx hb dL_comes_31 ?_
      refine rg_iast (pc := 32) hx hb hK hR dL_comes_32 hf (fun M2 H locs hf hR => ?_)
      exact hB33 v1 v2 v4 v5 M2 _ _ _ hf hR (lv_sub hl [0, 1, 3, 4] rfl)
  unfold f_L_comes at hf
  refine lv_aload_n (pc := 0) hx hb dL_comes_0 rfl (lv_at hl 0 rfl) ?_
  refine lv_iload (pc := 1) hx hb dL_comes_1 (lv_at hl 4 rfl) ?_
  refine lv_iload (pc := 3) hx hb dL_comes_3 (lv_at hl 5 rfl) ?_
  refine rg_iast (pc := 5) hx hb hK hR dL_comes_5 hf (fun M3 H locs hf hR => ?_)
  refine lv_iload (pc := 6) hx hb dL_comes_6 (lv_at hl 5 rfl) ?_
  refine lv_iconst (pc := 8) (v := (-1 : Int32)) hx hb dL_comes_8 (by decide) ?_
  refine lv_icmp_ne (pc := 9) (tgt := 19) hx hb dL_comes_9 (by decide) (fun hc => ?_) (fun hc => ?_)
  · replace hf := it_f hf hc
    exact hB19 v1 v2 v3 v4 v5 M3 _ _ _ hf hR (lv_sub hl [1, 2, 3, 4, 5] rfl)
  · replace hf := it_t hf hc
    refine lv_aload_n (pc := 12) hx hb dL_comes_12 rfl (lv_at hl 3 rfl) ?_
    refine lv_iconst (pc := 13) (v := (4 : Int32)) hx hb dL_comes_13 (by decide) ?_
    refine lv_dup2_11 (pc := 14) hx hb dL_comes_14 rfl rfl ?_
    refine rg_iald (pc := 15) hx hb hK hR dL_comes_15 hf (fun hf => ?_)
    refine lv_iconst (pc := 16) (v := (1 : Int32)) hx hb dL_comes_16 (by decide) ?_
    refine lv_iadd (pc := 17) hx hb dL_comes_17 ?_
    refine rg_iast (pc := 18) hx hb hK hR dL_comes_18 hf (fun M4 H locs hf hR => ?_)
    exact hB19 v1 v2 v3 v4 v5 M4 _ _ _ hf hR (lv_sub hl [1, 2, 3, 4, 5] rfl)
-- L_moment
def f_L_moment (v0 : Nat) (v1 : Nat) (v2 : Int32) (M : Mem) : Option (Mem × Int64) := gd (M.1 v1 = 9 ∧ vi_ v2 (mm_N M v1)) <| gd (M.1 v0 = 9 ∧ vi_ v2 (mm_N M v0)) <| some (M, (((mm_i M v1 (v2).toNatClampNeg)).toInt64 * (((mm_i M v0 (v2).toNatClampNeg) + (20 : Int32))).toInt64))
abbrev rm_L_moment : Room := { frames := 0, cells := 0, slots := 0, locals := 0 }
theorem hd_L_moment : yL_moment.cls ≠ "java/lang/invoke/MethodHandle" ∧ yL_moment.cls ≠ "java/lang/invoke/VarHandle" ∧ (parseMethodDescriptor yL_moment.desc).map (fun d => d.parameters.length) = some 3 := by decide +kernel
set_option maxHeartbeats 8000000 in
set_option maxRecDepth 100000 in
theorem c_L_moment {l : Launch} {D : va_G} {ca : Nat → ClassId} {b : Nat} {nx : Bool} {v0 : Nat} {v1 : Nat} {v2 : Int32} {M : Mem} {r : Mem × Int64} (hf : f_L_moment v0 v1 v2 M = some r) : CtL l yL_moment cL_moment 3 (some .long) rm_L_moment D ca b nx [.ref v0, .ref v1, .int v2] M r := by
  intro sz
  refine body_start (Qc := fun A => cvL D ca nx A r) (by decide +kernel) (Nat.le_of_ble_eq_true rfl) ?_
  intro p e s m args below meth c A hC hr hR ls hl
  obtain ⟨hx, hb, hml, hts, hown, hlocks, hXe, hA, hAb, hnm⟩ := id hC
  have hK := hXe.1
  have hl : lv_has ls 3 [(0, .ref v0), (1, .ref v1), (2, .int v2)] := hl
  unfold f_L_moment at hf
  refine lv_aload_n (pc := 0) hx hb dL_moment_0 rfl (lv_at hl 1 rfl) ?_
  refine lv_iload_n (pc := 1) hx hb dL_moment_1 rfl (lv_at hl 2 rfl) ?_
  refine rg_iald (pc := 2) hx hb hK hR dL_moment_2 hf (fun hf => ?_)
  refine lv_i2l (pc := 3) hx hb dL_moment_3 rfl ?_
  refine lv_aload_n (pc := 4) hx hb dL_moment_4 rfl (lv_at hl 0 rfl) ?_
  refine lv_iload_n (pc := 5) hx hb dL_moment_5 rfl (lv_at hl 2 rfl) ?_
  refine rg_iald (pc := 6) hx hb hK hR dL_moment_6 hf (fun hf => ?_)
  refine lv_bipush (pc := 7) (v := (20 : Int32)) hx hb dL_moment_7 (by decide) ?_
  refine lv_iadd (pc := 9) hx hb dL_moment_9 ?_
  refine lv_i2l (pc := 10) hx hb dL_moment_10 rfl ?_
  refine lv_lmul (pc := 11) hx hb dL_moment_11 ?_
  exact rg_lret (pc := 12) hx hb hlocks hr hf hR dL_moment_12
end
section
/-! THE CLAIM OUT OF ONE WALK OF THE LAW'S BODY. Your part is whole_start (and what it stands on); all else here is the same for every law, but numbers. -/
def R_law : String := "RingHerdLaw"
def lw_P (b : Addr) (xs : List Int32) (args : Array Value) (s : State) : Prop := args = #[.ref b] ∧ s.IntsAt b xs ∧ xs.length ≤ 260 ∧ (Jvm.Cond.and given_1 narrow_1).before args s = true
def lw_Q (_ : Array Value) (s : State) (o : Outcome) (t : State) : Prop := o = .returned (some (.int 1)) ∧ Framed s o t [] 600104 7301314
def lw_Z (below : List Frame) (a : Array Value) (s : State) : State → Prop := fun t => ∃ o, t.status = .running ∧ Ended t below o ∧ lw_Q a s o t
/-- the law's own end, with 1 on the stack, nothing written that was there before, its room as the claim has it -/
theorem lw_ret {p : Program} {l : Launch} {e : Env} {s : State} {m : MethodId} {below : List Frame} {meth : Method} {c : Code} {b : Nat} (hx : p.tables.exec = Jvm.exec) (hb : c.code = code) (hr : meth.sig.returnType = ret) (hlocks : meth.locks = false) {pc : Nat} {H : Heap} {ls : Array Slot} (hdg : decode code pc = .ok (.ireturn, 1)) : W p l e room_1 s m #[Value.ref b] below meth c H [] 600104 7301314 (lw_Z below #[Value.ref b] s) (F0 m pc ls [.int 1]) := by
  intro T hT X
  obtain ⟨fs, hret, hrun, hended, hW, hframe⟩ := X.leave (v := some (.int 1)) (hlocks := hlocks) (fun h => by rw [hr] at h; cases h)
  have hmeth' : T.vm.method? m = some meth := X.method'
  refine ⟨T.setFrames fs, ?_, .returned (some (.int 1)), hrun, hended, rfl, ⟨_, rfl⟩, hW, hframe⟩
  jvm_step X.here [X.here.top, hx, hb, hdg, hmeth', hr, ret, narrow_b1]
  (try refine ⟨rfl, ?_⟩); (try refine ⟨rfl, ?_⟩)
  first | (intro acts; rw [hret _ acts rfl rfl rfl]) | rw [hret _ _ rfl rfl rfl]
  exact Steps.refl _
/-- what holds at the law's entry: the machine, the code, the tables' words (any of lw_tbl by 'hts w (by decide +kernel)'), the script of L ints xs at the cell b, what the Statement gives of the start (any of its parts by flat_of_before) -/
def lw_At (p : Program) (s : State) (m : MethodId) (meth : Method) (c : Code) (b L : Nat) (xs : Nat → Int32) : Prop :=
  p.tables.exec = Jvm.exec ∧ c.code = code ∧ meth.sig.returnType = ret ∧ c.maxLocals = 34 ∧ s.vm.findClass R_law = some m.cls ∧ (∀ w ∈ lw_tbl, w.before #[Value.ref b] s = true) ∧ va_X b L xs s s.heap ∧ b < s.heap.size ∧ meth.locks = false ∧ (Jvm.Cond.and given_1 narrow_1).before #[Value.ref b] s = true

/-! ===== TWO MEMORIES in one heap: the class's (M) and the law's arrays (N); the script beside them ===== -/
def bn {α β : Type} (o : Option (Mem × (β ⊕ Nat))) (F : Mem → β → Option α) : Option α := match o with
  | some (M, .inl v) => F M v
  | _ => none
noncomputable def gk {α : Type} (c : Prop) (g : Option α) : Option α := @ite (Option α) c (Classical.propDecidable c) g none
theorem gk_t {α : Type} {c : Prop} {g : Option α} (h : c) : gk c g = g := if_pos h
theorem gk_e {α : Type} {c : Prop} {g : Option α} {r : α} (h : gk c g = some r) : c ∧ g = some r := by
  unfold gk at h
  by_cases hc : c
  · rw [if_pos hc] at h; exact ⟨hc, h⟩
  · rw [if_neg hc] at h; cases h
def H2 (D : va_G) (ca : Nat → ClassId) (s : State) (M N : Mem) (H : Heap) (locs : List Loc) : Prop :=
  Wr D ca false (fun q => s.heap.size ≤ q) M H ∧ Wr D ca false (fun q => s.heap.size ≤ q) N H ∧ (∀ q, N.1 q < 16 → ¬ M.1 q < 16) ∧ va_S (fun q => s.heap.size ≤ q) s.heap H locs
/-- what holds all along the law's body -/
def LX (p : Program) (l : Launch) (s : State) (m : MethodId) (meth : Method) (c : Code) (D : va_G) (ca : Nat → ClassId) (b L : Nat) (xs : Nat → Int32) : Prop :=
  p.tables.exec = Jvm.exec ∧ c.code = cL_law ∧ Cx cL_law 34 yL_law D ca s.heap.size (fun q => s.heap.size ≤ q) p s m #[Value.ref b] meth c ∧ l.stackTraces = false ∧ va_X b L xs s s.heap ∧ b < s.heap.size ∧ meth.sig.returnType = ret ∧ L ≤ 260
def cellv (L : Nat) (xs : Nat → Int32) (k : Int32) : Int32 := if nI L ≤ k then ((1000308323 : Int32) * (k + 1)) + (751363497 : Int32) else xs k.toNatClampNeg
section TW
variable {p : Program} {l : Launch} {e : Env} {R : Room} {s : State} {m : MethodId} {args : Array Value} {below : List Frame} {meth : Method} {c : Code} {H : Heap} {locs : List Loc} {cells slots : Nat} {Q : State → Prop}
variable {cc : ByteArray} {pc maxL : Nat} {ls : Array Slot} {rest st0 : List Value} {D : va_G} {ca : Nat → ClassId} {M N : Mem} {b L : Nat} {xs : Nat → Int32} {yo : MethodName} {mc ms : Nat} {a : Array Value} {α : Type} {r : α}
theorem rg_two {A : Nat → Prop} {H1 : Heap} (hW2 : Wr D ca false A N H) (hdis : ∀ q, N.1 q < 16 → ¬ M.1 q < 16) (hk : ∀ q : Nat, q < H.size → ¬ fA M H.size q → H1[q]? = H[q]?) : Wr D ca false A N H1 :=
  ⟨hW2.1.kept (fun q hq => hk q (hW2.1.lt hq) (fun h => h.elim (hdis q hq) (fun h2 => absurd (hW2.1.lt hq) (Nat.not_lt.mpr h2)))), fun h => (by cases h), hW2.2.2⟩
theorem dis_sym (h : ∀ q, N.1 q < 16 → ¬ M.1 q < 16) : ∀ q, M.1 q < 16 → ¬ N.1 q < 16 := fun q h1 h2 => h q h2 h1
theorem rq_iast (hx : p.tables.exec = Jvm.exec) (hb : c.code = cc) (hK : va_K D vwCl (tysL ca) s) (hR : H2 D ca s M N H locs) {q : Nat} {i x : Int32} (hdg : decode cc pc = .ok (.iastore, 1)) {F : Mem → Option α} (hf : gd (N.1 q = 9 ∧ vi_ i (mm_N N q)) (lt_ (ms_i N q i.toNatClampNeg x) F) = some r)
    (kk : ∀ (N1 : Mem) (H1 : Heap) (locs1 : List Loc), F N1 = some r → H2 D ca s M N1 H1 locs1 → W p l e R s m args below meth c H1 locs1 cells slots Q (F0 m (pc + 1) ls rest)) : W p l e R s m args below meth c H locs cells slots Q (F0 m pc ls (.int x :: .int i :: .ref q :: rest)) := by
  obtain ⟨h1, h2, h3, h4⟩ := hR
  obtain ⟨⟨hq, hin⟩, hf⟩ := gd_e hf
  refine W.iast hx hb (h2.1.arr hq (by decide) (by decide)) ((hK.2 0 _ rfl).1 _ _) (fun z => by cases z) (by rw [arrV_size]; exact hin) rfl rfl hdg fun H1 e1 e2 e3 => ?_
  have hN := rg_ast (M1 := ms_i N q i.toNatClampNeg x) (k := i.toNatClampNeg) (v := .int x) ⟨h2, h4⟩ hq (by decide) (by decide) rfl rfl rfl ms_i_off (fun _ _ _ => rfl) (fun _ _ _ => rfl) (av_i (by decide)) e1 e2 e3
  exact kk _ H1 _ hf ⟨⟨h1.1.kept (fun z hz => e3 z (fun hzq => h3 z (by rw [hzq, hq]; decide) hz)), fun h => (by cases h), h1.2.2⟩, hN.1, h3, hN.2⟩
/-- a helper of the law on its arrays: int -/
theorem rq_I {fy : Option (Mem × Int32)} {F : Mem × Int32 → Option α} (hf : bd fy (fun z => gk (z.1.1 = N.1) (F z)) = some r) (hR : H2 D ca s M N H locs) (hA : ∀ q, s.heap.size ≤ q → (fun q => s.heap.size ≤ q) q) (hr : ∀ z, fy = some z → va_Run p l e R s m args below meth c H locs cells slots 0 0 (F0 m pc ls st0) rest (cvI D ca false (fA N H.size) z a) (fA N H.size))
    (kk : ∀ (z : Mem × Int32) (H1 : Heap) (locs1 : List Loc), F z = some r → H2 D ca s M z.1 H1 locs1 → W p l e R s m args below meth c H1 locs1 cells slots Q (F0 m (pc + 3) ls (.int z.2 :: rest))) : W p l e R s m args below meth c H locs cells slots Q (F0 m pc ls st0) := by
  obtain ⟨z, hz, hf⟩ := bd_e hf
  obtain ⟨hk9, hf⟩ := gk_e hf
  obtain ⟨h1, h2, h3, h4⟩ := hR
  have hAA := fA_A (M := N) ⟨h2, h4⟩ hA
  refine va_calli (hr z hz) h4 (fun q _ h => hAA q h) hAA (fun v u t H1 locs1 ht hvm hw hB hz1 hk1 hS => ?_)
  rw [ht] at hB
  rw [hw]
  exact kk z H1 locs1 hf ⟨rg_two (M := N) h1 (dis_sym h3) hk1, hB.up hAA, fun q hq => h3 q (by rw [← hk9]; exact hq), hS⟩
theorem rq_L {fy : Option (Mem × Int64)} {F : Mem × Int64 → Option α} (hf : bd fy (fun z => gk (z.1.1 = N.1) (F z)) = some r) (hR : H2 D ca s M N H locs) (hA : ∀ q, s.heap.size ≤ q → (fun q => s.heap.size ≤ q) q) (hr : ∀ z, fy = some z → va_Run p l e R s m args below meth c H locs cells slots 0 0 (F0 m pc ls st0) rest (cvL D ca false (fA N H.size) z a) (fA N H.size))
    (kk : ∀ (z : Mem × Int64) (H1 : Heap) (locs1 : List Loc), F z = some r → H2 D ca s M z.1 H1 locs1 → W p l e R s m args below meth c H1 locs1 cells slots Q (F0 m (pc + 3) ls (.long z.2 :: rest))) : W p l e R s m args below meth c H locs cells slots Q (F0 m pc ls st0) := by
  obtain ⟨z, hz, hf⟩ := bd_e hf
  obtain ⟨hk9, hf⟩ := gk_e hf
  obtain ⟨h1, h2, h3, h4⟩ := hR
  have hAA := fA_A (M := N) ⟨h2, h4⟩ hA
  refine va_calll (hr z hz) h4 (fun q _ h => hAA q h) hAA (fun v u t H1 locs1 ht hvm hw hB hz1 hk1 hS => ?_)
  rw [ht] at hB
  rw [hw]
  exact kk z H1 locs1 hf ⟨rg_two (M := N) h1 (dis_sym h3) hk1, hB.up hAA, fun q hq => h3 q (by rw [← hk9]; exact hq), hS⟩
/-- a question of the class that never throws: long -/
theorem rq_L1 {fy : Option (Mem × Int64)} {F : Mem × Int64 → Option α} (hf : bd fy (fun z => gk (z.1.1 = M.1) (F z)) = some r) (hR : H2 D ca s M N H locs) (hA : ∀ q, s.heap.size ≤ q → (fun q => s.heap.size ≤ q) q) (hr : ∀ z, fy = some z → va_Run p l e R s m args below meth c H locs cells slots 0 0 (F0 m pc ls st0) rest (cvL D ca false (fA M H.size) z a) (fA M H.size))
    (kk : ∀ (z : Mem × Int64) (H1 : Heap) (locs1 : List Loc), F z = some r → H2 D ca s z.1 N H1 locs1 → W p l e R s m args below meth c H1 locs1 cells slots Q (F0 m (pc + 3) ls (.long z.2 :: rest))) : W p l e R s m args below meth c H locs cells slots Q (F0 m pc ls st0) := by
  obtain ⟨z, hz, hf⟩ := bd_e hf
  obtain ⟨hk9, hf⟩ := gk_e hf
  obtain ⟨h1, h2, h3, h4⟩ := hR
  have hAA := fA_A (M := M) ⟨h1, h4⟩ hA
  refine va_calll (hr z hz) h4 (fun q _ h => hAA q h) hAA (fun v u t H1 locs1 ht hvm hw hB hz1 hk1 hS => ?_)
  rw [ht] at hB
  rw [hw]
  exact kk z H1 locs1 hf ⟨hB.up hAA, rg_two (M := M) h2 h3 hk1, fun q hq => by rw [hk9]; exact h3 q hq, hS⟩
/-- a call of the class that may throw, and does not -/
theorem rq_xI {fy : Option (Mem × (Int32 ⊕ Nat))} {F : Mem → Int32 → Option α} (hf : bn fy (fun M1 v => gk (M1.1 = M.1) (F M1 v)) = some r) (hR : H2 D ca s M N H locs) (hA : ∀ q, s.heap.size ≤ q → (fun q => s.heap.size ≤ q) q) (hr : ∀ z, fy = some z → vx_Run p l e R s m args below meth c H locs cells slots mc ms (F0 m pc ls st0) rest (cxI D ca (fA M H.size) z a) (cxX D ca (fA M H.size) z) (fA M H.size))
    (kk : ∀ (M1 : Mem) (v : Int32) (H1 : Heap) (locs1 : List Loc), F M1 v = some r → H2 D ca s M1 N H1 locs1 → W p l e R s m args below meth c H1 locs1 (cells + mc) (slots + ms) Q (F0 m (pc + 3) ls (.int v :: rest))) : W p l e R s m args below meth c H locs cells slots Q (F0 m pc ls st0) := by
  obtain ⟨h1, h2, h3, h4⟩ := hR
  match fy, hf, hr with
  | none, hf, _ => cases hf
  | some (M1, .inr k), hf, _ => cases hf
  | some (M1, .inl v0), hf, hr =>
    have hf : gk (M1.1 = M.1) (F M1 v0) = some r := hf
    obtain ⟨hk9, hf⟩ := gk_e hf
    have hAA := fA_A (M := M) ⟨h1, h4⟩ hA
    refine vx_calli (hr _ rfl) h4 (fun q _ h => hAA q h) hAA (fun q _ h => hAA q h) (fun E ce q9 u t H1 locs1 ht hvm hp hB hz hk hS hce hcv hcl => ?_) (fun v u t H1 locs1 ht hvm hw hB hz1 hk1 hS => ?_)
    · obtain ⟨⟨k, hk2, he⟩, hB⟩ := hB
      cases hk2
    · rw [ht] at hB
      cases hw
      exact kk M1 v0 H1 locs1 hf ⟨hB.up hAA, rg_two (M := M) h2 h3 hk1, fun q hq => by rw [hk9]; exact h3 q hq, hS⟩
theorem rq_xL {fy : Option (Mem × (Int64 ⊕ Nat))} {F : Mem → Int64 → Option α} (hf : bn fy (fun M1 v => gk (M1.1 = M.1) (F M1 v)) = some r) (hR : H2 D ca s M N H locs) (hA : ∀ q, s.heap.size ≤ q → (fun q => s.heap.size ≤ q) q) (hr : ∀ z, fy = some z → vx_Run p l e R s m args below meth c H locs cells slots mc ms (F0 m pc ls st0) rest (cxL D ca (fA M H.size) z a) (cxX D ca (fA M H.size) z) (fA M H.size))
    (kk : ∀ (M1 : Mem) (v : Int64) (H1 : Heap) (locs1 : List Loc), F M1 v = some r → H2 D ca s M1 N H1 locs1 → W p l e R s m args below meth c H1 locs1 (cells + mc) (slots + ms) Q (F0 m (pc + 3) ls (.long v :: rest))) : W p l e R s m args below meth c H locs cells slots Q (F0 m pc ls st0) := by
  obtain ⟨h1, h2, h3, h4⟩ := hR
  match fy, hf, hr with
  | none, hf, _ => cases hf
  | some (M1, .inr k), hf, _ => cases hf
  | some (M1, .inl v0), hf, hr =>
    have hf : gk (M1.1 = M.1) (F M1 v0) = some r := hf
    obtain ⟨hk9, hf⟩ := gk_e hf
    have hAA := fA_A (M := M) ⟨h1, h4⟩ hA
    refine vx_calll (hr _ rfl) h4 (fun q _ h => hAA q h) hAA (fun q _ h => hAA q h) (fun E ce q9 u t H1 locs1 ht hvm hp hB hz hk hS hce hcv hcl => ?_) (fun v u t H1 locs1 ht hvm hw hB hz1 hk1 hS => ?_)
    · obtain ⟨⟨k, hk2, he⟩, hB⟩ := hB
      cases hk2
    · rw [ht] at hB
      cases hw
      exact kk M1 v0 H1 locs1 hf ⟨hB.up hAA, rg_two (M := M) h2 h3 hk1, fun q hq => by rw [hk9]; exact h3 q hq, hS⟩
theorem rq_xV {fy : Option (Mem × (Unit ⊕ Nat))} {F : Mem → Option α} (hf : bn fy (fun M1 _ => gk (M1.1 = M.1) (F M1)) = some r) (hR : H2 D ca s M N H locs) (hA : ∀ q, s.heap.size ≤ q → (fun q => s.heap.size ≤ q) q) (hr : ∀ z, fy = some z → vx_Run p l e R s m args below meth c H locs cells slots mc ms (F0 m pc ls st0) rest (cxV D ca (fA M H.size) z a) (cxX D ca (fA M H.size) z) (fA M H.size))
    (kk : ∀ (M1 : Mem) (H1 : Heap) (locs1 : List Loc), F M1 = some r → H2 D ca s M1 N H1 locs1 → W p l e R s m args below meth c H1 locs1 (cells + mc) (slots + ms) Q (F0 m (pc + 3) ls rest)) : W p l e R s m args below meth c H locs cells slots Q (F0 m pc ls st0) := by
  obtain ⟨h1, h2, h3, h4⟩ := hR
  match fy, hf, hr with
  | none, hf, _ => cases hf
  | some (M1, .inr k), hf, _ => cases hf
  | some (M1, .inl v0), hf, hr =>
    have hf : gk (M1.1 = M.1) (F M1) = some r := hf
    obtain ⟨hk9, hf⟩ := gk_e hf
    have hAA := fA_A (M := M) ⟨h1, h4⟩ hA
    refine vx_callv (hr _ rfl) h4 (fun q _ h => hAA q h) hAA (fun q _ h => hAA q h) (fun E ce q9 u t H1 locs1 ht hvm hp hB hz hk hS hce hcv hcl => ?_) (fun u t H1 locs1 ht hvm hw hB hz1 hk1 hS => ?_)
    · obtain ⟨⟨k, hk2, he⟩, hB⟩ := hB
      cases hk2
    · rw [ht] at hB
      exact kk M1 H1 locs1 hf ⟨hB.up hAA, rg_two (M := M) h2 h3 hk1, fun q hq => by rw [hk9]; exact h3 q hq, hS⟩
end TW
/-! the script's reader -/
def Px (b L : Nat) (xs : Nat → Int32) (U : State) : Prop := b < U.heap.size ∧ va_X b L xs U U.heap
theorem Px_blind {b L : Nat} {xs : Nat → Int32} {As : List Value} : FrameBlind (va_Pc As (Px b L xs)) := by
  intro a U g mk h
  obtain ⟨h0, h1, h2⟩ := h
  have hW : U.WarmedH (U.calling g mk a).vm := State.WarmedH.refl U
  exact ⟨h0, h1, h2.moved hW.alike⟩
abbrev rm_L_cell : Room := { frames := 0, cells := 0, slots := 0, locals := 0 }
theorem hd_L_cell : yL_cell.cls ≠ "java/lang/invoke/MethodHandle" ∧ yL_cell.cls ≠ "java/lang/invoke/VarHandle" ∧ (parseMethodDescriptor yL_cell.desc).map (fun d => d.parameters.length) = some 2 := by decide +kernel
theorem c_L_cell {l : Launch} {b L : Nat} {xs : Nat → Int32} {k : Int32} (hk : 0 ≤ k) (hL : L ≤ 260) : Met l yL_cell (Cond.code yL_cell cL_cell 2 (some .int) :: aw) rm_L_cell (va_Pc [.ref b, .int k] (Px b L xs)) (va_Qi (S := Unit) (fun v _ => v = cellv L xs k) (fun _ _ => True) (fun _ => False)) 0 0 (fun _ => False) := by
  refine Met.ofW (cc := cL_cell) (maxL := 2) (ret := some .int) (by decide +kernel) rfl ?_
  intro p e s m args below meth c s₁ B hml hv
  obtain ⟨rfl, hbl, hX⟩ := hv
  have hts := atoms_spec (ws := Cond.code yL_cell cL_cell 2 (some .int) :: aw) B.pre
  have hown : s.vm.findClass yL_cell.cls = some m.cls := findClass_of_methodNamed B.named
  have hl := lv_entry [Value.ref b, Value.int k] (n := 2) (Nat.le_of_ble_eq_true rfl)
  rw [lg_entry_eq]
  generalize ((lg_sl [Value.ref b, Value.int k] ++ List.replicate (2 - (lg_sl [Value.ref b, Value.int k]).length) Slot.unset).toArray) = ls at hl ⊢
  have hl : lv_has ls 2 [(0, .ref b), (1, .int k)] := hl
  have hx := B.exec
  have hb := B.bytes
  have hS : va_S (fun _ => False) s.heap s.heap [] := va_S.rf
  have fin : ∀ (v : Int32), v = cellv L xs k → W p l e rm_L_cell s m #[Value.ref b, Value.int k] below meth c s.heap [] 0 0 (MQ below (va_Qi (S := Unit) (fun v _ => v = cellv L xs k) (fun _ _ => True) (fun _ => False)) #[Value.ref b, Value.int k] s 0 0 (fun _ => False)) (F0 m 21 ls [.int v]) := fun v hv =>
    W.iret (v := v) hx hb B.returns (fun t ht hW => ⟨⟨v, (), rfl, hv, trivial⟩, hS.F ht⟩) hS.2.2 dL_cell_21 B.notSynchronized
  refine lv_iload_n (pc := 0) hx hb dL_cell_0 rfl (lv_at hl 1 rfl) ?_
  refine lv_aload_n (pc := 1) hx hb dL_cell_1 rfl (lv_at hl 0 rfl) ?_
  refine va_slen (pc := 2) hx hb hX hbl (fun h => h) hS dL_cell_2 ?_
  refine lv_icmp_ge (pc := 3) (tgt := 12) hx hb dL_cell_3 (by decide) (fun hc => ?_) (fun hc => ?_)
  · refine lv_ldc (pc := 12) hx hb hown (hts _ (List.mem_cons_of_mem _ m_533)) dL_cell_12 ?_
    refine lv_iload_n (pc := 14) hx hb dL_cell_14 rfl (lv_at hl 1 rfl) ?_
    refine lv_iconst (pc := 15) (v := (1 : Int32)) hx hb dL_cell_15 (by decide) ?_
    refine lv_iadd (pc := 16) hx hb dL_cell_16 ?_
    refine lv_imul (pc := 17) hx hb dL_cell_17 ?_
    refine lv_ldc (pc := 18) hx hb hown (hts _ (List.mem_cons_of_mem _ m_534)) dL_cell_18 ?_
    refine lv_iadd (pc := 20) hx hb dL_cell_20 ?_
    exact fin _ (by unfold cellv; rw [if_pos (show nI L ≤ k from hc)])
  · have hc' : ¬ nI L ≤ k := hc
    have hin : vp_in k L := by
      rw [Int32.le_iff_toInt_le, nI_toInt (by omega)] at hc'
      have h0 : (0 : Int) ≤ k.toInt := by rw [Int32.le_iff_toInt_le] at hk; exact hk
      rintro (h | h)
      · rw [Int32.lt_iff_toInt_lt] at h
        have : (0 : Int32).toInt = 0 := rfl
        omega
      · have : (k.toNatClampNeg : Int) = k.toInt := by
          show ((k.toInt.toNat : Nat) : Int) = k.toInt
          omega
        omega
    refine lv_aload_n (pc := 6) hx hb dL_cell_6 rfl (lv_at hl 0 rfl) ?_
    refine lv_iload_n (pc := 7) hx hb dL_cell_7 rfl (lv_at hl 1 rfl) ?_
    refine va_sld (pc := 8) hx hb hX hbl (fun h => h) hS hin dL_cell_8 ?_
    refine lv_goto (pc := 9) (tgt := 21) hx hb dL_cell_9 (by decide) ?_
    exact fin _ (by unfold cellv; rw [if_neg hc'])
section TC
variable {p : Program} {l : Launch} {e : Env} {R : Room} {s : State} {m : MethodId} {below : List Frame} {meth : Method} {c : Code} {H : Heap} {locs : List Loc} {cells slots : Nat} {Q : State → Prop}
variable {pc : Nat} {ls : Array Slot} {rest st0 : List Value} {D : va_G} {ca : Nat → ClassId} {M N : Mem} {b L : Nat} {xs : Nat → Int32} {α : Type} {r : α}
theorem rq_cell (X : LX p l s m meth c D ca b L xs) (hR : H2 D ca s M N H locs) {k : Int32} {index : Nat} (hRm : 0 + 1 ≤ room_1.frames ∧ 8 + (2 + 11) + 0 ≤ room_1.locals) (h1 : Cond.methodLink yL_law.cls index yL_cell ∈ aw) (h2 : Cond.static yL_cell ∈ aw) (h3 : Cond.initialized yL_cell.cls ∈ aw) (h4 : Cond.code yL_cell cL_cell 2 (some .int) ∈ aw)
    (hst : st0 = [.int k, .ref b] ++ rest) (hl : ls.size = 34) (hq0 : (0 : Nat) = 0) (hW : (rest.map fun v => v.category).sum ≤ 8) (hdg : decode cL_law pc = .ok (.invokestatic index, 3)) {F : Int32 → Option α} (hf : gd (cells ≤ 600104 ∧ slots ≤ 7301314) (gd (0 ≤ k) (lt_ (cellv L xs k) F)) = some r)
    (kk : ∀ (v : Int32) (H1 : Heap) (locs1 : List Loc), F v = some r → H2 D ca s M N H1 locs1 → W p l e room_1 s m #[Value.ref b] below meth c H1 locs1 cells slots Q (F0 m (pc + 3) ls (.int v :: rest))) : W p l e room_1 s m #[Value.ref b] below meth c H locs cells slots Q (F0 m pc ls st0) := by
  obtain ⟨hx, hb, hC, hlt, hXs, hbl, hret, hL⟩ := X
  obtain ⟨g1, g2, g3, g4⟩ := hR
  obtain ⟨hrm, hf⟩ := gd_e hf
  obtain ⟨hk, hf⟩ := gd_e hf
  have hbA : ¬ s.heap.size ≤ b := Nat.not_le.mpr hbl
  have hXH : va_X b L xs s H := hXs.kept (g4.2.1 b hbl hbA)
  have hbH : b < H.size := Nat.lt_of_lt_of_le hbl g4.1
  have C0 := hC
  obtain ⟨-, -, hml, hts, hown, -⟩ := hC
  have hrun := va_runS (mc := 0) (ms := 0) (cells := cells) (slots := slots) (locs := locs) (H := H) (e := e) (R := room_1) (below := below) (meth := meth) ⟨hx, hb, hml, hown, hts⟩ (c_L_cell (l := l) (b := b) (L := L) (xs := xs) hk hL) ⟨rn_cb C0 h1 h3 h4 hd_L_cell ⟨rfl, rfl, hRm⟩, hts _ h2⟩ ⟨Px_blind, fun U hU hW9 => ⟨rfl, by rw [hU]; exact hbH, by rw [hU]; exact hXH.moved hW9.alike⟩⟩ rfl rfl hl hst (lv_room hW) hdg ⟨hrm.1, hrm.2⟩
  refine va_calli hrun g4 (fun q _ h => h.elim) (fun q h => h.elim) (fun v u t H1 locs1 ht hvm hw hB hz1 hk1 hS => ?_)
  rw [hw]
  have hk2 : ∀ q, q < H.size → H1[q]? = H[q]? := fun q h => hk1 q h (fun z => z)
  exact kk _ H1 locs1 hf ⟨⟨g1.1.kept (fun q hq => hk2 q (g1.1.lt hq)), fun h => (by cases h), g1.2.2⟩, ⟨g2.1.kept (fun q hq => hk2 q (g2.1.lt hq)), fun h => (by cases h), g2.2.2⟩, g3, hS⟩
theorem rq_ret (X : LX p l s m meth c D ca b L xs) {nc ns : Nat} {v : Int32} (hf : gd (nc ≤ 600104 ∧ ns ≤ 7301314) (some (1 : Int32)) = some v) (hR : H2 D ca s M N H locs) (hdg : decode cL_law pc = .ok (.ireturn, 1)) : W p l e room_1 s m #[Value.ref b] below meth c H locs nc ns (lw_Z below #[Value.ref b] s) (F0 m pc ls [.int (1 : Int32)]) := by
  obtain ⟨⟨h1, h2⟩, -⟩ := gd_e hf
  obtain ⟨hx, hb, hC, hlt, hXs, hbl, hret, hL⟩ := X
  refine va_forget (fun q hq => hR.2.2.2.2.2 q hq) ?_
  refine W.widen (k := 600104) (n := 7301314) h1 h2 ?_
  exact lw_ret hx hb hret hC.2.2.2.2.2.1 hdg
end TC
end
