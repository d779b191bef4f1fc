/-! ===== CONTRACTS: what a state gives beside its region; calls, ends, throws ===== -/
def nwL : List Cond := [(Cond.methodLinkNest "RingHerd$Herd" (11 : Nat) ({ cls := "RingHerd$Planet", name := "<init>", desc := "()V" } : Jvm.MethodName) "RingHerd"), (Cond.methodLinkNest "RingHerd$Herd" (20 : Nat) ({ cls := "RingHerd$Ledger", name := "<init>", desc := "()V" } : Jvm.MethodName) "RingHerd"), (Cond.methodLinkNest "RingHerd$Herd" (31 : Nat) ({ cls := "RingHerd$Grain", name := "<init>", desc := "()V" } : Jvm.MethodName) "RingHerd"), (Cond.methodLinkNest "RingHerd" (22 : Nat) ({ cls := "RingHerd$Moon", name := "<init>", desc := "()V" } : Jvm.MethodName) "RingHerd"), (Cond.methodLinkNest "RingHerd" (29 : Nat) ({ cls := "RingHerd$Frame", name := "<init>", desc := "()V" } : Jvm.MethodName) "RingHerd"), (Cond.methodLinkNest "RingHerd" (36 : Nat) ({ cls := "RingHerd$Claim", name := "<init>", desc := "()V" } : Jvm.MethodName) "RingHerd"), (Cond.castable "java/lang/IllegalArgumentException" "java/lang/IllegalArgumentException"), (Cond.declares ({ cls := "java/lang/RuntimeException", name := "<init>", desc := "()V" } : Jvm.MethodName)), (Cond.declares ({ cls := "java/lang/RuntimeException", name := "<init>", desc := "(Ljava/lang/String;)V" } : Jvm.MethodName)), (Cond.declares ({ cls := "java/lang/Exception", name := "<init>", desc := "()V" } : Jvm.MethodName)), (Cond.declares ({ cls := "java/lang/Exception", name := "<init>", desc := "(Ljava/lang/String;)V" } : Jvm.MethodName)), (Cond.declares ({ cls := "java/lang/Throwable", name := "<init>", desc := "()V" } : Jvm.MethodName)), (Cond.declares ({ cls := "java/lang/Throwable", name := "<init>", desc := "(Ljava/lang/String;)V" } : Jvm.MethodName)), (Cond.castable "java/lang/IllegalStateException" "java/lang/IllegalStateException"), (Cond.methodLinkNest "RingHerd$Planet" (9 : Nat) ({ cls := "RingHerd", name := "radiusOf", desc := "(I)I" } : Jvm.MethodName) "RingHerd"), (Cond.methodLinkNest "RingHerd$Herd" (76 : Nat) ({ cls := "RingHerd", name := "turned", desc := "(II)I" } : Jvm.MethodName) "RingHerd"), (Cond.methodLinkNest "RingHerd$Grain" (27 : Nat) ({ cls := "RingHerd", name := "anglesApart", desc := "(II)I" } : Jvm.MethodName) "RingHerd"), (Cond.castable "java/lang/IndexOutOfBoundsException" "java/lang/IndexOutOfBoundsException")]
def ncL : List (String × String) := []
def stL : List (Nat × String) := [(264, "an argument is out of its range"), (60, "there were 80 grains"), (72, "there are 6 moons"), (108, "the tick would be above 2000"), (269, "there is none with this number"), (177, "what is 0 to 5"), (208, "what is 0 to 6"), (222, "what is 0 to 3")]
def aoL : List String := ["RingHerd$Grain", "RingHerd$Moon", "RingHerd$Frame", "RingHerd$Claim"]
def isNW : Cond → Bool := fun w => match w with
  | .methodLinkNest .. => true
  | .castable .. => true
  | .declares .. => true
  | _ => false
theorem nwL_ok : ∀ w ∈ nwL, isNW w = true := by decide +kernel
theorem nw_warm {w : Cond} (h : isNW w = true) {s U : State} (hW : s.WarmedH U.vm) (hZ : va_Nw w s) : va_Nw w U := by
  cases w <;> first | exact va_Nw.warmM hW hZ | exact va_Nw.warmC hW hZ | exact va_Nw.warmD hW hZ | (exact absurd h (by simp [isNW]))
def Xe (D : va_G) (ca : Nat → ClassId) (b : Nat) (U : State) (H : Heap) : Prop :=
  va_K D vwCl (tysL ca) U ∧ (∀ w ∈ nwL, va_Nw w U) ∧ (∀ q ∈ ncL, va_Nc q.1 q.2 U) ∧ (∀ q ∈ stL, ∃ sa, vk_R "RingHerd" q.1 q.2 sa U) ∧ (∀ C ∈ aoL, va_AO C U) ∧
  vx_Zq Bundle.tN "UNASSIGNED_STACK" Bundle.steD (fun q => b ≤ q) U H ∧ vx_Zq Bundle.tN "SUPPRESSED_SENTINEL" Bundle.listD (fun q => b ≤ q) U H
theorem Xe.warm {D : va_G} {ca : Nat → ClassId} {b : Nat} {s U : State} {H H1 : Heap} (h : Xe D ca b s H) (hW : s.WarmedH U.vm) (hH : ∀ a : Nat, a < H.size → ¬ b ≤ a → H1[a]? = H[a]?) : Xe D ca b U H1 := by
  obtain ⟨h1, h2, h3, h4, h5, h6, h7⟩ := h
  exact ⟨va_K.moved hW.alike h1, fun w hw => nw_warm (nwL_ok w hw) hW (h2 w hw), fun q hq => (h3 q hq).moved hW.alike, fun q hq => by obtain ⟨sa, hs⟩ := h4 q hq; exact ⟨sa, vk_R.warm hW hs⟩, fun C hC => (h5 C hC).moved hW.alike, (h6.moved hW.alike).kept hH, (h7.moved hW.alike).kept hH⟩
def Pw (D : va_G) (ca : Nat → ClassId) (nx : Bool) (b sz : Nat) (M : Mem) (U : State) : Prop :=
  U.heap.size = sz ∧ b ≤ sz ∧ (∀ q, M.1 q < 16 → b ≤ q) ∧ Rg D ca M U.heap ∧ (nx = true → mm_x M = U.heap.size) ∧ Xe D ca b U U.heap
theorem Pw_blind {D : va_G} {ca : Nat → ClassId} {nx : Bool} {b sz : Nat} {M : Mem} {As : List Value} : FrameBlind (va_Pc As (Pw D ca nx b sz M)) := by
  intro a U g mk h
  obtain ⟨h0, h1, h2, h3, h4, h5, h6⟩ := h
  have hW : U.WarmedH (U.calling g mk a).vm := State.WarmedH.refl U
  exact ⟨h0, h1, h2, h3, h4, h5, h6.warm hW (fun _ _ _ => rfl)⟩
def fA (M : Mem) (sz : Nat) : Nat → Prop := fun q => M.1 q < 16 ∨ sz ≤ q
def cvI (D : va_G) (ca : Nat → ClassId) (nx : Bool) (A : Nat → Prop) (r : Mem × Int32) : Array Value → State → Outcome → State → Prop := va_Qi (S := Unit) (fun v _ => v = r.2) (fun _ t => Wr D ca nx A r.1 t.heap) A
def cvL (D : va_G) (ca : Nat → ClassId) (nx : Bool) (A : Nat → Prop) (r : Mem × Int64) : Array Value → State → Outcome → State → Prop := va_Ql (S := Unit) (fun v _ => v = r.2) (fun _ t => Wr D ca nx A r.1 t.heap) A
def cvV (D : va_G) (ca : Nat → ClassId) (nx : Bool) (A : Nat → Prop) (r : Mem) : Array Value → State → Outcome → State → Prop := va_Qv (S := Unit) (fun _ => True) (fun _ t => Wr D ca nx A r t.heap) A
def exN : Nat → String := fun k => match k with
  | 0 => "java/lang/IllegalArgumentException"
  | 1 => "java/lang/IllegalStateException"
  | _ => "java/lang/IndexOutOfBoundsException"
def cxI (D : va_G) (ca : Nat → ClassId) (A : Nat → Prop) (r : Mem × (Int32 ⊕ Nat)) : Array Value → State → Outcome → State → Prop := va_Qi (S := Unit) (fun v _ => r.2 = .inl v) (fun _ t => Wr D ca false A r.1 t.heap) A
def cxL (D : va_G) (ca : Nat → ClassId) (A : Nat → Prop) (r : Mem × (Int64 ⊕ Nat)) : Array Value → State → Outcome → State → Prop := va_Ql (S := Unit) (fun v _ => r.2 = .inl v) (fun _ t => Wr D ca false A r.1 t.heap) A
def cxV (D : va_G) (ca : Nat → ClassId) (A : Nat → Prop) (r : Mem × (Unit ⊕ Nat)) : Array Value → State → Outcome → State → Prop := va_Qv (S := Unit) (fun _ => r.2 = .inl ()) (fun _ t => Wr D ca false A r.1 t.heap) A
def cxX {γ : Type} (D : va_G) (ca : Nat → ClassId) (A : Nat → Prop) (r : Mem × (γ ⊕ Nat)) : String → State → State → Prop := vx_X (S := Unit) (fun _ => True) (fun E _ t => (∃ k, r.2 = .inr k ∧ E = exN k) ∧ Wr D ca false A r.1 t.heap) A
/-- a method's contract, by what it hands back: int (boolean), long, nothing; .. or throws -/
def CtI (l : Launch) (y : MethodName) (cc : ByteArray) (maxL : Nat) (ret : Option FieldType) (rm : Room) (D : va_G) (ca : Nat → ClassId) (b : Nat) (nx : Bool) (As : List Value) (M : Mem) (r : Mem × Int32) : Prop := ∀ sz, Met l y (Cond.code y cc maxL ret :: aw) rm (va_Pc As (Pw D ca nx b sz M)) (cvI D ca nx (fA M sz) r) 0 0 (fA M sz)
def CtL (l : Launch) (y : MethodName) (cc : ByteArray) (maxL : Nat) (ret : Option FieldType) (rm : Room) (D : va_G) (ca : Nat → ClassId) (b : Nat) (nx : Bool) (As : List Value) (M : Mem) (r : Mem × Int64) : Prop := ∀ sz, Met l y (Cond.code y cc maxL ret :: aw) rm (va_Pc As (Pw D ca nx b sz M)) (cvL D ca nx (fA M sz) r) 0 0 (fA M sz)
def CtV (l : Launch) (y : MethodName) (cc : ByteArray) (maxL : Nat) (ret : Option FieldType) (rm : Room) (D : va_G) (ca : Nat → ClassId) (b : Nat) (nx : Bool) (As : List Value) (M : Mem) (r : Mem) (mc ms : Nat) : Prop := ∀ sz, Met l y (Cond.code y cc maxL ret :: aw) rm (va_Pc As (Pw D ca nx b sz M)) (cvV D ca nx (fA M sz) r) mc ms (fA M sz)
def CxI (l : Launch) (y : MethodName) (cc : ByteArray) (maxL : Nat) (ret : Option FieldType) (rm : Room) (D : va_G) (ca : Nat → ClassId) (b : Nat) (As : List Value) (M : Mem) (r : Mem × (Int32 ⊕ Nat)) (mc ms : Nat) : Prop := ∀ sz, vx_Met l y (Cond.code y cc maxL ret :: aw) rm (va_Pc As (Pw D ca false b sz M)) (cxI D ca (fA M sz) r) (cxX D ca (fA M sz) r) mc ms (fA M sz)
def CxL (l : Launch) (y : MethodName) (cc : ByteArray) (maxL : Nat) (ret : Option FieldType) (rm : Room) (D : va_G) (ca : Nat → ClassId) (b : Nat) (As : List Value) (M : Mem) (r : Mem × (Int64 ⊕ Nat)) (mc ms : Nat) : Prop := ∀ sz, vx_Met l y (Cond.code y cc maxL ret :: aw) rm (va_Pc As (Pw D ca false b sz M)) (cxL D ca (fA M sz) r) (cxX D ca (fA M sz) r) mc ms (fA M sz)
def CxV (l : Launch) (y : MethodName) (cc : ByteArray) (maxL : Nat) (ret : Option FieldType) (rm : Room) (D : va_G) (ca : Nat → ClassId) (b : Nat) (As : List Value) (M : Mem) (r : Mem × (Unit ⊕ Nat)) (mc ms : Nat) : Prop := ∀ sz, vx_Met l y (Cond.code y cc maxL ret :: aw) rm (va_Pc As (Pw D ca false b sz M)) (cxV D ca (fA M sz) r) (cxX D ca (fA M sz) r) mc ms (fA M sz)
/-- what every body has from its start -/
def Cx (cc : ByteArray) (maxL : Nat) (y : MethodName) (D : va_G) (ca : Nat → ClassId) (b : Nat) (A : Nat → Prop) (p : Program) (s : State) (m : MethodId) (args : Array Value) (meth : Method) (c : Code) : Prop :=
  p.tables.exec = Jvm.exec ∧ c.code = cc ∧ c.maxLocals = maxL ∧ (∀ w ∈ aw, w.before args s = true) ∧ s.vm.findClass y.cls = some m.cls ∧ meth.locks = false ∧ Xe D ca b s s.heap ∧ (∀ q, s.heap.size ≤ q → A q) ∧ (∀ q, A q → b ≤ q) ∧ (y.name = "<init>" → meth.name = "<init>")
section BODY
variable {l : Launch} {y : MethodName} {cc : ByteArray} {maxL : Nat} {ret : Option FieldType} {rm : Room} {D : va_G} {ca : Nat → ClassId} {b : Nat} {nx : Bool} {As : List Value} {M : Mem}
theorem body_start {sz mc ms : Nat} {Qc : (Nat → Prop) → Array Value → State → Outcome → State → Prop} (hy : plainName y.cls = true) (hn : (lg_sl As).length ≤ maxL)
    (body : ∀ (p : Program) (e : Env) (s : State) (m : MethodId) (args : Array Value) (below : List Frame) (meth : Method) (c : Code) (A : Nat → Prop), Cx cc maxL y D ca b A p s m args meth c → meth.sig.returnType = ret → Hp D ca nx A s M s.heap [] → ∀ ls : Array Slot, lv_has ls maxL (lv_args 0 As) →
      W p l e rm s m args below meth c s.heap [] 0 0 (MQ below (Qc A) args s mc ms A) (F0 m 0 ls [])) : Met l y (Cond.code y cc maxL ret :: aw) rm (va_Pc As (Pw D ca nx b sz M)) (Qc (fA M sz)) mc ms (fA M sz) := by
  refine Met.ofW (cc := cc) (maxL := maxL) (ret := ret) hy rfl ?_
  intro p e s m args below meth c s₁ B hml hv
  obtain ⟨rfl, hsz, hbs, hkb, hR, hX, hXe⟩ := hv
  subst hsz
  have hts := atoms_spec (ws := Cond.code y cc maxL ret :: aw) B.pre
  have hown : s.vm.findClass y.cls = some m.cls := findClass_of_methodNamed B.named
  have hnm : meth.name = y.name := (name_of_methodNamed B.named B.method).1
  have hl := lv_entry As (n := maxL) hn
  rw [lg_entry_eq]
  exact body p e s m As.toArray below meth c (fA M s.heap.size) ⟨B.exec, B.bytes, hml, fun w hw => hts w (List.mem_cons_of_mem _ hw), hown, B.notSynchronized, hXe, fun q hq => Or.inr hq, fun q hq => hq.elim (hkb q) (fun h => Nat.le_trans hbs h), fun h => hnm.trans h⟩ B.returns ⟨⟨hR, hX, fun q hq => Or.inl hq⟩, va_S.rf⟩ _ hl
theorem bodyx_start {sz mc ms : Nat} {Qc : (Nat → Prop) → Array Value → State → Outcome → State → Prop} {XC : (Nat → Prop) → String → State → State → Prop} (hy : plainName y.cls = true) (hn : (lg_sl As).length ≤ maxL)
    (body : ∀ (p : Program) (e : Env) (s : State) (m : MethodId) (args : Array Value) (below : List Frame) (meth : Method) (c : Code) (A : Nat → Prop), Cx cc maxL y D ca b A p s m args meth c → (∀ x ∈ c.exceptionTable.toList, False) → meth.sig.returnType = ret → Hp D ca nx A s M s.heap [] → ∀ ls : Array Slot, lv_has ls maxL (lv_args 0 As) →
      W p l e rm s m args below meth c s.heap [] 0 0 (vx_MQ below (Qc A) (XC A) args s mc ms A) (F0 m 0 ls [])) : vx_Met l y (Cond.code y cc maxL ret :: aw) rm (va_Pc As (Pw D ca nx b sz M)) (Qc (fA M sz)) (XC (fA M sz)) mc ms (fA M sz) := by
  refine vx_ofW (cc := cc) (maxL := maxL) (ret := ret) hy rfl ?_
  intro p e s m args below meth c s₁ B hml htab hv
  obtain ⟨rfl, hsz, hbs, hkb, hR, hX, hXe⟩ := hv
  subst hsz
  have hts := atoms_spec (ws := Cond.code y cc maxL ret :: aw) B.pre
  have hown : s.vm.findClass y.cls = some m.cls := findClass_of_methodNamed B.named
  have hnm : meth.name = y.name := (name_of_methodNamed B.named B.method).1
  have hl := lv_entry As (n := maxL) hn
  rw [lg_entry_eq]
  exact body p e s m As.toArray below meth c (fA M s.heap.size) ⟨B.exec, B.bytes, hml, fun w hw => hts w (List.mem_cons_of_mem _ hw), hown, B.notSynchronized, hXe, fun q hq => Or.inr hq, fun q hq => hq.elim (hkb q) (fun h => Nat.le_trans hbs h), fun h => hnm.trans h⟩ htab B.returns ⟨⟨hR, hX, fun q hq => Or.inl hq⟩, va_S.rf⟩ _ hl
end BODY
theorem aw_good : ∀ w ∈ aw, (w.onTables && w.keeps) = true ∨ ∃ ty, w = .arrayClass ty := fun w hw => good_of_word (List.mem_filter.mp hw).2
theorem gi_aw {w : Cond} (h : w ∈ aw) : GoodIn aw (w :: aw) := fun v hv => by
  rcases List.mem_cons.mp hv with e | hv
  · subst e; exact ⟨h, aw_good _ h⟩
  · exact ⟨hv, aw_good _ hv⟩
section CALLS
variable {p : Program} {l : Launch} {e : Env} {R : Room} {s : State} {m : MethodId} {args : Array Value} {below : List Frame} {meth : Method} {c : Code} {H : Heap} {locs : List Loc} {cells slots : Nat} {Q : State → Prop}
variable {cc : ByteArray} {pc maxL : Nat} {ls : Array Slot} {rest st0 : List Value} {D : va_G} {ca : Nat → ClassId} {nx : Bool} {A : Nat → Prop} {M : Mem} {α : Type} {r : α} {b : Nat} {yo : MethodName}
theorem pw_call (C : Cx cc maxL yo D ca b A p s m args meth c) (hR : Hp D ca nx A s M H locs) : ∀ U : State, U.heap = H → s.WarmedH U.vm → Pw D ca nx b H.size M U := by
  obtain ⟨-, -, -, -, -, -, hXe, hA, hAb, -⟩ := C
  intro U hU hW
  refine ⟨by rw [hU], Nat.le_trans (hAb _ (hA _ (Nat.le_refl _))) hR.2.1, fun q hq => hAb q (hR.1.2.2 q hq), by rw [hU]; exact hR.1.1, by rw [hU]; exact hR.1.2.1, by rw [hU]; exact hXe.warm hW (fun a h1 h2 => hR.2.2.1 a h1 (fun h => h2 (hAb a h)))⟩
variable {y : MethodName} {bytes : ByteArray} {maxL' mc ms n index : Nat} {ret : Option FieldType} {rm : Room} {Qc : Array Value → State → Outcome → State → Prop} {XC : String → State → State → Prop} {free : Addr → Prop} {As : List Value} {o : Nat}
theorem rn_cb (C : Cx cc maxL yo D ca b A p s m args meth c) (h1 : Cond.methodLink yo.cls index y ∈ aw) (h3 : Cond.initialized y.cls ∈ aw) (h4 : Cond.code y bytes maxL' ret ∈ aw) (hd : y.cls ≠ "java/lang/invoke/MethodHandle" ∧ y.cls ≠ "java/lang/invoke/VarHandle" ∧ (parseMethodDescriptor y.desc).map (fun d => d.parameters.length) = some n) (hRm : rm.cells = mc ∧ rm.slots = ms ∧ rm.frames + 1 ≤ R.frames ∧ 8 + (maxL' + 11) + rm.locals ≤ R.locals) :
    CallB R s args yo.cls index y bytes maxL' ret (Cond.code y bytes maxL' ret :: aw) rm mc ms n := by
  obtain ⟨-, -, -, hts, -⟩ := C
  exact callB_of n hts (gi_aw h4) rfl hRm.1 hRm.2.1 (hts _ h3) (hts _ h1) hd hRm.2.2
/-- a static method of the same class -/
theorem rn_S (C : Cx cc maxL yo D ca b A p s m args meth c) (hR : Hp D ca nx A s M H locs) (hM : Met l y (Cond.code y bytes maxL' ret :: aw) rm (va_Pc As (Pw D ca nx b H.size M)) Qc mc ms free) (h1 : Cond.methodLink yo.cls index y ∈ aw) (h2 : Cond.static y ∈ aw) (h3 : Cond.initialized y.cls ∈ aw) (h4 : Cond.code y bytes maxL' ret ∈ aw)
    (hd : y.cls ≠ "java/lang/invoke/MethodHandle" ∧ y.cls ≠ "java/lang/invoke/VarHandle" ∧ (parseMethodDescriptor y.desc).map (fun d => d.parameters.length) = some n) (hRm : rm.cells = mc ∧ rm.slots = ms ∧ rm.frames + 1 ≤ R.frames ∧ 8 + (maxL' + 11) + rm.locals ≤ R.locals)
    (hn : As.length = n) (hl : ls.size = maxL) (hst : st0 = As.reverse ++ rest) (hW : (rest.map fun v => v.category).sum ≤ 8) (hdg : decode cc pc = .ok (.invokestatic index, 3)) (hf : cells + mc ≤ R.cells ∧ slots + ms ≤ R.slots) :
    va_Run p l e R s m args below meth c H locs cells slots mc ms (F0 m pc ls st0) rest (Qc As.toArray) free := by
  have C0 := C
  obtain ⟨hx, hb, hml, hts, hown, -⟩ := C
  exact va_runS ⟨hx, hb, hml, hown, hts⟩ hM ⟨rn_cb C0 h1 h3 h4 hd hRm, hts _ h2⟩ ⟨Pw_blind, fun U hU hW9 => ⟨rfl, pw_call C0 hR U hU hW9⟩⟩ rfl hn hl hst (lv_room hW) hdg hf
/-- a static method of a nest mate -/
theorem rn_SN {host : String} (C : Cx cc maxL yo D ca b A p s m args meth c) (hR : Hp D ca nx A s M H locs) (hM : Met l y (Cond.code y bytes maxL' ret :: aw) rm (va_Pc As (Pw D ca nx b H.size M)) Qc mc ms free) (h1 : Cond.methodLinkNest yo.cls index y host ∈ nwL) (h2 : Cond.static y ∈ aw) (h3 : Cond.initialized y.cls ∈ aw) (h4 : Cond.code y bytes maxL' ret ∈ aw)
    (hd : y.cls ≠ "java/lang/invoke/MethodHandle" ∧ y.cls ≠ "java/lang/invoke/VarHandle" ∧ (parseMethodDescriptor y.desc).map (fun d => d.parameters.length) = some n) (hRm : rm.cells = mc ∧ rm.slots = ms ∧ rm.frames + 1 ≤ R.frames ∧ 8 + (maxL' + 11) + rm.locals ≤ R.locals)
    (hn : As.length = n) (hl : ls.size = maxL) (hst : st0 = As.reverse ++ rest) (hW : (rest.map fun v => v.category).sum ≤ 8) (hdg : decode cc pc = .ok (.invokestatic index, 3)) (hf : cells + mc ≤ R.cells ∧ slots + ms ≤ R.slots) :
    va_Run p l e R s m args below meth c H locs cells slots mc ms (F0 m pc ls st0) rest (Qc As.toArray) free := by
  have C0 := C
  obtain ⟨hx, hb, hml, hts, hown, -, hXe, -⟩ := C
  exact va_runSN ⟨hx, hb, hml, hown, hts⟩ hM ⟨va_cnB n hts (gi_aw h4) rfl hRm.1 hRm.2.1 (hXe.2.1 _ h1) (hts _ h3) hd hRm.2.2, hts _ h2, trivial⟩ ⟨Pw_blind, fun U hU hW9 => ⟨rfl, pw_call C0 hR U hU hW9⟩⟩ rfl hn hl hst (lv_room hW) hdg hf
theorem rg_rec {C : String} {T : u_T} {N κ : Nat} (hK : va_K D vwCl (tysL ca) s) (hR : Hp D ca nx A s M H locs) (hc : vwCl[κ]? = some (C, T, N)) (h9 : κ < 9) (hq : M.1 o = κ) : ∃ cell : Cell, H[o]? = some cell ∧ cell.vm.isStatics = false ∧ s.vm.findClass C = some cell.cls := by
  obtain ⟨cell, q1, q2, q3, -⟩ := hR.1.1.obj hq hc h9
  exact ⟨cell, q1, by rw [q3]; rfl, by rw [q2]; exact (hK.1 κ _ hc).2.1⟩
/-- a method of an object -/
theorem rn_V {T : u_T} {N κ : Nat} (C : Cx cc maxL yo D ca b A p s m args meth c) (hR : Hp D ca nx A s M H locs) (hc : vwCl[κ]? = some (y.cls, T, N)) (h9 : κ < 9) (hq : M.1 o = κ) (hM : Met l y (Cond.code y bytes maxL' ret :: aw) rm (va_Pc (.ref o :: As) (Pw D ca nx b H.size M)) Qc mc ms free) (h1 : Cond.methodLink yo.cls index y ∈ aw) (h2 : Cond.instanceMethod y ∈ aw) (h5 : Cond.selects y.cls y y ∈ aw) (h3 : Cond.initialized y.cls ∈ aw) (h4 : Cond.code y bytes maxL' ret ∈ aw)
    (hd : y.cls ≠ "java/lang/invoke/MethodHandle" ∧ y.cls ≠ "java/lang/invoke/VarHandle" ∧ (parseMethodDescriptor y.desc).map (fun d => d.parameters.length) = some n) (hRm : rm.cells = mc ∧ rm.slots = ms ∧ rm.frames + 1 ≤ R.frames ∧ 8 + (maxL' + 11) + rm.locals ≤ R.locals)
    (hn : As.length = n) (hl : ls.size = maxL) (hst : st0 = As.reverse ++ .ref o :: rest) (hW : (rest.map fun v => v.category).sum ≤ 8) (hdg : decode cc pc = .ok (.invokevirtual index, 3)) (hf : cells + mc ≤ R.cells ∧ slots + ms ≤ R.slots) :
    va_Run p l e R s m args below meth c H locs cells slots mc ms (F0 m pc ls st0) rest (Qc (Value.ref o :: As).toArray) free := by
  have C0 := C
  obtain ⟨hx, hb, hml, hts, hown, -, hXe, -⟩ := C
  exact va_runV ⟨hx, hb, hml, hown, hts⟩ hM ⟨rn_cb C0 h1 h3 h4 hd hRm, hts _ h2, hts _ h5⟩ ⟨Pw_blind, rg_rec hXe.1 hR hc h9 hq, fun U hU hW9 => ⟨rfl, pw_call C0 hR U hU hW9⟩⟩ rfl hn hl hst (lv_room hW) hdg hf
/-- a nest mate's constructor -/
theorem rn_IN {host : String} (C : Cx cc maxL yo D ca b A p s m args meth c) (hR : Hp D ca nx A s M H locs) (hM : Met l y (Cond.code y bytes maxL' none :: aw) rm (va_Pc (.ref o :: As) (Pw D ca nx b H.size M)) Qc mc ms free) (h1 : Cond.methodLinkNest yo.cls index y host ∈ nwL) (h2 : Cond.instanceMethod y ∈ aw) (h3 : Cond.initialized y.cls ∈ aw) (h4 : Cond.code y bytes maxL' none ∈ aw) (hy1 : y.name = "<init>")
    (hd : y.cls ≠ "java/lang/invoke/MethodHandle" ∧ y.cls ≠ "java/lang/invoke/VarHandle" ∧ (parseMethodDescriptor y.desc).map (fun d => d.parameters.length) = some n) (hRm : rm.cells = mc ∧ rm.slots = ms ∧ rm.frames + 1 ≤ R.frames ∧ 8 + (maxL' + 11) + rm.locals ≤ R.locals)
    (hn : As.length = n) (hl : ls.size = maxL) (hst : st0 = As.reverse ++ .ref o :: rest) (hW : (rest.map fun v => v.category).sum ≤ 8) (hdg : decode cc pc = .ok (.invokespecial index, 3)) (hf : cells + mc ≤ R.cells ∧ slots + ms ≤ R.slots) :
    va_Run p l e R s m args below meth c H locs cells slots mc ms (F0 m pc ls st0) rest (Qc (Value.ref o :: As).toArray) free := by
  have C0 := C
  obtain ⟨hx, hb, hml, hts, hown, -, hXe, -⟩ := C
  exact va_runIN ⟨hx, hb, hml, hown, hts⟩ hM ⟨va_cnB n hts (gi_aw h4) rfl hRm.1 hRm.2.1 (hXe.2.1 _ h1) (hts _ h3) hd hRm.2.2, hy1, hts _ h2⟩ ⟨Pw_blind, fun U hU hW9 => ⟨rfl, pw_call C0 hR U hU hW9⟩⟩ rfl hn hl hst (lv_room hW) hdg hf
/-- a constructor of an open class -/
theorem rn_Ic (C : Cx cc maxL yo D ca b A p s m args meth c) (hR : Hp D ca nx A s M H locs) (hM : Met l y (Cond.code y bytes maxL' none :: aw) rm (va_Pc (.ref o :: As) (Pw D ca nx b H.size M)) Qc mc ms free) (h1 : Cond.methodLink yo.cls index y ∈ aw) (h2 : Cond.instanceMethod y ∈ aw) (h3 : Cond.initialized y.cls ∈ aw) (h4 : Cond.code y bytes maxL' none ∈ aw) (hy1 : y.name = "<init>")
    (hd : y.cls ≠ "java/lang/invoke/MethodHandle" ∧ y.cls ≠ "java/lang/invoke/VarHandle" ∧ (parseMethodDescriptor y.desc).map (fun d => d.parameters.length) = some n) (hRm : rm.cells = mc ∧ rm.slots = ms ∧ rm.frames + 1 ≤ R.frames ∧ 8 + (maxL' + 11) + rm.locals ≤ R.locals)
    (hn : As.length = n) (hl : ls.size = maxL) (hst : st0 = As.reverse ++ .ref o :: rest) (hW : (rest.map fun v => v.category).sum ≤ 8) (hdg : decode cc pc = .ok (.invokespecial index, 3)) (hf : cells + mc ≤ R.cells ∧ slots + ms ≤ R.slots) :
    va_Run p l e R s m args below meth c H locs cells slots mc ms (F0 m pc ls st0) rest (Qc (Value.ref o :: As).toArray) free := by
  have C0 := C
  obtain ⟨hx, hb, hml, hts, hown, -, hXe, -⟩ := C
  exact va_runI ⟨hx, hb, hml, hown, hts⟩ hM ⟨rn_cb C0 h1 h3 h4 hd hRm, hy1, hts _ h2⟩ ⟨Pw_blind, fun U hU hW9 => ⟨rfl, pw_call C0 hR U hU hW9⟩⟩ rfl hn hl hst (lv_room hW) hdg hf
theorem fA_A (hR : Hp D ca nx A s M H locs) (hA : ∀ q, s.heap.size ≤ q → A q) : ∀ q, fA M H.size q → A q := fun q h => h.elim (hR.1.2.2 q) (fun h => hA q (Nat.le_trans hR.2.1 h))
theorem Wr.up {A1 : Nat → Prop} {M1 : Mem} {H1 : Heap} (h : Wr D ca nx A1 M1 H1) (hA : ∀ q, A1 q → A q) : Wr D ca nx A M1 H1 := ⟨h.1, h.2.1, fun q hq => hA q (h.2.2 q hq)⟩
/-- a call goes on, by what comes back -/
theorem rg_I {a : Array Value} {fy : Option (Mem × Int32)} {F : Mem × Int32 → Option α} (hf : bd fy F = some r) (hR : Hp D ca nx A s M H locs) (hA : ∀ q, s.heap.size ≤ q → A q) (hr : ∀ z, fy = some z → va_Run p l e R s m args below meth c H locs cells slots mc ms (F0 m pc ls st0) rest (cvI D ca nx (fA M H.size) z a) (fA M H.size))
    (kk : ∀ (z : Mem × Int32) (H1 : Heap) (locs1 : List Loc), F z = some r → Hp D ca nx A s z.1 H1 locs1 → W p l e R s m args below meth c H1 locs1 (cells + mc) (slots + ms) Q (F0 m (pc + 3) ls (.int z.2 :: rest))) : W p l e R s m args below meth c H locs cells slots Q (F0 m pc ls st0) := by
  obtain ⟨z, hz, hf⟩ := bd_e hf
  have hAA := fA_A hR hA
  refine va_calli (hr z hz) hR.2 (fun q _ h => hAA q h) hAA (fun v u t H1 locs1 ht hvm hw hB hz1 hk1 hS => ?_)
  rw [ht] at hB
  rw [hw]
  exact kk z H1 locs1 hf ⟨hB.up hAA, hS⟩
theorem rg_L {a : Array Value} {fy : Option (Mem × Int64)} {F : Mem × Int64 → Option α} (hf : bd fy F = some r) (hR : Hp D ca nx A s M H locs) (hA : ∀ q, s.heap.size ≤ q → A q) (hr : ∀ z, fy = some z → va_Run p l e R s m args below meth c H locs cells slots mc ms (F0 m pc ls st0) rest (cvL D ca nx (fA M H.size) z a) (fA M H.size))
    (kk : ∀ (z : Mem × Int64) (H1 : Heap) (locs1 : List Loc), F z = some r → Hp D ca nx A s z.1 H1 locs1 → W p l e R s m args below meth c H1 locs1 (cells + mc) (slots + ms) Q (F0 m (pc + 3) ls (.long z.2 :: rest))) : W p l e R s m args below meth c H locs cells slots Q (F0 m pc ls st0) := by
  obtain ⟨z, hz, hf⟩ := bd_e hf
  have hAA := fA_A hR hA
  refine va_calll (hr z hz) hR.2 (fun q _ h => hAA q h) hAA (fun v u t H1 locs1 ht hvm hw hB hz1 hk1 hS => ?_)
  rw [ht] at hB
  rw [hw]
  exact kk z H1 locs1 hf ⟨hB.up hAA, hS⟩
theorem rg_V {a : Array Value} {fy : Option Mem} {F : Mem → Option α} (hf : bd fy F = some r) (hR : Hp D ca nx A s M H locs) (hA : ∀ q, s.heap.size ≤ q → A q) (hr : ∀ z, fy = some z → va_Run p l e R s m args below meth c H locs cells slots mc ms (F0 m pc ls st0) rest (cvV D ca nx (fA M H.size) z a) (fA M H.size))
    (kk : ∀ (z : Mem) (H1 : Heap) (locs1 : List Loc), F z = some r → Hp D ca nx A s z H1 locs1 → W p l e R s m args below meth c H1 locs1 (cells + mc) (slots + ms) Q (F0 m (pc + 3) ls rest)) : W p l e R s m args below meth c H locs cells slots Q (F0 m pc ls st0) := by
  obtain ⟨z, hz, hf⟩ := bd_e hf
  have hAA := fA_A hR hA
  refine va_callv (hr z hz) hR.2 (fun q _ h => hAA q h) hAA (fun u t H1 locs1 ht hvm hw hB hz1 hk1 hS => ?_)
  rw [ht] at hB
  exact kk z H1 locs1 hf ⟨hB.up hAA, hS⟩
/-- ends -/
theorem rg_iret (hx : p.tables.exec = Jvm.exec) (hb : c.code = cc) (hlocks : meth.locks = false) (hr : meth.sig.returnType = some .int) {v : Int32} {z : Mem × Int32} (hf : some (M, v) = some z) (hR : Hp D ca nx A s M H locs) (hdg : decode cc pc = .ok (.ireturn, 1)) :
    W p l e R s m args below meth c H locs cells slots (MQ below (cvI D ca nx A z) args s cells slots A) (F0 m pc ls [.int v]) := by
  cases hf
  exact W.iret (v := v) hx hb hr (fun t ht hW => ⟨⟨v, (), rfl, rfl, by show Wr _ _ _ _ _ t.heap; rw [ht]; exact hR.1⟩, hR.2.F ht⟩) hR.2.2.2 hdg
theorem rg_zret (hx : p.tables.exec = Jvm.exec) (hb : c.code = cc) (hlocks : meth.locks = false) (hr : meth.sig.returnType = some .boolean) {v : Int32} {z : Mem × Int32} (hf : gd (v = 0 ∨ v = 1) (some (M, v)) = some z) (hR : Hp D ca nx A s M H locs) (hdg : decode cc pc = .ok (.ireturn, 1)) :
    W p l e R s m args below meth c H locs cells slots (MQ below (cvI D ca nx A z) args s cells slots A) (F0 m pc ls [.int v]) := by
  obtain ⟨hv, hf⟩ := gd_e hf
  cases hf
  exact W.zret (v := v) hx hb hr (by rcases hv with rfl | rfl <;> rfl) (fun t ht hW => ⟨⟨v, (), rfl, rfl, by show Wr _ _ _ _ _ t.heap; rw [ht]; exact hR.1⟩, hR.2.F ht⟩) hR.2.2.2 hdg
theorem rg_lret (hx : p.tables.exec = Jvm.exec) (hb : c.code = cc) (hlocks : meth.locks = false) (hr : meth.sig.returnType = some .long) {v : Int64} {z : Mem × Int64} (hf : some (M, v) = some z) (hR : Hp D ca nx A s M H locs) (hdg : decode cc pc = .ok (.lreturn, 1)) :
    W p l e R s m args below meth c H locs cells slots (MQ below (cvL D ca nx A z) args s cells slots A) (F0 m pc ls [.long v]) := by
  cases hf
  exact W.lret (v := v) hx hb hr (fun t ht hW => ⟨⟨v, (), rfl, rfl, by show Wr _ _ _ _ _ t.heap; rw [ht]; exact hR.1⟩, hR.2.F ht⟩) hR.2.2.2 hdg
theorem rg_vret (hx : p.tables.exec = Jvm.exec) (hb : c.code = cc) (hlocks : meth.locks = false) (hr : meth.sig.returnType = none) {z : Mem} (hf : some M = some z) (hR : Hp D ca nx A s M H locs) (hdg : decode cc pc = .ok (.return_, 1)) :
    W p l e R s m args below meth c H locs cells slots (MQ below (cvV D ca nx A z) args s cells slots A) (F0 m pc ls []) := by
  cases hf
  exact W.vret hx hb hr (fun t ht hW => ⟨⟨(), rfl, trivial, by show Wr _ _ _ _ _ t.heap; rw [ht]; exact hR.1⟩, hR.2.F ht⟩) hR.2.2.2 hdg
end CALLS
