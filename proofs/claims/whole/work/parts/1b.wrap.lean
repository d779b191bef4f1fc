/-! ===== METHODS WITH A TABLE that catch: the law's own ones round the class's calls ===== -/
def bc {α β : Type} (o : Option (Mem × (β ⊕ Nat))) (F : Mem → β → Option α) (G : Mem → Nat → Option α) : Option α := match o with
  | none => none
  | some (M, .inl v) => F M v
  | some (M, .inr e) => G M e
def CtW (l : Launch) (y : MethodName) (cc : ByteArray) (maxL : Nat) (hh : List (Nat × Nat × Nat × Nat)) (rm : Room) (D : va_G) (ca : Nat → ClassId) (b : Nat) (As : List Value) (M : Mem) (r : Mem × Int32) (mc ms : Nat) : Prop := ∀ sz, Met l y (Cond.codeWith y cc maxL (some .int) hh :: aw) rm (va_Pc As (Pw D ca false b sz M)) (cvI D ca false (fA M sz) r) mc ms (fA M sz)
theorem bodyh_start {l : Launch} {y : MethodName} {cc : ByteArray} {maxL : Nat} {ret : Option FieldType} {rm : Room} {D : va_G} {ca : Nat → ClassId} {b : Nat} {nx : Bool} {As : List Value} {M : Mem} {sz mc ms : Nat} {hh : List (Nat × Nat × Nat × Nat)} {Qc : (Nat → Prop) → Array Value → State → Outcome → State → Prop} (hy : plainName y.cls = true) (hn : (lg_sl As).length ≤ maxL)
    (body : ∀ (p : Program) (e : Env) (s : State) (m : MethodId) (args : Array Value) (below : List Frame) (meth : Method) (c : Code) (A : Nat → Prop), Cx cc maxL y D ca b A p s m args meth c → c.exceptionTable.toList = tableOf hh → meth.sig.returnType = ret → Hp D ca nx A s M s.heap [] → ∀ ls : Array Slot, lv_has ls maxL (lv_args 0 As) →
      W p l e rm s m args below meth c s.heap [] 0 0 (MQ below (Qc A) args s mc ms A) (F0 m 0 ls [])) : Met l y (Cond.codeWith y cc maxL ret hh :: aw) rm (va_Pc As (Pw D ca nx b sz M)) (Qc (fA M sz)) mc ms (fA M sz) := by
  refine MetFree.of_bodyS (code := cc) (maxLocals := maxL) (ret := ret) hy ?_ ?_
  · intro args s m h hnm
    obtain ⟨m9, meth, c, hn9, h1, h2, h3, h4, -, h5, h6, -⟩ := Cond.codeWith_spec (atoms_spec (ws := Cond.codeWith y cc maxL ret hh :: aw) h _ List.mem_cons_self)
    cases hnm.symm.trans hn9
    exact ⟨meth, c, h1, h2, h3, h4, h5, h6⟩
  · intro p e s m args below meth c s₁ B hml hP _
    obtain ⟨rfl, hsz, hbs, hkb, hR, hX, hXe⟩ := hP
    subst hsz
    have hh0 : s₁.heap = s.heap := by rw [B.state]; rfl
    have hts := atoms_spec (ws := Cond.codeWith y cc maxL ret hh :: aw) B.pre
    have hown : s.vm.findClass y.cls = some m.cls := findClass_of_methodNamed B.named
    have hnm : meth.name = y.name := (name_of_methodNamed B.named B.method).1
    have htab : c.exceptionTable.toList = tableOf hh := vx_table (x := y) B (hts _ List.mem_cons_self)
    have hl := lv_entry As (n := maxL) hn
    have K := body p e s m As.toArray below meth c (fA M s.heap.size) ⟨B.exec, B.bytes, hml, fun w hw => hts w (List.mem_cons_of_mem _ hw), hown, B.notSynchronized, hXe, fun q hq => Or.inr hq, fun q hq => hq.elim (hkb q) (fun h => Nat.le_trans hbs h), fun h => hnm.trans h⟩ htab B.returns ⟨⟨hR, hX, fun q hq => Or.inl hq⟩, va_S.rf⟩ _ hl
    rw [← lg_entry_eq] at K
    obtain ⟨t, a1, o, b1, b2, b3⟩ := K s₁ hh0 (Stand.of_body B)
    exact ⟨t, o, a1, b1, b2, ⟨b3.1, b3.2⟩⟩
section WR
variable {p : Program} {l : Launch} {e : Env} {R : Room} {s : State} {m : MethodId} {args : Array Value} {below : List Frame} {meth : Method} {c : Code} {H : Heap} {locs : List Loc} {cells slots : Nat} {Q : State → Prop}
variable {cc : ByteArray} {pc maxL : Nat} {ls : Array Slot} {rest st0 : List Value} {D : va_G} {ca : Nat → ClassId} {A : Nat → Prop} {M : Mem} {b : Nat} {yo : MethodName}
variable {α : Type} {r : α} {mc ms : Nat} {a : Array Value}
theorem rg_wI {fy : Option (Mem × (Int32 ⊕ Nat))} {F : Mem → Int32 → Option α} {G : Mem → Nat → Option α} (hf : bc fy F G = some r) (hR : Hp D ca false A s M H locs) (hA : ∀ q, s.heap.size ≤ q → A q)
    (hr : ∀ z, fy = some z → vx_Run p l e R s m args below meth c H locs cells slots mc ms (F0 m pc ls st0) rest (cxI D ca (fA M H.size) z a) (cxX D ca (fA M H.size) z) (fA M H.size))
    (kx : ∀ (k : Nat) (M1 : Mem) (q9 : Addr) (ce : Cell) (H1 : Heap) (locs1 : List Loc), G M1 k = some r → Hp D ca false A s M1 H1 locs1 → H1[q9]? = some ce → ce.vm = .none → s.vm.findClass (exN k) = some ce.cls → vx_W p l e R s m args below meth c H1 locs1 (cells + mc) (slots + ms) Q (F0 m pc ls rest) q9)
    (kk : ∀ (v : Int32) (M1 : Mem) (H1 : Heap) (locs1 : List Loc), F M1 v = some r → Hp D ca false A s M1 H1 locs1 → W p l e R s m args below meth c H1 locs1 (cells + mc) (slots + ms) Q (F0 m (pc + 3) ls (.int v :: rest))) : W p l e R s m args below meth c H locs cells slots Q (F0 m pc ls st0) := by
  cases fy with
  | none => cases hf
  | some z =>
    have hAA := fA_A hR hA
    refine vx_calli (hr z rfl) hR.2 (fun q _ h => hAA q h) hAA (fun q _ h => hAA q h) (fun E ce q9 u t H1 locs1 ht hvm hp hB hz hk hS hce hcv hcl => ?_) (fun v u t H1 locs1 ht hvm hw hB hz1 hk1 hS => ?_)
    · obtain ⟨⟨k, hk2, he⟩, hB⟩ := hB
      rw [ht] at hB
      obtain ⟨z1, z2⟩ := z
      subst hk2
      subst he
      exact kx k z1 q9 ce H1 locs1 hf ⟨hB.up hAA, hS⟩ hce hcv hcl
    · rw [ht] at hB
      obtain ⟨z1, z2⟩ := z
      subst hw
      exact kk v z1 H1 locs1 hf ⟨hB.up hAA, hS⟩
theorem rg_wL {fy : Option (Mem × (Int64 ⊕ Nat))} {F : Mem → Int64 → Option α} {G : Mem → Nat → Option α} (hf : bc fy F G = some r) (hR : Hp D ca false A s M H locs) (hA : ∀ q, s.heap.size ≤ q → A q)
    (hr : ∀ z, fy = some z → vx_Run p l e R s m args below meth c H locs cells slots mc ms (F0 m pc ls st0) rest (cxL D ca (fA M H.size) z a) (cxX D ca (fA M H.size) z) (fA M H.size))
    (kx : ∀ (k : Nat) (M1 : Mem) (q9 : Addr) (ce : Cell) (H1 : Heap) (locs1 : List Loc), G M1 k = some r → Hp D ca false A s M1 H1 locs1 → H1[q9]? = some ce → ce.vm = .none → s.vm.findClass (exN k) = some ce.cls → vx_W p l e R s m args below meth c H1 locs1 (cells + mc) (slots + ms) Q (F0 m pc ls rest) q9)
    (kk : ∀ (v : Int64) (M1 : Mem) (H1 : Heap) (locs1 : List Loc), F M1 v = some r → Hp D ca false A s M1 H1 locs1 → W p l e R s m args below meth c H1 locs1 (cells + mc) (slots + ms) Q (F0 m (pc + 3) ls (.long v :: rest))) : W p l e R s m args below meth c H locs cells slots Q (F0 m pc ls st0) := by
  cases fy with
  | none => cases hf
  | some z =>
    have hAA := fA_A hR hA
    refine vx_calll (hr z rfl) hR.2 (fun q _ h => hAA q h) hAA (fun q _ h => hAA q h) (fun E ce q9 u t H1 locs1 ht hvm hp hB hz hk hS hce hcv hcl => ?_) (fun v u t H1 locs1 ht hvm hw hB hz1 hk1 hS => ?_)
    · obtain ⟨⟨k, hk2, he⟩, hB⟩ := hB
      rw [ht] at hB
      obtain ⟨z1, z2⟩ := z
      subst hk2
      subst he
      exact kx k z1 q9 ce H1 locs1 hf ⟨hB.up hAA, hS⟩ hce hcv hcl
    · rw [ht] at hB
      obtain ⟨z1, z2⟩ := z
      subst hw
      exact kk v z1 H1 locs1 hf ⟨hB.up hAA, hS⟩
theorem rg_wV {fy : Option (Mem × (Unit ⊕ Nat))} {F : Mem → Unit → Option α} {G : Mem → Nat → Option α} (hf : bc fy F G = some r) (hR : Hp D ca false A s M H locs) (hA : ∀ q, s.heap.size ≤ q → A q)
    (hr : ∀ z, fy = some z → vx_Run p l e R s m args below meth c H locs cells slots mc ms (F0 m pc ls st0) rest (cxV D ca (fA M H.size) z a) (cxX D ca (fA M H.size) z) (fA M H.size))
    (kx : ∀ (k : Nat) (M1 : Mem) (q9 : Addr) (ce : Cell) (H1 : Heap) (locs1 : List Loc), G M1 k = some r → Hp D ca false A s M1 H1 locs1 → H1[q9]? = some ce → ce.vm = .none → s.vm.findClass (exN k) = some ce.cls → vx_W p l e R s m args below meth c H1 locs1 (cells + mc) (slots + ms) Q (F0 m pc ls rest) q9)
    (kk : ∀ (M1 : Mem) (H1 : Heap) (locs1 : List Loc), F M1 () = some r → Hp D ca false A s M1 H1 locs1 → W p l e R s m args below meth c H1 locs1 (cells + mc) (slots + ms) Q (F0 m (pc + 3) ls rest)) : W p l e R s m args below meth c H locs cells slots Q (F0 m pc ls st0) := by
  cases fy with
  | none => cases hf
  | some z =>
    have hAA := fA_A hR hA
    refine vx_callv (hr z rfl) hR.2 (fun q _ h => hAA q h) hAA (fun q _ h => hAA q h) (fun E ce q9 u t H1 locs1 ht hvm hp hB hz hk hS hce hcv hcl => ?_) (fun u t H1 locs1 ht hvm hw hB hz1 hk1 hS => ?_)
    · obtain ⟨⟨k, hk2, he⟩, hB⟩ := hB
      rw [ht] at hB
      obtain ⟨z1, z2⟩ := z
      subst hk2
      subst he
      exact kx k z1 q9 ce H1 locs1 hf ⟨hB.up hAA, hS⟩ hce hcv hcl
    · rw [ht] at hB
      obtain ⟨z1, z2⟩ := z
      subst hw
      exact kk z1 H1 locs1 hf ⟨hB.up hAA, hS⟩
theorem rg_catch (k : Nat) {q9 : Addr} {ce : Cell} {hh : List (Nat × Nat × Nat × Nat)} (C : Cx cc maxL yo D ca b A p s m args meth c) (htab : c.exceptionTable.toList = tableOf hh) (pre : List ExceptionTableEntry) (x : ExceptionTableEntry) (suf : List ExceptionTableEntry) (hsplit : tableOf hh = pre ++ x :: suf)
    (hpass : ∀ z ∈ pre, covers z pc = false ∨ (z.catchType ≠ 0 ∧ ∃ nm : String, Cond.classLink yo.cls z.catchType nm ∈ aw ∧ (exN k, nm) ∈ ncL)) (hx : covers x pc = true) (h0 : x.catchType ≠ 0) (hlink : Cond.classLink yo.cls x.catchType (exN k) ∈ aw) (hcast : Cond.castable (exN k) (exN k) ∈ nwL)
    (hce : H[q9]? = some ce) (hcv : ce.vm = .none) (hcl : s.vm.findClass (exN k) = some ce.cls)
    (kk : W p l e R s m args below meth c H locs cells slots Q (F0 m x.handlerPc ls [.ref q9])) : vx_W p l e R s m args below meth c H locs cells slots Q (F0 m pc ls rest) q9 := by
  obtain ⟨hxx, hb, hml, hts, hown, hlocks, hXe, hA, hAb, -⟩ := C
  exact vx_catch (E := exN k) hown pre x suf (htab.trans hsplit) (fun z hz => (hpass z hz).imp id (fun h => ⟨h.1, h.2.elim fun nm h2 => ⟨nm, hts _ h2.1, hXe.2.2.1 _ h2.2⟩⟩)) hx h0 (hts _ hlink) (va_Nw.use rfl (hXe.2.1 _ hcast)) hce hcv hcl kk
end WR
