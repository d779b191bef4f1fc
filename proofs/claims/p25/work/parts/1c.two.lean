/-! THE CLAIM OUT OF ONE WALK OF THE LAW'S BODY. Your part is whole_start (and what it stands on); all else here is the same for every law, but numbers. -/
def R_law : String := "RingHerdLaw"
def lw_P (b : Addr) (xs : List Int32) (args : Array Value) (s : State) : Prop := args = #[.ref b] ∧ s.IntsAt b xs ∧ xs.length ≤ 260 ∧ (Jvm.Cond.and given_1 narrow_1).before args s = true
def lw_Q (_ : Array Value) (s : State) (o : Outcome) (t : State) : Prop := o = .returned (some (.int 1)) ∧ Framed s o t [] 600104 7301314
def lw_Z (below : List Frame) (a : Array Value) (s : State) : State → Prop := fun t => ∃ o, t.status = .running ∧ Ended t below o ∧ lw_Q a s o t
/-- the law's own end, with 1 on the stack, nothing written that was there before, its room as the claim has it -/
theorem lw_ret {p : Program} {l : Launch} {e : Env} {s : State} {m : MethodId} {below : List Frame} {meth : Method} {c : Code} {b : Nat} (hx : p.tables.exec = Jvm.exec) (hb : c.code = code) (hr : meth.sig.returnType = ret) (hlocks : meth.locks = false) {pc : Nat} {H : Heap} {ls : Array Slot} (hdg : decode code pc = .ok (.ireturn, 1)) : W p l e room_1 s m #[Value.ref b] below meth c H [] 600104 7301314 (lw_Z below #[Value.ref b] s) (F0 m pc ls [.int 1]) := by
  intro T hT X
  obtain ⟨fs, hret, hrun, hended, hW, hframe⟩ := X.leave (v := some (.int 1)) (hlocks := hlocks) (fun h => by rw [hr] at h; cases h)
  have hmeth' : T.vm.method? m = some meth := X.method'
  refine ⟨T.setFrames fs, ?_, .returned (some (.int 1)), hrun, hended, rfl, ⟨_, rfl⟩, hW, hframe⟩
  jvm_step X.here [X.here.top, hx, hb, hdg, hmeth', hr, ret, narrow_b1]
  (try refine ⟨rfl, ?_⟩); (try refine ⟨rfl, ?_⟩)
  first | (intro acts; rw [hret _ acts rfl rfl rfl]) | rw [hret _ _ rfl rfl rfl]
  exact Steps.refl _
/-- what holds at the law's entry: the machine, the code, the tables' words (any of lw_tbl by 'hts w (by decide +kernel)'), the script of L ints xs at the cell b, what the Statement gives of the start (any of its parts by flat_of_before) -/
def lw_At (p : Program) (s : State) (m : MethodId) (meth : Method) (c : Code) (b L : Nat) (xs : Nat → Int32) : Prop :=
  p.tables.exec = Jvm.exec ∧ c.code = code ∧ meth.sig.returnType = ret ∧ c.maxLocals = 34 ∧ s.vm.findClass R_law = some m.cls ∧ (∀ w ∈ lw_tbl, w.before #[Value.ref b] s = true) ∧ va_X b L xs s s.heap ∧ b < s.heap.size ∧ meth.locks = false ∧ (Jvm.Cond.and given_1 narrow_1).before #[Value.ref b] s = true

/-! ===== TWO MEMORIES in one heap: the class's (M) and the law's arrays (N); the script beside them ===== -/
def bn {α β : Type} (o : Option (Mem × (β ⊕ Nat))) (F : Mem → β → Option α) : Option α := match o with
  | some (M, .inl v) => F M v
  | _ => none
noncomputable def gk {α : Type} (c : Prop) (g : Option α) : Option α := @ite (Option α) c (Classical.propDecidable c) g none
theorem gk_t {α : Type} {c : Prop} {g : Option α} (h : c) : gk c g = g := if_pos h
theorem gk_e {α : Type} {c : Prop} {g : Option α} {r : α} (h : gk c g = some r) : c ∧ g = some r := by
  unfold gk at h
  by_cases hc : c
  · rw [if_pos hc] at h; exact ⟨hc, h⟩
  · rw [if_neg hc] at h; cases h
def H2 (D : va_G) (ca : Nat → ClassId) (s : State) (M N : Mem) (H : Heap) (locs : List Loc) : Prop :=
  Wr D ca false (fun q => s.heap.size ≤ q) M H ∧ Wr D ca false (fun q => s.heap.size ≤ q) N H ∧ (∀ q, N.1 q < 16 → ¬ M.1 q < 16) ∧ va_S (fun q => s.heap.size ≤ q) s.heap H locs
/-- what holds all along the law's body -/
def LX (p : Program) (l : Launch) (s : State) (m : MethodId) (meth : Method) (c : Code) (D : va_G) (ca : Nat → ClassId) (b L : Nat) (xs : Nat → Int32) : Prop :=
  p.tables.exec = Jvm.exec ∧ c.code = cL_law ∧ Cx cL_law 34 yL_law D ca s.heap.size (fun q => s.heap.size ≤ q) p s m #[Value.ref b] meth c ∧ l.stackTraces = false ∧ va_X b L xs s s.heap ∧ b < s.heap.size ∧ meth.sig.returnType = ret ∧ L ≤ 260
def cellv (L : Nat) (xs : Nat → Int32) (k : Int32) : Int32 := if nI L ≤ k then ((1000308323 : Int32) * (k + 1)) + (751363497 : Int32) else xs k.toNatClampNeg
section TW
variable {p : Program} {l : Launch} {e : Env} {R : Room} {s : State} {m : MethodId} {args : Array Value} {below : List Frame} {meth : Method} {c : Code} {H : Heap} {locs : List Loc} {cells slots : Nat} {Q : State → Prop}
variable {cc : ByteArray} {pc maxL : Nat} {ls : Array Slot} {rest st0 : List Value} {D : va_G} {ca : Nat → ClassId} {M N : Mem} {b L : Nat} {xs : Nat → Int32} {yo : MethodName} {mc ms : Nat} {a : Array Value} {α : Type} {r : α}
theorem rg_two {A : Nat → Prop} {H1 : Heap} (hW2 : Wr D ca false A N H) (hdis : ∀ q, N.1 q < 16 → ¬ M.1 q < 16) (hk : ∀ q : Nat, q < H.size → ¬ fA M H.size q → H1[q]? = H[q]?) : Wr D ca false A N H1 :=
  ⟨hW2.1.kept (fun q hq => hk q (hW2.1.lt hq) (fun h => h.elim (hdis q hq) (fun h2 => absurd (hW2.1.lt hq) (Nat.not_lt.mpr h2)))), fun h => (by cases h), hW2.2.2⟩
theorem dis_sym (h : ∀ q, N.1 q < 16 → ¬ M.1 q < 16) : ∀ q, M.1 q < 16 → ¬ N.1 q < 16 := fun q h1 h2 => h q h2 h1
theorem rq_iast (hx : p.tables.exec = Jvm.exec) (hb : c.code = cc) (hK : va_K D vwCl (tysL ca) s) (hR : H2 D ca s M N H locs) {q : Nat} {i x : Int32} (hdg : decode cc pc = .ok (.iastore, 1)) {F : Mem → Option α} (hf : gd (N.1 q = 9 ∧ vi_ i (mm_N N q)) (lt_ (ms_i N q i.toNatClampNeg x) F) = some r)
    (kk : ∀ (N1 : Mem) (H1 : Heap) (locs1 : List Loc), F N1 = some r → H2 D ca s M N1 H1 locs1 → W p l e R s m args below meth c H1 locs1 cells slots Q (F0 m (pc + 1) ls rest)) : W p l e R s m args below meth c H locs cells slots Q (F0 m pc ls (.int x :: .int i :: .ref q :: rest)) := by
  obtain ⟨h1, h2, h3, h4⟩ := hR
  obtain ⟨⟨hq, hin⟩, hf⟩ := gd_e hf
  refine W.iast hx hb (h2.1.arr hq (by decide) (by decide)) ((hK.2 0 _ rfl).1 _ _) (fun z => by cases z) (by rw [arrV_size]; exact hin) rfl rfl hdg fun H1 e1 e2 e3 => ?_
  have hN := rg_ast (M1 := ms_i N q i.toNatClampNeg x) (k := i.toNatClampNeg) (v := .int x) ⟨h2, h4⟩ hq (by decide) (by decide) rfl rfl rfl ms_i_off (fun _ _ _ => rfl) (fun _ _ _ => rfl) (av_i (by decide)) e1 e2 e3
  exact kk _ H1 _ hf ⟨⟨h1.1.kept (fun z hz => e3 z (fun hzq => h3 z (by rw [hzq, hq]; decide) hz)), fun h => (by cases h), h1.2.2⟩, hN.1, h3, hN.2⟩
/-- a helper of the law on its arrays: int -/
theorem rq_I {fy : Option (Mem × Int32)} {F : Mem × Int32 → Option α} (hf : bd fy (fun z => gk (z.1.1 = N.1) (F z)) = some r) (hR : H2 D ca s M N H locs) (hA : ∀ q, s.heap.size ≤ q → (fun q => s.heap.size ≤ q) q) (hr : ∀ z, fy = some z → va_Run p l e R s m args below meth c H locs cells slots 0 0 (F0 m pc ls st0) rest (cvI D ca false (fA N H.size) z a) (fA N H.size))
    (kk : ∀ (z : Mem × Int32) (H1 : Heap) (locs1 : List Loc), F z = some r → H2 D ca s M z.1 H1 locs1 → W p l e R s m args below meth c H1 locs1 cells slots Q (F0 m (pc + 3) ls (.int z.2 :: rest))) : W p l e R s m args below meth c H locs cells slots Q (F0 m pc ls st0) := by
  obtain ⟨z, hz, hf⟩ := bd_e hf
  obtain ⟨hk9, hf⟩ := gk_e hf
  obtain ⟨h1, h2, h3, h4⟩ := hR
  have hAA := fA_A (M := N) ⟨h2, h4⟩ hA
  refine va_calli (hr z hz) h4 (fun q _ h => hAA q h) hAA (fun v u t H1 locs1 ht hvm hw hB hz1 hk1 hS => ?_)
  rw [ht] at hB
  rw [hw]
  exact kk z H1 locs1 hf ⟨rg_two (M := N) h1 (dis_sym h3) hk1, hB.up hAA, fun q hq => h3 q (by rw [← hk9]; exact hq), hS⟩
theorem rq_L {fy : Option (Mem × Int64)} {F : Mem × Int64 → Option α} (hf : bd fy (fun z => gk (z.1.1 = N.1) (F z)) = some r) (hR : H2 D ca s M N H locs) (hA : ∀ q, s.heap.size ≤ q → (fun q => s.heap.size ≤ q) q) (hr : ∀ z, fy = some z → va_Run p l e R s m args below meth c H locs cells slots 0 0 (F0 m pc ls st0) rest (cvL D ca false (fA N H.size) z a) (fA N H.size))
    (kk : ∀ (z : Mem × Int64) (H1 : Heap) (locs1 : List Loc), F z = some r → H2 D ca s M z.1 H1 locs1 → W p l e R s m args below meth c H1 locs1 cells slots Q (F0 m (pc + 3) ls (.long z.2 :: rest))) : W p l e R s m args below meth c H locs cells slots Q (F0 m pc ls st0) := by
  obtain ⟨z, hz, hf⟩ := bd_e hf
  obtain ⟨hk9, hf⟩ := gk_e hf
  obtain ⟨h1, h2, h3, h4⟩ := hR
  have hAA := fA_A (M := N) ⟨h2, h4⟩ hA
  refine va_calll (hr z hz) h4 (fun q _ h => hAA q h) hAA (fun v u t H1 locs1 ht hvm hw hB hz1 hk1 hS => ?_)
  rw [ht] at hB
  rw [hw]
  exact kk z H1 locs1 hf ⟨rg_two (M := N) h1 (dis_sym h3) hk1, hB.up hAA, fun q hq => h3 q (by rw [← hk9]; exact hq), hS⟩
/-- a question of the class that never throws: long -/
theorem rq_L1 {fy : Option (Mem × Int64)} {F : Mem × Int64 → Option α} (hf : bd fy (fun z => gk (z.1.1 = M.1) (F z)) = some r) (hR : H2 D ca s M N H locs) (hA : ∀ q, s.heap.size ≤ q → (fun q => s.heap.size ≤ q) q) (hr : ∀ z, fy = some z → va_Run p l e R s m args below meth c H locs cells slots 0 0 (F0 m pc ls st0) rest (cvL D ca false (fA M H.size) z a) (fA M H.size))
    (kk : ∀ (z : Mem × Int64) (H1 : Heap) (locs1 : List Loc), F z = some r → H2 D ca s z.1 N H1 locs1 → W p l e R s m args below meth c H1 locs1 cells slots Q (F0 m (pc + 3) ls (.long z.2 :: rest))) : W p l e R s m args below meth c H locs cells slots Q (F0 m pc ls st0) := by
  obtain ⟨z, hz, hf⟩ := bd_e hf
  obtain ⟨hk9, hf⟩ := gk_e hf
  obtain ⟨h1, h2, h3, h4⟩ := hR
  have hAA := fA_A (M := M) ⟨h1, h4⟩ hA
  refine va_calll (hr z hz) h4 (fun q _ h => hAA q h) hAA (fun v u t H1 locs1 ht hvm hw hB hz1 hk1 hS => ?_)
  rw [ht] at hB
  rw [hw]
  exact kk z H1 locs1 hf ⟨hB.up hAA, rg_two (M := M) h2 h3 hk1, fun q hq => by rw [hk9]; exact h3 q hq, hS⟩
/-- a call of the class that may throw, and does not -/
theorem rq_xI {fy : Option (Mem × (Int32 ⊕ Nat))} {F : Mem → Int32 → Option α} (hf : bn fy (fun M1 v => gk (M1.1 = M.1) (F M1 v)) = some r) (hR : H2 D ca s M N H locs) (hA : ∀ q, s.heap.size ≤ q → (fun q => s.heap.size ≤ q) q) (hr : ∀ z, fy = some z → vx_Run p l e R s m args below meth c H locs cells slots mc ms (F0 m pc ls st0) rest (cxI D ca (fA M H.size) z a) (cxX D ca (fA M H.size) z) (fA M H.size))
    (kk : ∀ (M1 : Mem) (v : Int32) (H1 : Heap) (locs1 : List Loc), F M1 v = some r → H2 D ca s M1 N H1 locs1 → W p l e R s m args below meth c H1 locs1 (cells + mc) (slots + ms) Q (F0 m (pc + 3) ls (.int v :: rest))) : W p l e R s m args below meth c H locs cells slots Q (F0 m pc ls st0) := by
  obtain ⟨h1, h2, h3, h4⟩ := hR
  match fy, hf, hr with
  | none, hf, _ => cases hf
  | some (M1, .inr k), hf, _ => cases hf
  | some (M1, .inl v0), hf, hr =>
    have hf : gk (M1.1 = M.1) (F M1 v0) = some r := hf
    obtain ⟨hk9, hf⟩ := gk_e hf
    have hAA := fA_A (M := M) ⟨h1, h4⟩ hA
    refine vx_calli (hr _ rfl) h4 (fun q _ h => hAA q h) hAA (fun q _ h => hAA q h) (fun E ce q9 u t H1 locs1 ht hvm hp hB hz hk hS hce hcv hcl => ?_) (fun v u t H1 locs1 ht hvm hw hB hz1 hk1 hS => ?_)
    · obtain ⟨⟨k, hk2, he⟩, hB⟩ := hB
      cases hk2
    · rw [ht] at hB
      cases hw
      exact kk M1 v0 H1 locs1 hf ⟨hB.up hAA, rg_two (M := M) h2 h3 hk1, fun q hq => by rw [hk9]; exact h3 q hq, hS⟩
theorem rq_xL {fy : Option (Mem × (Int64 ⊕ Nat))} {F : Mem → Int64 → Option α} (hf : bn fy (fun M1 v => gk (M1.1 = M.1) (F M1 v)) = some r) (hR : H2 D ca s M N H locs) (hA : ∀ q, s.heap.size ≤ q → (fun q => s.heap.size ≤ q) q) (hr : ∀ z, fy = some z → vx_Run p l e R s m args below meth c H locs cells slots mc ms (F0 m pc ls st0) rest (cxL D ca (fA M H.size) z a) (cxX D ca (fA M H.size) z) (fA M H.size))
    (kk : ∀ (M1 : Mem) (v : Int64) (H1 : Heap) (locs1 : List Loc), F M1 v = some r → H2 D ca s M1 N H1 locs1 → W p l e R s m args below meth c H1 locs1 (cells + mc) (slots + ms) Q (F0 m (pc + 3) ls (.long v :: rest))) : W p l e R s m args below meth c H locs cells slots Q (F0 m pc ls st0) := by
  obtain ⟨h1, h2, h3, h4⟩ := hR
  match fy, hf, hr with
  | none, hf, _ => cases hf
  | some (M1, .inr k), hf, _ => cases hf
  | some (M1, .inl v0), hf, hr =>
    have hf : gk (M1.1 = M.1) (F M1 v0) = some r := hf
    obtain ⟨hk9, hf⟩ := gk_e hf
    have hAA := fA_A (M := M) ⟨h1, h4⟩ hA
    refine vx_calll (hr _ rfl) h4 (fun q _ h => hAA q h) hAA (fun q _ h => hAA q h) (fun E ce q9 u t H1 locs1 ht hvm hp hB hz hk hS hce hcv hcl => ?_) (fun v u t H1 locs1 ht hvm hw hB hz1 hk1 hS => ?_)
    · obtain ⟨⟨k, hk2, he⟩, hB⟩ := hB
      cases hk2
    · rw [ht] at hB
      cases hw
      exact kk M1 v0 H1 locs1 hf ⟨hB.up hAA, rg_two (M := M) h2 h3 hk1, fun q hq => by rw [hk9]; exact h3 q hq, hS⟩
theorem rq_xV {fy : Option (Mem × (Unit ⊕ Nat))} {F : Mem → Option α} (hf : bn fy (fun M1 _ => gk (M1.1 = M.1) (F M1)) = some r) (hR : H2 D ca s M N H locs) (hA : ∀ q, s.heap.size ≤ q → (fun q => s.heap.size ≤ q) q) (hr : ∀ z, fy = some z → vx_Run p l e R s m args below meth c H locs cells slots mc ms (F0 m pc ls st0) rest (cxV D ca (fA M H.size) z a) (cxX D ca (fA M H.size) z) (fA M H.size))
    (kk : ∀ (M1 : Mem) (H1 : Heap) (locs1 : List Loc), F M1 = some r → H2 D ca s M1 N H1 locs1 → W p l e R s m args below meth c H1 locs1 (cells + mc) (slots + ms) Q (F0 m (pc + 3) ls rest)) : W p l e R s m args below meth c H locs cells slots Q (F0 m pc ls st0) := by
  obtain ⟨h1, h2, h3, h4⟩ := hR
  match fy, hf, hr with
  | none, hf, _ => cases hf
  | some (M1, .inr k), hf, _ => cases hf
  | some (M1, .inl v0), hf, hr =>
    have hf : gk (M1.1 = M.1) (F M1) = some r := hf
    obtain ⟨hk9, hf⟩ := gk_e hf
    have hAA := fA_A (M := M) ⟨h1, h4⟩ hA
    refine vx_callv (hr _ rfl) h4 (fun q _ h => hAA q h) hAA (fun q _ h => hAA q h) (fun E ce q9 u t H1 locs1 ht hvm hp hB hz hk hS hce hcv hcl => ?_) (fun u t H1 locs1 ht hvm hw hB hz1 hk1 hS => ?_)
    · obtain ⟨⟨k, hk2, he⟩, hB⟩ := hB
      cases hk2
    · rw [ht] at hB
      exact kk M1 H1 locs1 hf ⟨hB.up hAA, rg_two (M := M) h2 h3 hk1, fun q hq => by rw [hk9]; exact h3 q hq, hS⟩
end TW
/-! the script's reader -/
def Px (b L : Nat) (xs : Nat → Int32) (U : State) : Prop := b < U.heap.size ∧ va_X b L xs U U.heap
theorem Px_blind {b L : Nat} {xs : Nat → Int32} {As : List Value} : FrameBlind (va_Pc As (Px b L xs)) := by
  intro a U g mk h
  obtain ⟨h0, h1, h2⟩ := h
  have hW : U.WarmedH (U.calling g mk a).vm := State.WarmedH.refl U
  exact ⟨h0, h1, h2.moved hW.alike⟩
abbrev rm_L_cell : Room := { frames := 0, cells := 0, slots := 0, locals := 0 }
theorem hd_L_cell : yL_cell.cls ≠ "java/lang/invoke/MethodHandle" ∧ yL_cell.cls ≠ "java/lang/invoke/VarHandle" ∧ (parseMethodDescriptor yL_cell.desc).map (fun d => d.parameters.length) = some 2 := by decide +kernel
theorem c_L_cell {l : Launch} {b L : Nat} {xs : Nat → Int32} {k : Int32} (hk : 0 ≤ k) (hL : L ≤ 260) : Met l yL_cell (Cond.code yL_cell cL_cell 2 (some .int) :: aw) rm_L_cell (va_Pc [.ref b, .int k] (Px b L xs)) (va_Qi (S := Unit) (fun v _ => v = cellv L xs k) (fun _ _ => True) (fun _ => False)) 0 0 (fun _ => False) := by
  refine Met.ofW (cc := cL_cell) (maxL := 2) (ret := some .int) (by decide +kernel) rfl ?_
  intro p e s m args below meth c s₁ B hml hv
  obtain ⟨rfl, hbl, hX⟩ := hv
  have hts := atoms_spec (ws := Cond.code yL_cell cL_cell 2 (some .int) :: aw) B.pre
  have hown : s.vm.findClass yL_cell.cls = some m.cls := findClass_of_methodNamed B.named
  have hl := lv_entry [Value.ref b, Value.int k] (n := 2) (Nat.le_of_ble_eq_true rfl)
  rw [lg_entry_eq]
  generalize ((lg_sl [Value.ref b, Value.int k] ++ List.replicate (2 - (lg_sl [Value.ref b, Value.int k]).length) Slot.unset).toArray) = ls at hl ⊢
  have hl : lv_has ls 2 [(0, .ref b), (1, .int k)] := hl
  have hx := B.exec
  have hb := B.bytes
  have hS : va_S (fun _ => False) s.heap s.heap [] := va_S.rf
  have fin : ∀ (v : Int32), v = cellv L xs k → W p l e rm_L_cell s m #[Value.ref b, Value.int k] below meth c s.heap [] 0 0 (MQ below (va_Qi (S := Unit) (fun v _ => v = cellv L xs k) (fun _ _ => True) (fun _ => False)) #[Value.ref b, Value.int k] s 0 0 (fun _ => False)) (F0 m 21 ls [.int v]) := fun v hv =>
    W.iret (v := v) hx hb B.returns (fun t ht hW => ⟨⟨v, (), rfl, hv, trivial⟩, hS.F ht⟩) hS.2.2 dL_cell_21 B.notSynchronized
  refine lv_iload_n (pc := 0) hx hb dL_cell_0 rfl (lv_at hl 1 rfl) ?_
  refine lv_aload_n (pc := 1) hx hb dL_cell_1 rfl (lv_at hl 0 rfl) ?_
  refine va_slen (pc := 2) hx hb hX hbl (fun h => h) hS dL_cell_2 ?_
  refine lv_icmp_ge (pc := 3) (tgt := 12) hx hb dL_cell_3 (by decide) (fun hc => ?_) (fun hc => ?_)
  · refine lv_ldc (pc := 12) hx hb hown (hts _ (List.mem_cons_of_mem _ m_533)) dL_cell_12 ?_
    refine lv_iload_n (pc := 14) hx hb dL_cell_14 rfl (lv_at hl 1 rfl) ?_
    refine lv_iconst (pc := 15) (v := (1 : Int32)) hx hb dL_cell_15 (by decide) ?_
    refine lv_iadd (pc := 16) hx hb dL_cell_16 ?_
    refine lv_imul (pc := 17) hx hb dL_cell_17 ?_
    refine lv_ldc (pc := 18) hx hb hown (hts _ (List.mem_cons_of_mem _ m_534)) dL_cell_18 ?_
    refine lv_iadd (pc := 20) hx hb dL_cell_20 ?_
    exact fin _ (by unfold cellv; rw [if_pos (show nI L ≤ k from hc)])
  · have hc' : ¬ nI L ≤ k := hc
    have hin : vp_in k L := by
      rw [Int32.le_iff_toInt_le, nI_toInt (by omega)] at hc'
      have h0 : (0 : Int) ≤ k.toInt := by rw [Int32.le_iff_toInt_le] at hk; exact hk
      rintro (h | h)
      · rw [Int32.lt_iff_toInt_lt] at h
        have : (0 : Int32).toInt = 0 := rfl
        omega
      · have : (k.toNatClampNeg : Int) = k.toInt := by
          show ((k.toInt.toNat : Nat) : Int) = k.toInt
          omega
        omega
    refine lv_aload_n (pc := 6) hx hb dL_cell_6 rfl (lv_at hl 0 rfl) ?_
    refine lv_iload_n (pc := 7) hx hb dL_cell_7 rfl (lv_at hl 1 rfl) ?_
    refine va_sld (pc := 8) hx hb hX hbl (fun h => h) hS hin dL_cell_8 ?_
    refine lv_goto (pc := 9) (tgt := 21) hx hb dL_cell_9 (by decide) ?_
    exact fin _ (by unfold cellv; rw [if_neg hc'])
section TC
variable {p : Program} {l : Launch} {e : Env} {R : Room} {s : State} {m : MethodId} {below : List Frame} {meth : Method} {c : Code} {H : Heap} {locs : List Loc} {cells slots : Nat} {Q : State → Prop}
variable {pc : Nat} {ls : Array Slot} {rest st0 : List Value} {D : va_G} {ca : Nat → ClassId} {M N : Mem} {b L : Nat} {xs : Nat → Int32} {α : Type} {r : α}
theorem rq_cell (X : LX p l s m meth c D ca b L xs) (hR : H2 D ca s M N H locs) {k : Int32} {index : Nat} (hRm : 0 + 1 ≤ room_1.frames ∧ 8 + (2 + 11) + 0 ≤ room_1.locals) (h1 : Cond.methodLink yL_law.cls index yL_cell ∈ aw) (h2 : Cond.static yL_cell ∈ aw) (h3 : Cond.initialized yL_cell.cls ∈ aw) (h4 : Cond.code yL_cell cL_cell 2 (some .int) ∈ aw)
    (hst : st0 = [.int k, .ref b] ++ rest) (hl : ls.size = 34) (hq0 : (0 : Nat) = 0) (hW : (rest.map fun v => v.category).sum ≤ 8) (hdg : decode cL_law pc = .ok (.invokestatic index, 3)) {F : Int32 → Option α} (hf : gd (cells ≤ 600104 ∧ slots ≤ 7301314) (gd (0 ≤ k) (lt_ (cellv L xs k) F)) = some r)
    (kk : ∀ (v : Int32) (H1 : Heap) (locs1 : List Loc), F v = some r → H2 D ca s M N H1 locs1 → W p l e room_1 s m #[Value.ref b] below meth c H1 locs1 cells slots Q (F0 m (pc + 3) ls (.int v :: rest))) : W p l e room_1 s m #[Value.ref b] below meth c H locs cells slots Q (F0 m pc ls st0) := by
  obtain ⟨hx, hb, hC, hlt, hXs, hbl, hret, hL⟩ := X
  obtain ⟨g1, g2, g3, g4⟩ := hR
  obtain ⟨hrm, hf⟩ := gd_e hf
  obtain ⟨hk, hf⟩ := gd_e hf
  have hbA : ¬ s.heap.size ≤ b := Nat.not_le.mpr hbl
  have hXH : va_X b L xs s H := hXs.kept (g4.2.1 b hbl hbA)
  have hbH : b < H.size := Nat.lt_of_lt_of_le hbl g4.1
  have C0 := hC
  obtain ⟨-, -, hml, hts, hown, -⟩ := hC
  have hrun := va_runS (mc := 0) (ms := 0) (cells := cells) (slots := slots) (locs := locs) (H := H) (e := e) (R := room_1) (below := below) (meth := meth) ⟨hx, hb, hml, hown, hts⟩ (c_L_cell (l := l) (b := b) (L := L) (xs := xs) hk hL) ⟨rn_cb C0 h1 h3 h4 hd_L_cell ⟨rfl, rfl, hRm⟩, hts _ h2⟩ ⟨Px_blind, fun U hU hW9 => ⟨rfl, by rw [hU]; exact hbH, by rw [hU]; exact hXH.moved hW9.alike⟩⟩ rfl rfl hl hst (lv_room hW) hdg ⟨hrm.1, hrm.2⟩
  refine va_calli hrun g4 (fun q _ h => h.elim) (fun q h => h.elim) (fun v u t H1 locs1 ht hvm hw hB hz1 hk1 hS => ?_)
  rw [hw]
  have hk2 : ∀ q, q < H.size → H1[q]? = H[q]? := fun q h => hk1 q h (fun z => z)
  exact kk _ H1 locs1 hf ⟨⟨g1.1.kept (fun q hq => hk2 q (g1.1.lt hq)), fun h => (by cases h), g1.2.2⟩, ⟨g2.1.kept (fun q hq => hk2 q (g2.1.lt hq)), fun h => (by cases h), g2.2.2⟩, g3, hS⟩
theorem rq_ret (X : LX p l s m meth c D ca b L xs) {nc ns : Nat} {v : Int32} (hf : gd (nc ≤ 600104 ∧ ns ≤ 7301314) (some (1 : Int32)) = some v) (hR : H2 D ca s M N H locs) (hdg : decode cL_law pc = .ok (.ireturn, 1)) : W p l e room_1 s m #[Value.ref b] below meth c H locs nc ns (lw_Z below #[Value.ref b] s) (F0 m pc ls [.int (1 : Int32)]) := by
  obtain ⟨⟨h1, h2⟩, -⟩ := gd_e hf
  obtain ⟨hx, hb, hC, hlt, hXs, hbl, hret, hL⟩ := X
  refine va_forget (fun q hq => hR.2.2.2.2.2 q hq) ?_
  refine W.widen (k := 600104) (n := 7301314) h1 h2 ?_
  exact lw_ret hx hb hret hC.2.2.2.2.2.1 hdg
end TC
