/-! THE CLAIM OUT OF ONE WALK OF THE LAW'S BODY. Your part is whole_start (and what it stands on); all else here is the same for every law, but numbers. -/
def R_law : String := "RingHerdLaw"
def lw_P (b : Addr) (xs : List Int32) (args : Array Value) (s : State) : Prop := args = #[.ref b] ∧ s.IntsAt b xs ∧ xs.length ≤ 2560 ∧ (Jvm.Cond.and given_1 narrow_1).before args s = true
def lw_Q (_ : Array Value) (s : State) (o : Outcome) (t : State) : Prop := o = .returned (some (.int 1)) ∧ Framed s o t [] 601024 7293034
def lw_Z (below : List Frame) (a : Array Value) (s : State) : State → Prop := fun t => ∃ o, t.status = .running ∧ Ended t below o ∧ lw_Q a s o t
/-- the law's own end, with 1 on the stack, nothing written that was there before, its room as the claim has it -/
theorem lw_ret {p : Program} {l : Launch} {e : Env} {s : State} {m : MethodId} {below : List Frame} {meth : Method} {c : Code} {b : Nat} (hx : p.tables.exec = Jvm.exec) (hb : c.code = code) (hr : meth.sig.returnType = ret) (hlocks : meth.locks = false) {pc : Nat} {H : Heap} {ls : Array Slot} (hdg : decode code pc = .ok (.ireturn, 1)) : W p l e room_1 s m #[Value.ref b] below meth c H [] 601024 7293034 (lw_Z below #[Value.ref b] s) (F0 m pc ls [.int 1]) := by
  intro T hT X
  obtain ⟨fs, hret, hrun, hended, hW, hframe⟩ := X.leave (v := some (.int 1)) (hlocks := hlocks) (fun h => by rw [hr] at h; cases h)
  have hmeth' : T.vm.method? m = some meth := X.method'
  refine ⟨T.setFrames fs, ?_, .returned (some (.int 1)), hrun, hended, rfl, ⟨_, rfl⟩, hW, hframe⟩
  jvm_step X.here [X.here.top, hx, hb, hdg, hmeth', hr, ret, narrow_b1]
  (try refine ⟨rfl, ?_⟩); (try refine ⟨rfl, ?_⟩)
  first | (intro acts; rw [hret _ acts rfl rfl rfl]) | rw [hret _ _ rfl rfl rfl]
  exact Steps.refl _
/-- what holds at the law's entry: the machine, the code, the tables' words (any of lw_tbl by 'hts w (by decide +kernel)'), the script of L ints xs at the cell b, what the Statement gives of the start (any of its parts by flat_of_before) -/
def lw_At (p : Program) (s : State) (m : MethodId) (meth : Method) (c : Code) (b L : Nat) (xs : Nat → Int32) : Prop :=
  p.tables.exec = Jvm.exec ∧ c.code = code ∧ meth.sig.returnType = ret ∧ c.maxLocals = 8 ∧ s.vm.findClass R_law = some m.cls ∧ (∀ w ∈ lw_tbl, w.before #[Value.ref b] s = true) ∧ va_X b L xs s s.heap ∧ b < s.heap.size ∧ meth.locks = false ∧ (Jvm.Cond.and given_1 narrow_1).before #[Value.ref b] s = true

/-! ===== THE LAW'S LOOP over any invariant that every pair of calls keeps ===== -/
/-- a pair of calls: both come back, they say the same, the invariant holds again -/
def OpI (I : Mem → Mem → Prop) (o d : Nat) (fL fM : Mem → Option (Mem × Int32)) : Prop := ∀ M1 M2, I M1 M2 → ∃ (M1' : Mem) (k : Int32) (M2' : Mem) (v : Int32), fL M1 = some (M1', k) ∧ fM M2 = some (M2', v) ∧ f_X8_thrown d M2' = some (M2', k) ∧ (k = 0 → mm_l M1' o 0 = v.toInt64) ∧ I M1' M2'
def OpL (I : Mem → Mem → Prop) (o d : Nat) (fL : Mem → Option (Mem × Int32)) (fM : Mem → Option (Mem × Int64)) : Prop := ∀ M1 M2, I M1 M2 → ∃ (M1' : Mem) (k : Int32) (M2' : Mem) (v : Int64), fL M1 = some (M1', k) ∧ fM M2 = some (M2', v) ∧ f_X8_thrown d M2' = some (M2', k) ∧ (k = 0 → mm_l M1' o 0 = v) ∧ I M1' M2'
def OpZ (I : Mem → Mem → Prop) (o d : Nat) (fL fM : Mem → Option (Mem × Int32)) : Prop := ∀ M1 M2, I M1 M2 → ∃ (M1' : Mem) (k : Int32) (M2' : Mem) (v : Int32), fL M1 = some (M1', k) ∧ fM M2 = some (M2', v) ∧ f_X8_thrown d M2' = some (M2', k) ∧ (k = 0 → mm_l M1' o 0 = if v = 0 then 0 else 1) ∧ I M1' M2'
def OpV (I : Mem → Mem → Prop) (d : Nat) (fL : Mem → Option (Mem × Int32)) (fM : Mem → Option Mem) : Prop := ∀ M1 M2, I M1 M2 → ∃ (M1' : Mem) (k : Int32) (M2' : Mem), fL M1 = some (M1', k) ∧ fM M2 = some M2' ∧ f_X8_thrown d M2' = some (M2', k) ∧ I M1' M2'
/-- a pair whose answers are compared as they are -/
def OpC {β : Type} (I : Mem → Mem → Prop) (f1 f2 : Mem → Option (Mem × β)) : Prop := ∀ M1 M2, I M1 M2 → ∃ (M1' M2' : Mem) (v : β), f1 M1 = some (M1', v) ∧ f2 M2 = some (M2', v) ∧ I M1' M2'
theorem lg_same (x : Int64) : lg_cmp x x = 0 := (lg_cmp_eq x x).mpr rfl
section LW
variable {p : Program} {l : Launch} {e : Env} {R : Room} {s : State} {m : MethodId} {args : Array Value} {below : List Frame} {meth : Method} {c : Code} {H : Heap} {locs : List Loc} {cells slots : Nat} {Q : State → Prop}
variable {cc : ByteArray} {pc maxL : Nat} {ls : Array Slot} {rest st0 : List Value} {D : va_G} {ca : Nat → ClassId} {A : Nat → Prop} {M M2 : Mem} {b : Nat} {yo : MethodName} {mc ms : Nat} {a : Array Value}
theorem rg_two {z1 : Mem} {H1 : Heap} {locs1 : List Loc} (hW2 : Wr D ca false A M2 H) (hdis : ∀ q, M2.1 q < 16 → ¬ M.1 q < 16) (hk : ∀ q : Nat, q < H.size → ¬ fA M H.size q → H1[q]? = H[q]?) : Wr D ca false A M2 H1 :=
  ⟨hW2.1.kept (fun q hq => hk q (hW2.1.lt hq) (fun h => h.elim (hdis q hq) (fun h2 => absurd (hW2.1.lt hq) (Nat.not_lt.mpr h2)))), fun h => (by cases h), hW2.2.2⟩
theorem rg_I2 {z : Mem × Int32} (hW : Wr D ca false A M H) (hW2 : Wr D ca false A M2 H) (hS : va_S A s.heap H locs) (hdis : ∀ q, M2.1 q < 16 → ¬ M.1 q < 16) (hA : ∀ q, s.heap.size ≤ q → A q) (hr : va_Run p l e R s m args below meth c H locs cells slots mc ms (F0 m pc ls st0) rest (cvI D ca false (fA M H.size) z a) (fA M H.size))
    (kk : ∀ (H1 : Heap) (locs1 : List Loc), Wr D ca false A z.1 H1 → Wr D ca false A M2 H1 → va_S A s.heap H1 locs1 → W p l e R s m args below meth c H1 locs1 (cells + mc) (slots + ms) Q (F0 m (pc + 3) ls (.int z.2 :: rest))) : W p l e R s m args below meth c H locs cells slots Q (F0 m pc ls st0) := by
  have hAA := fA_A (M := M) ⟨hW, hS⟩ hA
  refine va_calli hr hS (fun q _ h => hAA q h) hAA (fun v u t H1 locs1 ht hvm hw hB hz1 hk1 hS1 => ?_)
  rw [ht] at hB
  rw [hw]
  exact kk H1 locs1 (hB.up hAA) (rg_two (z1 := z.1) (locs1 := locs1) hW2 hdis hk1) hS1
theorem rg_L2 {z : Mem × Int64} (hW : Wr D ca false A M H) (hW2 : Wr D ca false A M2 H) (hS : va_S A s.heap H locs) (hdis : ∀ q, M2.1 q < 16 → ¬ M.1 q < 16) (hA : ∀ q, s.heap.size ≤ q → A q) (hr : va_Run p l e R s m args below meth c H locs cells slots mc ms (F0 m pc ls st0) rest (cvL D ca false (fA M H.size) z a) (fA M H.size))
    (kk : ∀ (H1 : Heap) (locs1 : List Loc), Wr D ca false A z.1 H1 → Wr D ca false A M2 H1 → va_S A s.heap H1 locs1 → W p l e R s m args below meth c H1 locs1 (cells + mc) (slots + ms) Q (F0 m (pc + 3) ls (.long z.2 :: rest))) : W p l e R s m args below meth c H locs cells slots Q (F0 m pc ls st0) := by
  have hAA := fA_A (M := M) ⟨hW, hS⟩ hA
  refine va_calll hr hS (fun q _ h => hAA q h) hAA (fun v u t H1 locs1 ht hvm hw hB hz1 hk1 hS1 => ?_)
  rw [ht] at hB
  rw [hw]
  exact kk H1 locs1 (hB.up hAA) (rg_two (z1 := z.1) (locs1 := locs1) hW2 hdis hk1) hS1
theorem rg_V2 {z : Mem} (hW : Wr D ca false A M H) (hW2 : Wr D ca false A M2 H) (hS : va_S A s.heap H locs) (hdis : ∀ q, M2.1 q < 16 → ¬ M.1 q < 16) (hA : ∀ q, s.heap.size ≤ q → A q) (hr : va_Run p l e R s m args below meth c H locs cells slots mc ms (F0 m pc ls st0) rest (cvV D ca false (fA M H.size) z a) (fA M H.size))
    (kk : ∀ (H1 : Heap) (locs1 : List Loc), Wr D ca false A z H1 → Wr D ca false A M2 H1 → va_S A s.heap H1 locs1 → W p l e R s m args below meth c H1 locs1 (cells + mc) (slots + ms) Q (F0 m (pc + 3) ls rest)) : W p l e R s m args below meth c H locs cells slots Q (F0 m pc ls st0) := by
  have hAA := fA_A (M := M) ⟨hW, hS⟩ hA
  refine va_callv hr hS (fun q _ h => hAA q h) hAA (fun u t H1 locs1 ht hvm hw hB hz1 hk1 hS1 => ?_)
  rw [ht] at hB
  exact kk H1 locs1 (hB.up hAA) (rg_two (z1 := z) (locs1 := locs1) hW2 hdis hk1) hS1
variable {y : MethodName} {bytes : ByteArray} {maxL' n index : Nat} {ret : Option FieldType} {rm : Room} {Qc : Array Value → State → Outcome → State → Prop} {free : Addr → Prop} {As : List Value} {o : Nat} {hh : List (Nat × Nat × Nat × Nat)}
/-- a static method of the same class that has a table -/
theorem rn_SW (C : Cx cc maxL yo D ca b A p s m args meth c) (hR : Hp D ca false A s M H locs) (hM : Met l y (Cond.codeWith y bytes maxL' ret hh :: aw) rm (va_Pc As (Pw D ca false b H.size M)) Qc mc ms free) (h1 : Cond.methodLink yo.cls index y ∈ aw) (h2 : Cond.static y ∈ aw) (h3 : Cond.initialized y.cls ∈ aw) (h4 : Cond.codeWith y bytes maxL' ret hh ∈ aw)
    (hd : y.cls ≠ "java/lang/invoke/MethodHandle" ∧ y.cls ≠ "java/lang/invoke/VarHandle" ∧ (parseMethodDescriptor y.desc).map (fun d => d.parameters.length) = some n) (hRm : rm.cells = mc ∧ rm.slots = ms ∧ rm.frames + 1 ≤ R.frames ∧ 8 + (maxL' + 11) + rm.locals ≤ R.locals)
    (hn : As.length = n) (hl : ls.size = maxL) (hst : st0 = As.reverse ++ rest) (hW : (rest.map fun v => v.category).sum ≤ 8) (hdg : decode cc pc = .ok (.invokestatic index, 3)) (hf : cells + mc ≤ R.cells ∧ slots + ms ≤ R.slots) :
    va_Run p l e R s m args below meth c H locs cells slots mc ms (F0 m pc ls st0) rest (Qc As.toArray) free := by
  have C0 := C
  obtain ⟨hx, hb, hml, hts, hown, -⟩ := C
  refine vx_runSW (hh := hh) ⟨hx, hb, hml, hown, hts⟩ hM (vx_cwSW n hts (fun w hw => ?_) rfl hRm.1 hRm.2.1 hd hRm.2.2) ⟨Pw_blind, fun U hU hW9 => ⟨rfl, pw_call C0 hR U hU hW9⟩⟩ rfl hn hl hst (lv_room hW) hdg hf
  rcases List.mem_append.mp hw with h | h
  · have hm : w ∈ aw := by
      simp only [List.mem_cons, List.not_mem_nil, or_false] at h
      rcases h with rfl | rfl | rfl
      · exact h1
      · exact h2
      · exact h3
    exact ⟨hm, aw_good _ hm⟩
  · exact gi_aw h4 w h
end LW
/-- what the invariant says of kinds -/
def LwK (I : Mem → Mem → Prop) (x d o : Nat) : Prop := ∀ M1 M2, I M1 M2 → M1.1 x = 7 ∧ M2.1 d = 8 ∧ M1.1 o = 15 ∧ mm_N M1 o = 1 ∧ ∀ q, M2.1 q < 16 → ¬ M1.1 q < 16
set_option maxHeartbeats 40000000 in
set_option maxRecDepth 100000 in
theorem law_loop {p : Program} {l : Launch} {e : Env} {s : State} {m : MethodId} {below : List Frame} {meth : Method} {c : Code} {D : va_G} {ca : Nat → ClassId} {b L : Nat} {xs : Nat → Int32} (hlt : l.stackTraces = false) (hL : L ≤ 2560) (C0 : lw_At p s m meth c b L xs) (hC : Cx cL_law 8 yL_law D ca s.heap.size (fun q => s.heap.size ≤ q) p s m #[Value.ref b] meth c) {x d o : Nat} {I : Mem → Mem → Prop} (hK0 : LwK I x d o) (hap : ∀ M1 M2 N1 N2, I M1 M2 → I N1 N2 → ∀ q, N1.1 q < 16 → ¬ M2.1 q < 16)
    (op_grain : ∀ p0 p1 p2 p3 : Int32, OpI I o d (f_L_grain x p0 p1 p2 p3 o) (f_X8_grain d p0 p1 p2 p3))
    (op_moon : ∀ p0 p1 p2 : Int32, OpI I o d (f_L_moon x p0 p1 p2 o) (f_X8_moon d p0 p1 p2))
    (op_flatness : ∀ p0 : Int32, OpI I o d (f_L_flatness x p0 o) (f_X8_flatness d p0))
    (op_bounds : ∀ p0 p1 p2 : Int32, OpV I d (f_L_bounds x p0 p1 p2) (f_X8_bounds d p0 p1 p2))
    (op_tick : ∀ p0 : Int32, OpI I o d (f_L_tick x p0 o) (f_X8_tick d p0))
    (op_frame : OpI I o d (f_L_frame x  o) (f_X8_frame d ))
    (op_claim : ∀ p0 p1 p2 p3 : Int32, OpI I o d (f_L_claim x p0 p1 p2 p3 o) (f_X8_claim d p0 p1 p2 p3))
    (op_now : OpC I (f_X7_now x) (f_X8_now d))
    (op_told : ∀ p0 p1 : Int32, OpI I o d (f_L_told x p0 p1 o) (f_X8_told d p0 p1))
    (op_angle : ∀ p0 : Int32, OpI I o d (f_L_angle x p0 o) (f_X8_angle d p0))
    (op_speed : ∀ p0 : Int32, OpI I o d (f_L_speed x p0 o) (f_X8_speed d p0))
    (op_count : ∀ p0 : Int32, OpI I o d (f_L_count x p0 o) (f_X8_count d p0))
    (op_mass : ∀ p0 : Int32, OpI I o d (f_L_mass x p0 o) (f_X8_mass d p0))
    (op_sum : ∀ p0 : Int32, OpI I o d (f_L_sum x p0 o) (f_X8_sum d p0))
    (op_momentum : ∀ p0 : Int32, OpL I o d (f_L_momentum x p0 o) (f_X8_momentum d p0))
    (op_momentumByLanes : OpC I (f_X7_momentumByLanes x) (f_X8_momentumByLanes d))
    (op_resonance : ∀ p0 p1 : Int32, OpI I o d (f_L_resonance x p0 p1 o) (f_X8_resonance d p0 p1))
    (op_gap : ∀ p0 p1 : Int32, OpI I o d (f_L_gap x p0 p1 o) (f_X8_gap d p0 p1))
    (op_gaps : OpC I (f_X7_gaps x) (f_X8_gaps d))
    (op_framed : ∀ p0 p1 : Int32, OpI I o d (f_L_framed x p0 p1 o) (f_X8_framed d p0 p1))
    (op_holds : ∀ p0 p1 : Int32, OpZ I o d (f_L_holds x p0 p1 o) (f_X8_holds d p0 p1))
    (op_disputes : ∀ p0 : Int32, OpI I o d (f_L_disputes x p0 o) (f_X8_disputes d p0))
    : ∀ (n i : Nat) (x4 : Int32) (nc ns : Nat) (M1 M2 : Mem) (H : Heap) (locs : List Loc), i ≤ L → L + 1 ≤ i + n → x4 = nI i → nc + n * 6 ≤ 601024 → ns + n * 36 ≤ 7293034 → I M1 M2 → Wr D ca false (fun q => s.heap.size ≤ q) M1 H → Wr D ca false (fun q => s.heap.size ≤ q) M2 H → va_S (fun q => s.heap.size ≤ q) s.heap H locs → ∀ ls : Array Slot, lv_has ls 8 [(0, .ref b), (1, .ref x), (2, .ref d), (3, .ref o), (4, .int x4)] → W p l e room_1 s m #[Value.ref b] below meth c H locs nc ns (lw_Z below #[Value.ref b] s) (F0 m 23 ls []) := by
  obtain ⟨hx, hb, hr, hml, hown, hts0, hX, hbl, hlocks, hgv⟩ := C0
  have hts : ∀ w ∈ aw, w.before #[Value.ref b] s = true := hC.2.2.2.1
  have hXe := hC.2.2.2.2.2.2.1
  have hK := hXe.1
  have hA : ∀ q : Nat, s.heap.size ≤ q → (fun q : Nat => s.heap.size ≤ q) q := fun _ h => h
  have hbA : ¬ (fun q : Nat => s.heap.size ≤ q) b := Nat.not_le.mpr hbl
  intro n
  induction n with
  | zero =>
    intro i x4 nc ns M1 M2 H locs h1 h2
    exact absurd h2 (by omega)
  | succ n ih =>
    intro i x4 nc ns M1 M2 H locs hi hin ex4 hnc hns hI hW1 hW2 hS ls hl
    refine lv_iload (pc := 23) hx hb dL_law_23 (lv_at hl 4 rfl) ?_
    refine lv_aload_n (pc := 25) hx hb dL_law_25 rfl (lv_at hl 0 rfl) ?_
    refine va_slen (pc := 26) hx hb hX hbl hbA hS dL_law_26 ?_
    refine lv_iconst (pc := 27) (v := (5 : Int32)) hx hb dL_law_27 (by decide) ?_
    refine lv_isub (pc := 28) hx hb dL_law_28 ?_
    refine lv_icmp_gt (pc := 29) (tgt := 1404) hx hb dL_law_29 (by decide) (fun hc => ?_) (fun hc => ?_)
    · refine lv_iconst (pc := 1404) (v := (1 : Int32)) hx hb dL_law_1404 (by decide) ?_
      refine va_forget (fun q hq => hS.2.2 q hq) ?_
      refine W.widen (k := 601024) (n := 7293034) (by omega) (by omega) ?_
      exact lw_ret hx hb hr hlocks dL_law_1405
    have hi5 : i + 5 ≤ L := by
      have h1 : ¬ (nI L - nI 5) < nI i := by rw [← ex4]; exact hc
      rw [Int32.lt_iff_toInt_lt, pk_sub_toInt (by omega) (by omega), nI_toInt (by omega)] at h1
      omega
    have h_in0 : vp_in (x4) L := by rw [ex4]; exact vp_in_nI (by omega) (by omega)
    have h_in1 : vp_in (x4 + (1 : Int32)) L := by rw [ex4]; exact (nI_add i 1) ▸ vp_in_nI (n := i + 1) (by omega) (by omega)
    have h_in2 : vp_in (x4 + (2 : Int32)) L := by rw [ex4]; exact (nI_add i 2) ▸ vp_in_nI (n := i + 2) (by omega) (by omega)
    have h_in3 : vp_in (x4 + (3 : Int32)) L := by rw [ex4]; exact (nI_add i 3) ▸ vp_in_nI (n := i + 3) (by omega) (by omega)
    have h_in4 : vp_in (x4 + (4 : Int32)) L := by rw [ex4]; exact (nI_add i 4) ▸ vp_in_nI (n := i + 4) (by omega) (by omega)
    refine lv_aload_n (pc := 32) hx hb dL_law_32 rfl (lv_at hl 0 rfl) ?_
    refine lv_iload (pc := 33) hx hb dL_law_33 (lv_at hl 4 rfl) ?_
    refine va_sld (pc := 35) hx hb hX hbl hbA hS h_in0 dL_law_35 ?_
    refine lv_bipush (pc := 36) (v := (31 : Int32)) hx hb dL_law_36 (by decide) ?_
    refine lv_iand (pc := 38) hx hb dL_law_38 ?_
    refine lv_topi (fun w hw => ?_)
    by_cases hw0 : w = (0 : Int32)
    · refine lv_tableIn (pc := 39) (off := 101) (tgt := 140) hx hb dL_law_39 (by rw [hw0]; decide) (by rw [hw0]; decide) (by rw [hw0]; decide) (by decide) ?_
      obtain ⟨N1, k, N2, v, h1, h2, h3, h4, hI1⟩ := op_grain (xs (x4 + (1 : Int32)).toNatClampNeg) (xs (x4 + (2 : Int32)).toNatClampNeg) (xs (x4 + (3 : Int32)).toNatClampNeg) (xs (x4 + (4 : Int32)).toNatClampNeg) M1 M2 hI
      obtain ⟨g1, g2, g3, g4, gd1⟩ := hK0 _ _ hI
      obtain ⟨g1n, g2n, g3n, g4n, gd1n⟩ := hK0 _ _ hI1
      have gdr : ∀ q, M1.1 q < 16 → ¬ M2.1 q < 16 := fun q h h2 => gd1 q h2 h
      refine lv_aload_n (pc := 140) hx hb dL_law_140 rfl (lv_at hl 1 rfl) ?_
      refine lv_aload_n (pc := 141) hx hb dL_law_141 rfl (lv_at hl 0 rfl) ?_
      refine lv_iload (pc := 142) hx hb dL_law_142 (lv_at hl 4 rfl) ?_
      refine lv_iconst (pc := 144) (v := (1 : Int32)) hx hb dL_law_144 (by decide) ?_
      refine lv_iadd (pc := 145) hx hb dL_law_145 ?_
      refine va_sld (pc := 146) hx hb hX hbl hbA hS h_in1 dL_law_146 ?_
      refine lv_aload_n (pc := 147) hx hb dL_law_147 rfl (lv_at hl 0 rfl) ?_
      refine lv_iload (pc := 148) hx hb dL_law_148 (lv_at hl 4 rfl) ?_
      refine lv_iconst (pc := 150) (v := (2 : Int32)) hx hb dL_law_150 (by decide) ?_
      refine lv_iadd (pc := 151) hx hb dL_law_151 ?_
      refine va_sld (pc := 152) hx hb hX hbl hbA hS h_in2 dL_law_152 ?_
      refine lv_aload_n (pc := 153) hx hb dL_law_153 rfl (lv_at hl 0 rfl) ?_
      refine lv_iload (pc := 154) hx hb dL_law_154 (lv_at hl 4 rfl) ?_
      refine lv_iconst (pc := 156) (v := (3 : Int32)) hx hb dL_law_156 (by decide) ?_
      refine lv_iadd (pc := 157) hx hb dL_law_157 ?_
      refine va_sld (pc := 158) hx hb hX hbl hbA hS h_in3 dL_law_158 ?_
      refine lv_aload_n (pc := 159) hx hb dL_law_159 rfl (lv_at hl 0 rfl) ?_
      refine lv_iload (pc := 160) hx hb dL_law_160 (lv_at hl 4 rfl) ?_
      refine lv_iconst (pc := 162) (v := (4 : Int32)) hx hb dL_law_162 (by decide) ?_
      refine lv_iadd (pc := 163) hx hb dL_law_163 ?_
      refine va_sld (pc := 164) hx hb hX hbl hbA hS h_in4 dL_law_164 ?_
      refine lv_aload_n (pc := 165) hx hb dL_law_165 rfl (lv_at hl 3 rfl) ?_
      refine rg_I2 (pc := 166) (z := (N1, k)) hW1 hW2 hS gd1 hA (rn_SW (hh := [(0, 14, 17, 13), (0, 14, 21, 15)]) (As := [.ref x, .int (xs (x4 + (1 : Int32)).toNatClampNeg), .int (xs (x4 + (2 : Int32)).toNatClampNeg), .int (xs (x4 + (3 : Int32)).toNatClampNeg), .int (xs (x4 + (4 : Int32)).toNatClampNeg), .ref o]) (rest := []) hC ⟨hW1, hS⟩ (c_L_grain hlt h1 _) m_287 m_288 m_0 m_289 hd_L_grain ⟨rfl, rfl, Nat.le_of_ble_eq_true rfl, Nat.le_of_ble_eq_true rfl⟩ rfl hl.1 rfl (Nat.le_of_ble_eq_true rfl) dL_law_166 ⟨by show _ ≤ 601024; omega, by show _ ≤ 7293034; omega⟩) (fun H locs hW1 hW2 hS => ?_)
      refine lv_istore (pc := 169) (lv' := [(5, .int k), (0, .ref b), (1, .ref x), (2, .ref d), (3, .ref o), (4, .int x4)]) hx hb dL_law_169 hl (by decide) rfl (fun ls hl => ?_)
      refine lv_aload_n (pc := 171) hx hb dL_law_171 rfl (lv_at hl 3 rfl) ?_
      refine lv_aload_n (pc := 172) hx hb dL_law_172 rfl (lv_at hl 1 rfl) ?_
      refine lv_iload (pc := 173) hx hb dL_law_173 (lv_at hl 5 rfl) ?_
      refine lv_iconst (pc := 175) (v := (1 : Int32)) hx hb dL_law_175 (by decide) ?_
      refine lv_iadd (pc := 176) hx hb dL_law_176 ?_
      refine va_sld (pc := 177) hx hb hX hbl hbA hS h_in1 dL_law_177 ?_
      refine lv_aload_n (pc := 178) hx hb dL_law_178 rfl (lv_at hl 1 rfl) ?_
      refine lv_iload (pc := 179) hx hb dL_law_179 (lv_at hl 5 rfl) ?_
      refine lv_iconst (pc := 181) (v := (2 : Int32)) hx hb dL_law_181 (by decide) ?_
      refine lv_iadd (pc := 182) hx hb dL_law_182 ?_
      refine va_sld (pc := 183) hx hb hX hbl hbA hS h_in2 dL_law_183 ?_
      refine lv_aload_n (pc := 184) hx hb dL_law_184 rfl (lv_at hl 1 rfl) ?_
      refine lv_iload (pc := 185) hx hb dL_law_185 (lv_at hl 5 rfl) ?_
      refine lv_iconst (pc := 187) (v := (3 : Int32)) hx hb dL_law_187 (by decide) ?_
      refine lv_iadd (pc := 188) hx hb dL_law_188 ?_
      refine va_sld (pc := 189) hx hb hX hbl hbA hS h_in3 dL_law_189 ?_
      refine lv_aload_n (pc := 190) hx hb dL_law_190 rfl (lv_at hl 1 rfl) ?_
      refine lv_iload (pc := 191) hx hb dL_law_191 (lv_at hl 5 rfl) ?_
      refine lv_iconst (pc := 193) (v := (4 : Int32)) hx hb dL_law_193 (by decide) ?_
      refine lv_iadd (pc := 194) hx hb dL_law_194 ?_
      refine va_sld (pc := 195) hx hb hX hbl hbA hS h_in4 dL_law_195 ?_
      have hdq : ∀ q, N1.1 q < 16 → ¬ M2.1 q < 16 := hap M1 M2 N1 N2 hI hI1
      refine rg_I2 (pc := 196) (z := (N2, v)) hW2 hW1 hS hdq hA (rn_V (κ := 8) (As := [.int (xs (x4 + (1 : Int32)).toNatClampNeg), .int (xs (x4 + (2 : Int32)).toNatClampNeg), .int (xs (x4 + (3 : Int32)).toNatClampNeg), .int (xs (x4 + (4 : Int32)).toNatClampNeg)]) (rest := []) hC ⟨hW2, hS⟩ rfl (by decide) g2 (c_X8_grain h2 _) m_785 m_786 m_787 m_9 m_788 hd_X8_grain ⟨rfl, rfl, Nat.le_of_ble_eq_true rfl, Nat.le_of_ble_eq_true rfl⟩ rfl hl.1 rfl (Nat.le_of_ble_eq_true rfl) dL_law_196 ⟨by show _ ≤ 601024; omega, by show _ ≤ 7293034; omega⟩) (fun H locs hW2 hW1 hS => ?_)
      refine lv_istore (pc := 199) (lv' := [(6, .int v), (5, .int k), (0, .ref b), (1, .ref x), (2, .ref d), (3, .ref o), (4, .int x4)]) hx hb dL_law_199 hl (by decide) rfl (fun ls hl => ?_)
      refine lv_aload_n (pc := 201) hx hb dL_law_201 rfl (lv_at hl 4 rfl) ?_
      refine rg_I2 (pc := 202) (z := (N2, k)) hW2 hW1 hS (fun q h h2 => gd1n q h2 h) hA (rn_V (κ := 8) (As := []) (rest := []) hC ⟨hW2, hS⟩ rfl (by decide) g2n (c_X8_thrown h3 _) m_781 m_782 m_783 m_9 m_784 hd_X8_thrown ⟨rfl, rfl, Nat.le_of_ble_eq_true rfl, Nat.le_of_ble_eq_true rfl⟩ rfl hl.1 rfl (Nat.le_of_ble_eq_true rfl) dL_law_202 ⟨by show _ ≤ 601024; omega, by show _ ≤ 7293034; omega⟩) (fun H locs hW2 hW1 hS => ?_)
      refine lv_iload (pc := 205) hx hb dL_law_205 (lv_at hl 1 rfl) ?_
      refine lv_icmp_eq (pc := 207) (tgt := 212) hx hb dL_law_207 (by decide) (fun hc => ?_) (fun hc => absurd rfl hc)
      refine lv_iload (pc := 212) hx hb dL_law_212 (lv_at hl 1 rfl) ?_
      refine lv_if_ne (pc := 214) (tgt := 229) hx hb dL_law_214 (by decide) (fun hc => ?_) (fun hc => ?_)
      · refine lv_goto (pc := 229) (tgt := 1398) hx hb dL_law_229 (by decide) ?_
        obtain ⟨y4, ey4⟩ : ∃ z : Int32, z = x4 + (5 : Int32) := ⟨_, rfl⟩
        refine lv_iinc (pc := 1398) (v := y4) (lv' := [(4, .int y4), (6, .int v), (5, .int k), (0, .ref b), (1, .ref x), (2, .ref d), (3, .ref o)]) hx hb dL_law_1398 hl (k := 6) rfl (by rw [ey4]; rfl) (by decide) rfl (fun ls hl => ?_)
        refine lv_goto (pc := 1401) (tgt := 23) hx hb dL_law_1401 (by decide) ?_
        exact ih (i + 5) y4 _ _ N1 N2 _ _ hi5 (by omega) (by rw [ey4, ex4]; exact nI_add i 5) (by omega) (by omega) hI1 hW1 hW2 hS ls (lv_sub hl [3, 4, 5, 6, 0] rfl)
      · have h4k := h4 hc
        refine lv_aload_n (pc := 217) hx hb dL_law_217 rfl (lv_at hl 5 rfl) ?_
        refine lv_iconst (pc := 218) (v := (0 : Int32)) hx hb dL_law_218 (by decide) ?_
        refine rg_lald (pc := 219) (r := ()) (g := some ()) hx hb hK ⟨hW1, hS⟩ dL_law_219 (by unfold gd; rw [if_pos ⟨g3n, by rw [g4n]; decide⟩]) (fun _ => ?_)
        refine lv_iload (pc := 220) hx hb dL_law_220 (lv_at hl 0 rfl) ?_
        refine lv_i2l (pc := 222) hx hb dL_law_222 rfl ?_
        refine W.lcmp (pc := 223) hx hb dL_law_223 ?_
        refine lv_if_eq (pc := 224) (tgt := 229) hx hb dL_law_224 (by decide) (fun hc => ?_) (fun hc => absurd (by show lg_cmp (mm_l N1 o 0) _ = 0; rw [h4k]; exact lg_same _) hc)
        refine lv_goto (pc := 229) (tgt := 1398) hx hb dL_law_229 (by decide) ?_
        obtain ⟨y4, ey4⟩ : ∃ z : Int32, z = x4 + (5 : Int32) := ⟨_, rfl⟩
        refine lv_iinc (pc := 1398) (v := y4) (lv' := [(4, .int y4), (6, .int v), (5, .int k), (0, .ref b), (1, .ref x), (2, .ref d), (3, .ref o)]) hx hb dL_law_1398 hl (k := 6) rfl (by rw [ey4]; rfl) (by decide) rfl (fun ls hl => ?_)
        refine lv_goto (pc := 1401) (tgt := 23) hx hb dL_law_1401 (by decide) ?_
        exact ih (i + 5) y4 _ _ N1 N2 _ _ hi5 (by omega) (by rw [ey4, ex4]; exact nI_add i 5) (by omega) (by omega) hI1 hW1 hW2 hS ls (lv_sub hl [3, 4, 5, 6, 0] rfl)
    by_cases hw1 : w = (1 : Int32)
    · refine lv_tableIn (pc := 39) (off := 193) (tgt := 232) hx hb dL_law_39 (by rw [hw1]; decide) (by rw [hw1]; decide) (by rw [hw1]; decide) (by decide) ?_
      obtain ⟨N1, k, N2, v, h1, h2, h3, h4, hI1⟩ := op_moon (xs (x4 + (1 : Int32)).toNatClampNeg) (xs (x4 + (2 : Int32)).toNatClampNeg) (xs (x4 + (3 : Int32)).toNatClampNeg) M1 M2 hI
      obtain ⟨g1, g2, g3, g4, gd1⟩ := hK0 _ _ hI
      obtain ⟨g1n, g2n, g3n, g4n, gd1n⟩ := hK0 _ _ hI1
      have gdr : ∀ q, M1.1 q < 16 → ¬ M2.1 q < 16 := fun q h h2 => gd1 q h2 h
      refine lv_aload_n (pc := 232) hx hb dL_law_232 rfl (lv_at hl 1 rfl) ?_
      refine lv_aload_n (pc := 233) hx hb dL_law_233 rfl (lv_at hl 0 rfl) ?_
      refine lv_iload (pc := 234) hx hb dL_law_234 (lv_at hl 4 rfl) ?_
      refine lv_iconst (pc := 236) (v := (1 : Int32)) hx hb dL_law_236 (by decide) ?_
      refine lv_iadd (pc := 237) hx hb dL_law_237 ?_
      refine va_sld (pc := 238) hx hb hX hbl hbA hS h_in1 dL_law_238 ?_
      refine lv_aload_n (pc := 239) hx hb dL_law_239 rfl (lv_at hl 0 rfl) ?_
      refine lv_iload (pc := 240) hx hb dL_law_240 (lv_at hl 4 rfl) ?_
      refine lv_iconst (pc := 242) (v := (2 : Int32)) hx hb dL_law_242 (by decide) ?_
      refine lv_iadd (pc := 243) hx hb dL_law_243 ?_
      refine va_sld (pc := 244) hx hb hX hbl hbA hS h_in2 dL_law_244 ?_
      refine lv_aload_n (pc := 245) hx hb dL_law_245 rfl (lv_at hl 0 rfl) ?_
      refine lv_iload (pc := 246) hx hb dL_law_246 (lv_at hl 4 rfl) ?_
      refine lv_iconst (pc := 248) (v := (3 : Int32)) hx hb dL_law_248 (by decide) ?_
      refine lv_iadd (pc := 249) hx hb dL_law_249 ?_
      refine va_sld (pc := 250) hx hb hX hbl hbA hS h_in3 dL_law_250 ?_
      refine lv_aload_n (pc := 251) hx hb dL_law_251 rfl (lv_at hl 3 rfl) ?_
      refine rg_I2 (pc := 252) (z := (N1, k)) hW1 hW2 hS gd1 hA (rn_SW (hh := [(0, 12, 15, 13), (0, 12, 19, 15)]) (As := [.ref x, .int (xs (x4 + (1 : Int32)).toNatClampNeg), .int (xs (x4 + (2 : Int32)).toNatClampNeg), .int (xs (x4 + (3 : Int32)).toNatClampNeg), .ref o]) (rest := []) hC ⟨hW1, hS⟩ (c_L_moon hlt h1 _) m_398 m_399 m_0 m_400 hd_L_moon ⟨rfl, rfl, Nat.le_of_ble_eq_true rfl, Nat.le_of_ble_eq_true rfl⟩ rfl hl.1 rfl (Nat.le_of_ble_eq_true rfl) dL_law_252 ⟨by show _ ≤ 601024; omega, by show _ ≤ 7293034; omega⟩) (fun H locs hW1 hW2 hS => ?_)
      refine lv_istore (pc := 255) (lv' := [(5, .int k), (0, .ref b), (1, .ref x), (2, .ref d), (3, .ref o), (4, .int x4)]) hx hb dL_law_255 hl (by decide) rfl (fun ls hl => ?_)
      refine lv_aload_n (pc := 257) hx hb dL_law_257 rfl (lv_at hl 3 rfl) ?_
      refine lv_aload_n (pc := 258) hx hb dL_law_258 rfl (lv_at hl 1 rfl) ?_
      refine lv_iload (pc := 259) hx hb dL_law_259 (lv_at hl 5 rfl) ?_
      refine lv_iconst (pc := 261) (v := (1 : Int32)) hx hb dL_law_261 (by decide) ?_
      refine lv_iadd (pc := 262) hx hb dL_law_262 ?_
      refine va_sld (pc := 263) hx hb hX hbl hbA hS h_in1 dL_law_263 ?_
      refine lv_aload_n (pc := 264) hx hb dL_law_264 rfl (lv_at hl 1 rfl) ?_
      refine lv_iload (pc := 265) hx hb dL_law_265 (lv_at hl 5 rfl) ?_
      refine lv_iconst (pc := 267) (v := (2 : Int32)) hx hb dL_law_267 (by decide) ?_
      refine lv_iadd (pc := 268) hx hb dL_law_268 ?_
      refine va_sld (pc := 269) hx hb hX hbl hbA hS h_in2 dL_law_269 ?_
      refine lv_aload_n (pc := 270) hx hb dL_law_270 rfl (lv_at hl 1 rfl) ?_
      refine lv_iload (pc := 271) hx hb dL_law_271 (lv_at hl 5 rfl) ?_
      refine lv_iconst (pc := 273) (v := (3 : Int32)) hx hb dL_law_273 (by decide) ?_
      refine lv_iadd (pc := 274) hx hb dL_law_274 ?_
      refine va_sld (pc := 275) hx hb hX hbl hbA hS h_in3 dL_law_275 ?_
      have hdq : ∀ q, N1.1 q < 16 → ¬ M2.1 q < 16 := hap M1 M2 N1 N2 hI hI1
      refine rg_I2 (pc := 276) (z := (N2, v)) hW2 hW1 hS hdq hA (rn_V (κ := 8) (As := [.int (xs (x4 + (1 : Int32)).toNatClampNeg), .int (xs (x4 + (2 : Int32)).toNatClampNeg), .int (xs (x4 + (3 : Int32)).toNatClampNeg)]) (rest := []) hC ⟨hW2, hS⟩ rfl (by decide) g2 (c_X8_moon h2 _) m_800 m_801 m_802 m_9 m_803 hd_X8_moon ⟨rfl, rfl, Nat.le_of_ble_eq_true rfl, Nat.le_of_ble_eq_true rfl⟩ rfl hl.1 rfl (Nat.le_of_ble_eq_true rfl) dL_law_276 ⟨by show _ ≤ 601024; omega, by show _ ≤ 7293034; omega⟩) (fun H locs hW2 hW1 hS => ?_)
      refine lv_istore (pc := 279) (lv' := [(6, .int v), (5, .int k), (0, .ref b), (1, .ref x), (2, .ref d), (3, .ref o), (4, .int x4)]) hx hb dL_law_279 hl (by decide) rfl (fun ls hl => ?_)
      refine lv_aload_n (pc := 281) hx hb dL_law_281 rfl (lv_at hl 4 rfl) ?_
      refine rg_I2 (pc := 282) (z := (N2, k)) hW2 hW1 hS (fun q h h2 => gd1n q h2 h) hA (rn_V (κ := 8) (As := []) (rest := []) hC ⟨hW2, hS⟩ rfl (by decide) g2n (c_X8_thrown h3 _) m_781 m_782 m_783 m_9 m_784 hd_X8_thrown ⟨rfl, rfl, Nat.le_of_ble_eq_true rfl, Nat.le_of_ble_eq_true rfl⟩ rfl hl.1 rfl (Nat.le_of_ble_eq_true rfl) dL_law_282 ⟨by show _ ≤ 601024; omega, by show _ ≤ 7293034; omega⟩) (fun H locs hW2 hW1 hS => ?_)
      refine lv_iload (pc := 285) hx hb dL_law_285 (lv_at hl 1 rfl) ?_
      refine lv_icmp_eq (pc := 287) (tgt := 292) hx hb dL_law_287 (by decide) (fun hc => ?_) (fun hc => absurd rfl hc)
      refine lv_iload (pc := 292) hx hb dL_law_292 (lv_at hl 1 rfl) ?_
      refine lv_if_ne (pc := 294) (tgt := 309) hx hb dL_law_294 (by decide) (fun hc => ?_) (fun hc => ?_)
      · refine lv_goto (pc := 309) (tgt := 1398) hx hb dL_law_309 (by decide) ?_
        obtain ⟨y4, ey4⟩ : ∃ z : Int32, z = x4 + (5 : Int32) := ⟨_, rfl⟩
        refine lv_iinc (pc := 1398) (v := y4) (lv' := [(4, .int y4), (6, .int v), (5, .int k), (0, .ref b), (1, .ref x), (2, .ref d), (3, .ref o)]) hx hb dL_law_1398 hl (k := 6) rfl (by rw [ey4]; rfl) (by decide) rfl (fun ls hl => ?_)
        refine lv_goto (pc := 1401) (tgt := 23) hx hb dL_law_1401 (by decide) ?_
        exact ih (i + 5) y4 _ _ N1 N2 _ _ hi5 (by omega) (by rw [ey4, ex4]; exact nI_add i 5) (by omega) (by omega) hI1 hW1 hW2 hS ls (lv_sub hl [3, 4, 5, 6, 0] rfl)
      · have h4k := h4 hc
        refine lv_aload_n (pc := 297) hx hb dL_law_297 rfl (lv_at hl 5 rfl) ?_
        refine lv_iconst (pc := 298) (v := (0 : Int32)) hx hb dL_law_298 (by decide) ?_
        refine rg_lald (pc := 299) (r := ()) (g := some ()) hx hb hK ⟨hW1, hS⟩ dL_law_299 (by unfold gd; rw [if_pos ⟨g3n, by rw [g4n]; decide⟩]) (fun _ => ?_)
        refine lv_iload (pc := 300) hx hb dL_law_300 (lv_at hl 0 rfl) ?_
        refine lv_i2l (pc := 302) hx hb dL_law_302 rfl ?_
        refine W.lcmp (pc := 303) hx hb dL_law_303 ?_
        refine lv_if_eq (pc := 304) (tgt := 309) hx hb dL_law_304 (by decide) (fun hc => ?_) (fun hc => absurd (by show lg_cmp (mm_l N1 o 0) _ = 0; rw [h4k]; exact lg_same _) hc)
        refine lv_goto (pc := 309) (tgt := 1398) hx hb dL_law_309 (by decide) ?_
        obtain ⟨y4, ey4⟩ : ∃ z : Int32, z = x4 + (5 : Int32) := ⟨_, rfl⟩
        refine lv_iinc (pc := 1398) (v := y4) (lv' := [(4, .int y4), (6, .int v), (5, .int k), (0, .ref b), (1, .ref x), (2, .ref d), (3, .ref o)]) hx hb dL_law_1398 hl (k := 6) rfl (by rw [ey4]; rfl) (by decide) rfl (fun ls hl => ?_)
        refine lv_goto (pc := 1401) (tgt := 23) hx hb dL_law_1401 (by decide) ?_
        exact ih (i + 5) y4 _ _ N1 N2 _ _ hi5 (by omega) (by rw [ey4, ex4]; exact nI_add i 5) (by omega) (by omega) hI1 hW1 hW2 hS ls (lv_sub hl [3, 4, 5, 6, 0] rfl)
    by_cases hw2 : w = (2 : Int32)
    · refine lv_tableIn (pc := 39) (off := 273) (tgt := 312) hx hb dL_law_39 (by rw [hw2]; decide) (by rw [hw2]; decide) (by rw [hw2]; decide) (by decide) ?_
      obtain ⟨N1, k, N2, v, h1, h2, h3, h4, hI1⟩ := op_flatness (xs (x4 + (1 : Int32)).toNatClampNeg) M1 M2 hI
      obtain ⟨g1, g2, g3, g4, gd1⟩ := hK0 _ _ hI
      obtain ⟨g1n, g2n, g3n, g4n, gd1n⟩ := hK0 _ _ hI1
      have gdr : ∀ q, M1.1 q < 16 → ¬ M2.1 q < 16 := fun q h h2 => gd1 q h2 h
      refine lv_aload_n (pc := 312) hx hb dL_law_312 rfl (lv_at hl 1 rfl) ?_
      refine lv_aload_n (pc := 313) hx hb dL_law_313 rfl (lv_at hl 0 rfl) ?_
      refine lv_iload (pc := 314) hx hb dL_law_314 (lv_at hl 4 rfl) ?_
      refine lv_iconst (pc := 316) (v := (1 : Int32)) hx hb dL_law_316 (by decide) ?_
      refine lv_iadd (pc := 317) hx hb dL_law_317 ?_
      refine va_sld (pc := 318) hx hb hX hbl hbA hS h_in1 dL_law_318 ?_
      refine lv_aload_n (pc := 319) hx hb dL_law_319 rfl (lv_at hl 3 rfl) ?_
      refine rg_I2 (pc := 320) (z := (N1, k)) hW1 hW2 hS gd1 hA (rn_SW (hh := [(0, 9, 12, 13)]) (As := [.ref x, .int (xs (x4 + (1 : Int32)).toNatClampNeg), .ref o]) (rest := []) hC ⟨hW1, hS⟩ (c_L_flatness hlt h1 _) m_409 m_410 m_0 m_411 hd_L_flatness ⟨rfl, rfl, Nat.le_of_ble_eq_true rfl, Nat.le_of_ble_eq_true rfl⟩ rfl hl.1 rfl (Nat.le_of_ble_eq_true rfl) dL_law_320 ⟨by show _ ≤ 601024; omega, by show _ ≤ 7293034; omega⟩) (fun H locs hW1 hW2 hS => ?_)
      refine lv_istore (pc := 323) (lv' := [(5, .int k), (0, .ref b), (1, .ref x), (2, .ref d), (3, .ref o), (4, .int x4)]) hx hb dL_law_323 hl (by decide) rfl (fun ls hl => ?_)
      refine lv_aload_n (pc := 325) hx hb dL_law_325 rfl (lv_at hl 3 rfl) ?_
      refine lv_aload_n (pc := 326) hx hb dL_law_326 rfl (lv_at hl 1 rfl) ?_
      refine lv_iload (pc := 327) hx hb dL_law_327 (lv_at hl 5 rfl) ?_
      refine lv_iconst (pc := 329) (v := (1 : Int32)) hx hb dL_law_329 (by decide) ?_
      refine lv_iadd (pc := 330) hx hb dL_law_330 ?_
      refine va_sld (pc := 331) hx hb hX hbl hbA hS h_in1 dL_law_331 ?_
      have hdq : ∀ q, N1.1 q < 16 → ¬ M2.1 q < 16 := hap M1 M2 N1 N2 hI hI1
      refine rg_I2 (pc := 332) (z := (N2, v)) hW2 hW1 hS hdq hA (rn_V (κ := 8) (As := [.int (xs (x4 + (1 : Int32)).toNatClampNeg)]) (rest := []) hC ⟨hW2, hS⟩ rfl (by decide) g2 (c_X8_flatness h2 _) m_804 m_805 m_806 m_9 m_807 hd_X8_flatness ⟨rfl, rfl, Nat.le_of_ble_eq_true rfl, Nat.le_of_ble_eq_true rfl⟩ rfl hl.1 rfl (Nat.le_of_ble_eq_true rfl) dL_law_332 ⟨by show _ ≤ 601024; omega, by show _ ≤ 7293034; omega⟩) (fun H locs hW2 hW1 hS => ?_)
      refine lv_istore (pc := 335) (lv' := [(6, .int v), (5, .int k), (0, .ref b), (1, .ref x), (2, .ref d), (3, .ref o), (4, .int x4)]) hx hb dL_law_335 hl (by decide) rfl (fun ls hl => ?_)
      refine lv_aload_n (pc := 337) hx hb dL_law_337 rfl (lv_at hl 4 rfl) ?_
      refine rg_I2 (pc := 338) (z := (N2, k)) hW2 hW1 hS (fun q h h2 => gd1n q h2 h) hA (rn_V (κ := 8) (As := []) (rest := []) hC ⟨hW2, hS⟩ rfl (by decide) g2n (c_X8_thrown h3 _) m_781 m_782 m_783 m_9 m_784 hd_X8_thrown ⟨rfl, rfl, Nat.le_of_ble_eq_true rfl, Nat.le_of_ble_eq_true rfl⟩ rfl hl.1 rfl (Nat.le_of_ble_eq_true rfl) dL_law_338 ⟨by show _ ≤ 601024; omega, by show _ ≤ 7293034; omega⟩) (fun H locs hW2 hW1 hS => ?_)
      refine lv_iload (pc := 341) hx hb dL_law_341 (lv_at hl 1 rfl) ?_
      refine lv_icmp_eq (pc := 343) (tgt := 348) hx hb dL_law_343 (by decide) (fun hc => ?_) (fun hc => absurd rfl hc)
      refine lv_iload (pc := 348) hx hb dL_law_348 (lv_at hl 1 rfl) ?_
      refine lv_if_ne (pc := 350) (tgt := 365) hx hb dL_law_350 (by decide) (fun hc => ?_) (fun hc => ?_)
      · refine lv_goto (pc := 365) (tgt := 1398) hx hb dL_law_365 (by decide) ?_
        obtain ⟨y4, ey4⟩ : ∃ z : Int32, z = x4 + (5 : Int32) := ⟨_, rfl⟩
        refine lv_iinc (pc := 1398) (v := y4) (lv' := [(4, .int y4), (6, .int v), (5, .int k), (0, .ref b), (1, .ref x), (2, .ref d), (3, .ref o)]) hx hb dL_law_1398 hl (k := 6) rfl (by rw [ey4]; rfl) (by decide) rfl (fun ls hl => ?_)
        refine lv_goto (pc := 1401) (tgt := 23) hx hb dL_law_1401 (by decide) ?_
        exact ih (i + 5) y4 _ _ N1 N2 _ _ hi5 (by omega) (by rw [ey4, ex4]; exact nI_add i 5) (by omega) (by omega) hI1 hW1 hW2 hS ls (lv_sub hl [3, 4, 5, 6, 0] rfl)
      · have h4k := h4 hc
        refine lv_aload_n (pc := 353) hx hb dL_law_353 rfl (lv_at hl 5 rfl) ?_
        refine lv_iconst (pc := 354) (v := (0 : Int32)) hx hb dL_law_354 (by decide) ?_
        refine rg_lald (pc := 355) (r := ()) (g := some ()) hx hb hK ⟨hW1, hS⟩ dL_law_355 (by unfold gd; rw [if_pos ⟨g3n, by rw [g4n]; decide⟩]) (fun _ => ?_)
        refine lv_iload (pc := 356) hx hb dL_law_356 (lv_at hl 0 rfl) ?_
        refine lv_i2l (pc := 358) hx hb dL_law_358 rfl ?_
        refine W.lcmp (pc := 359) hx hb dL_law_359 ?_
        refine lv_if_eq (pc := 360) (tgt := 365) hx hb dL_law_360 (by decide) (fun hc => ?_) (fun hc => absurd (by show lg_cmp (mm_l N1 o 0) _ = 0; rw [h4k]; exact lg_same _) hc)
        refine lv_goto (pc := 365) (tgt := 1398) hx hb dL_law_365 (by decide) ?_
        obtain ⟨y4, ey4⟩ : ∃ z : Int32, z = x4 + (5 : Int32) := ⟨_, rfl⟩
        refine lv_iinc (pc := 1398) (v := y4) (lv' := [(4, .int y4), (6, .int v), (5, .int k), (0, .ref b), (1, .ref x), (2, .ref d), (3, .ref o)]) hx hb dL_law_1398 hl (k := 6) rfl (by rw [ey4]; rfl) (by decide) rfl (fun ls hl => ?_)
        refine lv_goto (pc := 1401) (tgt := 23) hx hb dL_law_1401 (by decide) ?_
        exact ih (i + 5) y4 _ _ N1 N2 _ _ hi5 (by omega) (by rw [ey4, ex4]; exact nI_add i 5) (by omega) (by omega) hI1 hW1 hW2 hS ls (lv_sub hl [3, 4, 5, 6, 0] rfl)
    by_cases hw3 : w = (3 : Int32)
    · refine lv_tableIn (pc := 39) (off := 329) (tgt := 368) hx hb dL_law_39 (by rw [hw3]; decide) (by rw [hw3]; decide) (by rw [hw3]; decide) (by decide) ?_
      obtain ⟨N1, k, N2, h1, h2, h3, hI1⟩ := op_bounds (xs (x4 + (1 : Int32)).toNatClampNeg) (xs (x4 + (2 : Int32)).toNatClampNeg) (xs (x4 + (3 : Int32)).toNatClampNeg) M1 M2 hI
      obtain ⟨g1, g2, g3, g4, gd1⟩ := hK0 _ _ hI
      obtain ⟨g1n, g2n, g3n, g4n, gd1n⟩ := hK0 _ _ hI1
      have gdr : ∀ q, M1.1 q < 16 → ¬ M2.1 q < 16 := fun q h h2 => gd1 q h2 h
      refine lv_aload_n (pc := 368) hx hb dL_law_368 rfl (lv_at hl 1 rfl) ?_
      refine lv_aload_n (pc := 369) hx hb dL_law_369 rfl (lv_at hl 0 rfl) ?_
      refine lv_iload (pc := 370) hx hb dL_law_370 (lv_at hl 4 rfl) ?_
      refine lv_iconst (pc := 372) (v := (1 : Int32)) hx hb dL_law_372 (by decide) ?_
      refine lv_iadd (pc := 373) hx hb dL_law_373 ?_
      refine va_sld (pc := 374) hx hb hX hbl hbA hS h_in1 dL_law_374 ?_
      refine lv_aload_n (pc := 375) hx hb dL_law_375 rfl (lv_at hl 0 rfl) ?_
      refine lv_iload (pc := 376) hx hb dL_law_376 (lv_at hl 4 rfl) ?_
      refine lv_iconst (pc := 378) (v := (2 : Int32)) hx hb dL_law_378 (by decide) ?_
      refine lv_iadd (pc := 379) hx hb dL_law_379 ?_
      refine va_sld (pc := 380) hx hb hX hbl hbA hS h_in2 dL_law_380 ?_
      refine lv_aload_n (pc := 381) hx hb dL_law_381 rfl (lv_at hl 0 rfl) ?_
      refine lv_iload (pc := 382) hx hb dL_law_382 (lv_at hl 4 rfl) ?_
      refine lv_iconst (pc := 384) (v := (3 : Int32)) hx hb dL_law_384 (by decide) ?_
      refine lv_iadd (pc := 385) hx hb dL_law_385 ?_
      refine va_sld (pc := 386) hx hb hX hbl hbA hS h_in3 dL_law_386 ?_
      refine rg_I2 (pc := 387) (z := (N1, k)) hW1 hW2 hS gd1 hA (rn_SW (hh := [(0, 7, 10, 13)]) (As := [.ref x, .int (xs (x4 + (1 : Int32)).toNatClampNeg), .int (xs (x4 + (2 : Int32)).toNatClampNeg), .int (xs (x4 + (3 : Int32)).toNatClampNeg)]) (rest := []) hC ⟨hW1, hS⟩ (c_L_bounds hlt h1 _) m_416 m_417 m_0 m_418 hd_L_bounds ⟨rfl, rfl, Nat.le_of_ble_eq_true rfl, Nat.le_of_ble_eq_true rfl⟩ rfl hl.1 rfl (Nat.le_of_ble_eq_true rfl) dL_law_387 ⟨by show _ ≤ 601024; omega, by show _ ≤ 7293034; omega⟩) (fun H locs hW1 hW2 hS => ?_)
      refine lv_istore (pc := 390) (lv' := [(5, .int k), (0, .ref b), (1, .ref x), (2, .ref d), (3, .ref o), (4, .int x4)]) hx hb dL_law_390 hl (by decide) rfl (fun ls hl => ?_)
      refine lv_aload_n (pc := 392) hx hb dL_law_392 rfl (lv_at hl 3 rfl) ?_
      refine lv_aload_n (pc := 393) hx hb dL_law_393 rfl (lv_at hl 1 rfl) ?_
      refine lv_iload (pc := 394) hx hb dL_law_394 (lv_at hl 5 rfl) ?_
      refine lv_iconst (pc := 396) (v := (1 : Int32)) hx hb dL_law_396 (by decide) ?_
      refine lv_iadd (pc := 397) hx hb dL_law_397 ?_
      refine va_sld (pc := 398) hx hb hX hbl hbA hS h_in1 dL_law_398 ?_
      refine lv_aload_n (pc := 399) hx hb dL_law_399 rfl (lv_at hl 1 rfl) ?_
      refine lv_iload (pc := 400) hx hb dL_law_400 (lv_at hl 5 rfl) ?_
      refine lv_iconst (pc := 402) (v := (2 : Int32)) hx hb dL_law_402 (by decide) ?_
      refine lv_iadd (pc := 403) hx hb dL_law_403 ?_
      refine va_sld (pc := 404) hx hb hX hbl hbA hS h_in2 dL_law_404 ?_
      refine lv_aload_n (pc := 405) hx hb dL_law_405 rfl (lv_at hl 1 rfl) ?_
      refine lv_iload (pc := 406) hx hb dL_law_406 (lv_at hl 5 rfl) ?_
      refine lv_iconst (pc := 408) (v := (3 : Int32)) hx hb dL_law_408 (by decide) ?_
      refine lv_iadd (pc := 409) hx hb dL_law_409 ?_
      refine va_sld (pc := 410) hx hb hX hbl hbA hS h_in3 dL_law_410 ?_
      have hdq : ∀ q, N1.1 q < 16 → ¬ M2.1 q < 16 := hap M1 M2 N1 N2 hI hI1
      refine rg_V2 (pc := 411) (z := N2) hW2 hW1 hS hdq hA (rn_V (κ := 8) (As := [.int (xs (x4 + (1 : Int32)).toNatClampNeg), .int (xs (x4 + (2 : Int32)).toNatClampNeg), .int (xs (x4 + (3 : Int32)).toNatClampNeg)]) (rest := []) hC ⟨hW2, hS⟩ rfl (by decide) g2 (c_X8_bounds h2 _) m_808 m_809 m_810 m_9 m_811 hd_X8_bounds ⟨rfl, rfl, Nat.le_of_ble_eq_true rfl, Nat.le_of_ble_eq_true rfl⟩ rfl hl.1 rfl (Nat.le_of_ble_eq_true rfl) dL_law_411 ⟨by show _ ≤ 601024; omega, by show _ ≤ 7293034; omega⟩) (fun H locs hW2 hW1 hS => ?_)
      refine lv_aload_n (pc := 414) hx hb dL_law_414 rfl (lv_at hl 3 rfl) ?_
      refine rg_I2 (pc := 415) (z := (N2, k)) hW2 hW1 hS (fun q h h2 => gd1n q h2 h) hA (rn_V (κ := 8) (As := []) (rest := []) hC ⟨hW2, hS⟩ rfl (by decide) g2n (c_X8_thrown h3 _) m_781 m_782 m_783 m_9 m_784 hd_X8_thrown ⟨rfl, rfl, Nat.le_of_ble_eq_true rfl, Nat.le_of_ble_eq_true rfl⟩ rfl hl.1 rfl (Nat.le_of_ble_eq_true rfl) dL_law_415 ⟨by show _ ≤ 601024; omega, by show _ ≤ 7293034; omega⟩) (fun H locs hW2 hW1 hS => ?_)
      refine lv_iload (pc := 418) hx hb dL_law_418 (lv_at hl 0 rfl) ?_
      refine lv_icmp_eq (pc := 420) (tgt := 425) hx hb dL_law_420 (by decide) (fun hc => ?_) (fun hc => absurd rfl hc)
      refine lv_goto (pc := 425) (tgt := 1398) hx hb dL_law_425 (by decide) ?_
      obtain ⟨y4, ey4⟩ : ∃ z : Int32, z = x4 + (5 : Int32) := ⟨_, rfl⟩
      refine lv_iinc (pc := 1398) (v := y4) (lv' := [(4, .int y4), (5, .int k), (0, .ref b), (1, .ref x), (2, .ref d), (3, .ref o)]) hx hb dL_law_1398 hl (k := 5) rfl (by rw [ey4]; rfl) (by decide) rfl (fun ls hl => ?_)
      refine lv_goto (pc := 1401) (tgt := 23) hx hb dL_law_1401 (by decide) ?_
      exact ih (i + 5) y4 _ _ N1 N2 _ _ hi5 (by omega) (by rw [ey4, ex4]; exact nI_add i 5) (by omega) (by omega) hI1 hW1 hW2 hS ls (lv_sub hl [2, 3, 4, 5, 0] rfl)
    by_cases hw4 : w = (4 : Int32)
    · refine lv_tableIn (pc := 39) (off := 389) (tgt := 428) hx hb dL_law_39 (by rw [hw4]; decide) (by rw [hw4]; decide) (by rw [hw4]; decide) (by decide) ?_
      obtain ⟨N1, k, N2, v, h1, h2, h3, h4, hI1⟩ := op_tick (xs (x4 + (1 : Int32)).toNatClampNeg) M1 M2 hI
      obtain ⟨g1, g2, g3, g4, gd1⟩ := hK0 _ _ hI
      obtain ⟨g1n, g2n, g3n, g4n, gd1n⟩ := hK0 _ _ hI1
      have gdr : ∀ q, M1.1 q < 16 → ¬ M2.1 q < 16 := fun q h h2 => gd1 q h2 h
      refine lv_aload_n (pc := 428) hx hb dL_law_428 rfl (lv_at hl 1 rfl) ?_
      refine lv_aload_n (pc := 429) hx hb dL_law_429 rfl (lv_at hl 0 rfl) ?_
      refine lv_iload (pc := 430) hx hb dL_law_430 (lv_at hl 4 rfl) ?_
      refine lv_iconst (pc := 432) (v := (1 : Int32)) hx hb dL_law_432 (by decide) ?_
      refine lv_iadd (pc := 433) hx hb dL_law_433 ?_
      refine va_sld (pc := 434) hx hb hX hbl hbA hS h_in1 dL_law_434 ?_
      refine lv_aload_n (pc := 435) hx hb dL_law_435 rfl (lv_at hl 3 rfl) ?_
      refine rg_I2 (pc := 436) (z := (N1, k)) hW1 hW2 hS gd1 hA (rn_SW (hh := [(0, 9, 12, 13), (0, 9, 15, 15)]) (As := [.ref x, .int (xs (x4 + (1 : Int32)).toNatClampNeg), .ref o]) (rest := []) hC ⟨hW1, hS⟩ (c_L_tick hlt h1 _) m_423 m_424 m_0 m_425 hd_L_tick ⟨rfl, rfl, Nat.le_of_ble_eq_true rfl, Nat.le_of_ble_eq_true rfl⟩ rfl hl.1 rfl (Nat.le_of_ble_eq_true rfl) dL_law_436 ⟨by show _ ≤ 601024; omega, by show _ ≤ 7293034; omega⟩) (fun H locs hW1 hW2 hS => ?_)
      refine lv_istore (pc := 439) (lv' := [(5, .int k), (0, .ref b), (1, .ref x), (2, .ref d), (3, .ref o), (4, .int x4)]) hx hb dL_law_439 hl (by decide) rfl (fun ls hl => ?_)
      refine lv_aload_n (pc := 441) hx hb dL_law_441 rfl (lv_at hl 3 rfl) ?_
      refine lv_aload_n (pc := 442) hx hb dL_law_442 rfl (lv_at hl 1 rfl) ?_
      refine lv_iload (pc := 443) hx hb dL_law_443 (lv_at hl 5 rfl) ?_
      refine lv_iconst (pc := 445) (v := (1 : Int32)) hx hb dL_law_445 (by decide) ?_
      refine lv_iadd (pc := 446) hx hb dL_law_446 ?_
      refine va_sld (pc := 447) hx hb hX hbl hbA hS h_in1 dL_law_447 ?_
      have hdq : ∀ q, N1.1 q < 16 → ¬ M2.1 q < 16 := hap M1 M2 N1 N2 hI hI1
      refine rg_I2 (pc := 448) (z := (N2, v)) hW2 hW1 hS hdq hA (rn_V (κ := 8) (As := [.int (xs (x4 + (1 : Int32)).toNatClampNeg)]) (rest := []) hC ⟨hW2, hS⟩ rfl (by decide) g2 (c_X8_tick h2 _) m_812 m_813 m_814 m_9 m_815 hd_X8_tick ⟨rfl, rfl, Nat.le_of_ble_eq_true rfl, Nat.le_of_ble_eq_true rfl⟩ rfl hl.1 rfl (Nat.le_of_ble_eq_true rfl) dL_law_448 ⟨by show _ ≤ 601024; omega, by show _ ≤ 7293034; omega⟩) (fun H locs hW2 hW1 hS => ?_)
      refine lv_istore (pc := 451) (lv' := [(6, .int v), (5, .int k), (0, .ref b), (1, .ref x), (2, .ref d), (3, .ref o), (4, .int x4)]) hx hb dL_law_451 hl (by decide) rfl (fun ls hl => ?_)
      refine lv_aload_n (pc := 453) hx hb dL_law_453 rfl (lv_at hl 4 rfl) ?_
      refine rg_I2 (pc := 454) (z := (N2, k)) hW2 hW1 hS (fun q h h2 => gd1n q h2 h) hA (rn_V (κ := 8) (As := []) (rest := []) hC ⟨hW2, hS⟩ rfl (by decide) g2n (c_X8_thrown h3 _) m_781 m_782 m_783 m_9 m_784 hd_X8_thrown ⟨rfl, rfl, Nat.le_of_ble_eq_true rfl, Nat.le_of_ble_eq_true rfl⟩ rfl hl.1 rfl (Nat.le_of_ble_eq_true rfl) dL_law_454 ⟨by show _ ≤ 601024; omega, by show _ ≤ 7293034; omega⟩) (fun H locs hW2 hW1 hS => ?_)
      refine lv_iload (pc := 457) hx hb dL_law_457 (lv_at hl 1 rfl) ?_
      refine lv_icmp_eq (pc := 459) (tgt := 464) hx hb dL_law_459 (by decide) (fun hc => ?_) (fun hc => absurd rfl hc)
      refine lv_iload (pc := 464) hx hb dL_law_464 (lv_at hl 1 rfl) ?_
      refine lv_if_ne (pc := 466) (tgt := 481) hx hb dL_law_466 (by decide) (fun hc => ?_) (fun hc => ?_)
      · refine lv_goto (pc := 481) (tgt := 1398) hx hb dL_law_481 (by decide) ?_
        obtain ⟨y4, ey4⟩ : ∃ z : Int32, z = x4 + (5 : Int32) := ⟨_, rfl⟩
        refine lv_iinc (pc := 1398) (v := y4) (lv' := [(4, .int y4), (6, .int v), (5, .int k), (0, .ref b), (1, .ref x), (2, .ref d), (3, .ref o)]) hx hb dL_law_1398 hl (k := 6) rfl (by rw [ey4]; rfl) (by decide) rfl (fun ls hl => ?_)
        refine lv_goto (pc := 1401) (tgt := 23) hx hb dL_law_1401 (by decide) ?_
        exact ih (i + 5) y4 _ _ N1 N2 _ _ hi5 (by omega) (by rw [ey4, ex4]; exact nI_add i 5) (by omega) (by omega) hI1 hW1 hW2 hS ls (lv_sub hl [3, 4, 5, 6, 0] rfl)
      · have h4k := h4 hc
        refine lv_aload_n (pc := 469) hx hb dL_law_469 rfl (lv_at hl 5 rfl) ?_
        refine lv_iconst (pc := 470) (v := (0 : Int32)) hx hb dL_law_470 (by decide) ?_
        refine rg_lald (pc := 471) (r := ()) (g := some ()) hx hb hK ⟨hW1, hS⟩ dL_law_471 (by unfold gd; rw [if_pos ⟨g3n, by rw [g4n]; decide⟩]) (fun _ => ?_)
        refine lv_iload (pc := 472) hx hb dL_law_472 (lv_at hl 0 rfl) ?_
        refine lv_i2l (pc := 474) hx hb dL_law_474 rfl ?_
        refine W.lcmp (pc := 475) hx hb dL_law_475 ?_
        refine lv_if_eq (pc := 476) (tgt := 481) hx hb dL_law_476 (by decide) (fun hc => ?_) (fun hc => absurd (by show lg_cmp (mm_l N1 o 0) _ = 0; rw [h4k]; exact lg_same _) hc)
        refine lv_goto (pc := 481) (tgt := 1398) hx hb dL_law_481 (by decide) ?_
        obtain ⟨y4, ey4⟩ : ∃ z : Int32, z = x4 + (5 : Int32) := ⟨_, rfl⟩
        refine lv_iinc (pc := 1398) (v := y4) (lv' := [(4, .int y4), (6, .int v), (5, .int k), (0, .ref b), (1, .ref x), (2, .ref d), (3, .ref o)]) hx hb dL_law_1398 hl (k := 6) rfl (by rw [ey4]; rfl) (by decide) rfl (fun ls hl => ?_)
        refine lv_goto (pc := 1401) (tgt := 23) hx hb dL_law_1401 (by decide) ?_
        exact ih (i + 5) y4 _ _ N1 N2 _ _ hi5 (by omega) (by rw [ey4, ex4]; exact nI_add i 5) (by omega) (by omega) hI1 hW1 hW2 hS ls (lv_sub hl [3, 4, 5, 6, 0] rfl)
    by_cases hw5 : w = (5 : Int32)
    · refine lv_tableIn (pc := 39) (off := 445) (tgt := 484) hx hb dL_law_39 (by rw [hw5]; decide) (by rw [hw5]; decide) (by rw [hw5]; decide) (by decide) ?_
      obtain ⟨N1, k, N2, v, h1, h2, h3, h4, hI1⟩ := op_frame  M1 M2 hI
      obtain ⟨g1, g2, g3, g4, gd1⟩ := hK0 _ _ hI
      obtain ⟨g1n, g2n, g3n, g4n, gd1n⟩ := hK0 _ _ hI1
      have gdr : ∀ q, M1.1 q < 16 → ¬ M2.1 q < 16 := fun q h h2 => gd1 q h2 h
      refine lv_aload_n (pc := 484) hx hb dL_law_484 rfl (lv_at hl 1 rfl) ?_
      refine lv_aload_n (pc := 485) hx hb dL_law_485 rfl (lv_at hl 3 rfl) ?_
      refine rg_I2 (pc := 486) (z := (N1, k)) hW1 hW2 hS gd1 hA (rn_SW (hh := [(0, 8, 11, 15)]) (As := [.ref x, .ref o]) (rest := []) hC ⟨hW1, hS⟩ (c_L_frame hlt h1 _) m_510 m_511 m_0 m_512 hd_L_frame ⟨rfl, rfl, Nat.le_of_ble_eq_true rfl, Nat.le_of_ble_eq_true rfl⟩ rfl hl.1 rfl (Nat.le_of_ble_eq_true rfl) dL_law_486 ⟨by show _ ≤ 601024; omega, by show _ ≤ 7293034; omega⟩) (fun H locs hW1 hW2 hS => ?_)
      refine lv_istore (pc := 489) (lv' := [(5, .int k), (0, .ref b), (1, .ref x), (2, .ref d), (3, .ref o), (4, .int x4)]) hx hb dL_law_489 hl (by decide) rfl (fun ls hl => ?_)
      refine lv_aload_n (pc := 491) hx hb dL_law_491 rfl (lv_at hl 3 rfl) ?_
      have hdq : ∀ q, N1.1 q < 16 → ¬ M2.1 q < 16 := hap M1 M2 N1 N2 hI hI1
      refine rg_I2 (pc := 492) (z := (N2, v)) hW2 hW1 hS hdq hA (rn_V (κ := 8) (As := []) (rest := []) hC ⟨hW2, hS⟩ rfl (by decide) g2 (c_X8_frame h2 _) m_866 m_867 m_868 m_9 m_869 hd_X8_frame ⟨rfl, rfl, Nat.le_of_ble_eq_true rfl, Nat.le_of_ble_eq_true rfl⟩ rfl hl.1 rfl (Nat.le_of_ble_eq_true rfl) dL_law_492 ⟨by show _ ≤ 601024; omega, by show _ ≤ 7293034; omega⟩) (fun H locs hW2 hW1 hS => ?_)
      refine lv_istore (pc := 495) (lv' := [(6, .int v), (5, .int k), (0, .ref b), (1, .ref x), (2, .ref d), (3, .ref o), (4, .int x4)]) hx hb dL_law_495 hl (by decide) rfl (fun ls hl => ?_)
      refine lv_aload_n (pc := 497) hx hb dL_law_497 rfl (lv_at hl 4 rfl) ?_
      refine rg_I2 (pc := 498) (z := (N2, k)) hW2 hW1 hS (fun q h h2 => gd1n q h2 h) hA (rn_V (κ := 8) (As := []) (rest := []) hC ⟨hW2, hS⟩ rfl (by decide) g2n (c_X8_thrown h3 _) m_781 m_782 m_783 m_9 m_784 hd_X8_thrown ⟨rfl, rfl, Nat.le_of_ble_eq_true rfl, Nat.le_of_ble_eq_true rfl⟩ rfl hl.1 rfl (Nat.le_of_ble_eq_true rfl) dL_law_498 ⟨by show _ ≤ 601024; omega, by show _ ≤ 7293034; omega⟩) (fun H locs hW2 hW1 hS => ?_)
      refine lv_iload (pc := 501) hx hb dL_law_501 (lv_at hl 1 rfl) ?_
      refine lv_icmp_eq (pc := 503) (tgt := 508) hx hb dL_law_503 (by decide) (fun hc => ?_) (fun hc => absurd rfl hc)
      refine lv_iload (pc := 508) hx hb dL_law_508 (lv_at hl 1 rfl) ?_
      refine lv_if_ne (pc := 510) (tgt := 525) hx hb dL_law_510 (by decide) (fun hc => ?_) (fun hc => ?_)
      · refine lv_goto (pc := 525) (tgt := 1398) hx hb dL_law_525 (by decide) ?_
        obtain ⟨y4, ey4⟩ : ∃ z : Int32, z = x4 + (5 : Int32) := ⟨_, rfl⟩
        refine lv_iinc (pc := 1398) (v := y4) (lv' := [(4, .int y4), (6, .int v), (5, .int k), (0, .ref b), (1, .ref x), (2, .ref d), (3, .ref o)]) hx hb dL_law_1398 hl (k := 6) rfl (by rw [ey4]; rfl) (by decide) rfl (fun ls hl => ?_)
        refine lv_goto (pc := 1401) (tgt := 23) hx hb dL_law_1401 (by decide) ?_
        exact ih (i + 5) y4 _ _ N1 N2 _ _ hi5 (by omega) (by rw [ey4, ex4]; exact nI_add i 5) (by omega) (by omega) hI1 hW1 hW2 hS ls (lv_sub hl [3, 4, 5, 6, 0] rfl)
      · have h4k := h4 hc
        refine lv_aload_n (pc := 513) hx hb dL_law_513 rfl (lv_at hl 5 rfl) ?_
        refine lv_iconst (pc := 514) (v := (0 : Int32)) hx hb dL_law_514 (by decide) ?_
        refine rg_lald (pc := 515) (r := ()) (g := some ()) hx hb hK ⟨hW1, hS⟩ dL_law_515 (by unfold gd; rw [if_pos ⟨g3n, by rw [g4n]; decide⟩]) (fun _ => ?_)
        refine lv_iload (pc := 516) hx hb dL_law_516 (lv_at hl 0 rfl) ?_
        refine lv_i2l (pc := 518) hx hb dL_law_518 rfl ?_
        refine W.lcmp (pc := 519) hx hb dL_law_519 ?_
        refine lv_if_eq (pc := 520) (tgt := 525) hx hb dL_law_520 (by decide) (fun hc => ?_) (fun hc => absurd (by show lg_cmp (mm_l N1 o 0) _ = 0; rw [h4k]; exact lg_same _) hc)
        refine lv_goto (pc := 525) (tgt := 1398) hx hb dL_law_525 (by decide) ?_
        obtain ⟨y4, ey4⟩ : ∃ z : Int32, z = x4 + (5 : Int32) := ⟨_, rfl⟩
        refine lv_iinc (pc := 1398) (v := y4) (lv' := [(4, .int y4), (6, .int v), (5, .int k), (0, .ref b), (1, .ref x), (2, .ref d), (3, .ref o)]) hx hb dL_law_1398 hl (k := 6) rfl (by rw [ey4]; rfl) (by decide) rfl (fun ls hl => ?_)
        refine lv_goto (pc := 1401) (tgt := 23) hx hb dL_law_1401 (by decide) ?_
        exact ih (i + 5) y4 _ _ N1 N2 _ _ hi5 (by omega) (by rw [ey4, ex4]; exact nI_add i 5) (by omega) (by omega) hI1 hW1 hW2 hS ls (lv_sub hl [3, 4, 5, 6, 0] rfl)
    by_cases hw6 : w = (6 : Int32)
    · refine lv_tableIn (pc := 39) (off := 489) (tgt := 528) hx hb dL_law_39 (by rw [hw6]; decide) (by rw [hw6]; decide) (by rw [hw6]; decide) (by decide) ?_
      obtain ⟨N1, k, N2, v, h1, h2, h3, h4, hI1⟩ := op_claim (xs (x4 + (1 : Int32)).toNatClampNeg) (xs (x4 + (2 : Int32)).toNatClampNeg) (xs (x4 + (3 : Int32)).toNatClampNeg) (xs (x4 + (4 : Int32)).toNatClampNeg) M1 M2 hI
      obtain ⟨g1, g2, g3, g4, gd1⟩ := hK0 _ _ hI
      obtain ⟨g1n, g2n, g3n, g4n, gd1n⟩ := hK0 _ _ hI1
      have gdr : ∀ q, M1.1 q < 16 → ¬ M2.1 q < 16 := fun q h h2 => gd1 q h2 h
      refine lv_aload_n (pc := 528) hx hb dL_law_528 rfl (lv_at hl 1 rfl) ?_
      refine lv_aload_n (pc := 529) hx hb dL_law_529 rfl (lv_at hl 0 rfl) ?_
      refine lv_iload (pc := 530) hx hb dL_law_530 (lv_at hl 4 rfl) ?_
      refine lv_iconst (pc := 532) (v := (1 : Int32)) hx hb dL_law_532 (by decide) ?_
      refine lv_iadd (pc := 533) hx hb dL_law_533 ?_
      refine va_sld (pc := 534) hx hb hX hbl hbA hS h_in1 dL_law_534 ?_
      refine lv_aload_n (pc := 535) hx hb dL_law_535 rfl (lv_at hl 0 rfl) ?_
      refine lv_iload (pc := 536) hx hb dL_law_536 (lv_at hl 4 rfl) ?_
      refine lv_iconst (pc := 538) (v := (2 : Int32)) hx hb dL_law_538 (by decide) ?_
      refine lv_iadd (pc := 539) hx hb dL_law_539 ?_
      refine va_sld (pc := 540) hx hb hX hbl hbA hS h_in2 dL_law_540 ?_
      refine lv_aload_n (pc := 541) hx hb dL_law_541 rfl (lv_at hl 0 rfl) ?_
      refine lv_iload (pc := 542) hx hb dL_law_542 (lv_at hl 4 rfl) ?_
      refine lv_iconst (pc := 544) (v := (3 : Int32)) hx hb dL_law_544 (by decide) ?_
      refine lv_iadd (pc := 545) hx hb dL_law_545 ?_
      refine va_sld (pc := 546) hx hb hX hbl hbA hS h_in3 dL_law_546 ?_
      refine lv_aload_n (pc := 547) hx hb dL_law_547 rfl (lv_at hl 0 rfl) ?_
      refine lv_iload (pc := 548) hx hb dL_law_548 (lv_at hl 4 rfl) ?_
      refine lv_iconst (pc := 550) (v := (4 : Int32)) hx hb dL_law_550 (by decide) ?_
      refine lv_iadd (pc := 551) hx hb dL_law_551 ?_
      refine va_sld (pc := 552) hx hb hX hbl hbA hS h_in4 dL_law_552 ?_
      refine lv_aload_n (pc := 553) hx hb dL_law_553 rfl (lv_at hl 3 rfl) ?_
      refine rg_I2 (pc := 554) (z := (N1, k)) hW1 hW2 hS gd1 hA (rn_SW (hh := [(0, 14, 17, 39), (0, 14, 21, 13), (0, 14, 25, 15)]) (As := [.ref x, .int (xs (x4 + (1 : Int32)).toNatClampNeg), .int (xs (x4 + (2 : Int32)).toNatClampNeg), .int (xs (x4 + (3 : Int32)).toNatClampNeg), .int (xs (x4 + (4 : Int32)).toNatClampNeg), .ref o]) (rest := []) hC ⟨hW1, hS⟩ (c_L_claim hlt h1 _) m_518 m_519 m_0 m_520 hd_L_claim ⟨rfl, rfl, Nat.le_of_ble_eq_true rfl, Nat.le_of_ble_eq_true rfl⟩ rfl hl.1 rfl (Nat.le_of_ble_eq_true rfl) dL_law_554 ⟨by show _ ≤ 601024; omega, by show _ ≤ 7293034; omega⟩) (fun H locs hW1 hW2 hS => ?_)
      refine lv_istore (pc := 557) (lv' := [(5, .int k), (0, .ref b), (1, .ref x), (2, .ref d), (3, .ref o), (4, .int x4)]) hx hb dL_law_557 hl (by decide) rfl (fun ls hl => ?_)
      refine lv_aload_n (pc := 559) hx hb dL_law_559 rfl (lv_at hl 3 rfl) ?_
      refine lv_aload_n (pc := 560) hx hb dL_law_560 rfl (lv_at hl 1 rfl) ?_
      refine lv_iload (pc := 561) hx hb dL_law_561 (lv_at hl 5 rfl) ?_
      refine lv_iconst (pc := 563) (v := (1 : Int32)) hx hb dL_law_563 (by decide) ?_
      refine lv_iadd (pc := 564) hx hb dL_law_564 ?_
      refine va_sld (pc := 565) hx hb hX hbl hbA hS h_in1 dL_law_565 ?_
      refine lv_aload_n (pc := 566) hx hb dL_law_566 rfl (lv_at hl 1 rfl) ?_
      refine lv_iload (pc := 567) hx hb dL_law_567 (lv_at hl 5 rfl) ?_
      refine lv_iconst (pc := 569) (v := (2 : Int32)) hx hb dL_law_569 (by decide) ?_
      refine lv_iadd (pc := 570) hx hb dL_law_570 ?_
      refine va_sld (pc := 571) hx hb hX hbl hbA hS h_in2 dL_law_571 ?_
      refine lv_aload_n (pc := 572) hx hb dL_law_572 rfl (lv_at hl 1 rfl) ?_
      refine lv_iload (pc := 573) hx hb dL_law_573 (lv_at hl 5 rfl) ?_
      refine lv_iconst (pc := 575) (v := (3 : Int32)) hx hb dL_law_575 (by decide) ?_
      refine lv_iadd (pc := 576) hx hb dL_law_576 ?_
      refine va_sld (pc := 577) hx hb hX hbl hbA hS h_in3 dL_law_577 ?_
      refine lv_aload_n (pc := 578) hx hb dL_law_578 rfl (lv_at hl 1 rfl) ?_
      refine lv_iload (pc := 579) hx hb dL_law_579 (lv_at hl 5 rfl) ?_
      refine lv_iconst (pc := 581) (v := (4 : Int32)) hx hb dL_law_581 (by decide) ?_
      refine lv_iadd (pc := 582) hx hb dL_law_582 ?_
      refine va_sld (pc := 583) hx hb hX hbl hbA hS h_in4 dL_law_583 ?_
      have hdq : ∀ q, N1.1 q < 16 → ¬ M2.1 q < 16 := hap M1 M2 N1 N2 hI hI1
      refine rg_I2 (pc := 584) (z := (N2, v)) hW2 hW1 hS hdq hA (rn_V (κ := 8) (As := [.int (xs (x4 + (1 : Int32)).toNatClampNeg), .int (xs (x4 + (2 : Int32)).toNatClampNeg), .int (xs (x4 + (3 : Int32)).toNatClampNeg), .int (xs (x4 + (4 : Int32)).toNatClampNeg)]) (rest := []) hC ⟨hW2, hS⟩ rfl (by decide) g2 (c_X8_claim h2 _) m_874 m_875 m_876 m_9 m_877 hd_X8_claim ⟨rfl, rfl, Nat.le_of_ble_eq_true rfl, Nat.le_of_ble_eq_true rfl⟩ rfl hl.1 rfl (Nat.le_of_ble_eq_true rfl) dL_law_584 ⟨by show _ ≤ 601024; omega, by show _ ≤ 7293034; omega⟩) (fun H locs hW2 hW1 hS => ?_)
      refine lv_istore (pc := 587) (lv' := [(6, .int v), (5, .int k), (0, .ref b), (1, .ref x), (2, .ref d), (3, .ref o), (4, .int x4)]) hx hb dL_law_587 hl (by decide) rfl (fun ls hl => ?_)
      refine lv_aload_n (pc := 589) hx hb dL_law_589 rfl (lv_at hl 4 rfl) ?_
      refine rg_I2 (pc := 590) (z := (N2, k)) hW2 hW1 hS (fun q h h2 => gd1n q h2 h) hA (rn_V (κ := 8) (As := []) (rest := []) hC ⟨hW2, hS⟩ rfl (by decide) g2n (c_X8_thrown h3 _) m_781 m_782 m_783 m_9 m_784 hd_X8_thrown ⟨rfl, rfl, Nat.le_of_ble_eq_true rfl, Nat.le_of_ble_eq_true rfl⟩ rfl hl.1 rfl (Nat.le_of_ble_eq_true rfl) dL_law_590 ⟨by show _ ≤ 601024; omega, by show _ ≤ 7293034; omega⟩) (fun H locs hW2 hW1 hS => ?_)
      refine lv_iload (pc := 593) hx hb dL_law_593 (lv_at hl 1 rfl) ?_
      refine lv_icmp_eq (pc := 595) (tgt := 600) hx hb dL_law_595 (by decide) (fun hc => ?_) (fun hc => absurd rfl hc)
      refine lv_iload (pc := 600) hx hb dL_law_600 (lv_at hl 1 rfl) ?_
      refine lv_if_ne (pc := 602) (tgt := 617) hx hb dL_law_602 (by decide) (fun hc => ?_) (fun hc => ?_)
      · refine lv_goto (pc := 617) (tgt := 1398) hx hb dL_law_617 (by decide) ?_
        obtain ⟨y4, ey4⟩ : ∃ z : Int32, z = x4 + (5 : Int32) := ⟨_, rfl⟩
        refine lv_iinc (pc := 1398) (v := y4) (lv' := [(4, .int y4), (6, .int v), (5, .int k), (0, .ref b), (1, .ref x), (2, .ref d), (3, .ref o)]) hx hb dL_law_1398 hl (k := 6) rfl (by rw [ey4]; rfl) (by decide) rfl (fun ls hl => ?_)
        refine lv_goto (pc := 1401) (tgt := 23) hx hb dL_law_1401 (by decide) ?_
        exact ih (i + 5) y4 _ _ N1 N2 _ _ hi5 (by omega) (by rw [ey4, ex4]; exact nI_add i 5) (by omega) (by omega) hI1 hW1 hW2 hS ls (lv_sub hl [3, 4, 5, 6, 0] rfl)
      · have h4k := h4 hc
        refine lv_aload_n (pc := 605) hx hb dL_law_605 rfl (lv_at hl 5 rfl) ?_
        refine lv_iconst (pc := 606) (v := (0 : Int32)) hx hb dL_law_606 (by decide) ?_
        refine rg_lald (pc := 607) (r := ()) (g := some ()) hx hb hK ⟨hW1, hS⟩ dL_law_607 (by unfold gd; rw [if_pos ⟨g3n, by rw [g4n]; decide⟩]) (fun _ => ?_)
        refine lv_iload (pc := 608) hx hb dL_law_608 (lv_at hl 0 rfl) ?_
        refine lv_i2l (pc := 610) hx hb dL_law_610 rfl ?_
        refine W.lcmp (pc := 611) hx hb dL_law_611 ?_
        refine lv_if_eq (pc := 612) (tgt := 617) hx hb dL_law_612 (by decide) (fun hc => ?_) (fun hc => absurd (by show lg_cmp (mm_l N1 o 0) _ = 0; rw [h4k]; exact lg_same _) hc)
        refine lv_goto (pc := 617) (tgt := 1398) hx hb dL_law_617 (by decide) ?_
        obtain ⟨y4, ey4⟩ : ∃ z : Int32, z = x4 + (5 : Int32) := ⟨_, rfl⟩
        refine lv_iinc (pc := 1398) (v := y4) (lv' := [(4, .int y4), (6, .int v), (5, .int k), (0, .ref b), (1, .ref x), (2, .ref d), (3, .ref o)]) hx hb dL_law_1398 hl (k := 6) rfl (by rw [ey4]; rfl) (by decide) rfl (fun ls hl => ?_)
        refine lv_goto (pc := 1401) (tgt := 23) hx hb dL_law_1401 (by decide) ?_
        exact ih (i + 5) y4 _ _ N1 N2 _ _ hi5 (by omega) (by rw [ey4, ex4]; exact nI_add i 5) (by omega) (by omega) hI1 hW1 hW2 hS ls (lv_sub hl [3, 4, 5, 6, 0] rfl)
    by_cases hw7 : w = (7 : Int32)
    · refine lv_tableIn (pc := 39) (off := 581) (tgt := 620) hx hb dL_law_39 (by rw [hw7]; decide) (by rw [hw7]; decide) (by rw [hw7]; decide) (by decide) ?_
      obtain ⟨N1, N2, v, h1, h2, hI1⟩ := op_now M1 M2 hI
      obtain ⟨g1, g2, g3, g4, gd1⟩ := hK0 _ _ hI
      obtain ⟨g1n, g2n, g3n, g4n, gd1n⟩ := hK0 _ _ hI1
      have gdr : ∀ q, M1.1 q < 16 → ¬ M2.1 q < 16 := fun q h h2 => gd1 q h2 h
      refine lv_aload_n (pc := 620) hx hb dL_law_620 rfl (lv_at hl 1 rfl) ?_
      refine rg_I2 (pc := 621) (z := (N1, v)) hW1 hW2 hS gd1 hA (rn_V (κ := 7) (As := []) (rest := []) hC ⟨hW1, hS⟩ rfl (by decide) g1 (c_X7_now h1 _) m_264 m_265 m_266 m_1 m_267 hd_X7_now ⟨rfl, rfl, Nat.le_of_ble_eq_true rfl, Nat.le_of_ble_eq_true rfl⟩ rfl hl.1 rfl (Nat.le_of_ble_eq_true rfl) dL_law_621 ⟨by show _ ≤ 601024; omega, by show _ ≤ 7293034; omega⟩) (fun H locs hW1 hW2 hS => ?_)
      refine lv_aload_n (pc := 624) hx hb dL_law_624 rfl (lv_at hl 2 rfl) ?_
      have hdq : ∀ q, N1.1 q < 16 → ¬ M2.1 q < 16 := hap M1 M2 N1 N2 hI hI1
      refine rg_I2 (pc := 625) (z := (N2, v)) hW2 hW1 hS hdq hA (rn_V (κ := 8) (As := []) (rest := [.int v]) hC ⟨hW2, hS⟩ rfl (by decide) g2 (c_X8_now h2 _) m_883 m_884 m_885 m_9 m_886 hd_X8_now ⟨rfl, rfl, Nat.le_of_ble_eq_true rfl, Nat.le_of_ble_eq_true rfl⟩ rfl hl.1 rfl (Nat.le_of_ble_eq_true rfl) dL_law_625 ⟨by show _ ≤ 601024; omega, by show _ ≤ 7293034; omega⟩) (fun H locs hW2 hW1 hS => ?_)
      refine lv_icmp_eq (pc := 628) (tgt := 1398) hx hb dL_law_628 (by decide) (fun hc => ?_) (fun hc => absurd rfl hc)
      obtain ⟨y4, ey4⟩ : ∃ z : Int32, z = x4 + (5 : Int32) := ⟨_, rfl⟩
      refine lv_iinc (pc := 1398) (v := y4) (lv' := [(4, .int y4), (0, .ref b), (1, .ref x), (2, .ref d), (3, .ref o)]) hx hb dL_law_1398 hl (k := 4) rfl (by rw [ey4]; rfl) (by decide) rfl (fun ls hl => ?_)
      refine lv_goto (pc := 1401) (tgt := 23) hx hb dL_law_1401 (by decide) ?_
      exact ih (i + 5) y4 _ _ N1 N2 _ _ hi5 (by omega) (by rw [ey4, ex4]; exact nI_add i 5) (by omega) (by omega) hI1 hW1 hW2 hS ls (lv_sub hl [1, 2, 3, 4, 0] rfl)
    by_cases hw8 : w = (8 : Int32)
    · refine lv_tableIn (pc := 39) (off := 594) (tgt := 633) hx hb dL_law_39 (by rw [hw8]; decide) (by rw [hw8]; decide) (by rw [hw8]; decide) (by decide) ?_
      obtain ⟨N1, k, N2, v, h1, h2, h3, h4, hI1⟩ := op_told (xs (x4 + (1 : Int32)).toNatClampNeg) (xs (x4 + (2 : Int32)).toNatClampNeg) M1 M2 hI
      obtain ⟨g1, g2, g3, g4, gd1⟩ := hK0 _ _ hI
      obtain ⟨g1n, g2n, g3n, g4n, gd1n⟩ := hK0 _ _ hI1
      have gdr : ∀ q, M1.1 q < 16 → ¬ M2.1 q < 16 := fun q h h2 => gd1 q h2 h
      refine lv_aload_n (pc := 633) hx hb dL_law_633 rfl (lv_at hl 1 rfl) ?_
      refine lv_aload_n (pc := 634) hx hb dL_law_634 rfl (lv_at hl 0 rfl) ?_
      refine lv_iload (pc := 635) hx hb dL_law_635 (lv_at hl 4 rfl) ?_
      refine lv_iconst (pc := 637) (v := (1 : Int32)) hx hb dL_law_637 (by decide) ?_
      refine lv_iadd (pc := 638) hx hb dL_law_638 ?_
      refine va_sld (pc := 639) hx hb hX hbl hbA hS h_in1 dL_law_639 ?_
      refine lv_aload_n (pc := 640) hx hb dL_law_640 rfl (lv_at hl 0 rfl) ?_
      refine lv_iload (pc := 641) hx hb dL_law_641 (lv_at hl 4 rfl) ?_
      refine lv_iconst (pc := 643) (v := (2 : Int32)) hx hb dL_law_643 (by decide) ?_
      refine lv_iadd (pc := 644) hx hb dL_law_644 ?_
      refine va_sld (pc := 645) hx hb hX hbl hbA hS h_in2 dL_law_645 ?_
      refine lv_aload_n (pc := 646) hx hb dL_law_646 rfl (lv_at hl 3 rfl) ?_
      refine rg_I2 (pc := 647) (z := (N1, k)) hW1 hW2 hS gd1 hA (rn_SW (hh := [(0, 10, 13, 39), (0, 10, 17, 13)]) (As := [.ref x, .int (xs (x4 + (1 : Int32)).toNatClampNeg), .int (xs (x4 + (2 : Int32)).toNatClampNeg), .ref o]) (rest := []) hC ⟨hW1, hS⟩ (c_L_told hlt h1 _) m_547 m_548 m_0 m_549 hd_L_told ⟨rfl, rfl, Nat.le_of_ble_eq_true rfl, Nat.le_of_ble_eq_true rfl⟩ rfl hl.1 rfl (Nat.le_of_ble_eq_true rfl) dL_law_647 ⟨by show _ ≤ 601024; omega, by show _ ≤ 7293034; omega⟩) (fun H locs hW1 hW2 hS => ?_)
      refine lv_istore (pc := 650) (lv' := [(5, .int k), (0, .ref b), (1, .ref x), (2, .ref d), (3, .ref o), (4, .int x4)]) hx hb dL_law_650 hl (by decide) rfl (fun ls hl => ?_)
      refine lv_aload_n (pc := 652) hx hb dL_law_652 rfl (lv_at hl 3 rfl) ?_
      refine lv_aload_n (pc := 653) hx hb dL_law_653 rfl (lv_at hl 1 rfl) ?_
      refine lv_iload (pc := 654) hx hb dL_law_654 (lv_at hl 5 rfl) ?_
      refine lv_iconst (pc := 656) (v := (1 : Int32)) hx hb dL_law_656 (by decide) ?_
      refine lv_iadd (pc := 657) hx hb dL_law_657 ?_
      refine va_sld (pc := 658) hx hb hX hbl hbA hS h_in1 dL_law_658 ?_
      refine lv_aload_n (pc := 659) hx hb dL_law_659 rfl (lv_at hl 1 rfl) ?_
      refine lv_iload (pc := 660) hx hb dL_law_660 (lv_at hl 5 rfl) ?_
      refine lv_iconst (pc := 662) (v := (2 : Int32)) hx hb dL_law_662 (by decide) ?_
      refine lv_iadd (pc := 663) hx hb dL_law_663 ?_
      refine va_sld (pc := 664) hx hb hX hbl hbA hS h_in2 dL_law_664 ?_
      have hdq : ∀ q, N1.1 q < 16 → ¬ M2.1 q < 16 := hap M1 M2 N1 N2 hI hI1
      refine rg_I2 (pc := 665) (z := (N2, v)) hW2 hW1 hS hdq hA (rn_V (κ := 8) (As := [.int (xs (x4 + (1 : Int32)).toNatClampNeg), .int (xs (x4 + (2 : Int32)).toNatClampNeg)]) (rest := []) hC ⟨hW2, hS⟩ rfl (by decide) g2 (c_X8_told h2 _) m_887 m_888 m_889 m_9 m_890 hd_X8_told ⟨rfl, rfl, Nat.le_of_ble_eq_true rfl, Nat.le_of_ble_eq_true rfl⟩ rfl hl.1 rfl (Nat.le_of_ble_eq_true rfl) dL_law_665 ⟨by show _ ≤ 601024; omega, by show _ ≤ 7293034; omega⟩) (fun H locs hW2 hW1 hS => ?_)
      refine lv_istore (pc := 668) (lv' := [(6, .int v), (5, .int k), (0, .ref b), (1, .ref x), (2, .ref d), (3, .ref o), (4, .int x4)]) hx hb dL_law_668 hl (by decide) rfl (fun ls hl => ?_)
      refine lv_aload_n (pc := 670) hx hb dL_law_670 rfl (lv_at hl 4 rfl) ?_
      refine rg_I2 (pc := 671) (z := (N2, k)) hW2 hW1 hS (fun q h h2 => gd1n q h2 h) hA (rn_V (κ := 8) (As := []) (rest := []) hC ⟨hW2, hS⟩ rfl (by decide) g2n (c_X8_thrown h3 _) m_781 m_782 m_783 m_9 m_784 hd_X8_thrown ⟨rfl, rfl, Nat.le_of_ble_eq_true rfl, Nat.le_of_ble_eq_true rfl⟩ rfl hl.1 rfl (Nat.le_of_ble_eq_true rfl) dL_law_671 ⟨by show _ ≤ 601024; omega, by show _ ≤ 7293034; omega⟩) (fun H locs hW2 hW1 hS => ?_)
      refine lv_iload (pc := 674) hx hb dL_law_674 (lv_at hl 1 rfl) ?_
      refine lv_icmp_eq (pc := 676) (tgt := 681) hx hb dL_law_676 (by decide) (fun hc => ?_) (fun hc => absurd rfl hc)
      refine lv_iload (pc := 681) hx hb dL_law_681 (lv_at hl 1 rfl) ?_
      refine lv_if_ne (pc := 683) (tgt := 698) hx hb dL_law_683 (by decide) (fun hc => ?_) (fun hc => ?_)
      · refine lv_goto (pc := 698) (tgt := 1398) hx hb dL_law_698 (by decide) ?_
        obtain ⟨y4, ey4⟩ : ∃ z : Int32, z = x4 + (5 : Int32) := ⟨_, rfl⟩
        refine lv_iinc (pc := 1398) (v := y4) (lv' := [(4, .int y4), (6, .int v), (5, .int k), (0, .ref b), (1, .ref x), (2, .ref d), (3, .ref o)]) hx hb dL_law_1398 hl (k := 6) rfl (by rw [ey4]; rfl) (by decide) rfl (fun ls hl => ?_)
        refine lv_goto (pc := 1401) (tgt := 23) hx hb dL_law_1401 (by decide) ?_
        exact ih (i + 5) y4 _ _ N1 N2 _ _ hi5 (by omega) (by rw [ey4, ex4]; exact nI_add i 5) (by omega) (by omega) hI1 hW1 hW2 hS ls (lv_sub hl [3, 4, 5, 6, 0] rfl)
      · have h4k := h4 hc
        refine lv_aload_n (pc := 686) hx hb dL_law_686 rfl (lv_at hl 5 rfl) ?_
        refine lv_iconst (pc := 687) (v := (0 : Int32)) hx hb dL_law_687 (by decide) ?_
        refine rg_lald (pc := 688) (r := ()) (g := some ()) hx hb hK ⟨hW1, hS⟩ dL_law_688 (by unfold gd; rw [if_pos ⟨g3n, by rw [g4n]; decide⟩]) (fun _ => ?_)
        refine lv_iload (pc := 689) hx hb dL_law_689 (lv_at hl 0 rfl) ?_
        refine lv_i2l (pc := 691) hx hb dL_law_691 rfl ?_
        refine W.lcmp (pc := 692) hx hb dL_law_692 ?_
        refine lv_if_eq (pc := 693) (tgt := 698) hx hb dL_law_693 (by decide) (fun hc => ?_) (fun hc => absurd (by show lg_cmp (mm_l N1 o 0) _ = 0; rw [h4k]; exact lg_same _) hc)
        refine lv_goto (pc := 698) (tgt := 1398) hx hb dL_law_698 (by decide) ?_
        obtain ⟨y4, ey4⟩ : ∃ z : Int32, z = x4 + (5 : Int32) := ⟨_, rfl⟩
        refine lv_iinc (pc := 1398) (v := y4) (lv' := [(4, .int y4), (6, .int v), (5, .int k), (0, .ref b), (1, .ref x), (2, .ref d), (3, .ref o)]) hx hb dL_law_1398 hl (k := 6) rfl (by rw [ey4]; rfl) (by decide) rfl (fun ls hl => ?_)
        refine lv_goto (pc := 1401) (tgt := 23) hx hb dL_law_1401 (by decide) ?_
        exact ih (i + 5) y4 _ _ N1 N2 _ _ hi5 (by omega) (by rw [ey4, ex4]; exact nI_add i 5) (by omega) (by omega) hI1 hW1 hW2 hS ls (lv_sub hl [3, 4, 5, 6, 0] rfl)
    by_cases hw9 : w = (9 : Int32)
    · refine lv_tableIn (pc := 39) (off := 662) (tgt := 701) hx hb dL_law_39 (by rw [hw9]; decide) (by rw [hw9]; decide) (by rw [hw9]; decide) (by decide) ?_
      obtain ⟨N1, k, N2, v, h1, h2, h3, h4, hI1⟩ := op_angle (xs (x4 + (1 : Int32)).toNatClampNeg) M1 M2 hI
      obtain ⟨g1, g2, g3, g4, gd1⟩ := hK0 _ _ hI
      obtain ⟨g1n, g2n, g3n, g4n, gd1n⟩ := hK0 _ _ hI1
      have gdr : ∀ q, M1.1 q < 16 → ¬ M2.1 q < 16 := fun q h h2 => gd1 q h2 h
      refine lv_aload_n (pc := 701) hx hb dL_law_701 rfl (lv_at hl 1 rfl) ?_
      refine lv_aload_n (pc := 702) hx hb dL_law_702 rfl (lv_at hl 0 rfl) ?_
      refine lv_iload (pc := 703) hx hb dL_law_703 (lv_at hl 4 rfl) ?_
      refine lv_iconst (pc := 705) (v := (1 : Int32)) hx hb dL_law_705 (by decide) ?_
      refine lv_iadd (pc := 706) hx hb dL_law_706 ?_
      refine va_sld (pc := 707) hx hb hX hbl hbA hS h_in1 dL_law_707 ?_
      refine lv_aload_n (pc := 708) hx hb dL_law_708 rfl (lv_at hl 3 rfl) ?_
      refine rg_I2 (pc := 709) (z := (N1, k)) hW1 hW2 hS gd1 hA (rn_SW (hh := [(0, 9, 12, 39)]) (As := [.ref x, .int (xs (x4 + (1 : Int32)).toNatClampNeg), .ref o]) (rest := []) hC ⟨hW1, hS⟩ (c_L_angle hlt h1 _) m_555 m_556 m_0 m_557 hd_L_angle ⟨rfl, rfl, Nat.le_of_ble_eq_true rfl, Nat.le_of_ble_eq_true rfl⟩ rfl hl.1 rfl (Nat.le_of_ble_eq_true rfl) dL_law_709 ⟨by show _ ≤ 601024; omega, by show _ ≤ 7293034; omega⟩) (fun H locs hW1 hW2 hS => ?_)
      refine lv_istore (pc := 712) (lv' := [(5, .int k), (0, .ref b), (1, .ref x), (2, .ref d), (3, .ref o), (4, .int x4)]) hx hb dL_law_712 hl (by decide) rfl (fun ls hl => ?_)
      refine lv_aload_n (pc := 714) hx hb dL_law_714 rfl (lv_at hl 3 rfl) ?_
      refine lv_aload_n (pc := 715) hx hb dL_law_715 rfl (lv_at hl 1 rfl) ?_
      refine lv_iload (pc := 716) hx hb dL_law_716 (lv_at hl 5 rfl) ?_
      refine lv_iconst (pc := 718) (v := (1 : Int32)) hx hb dL_law_718 (by decide) ?_
      refine lv_iadd (pc := 719) hx hb dL_law_719 ?_
      refine va_sld (pc := 720) hx hb hX hbl hbA hS h_in1 dL_law_720 ?_
      have hdq : ∀ q, N1.1 q < 16 → ¬ M2.1 q < 16 := hap M1 M2 N1 N2 hI hI1
      refine rg_I2 (pc := 721) (z := (N2, v)) hW2 hW1 hS hdq hA (rn_V (κ := 8) (As := [.int (xs (x4 + (1 : Int32)).toNatClampNeg)]) (rest := []) hC ⟨hW2, hS⟩ rfl (by decide) g2 (c_X8_angle h2 _) m_891 m_892 m_893 m_9 m_894 hd_X8_angle ⟨rfl, rfl, Nat.le_of_ble_eq_true rfl, Nat.le_of_ble_eq_true rfl⟩ rfl hl.1 rfl (Nat.le_of_ble_eq_true rfl) dL_law_721 ⟨by show _ ≤ 601024; omega, by show _ ≤ 7293034; omega⟩) (fun H locs hW2 hW1 hS => ?_)
      refine lv_istore (pc := 724) (lv' := [(6, .int v), (5, .int k), (0, .ref b), (1, .ref x), (2, .ref d), (3, .ref o), (4, .int x4)]) hx hb dL_law_724 hl (by decide) rfl (fun ls hl => ?_)
      refine lv_aload_n (pc := 726) hx hb dL_law_726 rfl (lv_at hl 4 rfl) ?_
      refine rg_I2 (pc := 727) (z := (N2, k)) hW2 hW1 hS (fun q h h2 => gd1n q h2 h) hA (rn_V (κ := 8) (As := []) (rest := []) hC ⟨hW2, hS⟩ rfl (by decide) g2n (c_X8_thrown h3 _) m_781 m_782 m_783 m_9 m_784 hd_X8_thrown ⟨rfl, rfl, Nat.le_of_ble_eq_true rfl, Nat.le_of_ble_eq_true rfl⟩ rfl hl.1 rfl (Nat.le_of_ble_eq_true rfl) dL_law_727 ⟨by show _ ≤ 601024; omega, by show _ ≤ 7293034; omega⟩) (fun H locs hW2 hW1 hS => ?_)
      refine lv_iload (pc := 730) hx hb dL_law_730 (lv_at hl 1 rfl) ?_
      refine lv_icmp_eq (pc := 732) (tgt := 737) hx hb dL_law_732 (by decide) (fun hc => ?_) (fun hc => absurd rfl hc)
      refine lv_iload (pc := 737) hx hb dL_law_737 (lv_at hl 1 rfl) ?_
      refine lv_if_ne (pc := 739) (tgt := 754) hx hb dL_law_739 (by decide) (fun hc => ?_) (fun hc => ?_)
      · refine lv_goto (pc := 754) (tgt := 1398) hx hb dL_law_754 (by decide) ?_
        obtain ⟨y4, ey4⟩ : ∃ z : Int32, z = x4 + (5 : Int32) := ⟨_, rfl⟩
        refine lv_iinc (pc := 1398) (v := y4) (lv' := [(4, .int y4), (6, .int v), (5, .int k), (0, .ref b), (1, .ref x), (2, .ref d), (3, .ref o)]) hx hb dL_law_1398 hl (k := 6) rfl (by rw [ey4]; rfl) (by decide) rfl (fun ls hl => ?_)
        refine lv_goto (pc := 1401) (tgt := 23) hx hb dL_law_1401 (by decide) ?_
        exact ih (i + 5) y4 _ _ N1 N2 _ _ hi5 (by omega) (by rw [ey4, ex4]; exact nI_add i 5) (by omega) (by omega) hI1 hW1 hW2 hS ls (lv_sub hl [3, 4, 5, 6, 0] rfl)
      · have h4k := h4 hc
        refine lv_aload_n (pc := 742) hx hb dL_law_742 rfl (lv_at hl 5 rfl) ?_
        refine lv_iconst (pc := 743) (v := (0 : Int32)) hx hb dL_law_743 (by decide) ?_
        refine rg_lald (pc := 744) (r := ()) (g := some ()) hx hb hK ⟨hW1, hS⟩ dL_law_744 (by unfold gd; rw [if_pos ⟨g3n, by rw [g4n]; decide⟩]) (fun _ => ?_)
        refine lv_iload (pc := 745) hx hb dL_law_745 (lv_at hl 0 rfl) ?_
        refine lv_i2l (pc := 747) hx hb dL_law_747 rfl ?_
        refine W.lcmp (pc := 748) hx hb dL_law_748 ?_
        refine lv_if_eq (pc := 749) (tgt := 754) hx hb dL_law_749 (by decide) (fun hc => ?_) (fun hc => absurd (by show lg_cmp (mm_l N1 o 0) _ = 0; rw [h4k]; exact lg_same _) hc)
        refine lv_goto (pc := 754) (tgt := 1398) hx hb dL_law_754 (by decide) ?_
        obtain ⟨y4, ey4⟩ : ∃ z : Int32, z = x4 + (5 : Int32) := ⟨_, rfl⟩
        refine lv_iinc (pc := 1398) (v := y4) (lv' := [(4, .int y4), (6, .int v), (5, .int k), (0, .ref b), (1, .ref x), (2, .ref d), (3, .ref o)]) hx hb dL_law_1398 hl (k := 6) rfl (by rw [ey4]; rfl) (by decide) rfl (fun ls hl => ?_)
        refine lv_goto (pc := 1401) (tgt := 23) hx hb dL_law_1401 (by decide) ?_
        exact ih (i + 5) y4 _ _ N1 N2 _ _ hi5 (by omega) (by rw [ey4, ex4]; exact nI_add i 5) (by omega) (by omega) hI1 hW1 hW2 hS ls (lv_sub hl [3, 4, 5, 6, 0] rfl)
    by_cases hw10 : w = (10 : Int32)
    · refine lv_tableIn (pc := 39) (off := 718) (tgt := 757) hx hb dL_law_39 (by rw [hw10]; decide) (by rw [hw10]; decide) (by rw [hw10]; decide) (by decide) ?_
      obtain ⟨N1, k, N2, v, h1, h2, h3, h4, hI1⟩ := op_speed (xs (x4 + (1 : Int32)).toNatClampNeg) M1 M2 hI
      obtain ⟨g1, g2, g3, g4, gd1⟩ := hK0 _ _ hI
      obtain ⟨g1n, g2n, g3n, g4n, gd1n⟩ := hK0 _ _ hI1
      have gdr : ∀ q, M1.1 q < 16 → ¬ M2.1 q < 16 := fun q h h2 => gd1 q h2 h
      refine lv_aload_n (pc := 757) hx hb dL_law_757 rfl (lv_at hl 1 rfl) ?_
      refine lv_aload_n (pc := 758) hx hb dL_law_758 rfl (lv_at hl 0 rfl) ?_
      refine lv_iload (pc := 759) hx hb dL_law_759 (lv_at hl 4 rfl) ?_
      refine lv_iconst (pc := 761) (v := (1 : Int32)) hx hb dL_law_761 (by decide) ?_
      refine lv_iadd (pc := 762) hx hb dL_law_762 ?_
      refine va_sld (pc := 763) hx hb hX hbl hbA hS h_in1 dL_law_763 ?_
      refine lv_aload_n (pc := 764) hx hb dL_law_764 rfl (lv_at hl 3 rfl) ?_
      refine rg_I2 (pc := 765) (z := (N1, k)) hW1 hW2 hS gd1 hA (rn_SW (hh := [(0, 9, 12, 13)]) (As := [.ref x, .int (xs (x4 + (1 : Int32)).toNatClampNeg), .ref o]) (rest := []) hC ⟨hW1, hS⟩ (c_L_speed hlt h1 _) m_562 m_563 m_0 m_564 hd_L_speed ⟨rfl, rfl, Nat.le_of_ble_eq_true rfl, Nat.le_of_ble_eq_true rfl⟩ rfl hl.1 rfl (Nat.le_of_ble_eq_true rfl) dL_law_765 ⟨by show _ ≤ 601024; omega, by show _ ≤ 7293034; omega⟩) (fun H locs hW1 hW2 hS => ?_)
      refine lv_istore (pc := 768) (lv' := [(5, .int k), (0, .ref b), (1, .ref x), (2, .ref d), (3, .ref o), (4, .int x4)]) hx hb dL_law_768 hl (by decide) rfl (fun ls hl => ?_)
      refine lv_aload_n (pc := 770) hx hb dL_law_770 rfl (lv_at hl 3 rfl) ?_
      refine lv_aload_n (pc := 771) hx hb dL_law_771 rfl (lv_at hl 1 rfl) ?_
      refine lv_iload (pc := 772) hx hb dL_law_772 (lv_at hl 5 rfl) ?_
      refine lv_iconst (pc := 774) (v := (1 : Int32)) hx hb dL_law_774 (by decide) ?_
      refine lv_iadd (pc := 775) hx hb dL_law_775 ?_
      refine va_sld (pc := 776) hx hb hX hbl hbA hS h_in1 dL_law_776 ?_
      have hdq : ∀ q, N1.1 q < 16 → ¬ M2.1 q < 16 := hap M1 M2 N1 N2 hI hI1
      refine rg_I2 (pc := 777) (z := (N2, v)) hW2 hW1 hS hdq hA (rn_V (κ := 8) (As := [.int (xs (x4 + (1 : Int32)).toNatClampNeg)]) (rest := []) hC ⟨hW2, hS⟩ rfl (by decide) g2 (c_X8_speed h2 _) m_895 m_896 m_897 m_9 m_898 hd_X8_speed ⟨rfl, rfl, Nat.le_of_ble_eq_true rfl, Nat.le_of_ble_eq_true rfl⟩ rfl hl.1 rfl (Nat.le_of_ble_eq_true rfl) dL_law_777 ⟨by show _ ≤ 601024; omega, by show _ ≤ 7293034; omega⟩) (fun H locs hW2 hW1 hS => ?_)
      refine lv_istore (pc := 780) (lv' := [(6, .int v), (5, .int k), (0, .ref b), (1, .ref x), (2, .ref d), (3, .ref o), (4, .int x4)]) hx hb dL_law_780 hl (by decide) rfl (fun ls hl => ?_)
      refine lv_aload_n (pc := 782) hx hb dL_law_782 rfl (lv_at hl 4 rfl) ?_
      refine rg_I2 (pc := 783) (z := (N2, k)) hW2 hW1 hS (fun q h h2 => gd1n q h2 h) hA (rn_V (κ := 8) (As := []) (rest := []) hC ⟨hW2, hS⟩ rfl (by decide) g2n (c_X8_thrown h3 _) m_781 m_782 m_783 m_9 m_784 hd_X8_thrown ⟨rfl, rfl, Nat.le_of_ble_eq_true rfl, Nat.le_of_ble_eq_true rfl⟩ rfl hl.1 rfl (Nat.le_of_ble_eq_true rfl) dL_law_783 ⟨by show _ ≤ 601024; omega, by show _ ≤ 7293034; omega⟩) (fun H locs hW2 hW1 hS => ?_)
      refine lv_iload (pc := 786) hx hb dL_law_786 (lv_at hl 1 rfl) ?_
      refine lv_icmp_eq (pc := 788) (tgt := 793) hx hb dL_law_788 (by decide) (fun hc => ?_) (fun hc => absurd rfl hc)
      refine lv_iload (pc := 793) hx hb dL_law_793 (lv_at hl 1 rfl) ?_
      refine lv_if_ne (pc := 795) (tgt := 810) hx hb dL_law_795 (by decide) (fun hc => ?_) (fun hc => ?_)
      · refine lv_goto (pc := 810) (tgt := 1398) hx hb dL_law_810 (by decide) ?_
        obtain ⟨y4, ey4⟩ : ∃ z : Int32, z = x4 + (5 : Int32) := ⟨_, rfl⟩
        refine lv_iinc (pc := 1398) (v := y4) (lv' := [(4, .int y4), (6, .int v), (5, .int k), (0, .ref b), (1, .ref x), (2, .ref d), (3, .ref o)]) hx hb dL_law_1398 hl (k := 6) rfl (by rw [ey4]; rfl) (by decide) rfl (fun ls hl => ?_)
        refine lv_goto (pc := 1401) (tgt := 23) hx hb dL_law_1401 (by decide) ?_
        exact ih (i + 5) y4 _ _ N1 N2 _ _ hi5 (by omega) (by rw [ey4, ex4]; exact nI_add i 5) (by omega) (by omega) hI1 hW1 hW2 hS ls (lv_sub hl [3, 4, 5, 6, 0] rfl)
      · have h4k := h4 hc
        refine lv_aload_n (pc := 798) hx hb dL_law_798 rfl (lv_at hl 5 rfl) ?_
        refine lv_iconst (pc := 799) (v := (0 : Int32)) hx hb dL_law_799 (by decide) ?_
        refine rg_lald (pc := 800) (r := ()) (g := some ()) hx hb hK ⟨hW1, hS⟩ dL_law_800 (by unfold gd; rw [if_pos ⟨g3n, by rw [g4n]; decide⟩]) (fun _ => ?_)
        refine lv_iload (pc := 801) hx hb dL_law_801 (lv_at hl 0 rfl) ?_
        refine lv_i2l (pc := 803) hx hb dL_law_803 rfl ?_
        refine W.lcmp (pc := 804) hx hb dL_law_804 ?_
        refine lv_if_eq (pc := 805) (tgt := 810) hx hb dL_law_805 (by decide) (fun hc => ?_) (fun hc => absurd (by show lg_cmp (mm_l N1 o 0) _ = 0; rw [h4k]; exact lg_same _) hc)
        refine lv_goto (pc := 810) (tgt := 1398) hx hb dL_law_810 (by decide) ?_
        obtain ⟨y4, ey4⟩ : ∃ z : Int32, z = x4 + (5 : Int32) := ⟨_, rfl⟩
        refine lv_iinc (pc := 1398) (v := y4) (lv' := [(4, .int y4), (6, .int v), (5, .int k), (0, .ref b), (1, .ref x), (2, .ref d), (3, .ref o)]) hx hb dL_law_1398 hl (k := 6) rfl (by rw [ey4]; rfl) (by decide) rfl (fun ls hl => ?_)
        refine lv_goto (pc := 1401) (tgt := 23) hx hb dL_law_1401 (by decide) ?_
        exact ih (i + 5) y4 _ _ N1 N2 _ _ hi5 (by omega) (by rw [ey4, ex4]; exact nI_add i 5) (by omega) (by omega) hI1 hW1 hW2 hS ls (lv_sub hl [3, 4, 5, 6, 0] rfl)
    by_cases hw11 : w = (11 : Int32)
    · refine lv_tableIn (pc := 39) (off := 774) (tgt := 813) hx hb dL_law_39 (by rw [hw11]; decide) (by rw [hw11]; decide) (by rw [hw11]; decide) (by decide) ?_
      obtain ⟨N1, k, N2, v, h1, h2, h3, h4, hI1⟩ := op_count (xs (x4 + (1 : Int32)).toNatClampNeg) M1 M2 hI
      obtain ⟨g1, g2, g3, g4, gd1⟩ := hK0 _ _ hI
      obtain ⟨g1n, g2n, g3n, g4n, gd1n⟩ := hK0 _ _ hI1
      have gdr : ∀ q, M1.1 q < 16 → ¬ M2.1 q < 16 := fun q h h2 => gd1 q h2 h
      refine lv_aload_n (pc := 813) hx hb dL_law_813 rfl (lv_at hl 1 rfl) ?_
      refine lv_aload_n (pc := 814) hx hb dL_law_814 rfl (lv_at hl 0 rfl) ?_
      refine lv_iload (pc := 815) hx hb dL_law_815 (lv_at hl 4 rfl) ?_
      refine lv_iconst (pc := 817) (v := (1 : Int32)) hx hb dL_law_817 (by decide) ?_
      refine lv_iadd (pc := 818) hx hb dL_law_818 ?_
      refine va_sld (pc := 819) hx hb hX hbl hbA hS h_in1 dL_law_819 ?_
      refine lv_aload_n (pc := 820) hx hb dL_law_820 rfl (lv_at hl 3 rfl) ?_
      refine rg_I2 (pc := 821) (z := (N1, k)) hW1 hW2 hS gd1 hA (rn_SW (hh := [(0, 9, 12, 13)]) (As := [.ref x, .int (xs (x4 + (1 : Int32)).toNatClampNeg), .ref o]) (rest := []) hC ⟨hW1, hS⟩ (c_L_count hlt h1 _) m_569 m_570 m_0 m_571 hd_L_count ⟨rfl, rfl, Nat.le_of_ble_eq_true rfl, Nat.le_of_ble_eq_true rfl⟩ rfl hl.1 rfl (Nat.le_of_ble_eq_true rfl) dL_law_821 ⟨by show _ ≤ 601024; omega, by show _ ≤ 7293034; omega⟩) (fun H locs hW1 hW2 hS => ?_)
      refine lv_istore (pc := 824) (lv' := [(5, .int k), (0, .ref b), (1, .ref x), (2, .ref d), (3, .ref o), (4, .int x4)]) hx hb dL_law_824 hl (by decide) rfl (fun ls hl => ?_)
      refine lv_aload_n (pc := 826) hx hb dL_law_826 rfl (lv_at hl 3 rfl) ?_
      refine lv_aload_n (pc := 827) hx hb dL_law_827 rfl (lv_at hl 1 rfl) ?_
      refine lv_iload (pc := 828) hx hb dL_law_828 (lv_at hl 5 rfl) ?_
      refine lv_iconst (pc := 830) (v := (1 : Int32)) hx hb dL_law_830 (by decide) ?_
      refine lv_iadd (pc := 831) hx hb dL_law_831 ?_
      refine va_sld (pc := 832) hx hb hX hbl hbA hS h_in1 dL_law_832 ?_
      have hdq : ∀ q, N1.1 q < 16 → ¬ M2.1 q < 16 := hap M1 M2 N1 N2 hI hI1
      refine rg_I2 (pc := 833) (z := (N2, v)) hW2 hW1 hS hdq hA (rn_V (κ := 8) (As := [.int (xs (x4 + (1 : Int32)).toNatClampNeg)]) (rest := []) hC ⟨hW2, hS⟩ rfl (by decide) g2 (c_X8_count h2 _) m_899 m_900 m_901 m_9 m_902 hd_X8_count ⟨rfl, rfl, Nat.le_of_ble_eq_true rfl, Nat.le_of_ble_eq_true rfl⟩ rfl hl.1 rfl (Nat.le_of_ble_eq_true rfl) dL_law_833 ⟨by show _ ≤ 601024; omega, by show _ ≤ 7293034; omega⟩) (fun H locs hW2 hW1 hS => ?_)
      refine lv_istore (pc := 836) (lv' := [(6, .int v), (5, .int k), (0, .ref b), (1, .ref x), (2, .ref d), (3, .ref o), (4, .int x4)]) hx hb dL_law_836 hl (by decide) rfl (fun ls hl => ?_)
      refine lv_aload_n (pc := 838) hx hb dL_law_838 rfl (lv_at hl 4 rfl) ?_
      refine rg_I2 (pc := 839) (z := (N2, k)) hW2 hW1 hS (fun q h h2 => gd1n q h2 h) hA (rn_V (κ := 8) (As := []) (rest := []) hC ⟨hW2, hS⟩ rfl (by decide) g2n (c_X8_thrown h3 _) m_781 m_782 m_783 m_9 m_784 hd_X8_thrown ⟨rfl, rfl, Nat.le_of_ble_eq_true rfl, Nat.le_of_ble_eq_true rfl⟩ rfl hl.1 rfl (Nat.le_of_ble_eq_true rfl) dL_law_839 ⟨by show _ ≤ 601024; omega, by show _ ≤ 7293034; omega⟩) (fun H locs hW2 hW1 hS => ?_)
      refine lv_iload (pc := 842) hx hb dL_law_842 (lv_at hl 1 rfl) ?_
      refine lv_icmp_eq (pc := 844) (tgt := 849) hx hb dL_law_844 (by decide) (fun hc => ?_) (fun hc => absurd rfl hc)
      refine lv_iload (pc := 849) hx hb dL_law_849 (lv_at hl 1 rfl) ?_
      refine lv_if_ne (pc := 851) (tgt := 866) hx hb dL_law_851 (by decide) (fun hc => ?_) (fun hc => ?_)
      · refine lv_goto (pc := 866) (tgt := 1398) hx hb dL_law_866 (by decide) ?_
        obtain ⟨y4, ey4⟩ : ∃ z : Int32, z = x4 + (5 : Int32) := ⟨_, rfl⟩
        refine lv_iinc (pc := 1398) (v := y4) (lv' := [(4, .int y4), (6, .int v), (5, .int k), (0, .ref b), (1, .ref x), (2, .ref d), (3, .ref o)]) hx hb dL_law_1398 hl (k := 6) rfl (by rw [ey4]; rfl) (by decide) rfl (fun ls hl => ?_)
        refine lv_goto (pc := 1401) (tgt := 23) hx hb dL_law_1401 (by decide) ?_
        exact ih (i + 5) y4 _ _ N1 N2 _ _ hi5 (by omega) (by rw [ey4, ex4]; exact nI_add i 5) (by omega) (by omega) hI1 hW1 hW2 hS ls (lv_sub hl [3, 4, 5, 6, 0] rfl)
      · have h4k := h4 hc
        refine lv_aload_n (pc := 854) hx hb dL_law_854 rfl (lv_at hl 5 rfl) ?_
        refine lv_iconst (pc := 855) (v := (0 : Int32)) hx hb dL_law_855 (by decide) ?_
        refine rg_lald (pc := 856) (r := ()) (g := some ()) hx hb hK ⟨hW1, hS⟩ dL_law_856 (by unfold gd; rw [if_pos ⟨g3n, by rw [g4n]; decide⟩]) (fun _ => ?_)
        refine lv_iload (pc := 857) hx hb dL_law_857 (lv_at hl 0 rfl) ?_
        refine lv_i2l (pc := 859) hx hb dL_law_859 rfl ?_
        refine W.lcmp (pc := 860) hx hb dL_law_860 ?_
        refine lv_if_eq (pc := 861) (tgt := 866) hx hb dL_law_861 (by decide) (fun hc => ?_) (fun hc => absurd (by show lg_cmp (mm_l N1 o 0) _ = 0; rw [h4k]; exact lg_same _) hc)
        refine lv_goto (pc := 866) (tgt := 1398) hx hb dL_law_866 (by decide) ?_
        obtain ⟨y4, ey4⟩ : ∃ z : Int32, z = x4 + (5 : Int32) := ⟨_, rfl⟩
        refine lv_iinc (pc := 1398) (v := y4) (lv' := [(4, .int y4), (6, .int v), (5, .int k), (0, .ref b), (1, .ref x), (2, .ref d), (3, .ref o)]) hx hb dL_law_1398 hl (k := 6) rfl (by rw [ey4]; rfl) (by decide) rfl (fun ls hl => ?_)
        refine lv_goto (pc := 1401) (tgt := 23) hx hb dL_law_1401 (by decide) ?_
        exact ih (i + 5) y4 _ _ N1 N2 _ _ hi5 (by omega) (by rw [ey4, ex4]; exact nI_add i 5) (by omega) (by omega) hI1 hW1 hW2 hS ls (lv_sub hl [3, 4, 5, 6, 0] rfl)
    by_cases hw12 : w = (12 : Int32)
    · refine lv_tableIn (pc := 39) (off := 830) (tgt := 869) hx hb dL_law_39 (by rw [hw12]; decide) (by rw [hw12]; decide) (by rw [hw12]; decide) (by decide) ?_
      obtain ⟨N1, k, N2, v, h1, h2, h3, h4, hI1⟩ := op_mass (xs (x4 + (1 : Int32)).toNatClampNeg) M1 M2 hI
      obtain ⟨g1, g2, g3, g4, gd1⟩ := hK0 _ _ hI
      obtain ⟨g1n, g2n, g3n, g4n, gd1n⟩ := hK0 _ _ hI1
      have gdr : ∀ q, M1.1 q < 16 → ¬ M2.1 q < 16 := fun q h h2 => gd1 q h2 h
      refine lv_aload_n (pc := 869) hx hb dL_law_869 rfl (lv_at hl 1 rfl) ?_
      refine lv_aload_n (pc := 870) hx hb dL_law_870 rfl (lv_at hl 0 rfl) ?_
      refine lv_iload (pc := 871) hx hb dL_law_871 (lv_at hl 4 rfl) ?_
      refine lv_iconst (pc := 873) (v := (1 : Int32)) hx hb dL_law_873 (by decide) ?_
      refine lv_iadd (pc := 874) hx hb dL_law_874 ?_
      refine va_sld (pc := 875) hx hb hX hbl hbA hS h_in1 dL_law_875 ?_
      refine lv_aload_n (pc := 876) hx hb dL_law_876 rfl (lv_at hl 3 rfl) ?_
      refine rg_I2 (pc := 877) (z := (N1, k)) hW1 hW2 hS gd1 hA (rn_SW (hh := [(0, 9, 12, 13)]) (As := [.ref x, .int (xs (x4 + (1 : Int32)).toNatClampNeg), .ref o]) (rest := []) hC ⟨hW1, hS⟩ (c_L_mass hlt h1 _) m_581 m_582 m_0 m_583 hd_L_mass ⟨rfl, rfl, Nat.le_of_ble_eq_true rfl, Nat.le_of_ble_eq_true rfl⟩ rfl hl.1 rfl (Nat.le_of_ble_eq_true rfl) dL_law_877 ⟨by show _ ≤ 601024; omega, by show _ ≤ 7293034; omega⟩) (fun H locs hW1 hW2 hS => ?_)
      refine lv_istore (pc := 880) (lv' := [(5, .int k), (0, .ref b), (1, .ref x), (2, .ref d), (3, .ref o), (4, .int x4)]) hx hb dL_law_880 hl (by decide) rfl (fun ls hl => ?_)
      refine lv_aload_n (pc := 882) hx hb dL_law_882 rfl (lv_at hl 3 rfl) ?_
      refine lv_aload_n (pc := 883) hx hb dL_law_883 rfl (lv_at hl 1 rfl) ?_
      refine lv_iload (pc := 884) hx hb dL_law_884 (lv_at hl 5 rfl) ?_
      refine lv_iconst (pc := 886) (v := (1 : Int32)) hx hb dL_law_886 (by decide) ?_
      refine lv_iadd (pc := 887) hx hb dL_law_887 ?_
      refine va_sld (pc := 888) hx hb hX hbl hbA hS h_in1 dL_law_888 ?_
      have hdq : ∀ q, N1.1 q < 16 → ¬ M2.1 q < 16 := hap M1 M2 N1 N2 hI hI1
      refine rg_I2 (pc := 889) (z := (N2, v)) hW2 hW1 hS hdq hA (rn_V (κ := 8) (As := [.int (xs (x4 + (1 : Int32)).toNatClampNeg)]) (rest := []) hC ⟨hW2, hS⟩ rfl (by decide) g2 (c_X8_mass h2 _) m_907 m_908 m_909 m_9 m_910 hd_X8_mass ⟨rfl, rfl, Nat.le_of_ble_eq_true rfl, Nat.le_of_ble_eq_true rfl⟩ rfl hl.1 rfl (Nat.le_of_ble_eq_true rfl) dL_law_889 ⟨by show _ ≤ 601024; omega, by show _ ≤ 7293034; omega⟩) (fun H locs hW2 hW1 hS => ?_)
      refine lv_istore (pc := 892) (lv' := [(6, .int v), (5, .int k), (0, .ref b), (1, .ref x), (2, .ref d), (3, .ref o), (4, .int x4)]) hx hb dL_law_892 hl (by decide) rfl (fun ls hl => ?_)
      refine lv_aload_n (pc := 894) hx hb dL_law_894 rfl (lv_at hl 4 rfl) ?_
      refine rg_I2 (pc := 895) (z := (N2, k)) hW2 hW1 hS (fun q h h2 => gd1n q h2 h) hA (rn_V (κ := 8) (As := []) (rest := []) hC ⟨hW2, hS⟩ rfl (by decide) g2n (c_X8_thrown h3 _) m_781 m_782 m_783 m_9 m_784 hd_X8_thrown ⟨rfl, rfl, Nat.le_of_ble_eq_true rfl, Nat.le_of_ble_eq_true rfl⟩ rfl hl.1 rfl (Nat.le_of_ble_eq_true rfl) dL_law_895 ⟨by show _ ≤ 601024; omega, by show _ ≤ 7293034; omega⟩) (fun H locs hW2 hW1 hS => ?_)
      refine lv_iload (pc := 898) hx hb dL_law_898 (lv_at hl 1 rfl) ?_
      refine lv_icmp_eq (pc := 900) (tgt := 905) hx hb dL_law_900 (by decide) (fun hc => ?_) (fun hc => absurd rfl hc)
      refine lv_iload (pc := 905) hx hb dL_law_905 (lv_at hl 1 rfl) ?_
      refine lv_if_ne (pc := 907) (tgt := 922) hx hb dL_law_907 (by decide) (fun hc => ?_) (fun hc => ?_)
      · refine lv_goto (pc := 922) (tgt := 1398) hx hb dL_law_922 (by decide) ?_
        obtain ⟨y4, ey4⟩ : ∃ z : Int32, z = x4 + (5 : Int32) := ⟨_, rfl⟩
        refine lv_iinc (pc := 1398) (v := y4) (lv' := [(4, .int y4), (6, .int v), (5, .int k), (0, .ref b), (1, .ref x), (2, .ref d), (3, .ref o)]) hx hb dL_law_1398 hl (k := 6) rfl (by rw [ey4]; rfl) (by decide) rfl (fun ls hl => ?_)
        refine lv_goto (pc := 1401) (tgt := 23) hx hb dL_law_1401 (by decide) ?_
        exact ih (i + 5) y4 _ _ N1 N2 _ _ hi5 (by omega) (by rw [ey4, ex4]; exact nI_add i 5) (by omega) (by omega) hI1 hW1 hW2 hS ls (lv_sub hl [3, 4, 5, 6, 0] rfl)
      · have h4k := h4 hc
        refine lv_aload_n (pc := 910) hx hb dL_law_910 rfl (lv_at hl 5 rfl) ?_
        refine lv_iconst (pc := 911) (v := (0 : Int32)) hx hb dL_law_911 (by decide) ?_
        refine rg_lald (pc := 912) (r := ()) (g := some ()) hx hb hK ⟨hW1, hS⟩ dL_law_912 (by unfold gd; rw [if_pos ⟨g3n, by rw [g4n]; decide⟩]) (fun _ => ?_)
        refine lv_iload (pc := 913) hx hb dL_law_913 (lv_at hl 0 rfl) ?_
        refine lv_i2l (pc := 915) hx hb dL_law_915 rfl ?_
        refine W.lcmp (pc := 916) hx hb dL_law_916 ?_
        refine lv_if_eq (pc := 917) (tgt := 922) hx hb dL_law_917 (by decide) (fun hc => ?_) (fun hc => absurd (by show lg_cmp (mm_l N1 o 0) _ = 0; rw [h4k]; exact lg_same _) hc)
        refine lv_goto (pc := 922) (tgt := 1398) hx hb dL_law_922 (by decide) ?_
        obtain ⟨y4, ey4⟩ : ∃ z : Int32, z = x4 + (5 : Int32) := ⟨_, rfl⟩
        refine lv_iinc (pc := 1398) (v := y4) (lv' := [(4, .int y4), (6, .int v), (5, .int k), (0, .ref b), (1, .ref x), (2, .ref d), (3, .ref o)]) hx hb dL_law_1398 hl (k := 6) rfl (by rw [ey4]; rfl) (by decide) rfl (fun ls hl => ?_)
        refine lv_goto (pc := 1401) (tgt := 23) hx hb dL_law_1401 (by decide) ?_
        exact ih (i + 5) y4 _ _ N1 N2 _ _ hi5 (by omega) (by rw [ey4, ex4]; exact nI_add i 5) (by omega) (by omega) hI1 hW1 hW2 hS ls (lv_sub hl [3, 4, 5, 6, 0] rfl)
    by_cases hw13 : w = (13 : Int32)
    · refine lv_tableIn (pc := 39) (off := 886) (tgt := 925) hx hb dL_law_39 (by rw [hw13]; decide) (by rw [hw13]; decide) (by rw [hw13]; decide) (by decide) ?_
      obtain ⟨N1, k, N2, v, h1, h2, h3, h4, hI1⟩ := op_sum (xs (x4 + (1 : Int32)).toNatClampNeg) M1 M2 hI
      obtain ⟨g1, g2, g3, g4, gd1⟩ := hK0 _ _ hI
      obtain ⟨g1n, g2n, g3n, g4n, gd1n⟩ := hK0 _ _ hI1
      have gdr : ∀ q, M1.1 q < 16 → ¬ M2.1 q < 16 := fun q h h2 => gd1 q h2 h
      refine lv_aload_n (pc := 925) hx hb dL_law_925 rfl (lv_at hl 1 rfl) ?_
      refine lv_aload_n (pc := 926) hx hb dL_law_926 rfl (lv_at hl 0 rfl) ?_
      refine lv_iload (pc := 927) hx hb dL_law_927 (lv_at hl 4 rfl) ?_
      refine lv_iconst (pc := 929) (v := (1 : Int32)) hx hb dL_law_929 (by decide) ?_
      refine lv_iadd (pc := 930) hx hb dL_law_930 ?_
      refine va_sld (pc := 931) hx hb hX hbl hbA hS h_in1 dL_law_931 ?_
      refine lv_aload_n (pc := 932) hx hb dL_law_932 rfl (lv_at hl 3 rfl) ?_
      refine rg_I2 (pc := 933) (z := (N1, k)) hW1 hW2 hS gd1 hA (rn_SW (hh := [(0, 9, 12, 13)]) (As := [.ref x, .int (xs (x4 + (1 : Int32)).toNatClampNeg), .ref o]) (rest := []) hC ⟨hW1, hS⟩ (c_L_sum hlt h1 _) m_588 m_589 m_0 m_590 hd_L_sum ⟨rfl, rfl, Nat.le_of_ble_eq_true rfl, Nat.le_of_ble_eq_true rfl⟩ rfl hl.1 rfl (Nat.le_of_ble_eq_true rfl) dL_law_933 ⟨by show _ ≤ 601024; omega, by show _ ≤ 7293034; omega⟩) (fun H locs hW1 hW2 hS => ?_)
      refine lv_istore (pc := 936) (lv' := [(5, .int k), (0, .ref b), (1, .ref x), (2, .ref d), (3, .ref o), (4, .int x4)]) hx hb dL_law_936 hl (by decide) rfl (fun ls hl => ?_)
      refine lv_aload_n (pc := 938) hx hb dL_law_938 rfl (lv_at hl 3 rfl) ?_
      refine lv_aload_n (pc := 939) hx hb dL_law_939 rfl (lv_at hl 1 rfl) ?_
      refine lv_iload (pc := 940) hx hb dL_law_940 (lv_at hl 5 rfl) ?_
      refine lv_iconst (pc := 942) (v := (1 : Int32)) hx hb dL_law_942 (by decide) ?_
      refine lv_iadd (pc := 943) hx hb dL_law_943 ?_
      refine va_sld (pc := 944) hx hb hX hbl hbA hS h_in1 dL_law_944 ?_
      have hdq : ∀ q, N1.1 q < 16 → ¬ M2.1 q < 16 := hap M1 M2 N1 N2 hI hI1
      refine rg_I2 (pc := 945) (z := (N2, v)) hW2 hW1 hS hdq hA (rn_V (κ := 8) (As := [.int (xs (x4 + (1 : Int32)).toNatClampNeg)]) (rest := []) hC ⟨hW2, hS⟩ rfl (by decide) g2 (c_X8_sum h2 _) m_911 m_912 m_913 m_9 m_914 hd_X8_sum ⟨rfl, rfl, Nat.le_of_ble_eq_true rfl, Nat.le_of_ble_eq_true rfl⟩ rfl hl.1 rfl (Nat.le_of_ble_eq_true rfl) dL_law_945 ⟨by show _ ≤ 601024; omega, by show _ ≤ 7293034; omega⟩) (fun H locs hW2 hW1 hS => ?_)
      refine lv_istore (pc := 948) (lv' := [(6, .int v), (5, .int k), (0, .ref b), (1, .ref x), (2, .ref d), (3, .ref o), (4, .int x4)]) hx hb dL_law_948 hl (by decide) rfl (fun ls hl => ?_)
      refine lv_aload_n (pc := 950) hx hb dL_law_950 rfl (lv_at hl 4 rfl) ?_
      refine rg_I2 (pc := 951) (z := (N2, k)) hW2 hW1 hS (fun q h h2 => gd1n q h2 h) hA (rn_V (κ := 8) (As := []) (rest := []) hC ⟨hW2, hS⟩ rfl (by decide) g2n (c_X8_thrown h3 _) m_781 m_782 m_783 m_9 m_784 hd_X8_thrown ⟨rfl, rfl, Nat.le_of_ble_eq_true rfl, Nat.le_of_ble_eq_true rfl⟩ rfl hl.1 rfl (Nat.le_of_ble_eq_true rfl) dL_law_951 ⟨by show _ ≤ 601024; omega, by show _ ≤ 7293034; omega⟩) (fun H locs hW2 hW1 hS => ?_)
      refine lv_iload (pc := 954) hx hb dL_law_954 (lv_at hl 1 rfl) ?_
      refine lv_icmp_eq (pc := 956) (tgt := 961) hx hb dL_law_956 (by decide) (fun hc => ?_) (fun hc => absurd rfl hc)
      refine lv_iload (pc := 961) hx hb dL_law_961 (lv_at hl 1 rfl) ?_
      refine lv_if_ne (pc := 963) (tgt := 978) hx hb dL_law_963 (by decide) (fun hc => ?_) (fun hc => ?_)
      · refine lv_goto (pc := 978) (tgt := 1398) hx hb dL_law_978 (by decide) ?_
        obtain ⟨y4, ey4⟩ : ∃ z : Int32, z = x4 + (5 : Int32) := ⟨_, rfl⟩
        refine lv_iinc (pc := 1398) (v := y4) (lv' := [(4, .int y4), (6, .int v), (5, .int k), (0, .ref b), (1, .ref x), (2, .ref d), (3, .ref o)]) hx hb dL_law_1398 hl (k := 6) rfl (by rw [ey4]; rfl) (by decide) rfl (fun ls hl => ?_)
        refine lv_goto (pc := 1401) (tgt := 23) hx hb dL_law_1401 (by decide) ?_
        exact ih (i + 5) y4 _ _ N1 N2 _ _ hi5 (by omega) (by rw [ey4, ex4]; exact nI_add i 5) (by omega) (by omega) hI1 hW1 hW2 hS ls (lv_sub hl [3, 4, 5, 6, 0] rfl)
      · have h4k := h4 hc
        refine lv_aload_n (pc := 966) hx hb dL_law_966 rfl (lv_at hl 5 rfl) ?_
        refine lv_iconst (pc := 967) (v := (0 : Int32)) hx hb dL_law_967 (by decide) ?_
        refine rg_lald (pc := 968) (r := ()) (g := some ()) hx hb hK ⟨hW1, hS⟩ dL_law_968 (by unfold gd; rw [if_pos ⟨g3n, by rw [g4n]; decide⟩]) (fun _ => ?_)
        refine lv_iload (pc := 969) hx hb dL_law_969 (lv_at hl 0 rfl) ?_
        refine lv_i2l (pc := 971) hx hb dL_law_971 rfl ?_
        refine W.lcmp (pc := 972) hx hb dL_law_972 ?_
        refine lv_if_eq (pc := 973) (tgt := 978) hx hb dL_law_973 (by decide) (fun hc => ?_) (fun hc => absurd (by show lg_cmp (mm_l N1 o 0) _ = 0; rw [h4k]; exact lg_same _) hc)
        refine lv_goto (pc := 978) (tgt := 1398) hx hb dL_law_978 (by decide) ?_
        obtain ⟨y4, ey4⟩ : ∃ z : Int32, z = x4 + (5 : Int32) := ⟨_, rfl⟩
        refine lv_iinc (pc := 1398) (v := y4) (lv' := [(4, .int y4), (6, .int v), (5, .int k), (0, .ref b), (1, .ref x), (2, .ref d), (3, .ref o)]) hx hb dL_law_1398 hl (k := 6) rfl (by rw [ey4]; rfl) (by decide) rfl (fun ls hl => ?_)
        refine lv_goto (pc := 1401) (tgt := 23) hx hb dL_law_1401 (by decide) ?_
        exact ih (i + 5) y4 _ _ N1 N2 _ _ hi5 (by omega) (by rw [ey4, ex4]; exact nI_add i 5) (by omega) (by omega) hI1 hW1 hW2 hS ls (lv_sub hl [3, 4, 5, 6, 0] rfl)
    by_cases hw14 : w = (14 : Int32)
    · refine lv_tableIn (pc := 39) (off := 942) (tgt := 981) hx hb dL_law_39 (by rw [hw14]; decide) (by rw [hw14]; decide) (by rw [hw14]; decide) (by decide) ?_
      obtain ⟨N1, k, N2, v, h1, h2, h3, h4, hI1⟩ := op_momentum (xs (x4 + (1 : Int32)).toNatClampNeg) M1 M2 hI
      obtain ⟨g1, g2, g3, g4, gd1⟩ := hK0 _ _ hI
      obtain ⟨g1n, g2n, g3n, g4n, gd1n⟩ := hK0 _ _ hI1
      have gdr : ∀ q, M1.1 q < 16 → ¬ M2.1 q < 16 := fun q h h2 => gd1 q h2 h
      refine lv_aload_n (pc := 981) hx hb dL_law_981 rfl (lv_at hl 1 rfl) ?_
      refine lv_aload_n (pc := 982) hx hb dL_law_982 rfl (lv_at hl 0 rfl) ?_
      refine lv_iload (pc := 983) hx hb dL_law_983 (lv_at hl 4 rfl) ?_
      refine lv_iconst (pc := 985) (v := (1 : Int32)) hx hb dL_law_985 (by decide) ?_
      refine lv_iadd (pc := 986) hx hb dL_law_986 ?_
      refine va_sld (pc := 987) hx hb hX hbl hbA hS h_in1 dL_law_987 ?_
      refine lv_aload_n (pc := 988) hx hb dL_law_988 rfl (lv_at hl 3 rfl) ?_
      refine rg_I2 (pc := 989) (z := (N1, k)) hW1 hW2 hS gd1 hA (rn_SW (hh := [(0, 8, 11, 13)]) (As := [.ref x, .int (xs (x4 + (1 : Int32)).toNatClampNeg), .ref o]) (rest := []) hC ⟨hW1, hS⟩ (c_L_momentum hlt h1 _) m_600 m_601 m_0 m_602 hd_L_momentum ⟨rfl, rfl, Nat.le_of_ble_eq_true rfl, Nat.le_of_ble_eq_true rfl⟩ rfl hl.1 rfl (Nat.le_of_ble_eq_true rfl) dL_law_989 ⟨by show _ ≤ 601024; omega, by show _ ≤ 7293034; omega⟩) (fun H locs hW1 hW2 hS => ?_)
      refine lv_istore (pc := 992) (lv' := [(5, .int k), (0, .ref b), (1, .ref x), (2, .ref d), (3, .ref o), (4, .int x4)]) hx hb dL_law_992 hl (by decide) rfl (fun ls hl => ?_)
      refine lv_aload_n (pc := 994) hx hb dL_law_994 rfl (lv_at hl 3 rfl) ?_
      refine lv_aload_n (pc := 995) hx hb dL_law_995 rfl (lv_at hl 1 rfl) ?_
      refine lv_iload (pc := 996) hx hb dL_law_996 (lv_at hl 5 rfl) ?_
      refine lv_iconst (pc := 998) (v := (1 : Int32)) hx hb dL_law_998 (by decide) ?_
      refine lv_iadd (pc := 999) hx hb dL_law_999 ?_
      refine va_sld (pc := 1000) hx hb hX hbl hbA hS h_in1 dL_law_1000 ?_
      have hdq : ∀ q, N1.1 q < 16 → ¬ M2.1 q < 16 := hap M1 M2 N1 N2 hI hI1
      refine rg_L2 (pc := 1001) (z := (N2, v)) hW2 hW1 hS hdq hA (rn_V (κ := 8) (As := [.int (xs (x4 + (1 : Int32)).toNatClampNeg)]) (rest := []) hC ⟨hW2, hS⟩ rfl (by decide) g2 (c_X8_momentum h2 _) m_915 m_916 m_917 m_9 m_918 hd_X8_momentum ⟨rfl, rfl, Nat.le_of_ble_eq_true rfl, Nat.le_of_ble_eq_true rfl⟩ rfl hl.1 rfl (Nat.le_of_ble_eq_true rfl) dL_law_1001 ⟨by show _ ≤ 601024; omega, by show _ ≤ 7293034; omega⟩) (fun H locs hW2 hW1 hS => ?_)
      refine lv_lstore (pc := 1004) (lv' := [(6, .long v), (5, .int k), (0, .ref b), (1, .ref x), (2, .ref d), (3, .ref o), (4, .int x4)]) hx hb dL_law_1004 hl (by decide) rfl (fun ls hl => ?_)
      refine lv_aload_n (pc := 1006) hx hb dL_law_1006 rfl (lv_at hl 4 rfl) ?_
      refine rg_I2 (pc := 1007) (z := (N2, k)) hW2 hW1 hS (fun q h h2 => gd1n q h2 h) hA (rn_V (κ := 8) (As := []) (rest := []) hC ⟨hW2, hS⟩ rfl (by decide) g2n (c_X8_thrown h3 _) m_781 m_782 m_783 m_9 m_784 hd_X8_thrown ⟨rfl, rfl, Nat.le_of_ble_eq_true rfl, Nat.le_of_ble_eq_true rfl⟩ rfl hl.1 rfl (Nat.le_of_ble_eq_true rfl) dL_law_1007 ⟨by show _ ≤ 601024; omega, by show _ ≤ 7293034; omega⟩) (fun H locs hW2 hW1 hS => ?_)
      refine lv_iload (pc := 1010) hx hb dL_law_1010 (lv_at hl 1 rfl) ?_
      refine lv_icmp_eq (pc := 1012) (tgt := 1017) hx hb dL_law_1012 (by decide) (fun hc => ?_) (fun hc => absurd rfl hc)
      refine lv_iload (pc := 1017) hx hb dL_law_1017 (lv_at hl 1 rfl) ?_
      refine lv_if_ne (pc := 1019) (tgt := 1033) hx hb dL_law_1019 (by decide) (fun hc => ?_) (fun hc => ?_)
      · refine lv_goto (pc := 1033) (tgt := 1398) hx hb dL_law_1033 (by decide) ?_
        obtain ⟨y4, ey4⟩ : ∃ z : Int32, z = x4 + (5 : Int32) := ⟨_, rfl⟩
        refine lv_iinc (pc := 1398) (v := y4) (lv' := [(4, .int y4), (6, .long v), (5, .int k), (0, .ref b), (1, .ref x), (2, .ref d), (3, .ref o)]) hx hb dL_law_1398 hl (k := 6) rfl (by rw [ey4]; rfl) (by decide) rfl (fun ls hl => ?_)
        refine lv_goto (pc := 1401) (tgt := 23) hx hb dL_law_1401 (by decide) ?_
        exact ih (i + 5) y4 _ _ N1 N2 _ _ hi5 (by omega) (by rw [ey4, ex4]; exact nI_add i 5) (by omega) (by omega) hI1 hW1 hW2 hS ls (lv_sub hl [3, 4, 5, 6, 0] rfl)
      · have h4k := h4 hc
        refine lv_aload_n (pc := 1022) hx hb dL_law_1022 rfl (lv_at hl 5 rfl) ?_
        refine lv_iconst (pc := 1023) (v := (0 : Int32)) hx hb dL_law_1023 (by decide) ?_
        refine rg_lald (pc := 1024) (r := ()) (g := some ()) hx hb hK ⟨hW1, hS⟩ dL_law_1024 (by unfold gd; rw [if_pos ⟨g3n, by rw [g4n]; decide⟩]) (fun _ => ?_)
        refine lv_lload (pc := 1025) hx hb dL_law_1025 (lv_at hl 0 rfl) ?_
        refine W.lcmp (pc := 1027) hx hb dL_law_1027 ?_
        refine lv_if_eq (pc := 1028) (tgt := 1033) hx hb dL_law_1028 (by decide) (fun hc => ?_) (fun hc => absurd (by show lg_cmp (mm_l N1 o 0) _ = 0; rw [h4k]; exact lg_same _) hc)
        refine lv_goto (pc := 1033) (tgt := 1398) hx hb dL_law_1033 (by decide) ?_
        obtain ⟨y4, ey4⟩ : ∃ z : Int32, z = x4 + (5 : Int32) := ⟨_, rfl⟩
        refine lv_iinc (pc := 1398) (v := y4) (lv' := [(4, .int y4), (6, .long v), (5, .int k), (0, .ref b), (1, .ref x), (2, .ref d), (3, .ref o)]) hx hb dL_law_1398 hl (k := 6) rfl (by rw [ey4]; rfl) (by decide) rfl (fun ls hl => ?_)
        refine lv_goto (pc := 1401) (tgt := 23) hx hb dL_law_1401 (by decide) ?_
        exact ih (i + 5) y4 _ _ N1 N2 _ _ hi5 (by omega) (by rw [ey4, ex4]; exact nI_add i 5) (by omega) (by omega) hI1 hW1 hW2 hS ls (lv_sub hl [3, 4, 5, 6, 0] rfl)
    by_cases hw15 : w = (15 : Int32)
    · refine lv_tableIn (pc := 39) (off := 997) (tgt := 1036) hx hb dL_law_39 (by rw [hw15]; decide) (by rw [hw15]; decide) (by rw [hw15]; decide) (by decide) ?_
      obtain ⟨N1, N2, v, h1, h2, hI1⟩ := op_momentumByLanes M1 M2 hI
      obtain ⟨g1, g2, g3, g4, gd1⟩ := hK0 _ _ hI
      obtain ⟨g1n, g2n, g3n, g4n, gd1n⟩ := hK0 _ _ hI1
      have gdr : ∀ q, M1.1 q < 16 → ¬ M2.1 q < 16 := fun q h h2 => gd1 q h2 h
      refine lv_aload_n (pc := 1036) hx hb dL_law_1036 rfl (lv_at hl 1 rfl) ?_
      refine rg_L2 (pc := 1037) (z := (N1, v)) hW1 hW2 hS gd1 hA (rn_V (κ := 7) (As := []) (rest := []) hC ⟨hW1, hS⟩ rfl (by decide) g1 (c_X7_momentumByLanes h1 _) m_268 m_269 m_270 m_1 m_271 hd_X7_momentumByLanes ⟨rfl, rfl, Nat.le_of_ble_eq_true rfl, Nat.le_of_ble_eq_true rfl⟩ rfl hl.1 rfl (Nat.le_of_ble_eq_true rfl) dL_law_1037 ⟨by show _ ≤ 601024; omega, by show _ ≤ 7293034; omega⟩) (fun H locs hW1 hW2 hS => ?_)
      refine lv_aload_n (pc := 1040) hx hb dL_law_1040 rfl (lv_at hl 2 rfl) ?_
      have hdq : ∀ q, N1.1 q < 16 → ¬ M2.1 q < 16 := hap M1 M2 N1 N2 hI hI1
      refine rg_L2 (pc := 1041) (z := (N2, v)) hW2 hW1 hS hdq hA (rn_V (κ := 8) (As := []) (rest := [.long v]) hC ⟨hW2, hS⟩ rfl (by decide) g2 (c_X8_momentumByLanes h2 _) m_925 m_926 m_927 m_9 m_928 hd_X8_momentumByLanes ⟨rfl, rfl, Nat.le_of_ble_eq_true rfl, Nat.le_of_ble_eq_true rfl⟩ rfl hl.1 rfl (Nat.le_of_ble_eq_true rfl) dL_law_1041 ⟨by show _ ≤ 601024; omega, by show _ ≤ 7293034; omega⟩) (fun H locs hW2 hW1 hS => ?_)
      refine W.lcmp (pc := 1044) hx hb dL_law_1044 ?_
      refine lv_if_eq (pc := 1045) (tgt := 1398) hx hb dL_law_1045 (by decide) (fun hc => ?_) (fun hc => absurd (by exact lg_same _) hc)
      obtain ⟨y4, ey4⟩ : ∃ z : Int32, z = x4 + (5 : Int32) := ⟨_, rfl⟩
      refine lv_iinc (pc := 1398) (v := y4) (lv' := [(4, .int y4), (0, .ref b), (1, .ref x), (2, .ref d), (3, .ref o)]) hx hb dL_law_1398 hl (k := 4) rfl (by rw [ey4]; rfl) (by decide) rfl (fun ls hl => ?_)
      refine lv_goto (pc := 1401) (tgt := 23) hx hb dL_law_1401 (by decide) ?_
      exact ih (i + 5) y4 _ _ N1 N2 _ _ hi5 (by omega) (by rw [ey4, ex4]; exact nI_add i 5) (by omega) (by omega) hI1 hW1 hW2 hS ls (lv_sub hl [1, 2, 3, 4, 0] rfl)
    by_cases hw16 : w = (16 : Int32)
    · refine lv_tableIn (pc := 39) (off := 1011) (tgt := 1050) hx hb dL_law_39 (by rw [hw16]; decide) (by rw [hw16]; decide) (by rw [hw16]; decide) (by decide) ?_
      obtain ⟨N1, k, N2, v, h1, h2, h3, h4, hI1⟩ := op_resonance (xs (x4 + (1 : Int32)).toNatClampNeg) (xs (x4 + (2 : Int32)).toNatClampNeg) M1 M2 hI
      obtain ⟨g1, g2, g3, g4, gd1⟩ := hK0 _ _ hI
      obtain ⟨g1n, g2n, g3n, g4n, gd1n⟩ := hK0 _ _ hI1
      have gdr : ∀ q, M1.1 q < 16 → ¬ M2.1 q < 16 := fun q h h2 => gd1 q h2 h
      refine lv_aload_n (pc := 1050) hx hb dL_law_1050 rfl (lv_at hl 1 rfl) ?_
      refine lv_aload_n (pc := 1051) hx hb dL_law_1051 rfl (lv_at hl 0 rfl) ?_
      refine lv_iload (pc := 1052) hx hb dL_law_1052 (lv_at hl 4 rfl) ?_
      refine lv_iconst (pc := 1054) (v := (1 : Int32)) hx hb dL_law_1054 (by decide) ?_
      refine lv_iadd (pc := 1055) hx hb dL_law_1055 ?_
      refine va_sld (pc := 1056) hx hb hX hbl hbA hS h_in1 dL_law_1056 ?_
      refine lv_aload_n (pc := 1057) hx hb dL_law_1057 rfl (lv_at hl 0 rfl) ?_
      refine lv_iload (pc := 1058) hx hb dL_law_1058 (lv_at hl 4 rfl) ?_
      refine lv_iconst (pc := 1060) (v := (2 : Int32)) hx hb dL_law_1060 (by decide) ?_
      refine lv_iadd (pc := 1061) hx hb dL_law_1061 ?_
      refine va_sld (pc := 1062) hx hb hX hbl hbA hS h_in2 dL_law_1062 ?_
      refine lv_aload_n (pc := 1063) hx hb dL_law_1063 rfl (lv_at hl 3 rfl) ?_
      refine rg_I2 (pc := 1064) (z := (N1, k)) hW1 hW2 hS gd1 hA (rn_SW (hh := [(0, 10, 13, 39), (0, 10, 17, 13)]) (As := [.ref x, .int (xs (x4 + (1 : Int32)).toNatClampNeg), .int (xs (x4 + (2 : Int32)).toNatClampNeg), .ref o]) (rest := []) hC ⟨hW1, hS⟩ (c_L_resonance hlt h1 _) m_611 m_612 m_0 m_613 hd_L_resonance ⟨rfl, rfl, Nat.le_of_ble_eq_true rfl, Nat.le_of_ble_eq_true rfl⟩ rfl hl.1 rfl (Nat.le_of_ble_eq_true rfl) dL_law_1064 ⟨by show _ ≤ 601024; omega, by show _ ≤ 7293034; omega⟩) (fun H locs hW1 hW2 hS => ?_)
      refine lv_istore (pc := 1067) (lv' := [(5, .int k), (0, .ref b), (1, .ref x), (2, .ref d), (3, .ref o), (4, .int x4)]) hx hb dL_law_1067 hl (by decide) rfl (fun ls hl => ?_)
      refine lv_aload_n (pc := 1069) hx hb dL_law_1069 rfl (lv_at hl 3 rfl) ?_
      refine lv_aload_n (pc := 1070) hx hb dL_law_1070 rfl (lv_at hl 1 rfl) ?_
      refine lv_iload (pc := 1071) hx hb dL_law_1071 (lv_at hl 5 rfl) ?_
      refine lv_iconst (pc := 1073) (v := (1 : Int32)) hx hb dL_law_1073 (by decide) ?_
      refine lv_iadd (pc := 1074) hx hb dL_law_1074 ?_
      refine va_sld (pc := 1075) hx hb hX hbl hbA hS h_in1 dL_law_1075 ?_
      refine lv_aload_n (pc := 1076) hx hb dL_law_1076 rfl (lv_at hl 1 rfl) ?_
      refine lv_iload (pc := 1077) hx hb dL_law_1077 (lv_at hl 5 rfl) ?_
      refine lv_iconst (pc := 1079) (v := (2 : Int32)) hx hb dL_law_1079 (by decide) ?_
      refine lv_iadd (pc := 1080) hx hb dL_law_1080 ?_
      refine va_sld (pc := 1081) hx hb hX hbl hbA hS h_in2 dL_law_1081 ?_
      have hdq : ∀ q, N1.1 q < 16 → ¬ M2.1 q < 16 := hap M1 M2 N1 N2 hI hI1
      refine rg_I2 (pc := 1082) (z := (N2, v)) hW2 hW1 hS hdq hA (rn_V (κ := 8) (As := [.int (xs (x4 + (1 : Int32)).toNatClampNeg), .int (xs (x4 + (2 : Int32)).toNatClampNeg)]) (rest := []) hC ⟨hW2, hS⟩ rfl (by decide) g2 (c_X8_resonance h2 _) m_929 m_930 m_931 m_9 m_932 hd_X8_resonance ⟨rfl, rfl, Nat.le_of_ble_eq_true rfl, Nat.le_of_ble_eq_true rfl⟩ rfl hl.1 rfl (Nat.le_of_ble_eq_true rfl) dL_law_1082 ⟨by show _ ≤ 601024; omega, by show _ ≤ 7293034; omega⟩) (fun H locs hW2 hW1 hS => ?_)
      refine lv_istore (pc := 1085) (lv' := [(6, .int v), (5, .int k), (0, .ref b), (1, .ref x), (2, .ref d), (3, .ref o), (4, .int x4)]) hx hb dL_law_1085 hl (by decide) rfl (fun ls hl => ?_)
      refine lv_aload_n (pc := 1087) hx hb dL_law_1087 rfl (lv_at hl 4 rfl) ?_
      refine rg_I2 (pc := 1088) (z := (N2, k)) hW2 hW1 hS (fun q h h2 => gd1n q h2 h) hA (rn_V (κ := 8) (As := []) (rest := []) hC ⟨hW2, hS⟩ rfl (by decide) g2n (c_X8_thrown h3 _) m_781 m_782 m_783 m_9 m_784 hd_X8_thrown ⟨rfl, rfl, Nat.le_of_ble_eq_true rfl, Nat.le_of_ble_eq_true rfl⟩ rfl hl.1 rfl (Nat.le_of_ble_eq_true rfl) dL_law_1088 ⟨by show _ ≤ 601024; omega, by show _ ≤ 7293034; omega⟩) (fun H locs hW2 hW1 hS => ?_)
      refine lv_iload (pc := 1091) hx hb dL_law_1091 (lv_at hl 1 rfl) ?_
      refine lv_icmp_eq (pc := 1093) (tgt := 1098) hx hb dL_law_1093 (by decide) (fun hc => ?_) (fun hc => absurd rfl hc)
      refine lv_iload (pc := 1098) hx hb dL_law_1098 (lv_at hl 1 rfl) ?_
      refine lv_if_ne (pc := 1100) (tgt := 1115) hx hb dL_law_1100 (by decide) (fun hc => ?_) (fun hc => ?_)
      · refine lv_goto (pc := 1115) (tgt := 1398) hx hb dL_law_1115 (by decide) ?_
        obtain ⟨y4, ey4⟩ : ∃ z : Int32, z = x4 + (5 : Int32) := ⟨_, rfl⟩
        refine lv_iinc (pc := 1398) (v := y4) (lv' := [(4, .int y4), (6, .int v), (5, .int k), (0, .ref b), (1, .ref x), (2, .ref d), (3, .ref o)]) hx hb dL_law_1398 hl (k := 6) rfl (by rw [ey4]; rfl) (by decide) rfl (fun ls hl => ?_)
        refine lv_goto (pc := 1401) (tgt := 23) hx hb dL_law_1401 (by decide) ?_
        exact ih (i + 5) y4 _ _ N1 N2 _ _ hi5 (by omega) (by rw [ey4, ex4]; exact nI_add i 5) (by omega) (by omega) hI1 hW1 hW2 hS ls (lv_sub hl [3, 4, 5, 6, 0] rfl)
      · have h4k := h4 hc
        refine lv_aload_n (pc := 1103) hx hb dL_law_1103 rfl (lv_at hl 5 rfl) ?_
        refine lv_iconst (pc := 1104) (v := (0 : Int32)) hx hb dL_law_1104 (by decide) ?_
        refine rg_lald (pc := 1105) (r := ()) (g := some ()) hx hb hK ⟨hW1, hS⟩ dL_law_1105 (by unfold gd; rw [if_pos ⟨g3n, by rw [g4n]; decide⟩]) (fun _ => ?_)
        refine lv_iload (pc := 1106) hx hb dL_law_1106 (lv_at hl 0 rfl) ?_
        refine lv_i2l (pc := 1108) hx hb dL_law_1108 rfl ?_
        refine W.lcmp (pc := 1109) hx hb dL_law_1109 ?_
        refine lv_if_eq (pc := 1110) (tgt := 1115) hx hb dL_law_1110 (by decide) (fun hc => ?_) (fun hc => absurd (by show lg_cmp (mm_l N1 o 0) _ = 0; rw [h4k]; exact lg_same _) hc)
        refine lv_goto (pc := 1115) (tgt := 1398) hx hb dL_law_1115 (by decide) ?_
        obtain ⟨y4, ey4⟩ : ∃ z : Int32, z = x4 + (5 : Int32) := ⟨_, rfl⟩
        refine lv_iinc (pc := 1398) (v := y4) (lv' := [(4, .int y4), (6, .int v), (5, .int k), (0, .ref b), (1, .ref x), (2, .ref d), (3, .ref o)]) hx hb dL_law_1398 hl (k := 6) rfl (by rw [ey4]; rfl) (by decide) rfl (fun ls hl => ?_)
        refine lv_goto (pc := 1401) (tgt := 23) hx hb dL_law_1401 (by decide) ?_
        exact ih (i + 5) y4 _ _ N1 N2 _ _ hi5 (by omega) (by rw [ey4, ex4]; exact nI_add i 5) (by omega) (by omega) hI1 hW1 hW2 hS ls (lv_sub hl [3, 4, 5, 6, 0] rfl)
    by_cases hw17 : w = (17 : Int32)
    · refine lv_tableIn (pc := 39) (off := 1079) (tgt := 1118) hx hb dL_law_39 (by rw [hw17]; decide) (by rw [hw17]; decide) (by rw [hw17]; decide) (by decide) ?_
      obtain ⟨N1, k, N2, v, h1, h2, h3, h4, hI1⟩ := op_gap (xs (x4 + (1 : Int32)).toNatClampNeg) (xs (x4 + (2 : Int32)).toNatClampNeg) M1 M2 hI
      obtain ⟨g1, g2, g3, g4, gd1⟩ := hK0 _ _ hI
      obtain ⟨g1n, g2n, g3n, g4n, gd1n⟩ := hK0 _ _ hI1
      have gdr : ∀ q, M1.1 q < 16 → ¬ M2.1 q < 16 := fun q h h2 => gd1 q h2 h
      refine lv_aload_n (pc := 1118) hx hb dL_law_1118 rfl (lv_at hl 1 rfl) ?_
      refine lv_aload_n (pc := 1119) hx hb dL_law_1119 rfl (lv_at hl 0 rfl) ?_
      refine lv_iload (pc := 1120) hx hb dL_law_1120 (lv_at hl 4 rfl) ?_
      refine lv_iconst (pc := 1122) (v := (1 : Int32)) hx hb dL_law_1122 (by decide) ?_
      refine lv_iadd (pc := 1123) hx hb dL_law_1123 ?_
      refine va_sld (pc := 1124) hx hb hX hbl hbA hS h_in1 dL_law_1124 ?_
      refine lv_aload_n (pc := 1125) hx hb dL_law_1125 rfl (lv_at hl 0 rfl) ?_
      refine lv_iload (pc := 1126) hx hb dL_law_1126 (lv_at hl 4 rfl) ?_
      refine lv_iconst (pc := 1128) (v := (2 : Int32)) hx hb dL_law_1128 (by decide) ?_
      refine lv_iadd (pc := 1129) hx hb dL_law_1129 ?_
      refine va_sld (pc := 1130) hx hb hX hbl hbA hS h_in2 dL_law_1130 ?_
      refine lv_aload_n (pc := 1131) hx hb dL_law_1131 rfl (lv_at hl 3 rfl) ?_
      refine rg_I2 (pc := 1132) (z := (N1, k)) hW1 hW2 hS gd1 hA (rn_SW (hh := [(0, 10, 13, 39), (0, 10, 17, 13)]) (As := [.ref x, .int (xs (x4 + (1 : Int32)).toNatClampNeg), .int (xs (x4 + (2 : Int32)).toNatClampNeg), .ref o]) (rest := []) hC ⟨hW1, hS⟩ (c_L_gap hlt h1 _) m_625 m_626 m_0 m_627 hd_L_gap ⟨rfl, rfl, Nat.le_of_ble_eq_true rfl, Nat.le_of_ble_eq_true rfl⟩ rfl hl.1 rfl (Nat.le_of_ble_eq_true rfl) dL_law_1132 ⟨by show _ ≤ 601024; omega, by show _ ≤ 7293034; omega⟩) (fun H locs hW1 hW2 hS => ?_)
      refine lv_istore (pc := 1135) (lv' := [(5, .int k), (0, .ref b), (1, .ref x), (2, .ref d), (3, .ref o), (4, .int x4)]) hx hb dL_law_1135 hl (by decide) rfl (fun ls hl => ?_)
      refine lv_aload_n (pc := 1137) hx hb dL_law_1137 rfl (lv_at hl 3 rfl) ?_
      refine lv_aload_n (pc := 1138) hx hb dL_law_1138 rfl (lv_at hl 1 rfl) ?_
      refine lv_iload (pc := 1139) hx hb dL_law_1139 (lv_at hl 5 rfl) ?_
      refine lv_iconst (pc := 1141) (v := (1 : Int32)) hx hb dL_law_1141 (by decide) ?_
      refine lv_iadd (pc := 1142) hx hb dL_law_1142 ?_
      refine va_sld (pc := 1143) hx hb hX hbl hbA hS h_in1 dL_law_1143 ?_
      refine lv_aload_n (pc := 1144) hx hb dL_law_1144 rfl (lv_at hl 1 rfl) ?_
      refine lv_iload (pc := 1145) hx hb dL_law_1145 (lv_at hl 5 rfl) ?_
      refine lv_iconst (pc := 1147) (v := (2 : Int32)) hx hb dL_law_1147 (by decide) ?_
      refine lv_iadd (pc := 1148) hx hb dL_law_1148 ?_
      refine va_sld (pc := 1149) hx hb hX hbl hbA hS h_in2 dL_law_1149 ?_
      have hdq : ∀ q, N1.1 q < 16 → ¬ M2.1 q < 16 := hap M1 M2 N1 N2 hI hI1
      refine rg_I2 (pc := 1150) (z := (N2, v)) hW2 hW1 hS hdq hA (rn_V (κ := 8) (As := [.int (xs (x4 + (1 : Int32)).toNatClampNeg), .int (xs (x4 + (2 : Int32)).toNatClampNeg)]) (rest := []) hC ⟨hW2, hS⟩ rfl (by decide) g2 (c_X8_gap h2 _) m_937 m_938 m_939 m_9 m_940 hd_X8_gap ⟨rfl, rfl, Nat.le_of_ble_eq_true rfl, Nat.le_of_ble_eq_true rfl⟩ rfl hl.1 rfl (Nat.le_of_ble_eq_true rfl) dL_law_1150 ⟨by show _ ≤ 601024; omega, by show _ ≤ 7293034; omega⟩) (fun H locs hW2 hW1 hS => ?_)
      refine lv_istore (pc := 1153) (lv' := [(6, .int v), (5, .int k), (0, .ref b), (1, .ref x), (2, .ref d), (3, .ref o), (4, .int x4)]) hx hb dL_law_1153 hl (by decide) rfl (fun ls hl => ?_)
      refine lv_aload_n (pc := 1155) hx hb dL_law_1155 rfl (lv_at hl 4 rfl) ?_
      refine rg_I2 (pc := 1156) (z := (N2, k)) hW2 hW1 hS (fun q h h2 => gd1n q h2 h) hA (rn_V (κ := 8) (As := []) (rest := []) hC ⟨hW2, hS⟩ rfl (by decide) g2n (c_X8_thrown h3 _) m_781 m_782 m_783 m_9 m_784 hd_X8_thrown ⟨rfl, rfl, Nat.le_of_ble_eq_true rfl, Nat.le_of_ble_eq_true rfl⟩ rfl hl.1 rfl (Nat.le_of_ble_eq_true rfl) dL_law_1156 ⟨by show _ ≤ 601024; omega, by show _ ≤ 7293034; omega⟩) (fun H locs hW2 hW1 hS => ?_)
      refine lv_iload (pc := 1159) hx hb dL_law_1159 (lv_at hl 1 rfl) ?_
      refine lv_icmp_eq (pc := 1161) (tgt := 1166) hx hb dL_law_1161 (by decide) (fun hc => ?_) (fun hc => absurd rfl hc)
      refine lv_iload (pc := 1166) hx hb dL_law_1166 (lv_at hl 1 rfl) ?_
      refine lv_if_ne (pc := 1168) (tgt := 1183) hx hb dL_law_1168 (by decide) (fun hc => ?_) (fun hc => ?_)
      · refine lv_goto (pc := 1183) (tgt := 1398) hx hb dL_law_1183 (by decide) ?_
        obtain ⟨y4, ey4⟩ : ∃ z : Int32, z = x4 + (5 : Int32) := ⟨_, rfl⟩
        refine lv_iinc (pc := 1398) (v := y4) (lv' := [(4, .int y4), (6, .int v), (5, .int k), (0, .ref b), (1, .ref x), (2, .ref d), (3, .ref o)]) hx hb dL_law_1398 hl (k := 6) rfl (by rw [ey4]; rfl) (by decide) rfl (fun ls hl => ?_)
        refine lv_goto (pc := 1401) (tgt := 23) hx hb dL_law_1401 (by decide) ?_
        exact ih (i + 5) y4 _ _ N1 N2 _ _ hi5 (by omega) (by rw [ey4, ex4]; exact nI_add i 5) (by omega) (by omega) hI1 hW1 hW2 hS ls (lv_sub hl [3, 4, 5, 6, 0] rfl)
      · have h4k := h4 hc
        refine lv_aload_n (pc := 1171) hx hb dL_law_1171 rfl (lv_at hl 5 rfl) ?_
        refine lv_iconst (pc := 1172) (v := (0 : Int32)) hx hb dL_law_1172 (by decide) ?_
        refine rg_lald (pc := 1173) (r := ()) (g := some ()) hx hb hK ⟨hW1, hS⟩ dL_law_1173 (by unfold gd; rw [if_pos ⟨g3n, by rw [g4n]; decide⟩]) (fun _ => ?_)
        refine lv_iload (pc := 1174) hx hb dL_law_1174 (lv_at hl 0 rfl) ?_
        refine lv_i2l (pc := 1176) hx hb dL_law_1176 rfl ?_
        refine W.lcmp (pc := 1177) hx hb dL_law_1177 ?_
        refine lv_if_eq (pc := 1178) (tgt := 1183) hx hb dL_law_1178 (by decide) (fun hc => ?_) (fun hc => absurd (by show lg_cmp (mm_l N1 o 0) _ = 0; rw [h4k]; exact lg_same _) hc)
        refine lv_goto (pc := 1183) (tgt := 1398) hx hb dL_law_1183 (by decide) ?_
        obtain ⟨y4, ey4⟩ : ∃ z : Int32, z = x4 + (5 : Int32) := ⟨_, rfl⟩
        refine lv_iinc (pc := 1398) (v := y4) (lv' := [(4, .int y4), (6, .int v), (5, .int k), (0, .ref b), (1, .ref x), (2, .ref d), (3, .ref o)]) hx hb dL_law_1398 hl (k := 6) rfl (by rw [ey4]; rfl) (by decide) rfl (fun ls hl => ?_)
        refine lv_goto (pc := 1401) (tgt := 23) hx hb dL_law_1401 (by decide) ?_
        exact ih (i + 5) y4 _ _ N1 N2 _ _ hi5 (by omega) (by rw [ey4, ex4]; exact nI_add i 5) (by omega) (by omega) hI1 hW1 hW2 hS ls (lv_sub hl [3, 4, 5, 6, 0] rfl)
    by_cases hw18 : w = (18 : Int32)
    · refine lv_tableIn (pc := 39) (off := 1147) (tgt := 1186) hx hb dL_law_39 (by rw [hw18]; decide) (by rw [hw18]; decide) (by rw [hw18]; decide) (by decide) ?_
      obtain ⟨N1, N2, v, h1, h2, hI1⟩ := op_gaps M1 M2 hI
      obtain ⟨g1, g2, g3, g4, gd1⟩ := hK0 _ _ hI
      obtain ⟨g1n, g2n, g3n, g4n, gd1n⟩ := hK0 _ _ hI1
      have gdr : ∀ q, M1.1 q < 16 → ¬ M2.1 q < 16 := fun q h h2 => gd1 q h2 h
      refine lv_aload_n (pc := 1186) hx hb dL_law_1186 rfl (lv_at hl 1 rfl) ?_
      refine rg_I2 (pc := 1187) (z := (N1, v)) hW1 hW2 hS gd1 hA (rn_V (κ := 7) (As := []) (rest := []) hC ⟨hW1, hS⟩ rfl (by decide) g1 (c_X7_gaps h1 _) m_279 m_280 m_281 m_1 m_282 hd_X7_gaps ⟨rfl, rfl, Nat.le_of_ble_eq_true rfl, Nat.le_of_ble_eq_true rfl⟩ rfl hl.1 rfl (Nat.le_of_ble_eq_true rfl) dL_law_1187 ⟨by show _ ≤ 601024; omega, by show _ ≤ 7293034; omega⟩) (fun H locs hW1 hW2 hS => ?_)
      refine lv_aload_n (pc := 1190) hx hb dL_law_1190 rfl (lv_at hl 2 rfl) ?_
      have hdq : ∀ q, N1.1 q < 16 → ¬ M2.1 q < 16 := hap M1 M2 N1 N2 hI hI1
      refine rg_I2 (pc := 1191) (z := (N2, v)) hW2 hW1 hS hdq hA (rn_V (κ := 8) (As := []) (rest := [.int v]) hC ⟨hW2, hS⟩ rfl (by decide) g2 (c_X8_gaps h2 _) m_965 m_966 m_967 m_9 m_968 hd_X8_gaps ⟨rfl, rfl, Nat.le_of_ble_eq_true rfl, Nat.le_of_ble_eq_true rfl⟩ rfl hl.1 rfl (Nat.le_of_ble_eq_true rfl) dL_law_1191 ⟨by show _ ≤ 601024; omega, by show _ ≤ 7293034; omega⟩) (fun H locs hW2 hW1 hS => ?_)
      refine lv_icmp_eq (pc := 1194) (tgt := 1398) hx hb dL_law_1194 (by decide) (fun hc => ?_) (fun hc => absurd rfl hc)
      obtain ⟨y4, ey4⟩ : ∃ z : Int32, z = x4 + (5 : Int32) := ⟨_, rfl⟩
      refine lv_iinc (pc := 1398) (v := y4) (lv' := [(4, .int y4), (0, .ref b), (1, .ref x), (2, .ref d), (3, .ref o)]) hx hb dL_law_1398 hl (k := 4) rfl (by rw [ey4]; rfl) (by decide) rfl (fun ls hl => ?_)
      refine lv_goto (pc := 1401) (tgt := 23) hx hb dL_law_1401 (by decide) ?_
      exact ih (i + 5) y4 _ _ N1 N2 _ _ hi5 (by omega) (by rw [ey4, ex4]; exact nI_add i 5) (by omega) (by omega) hI1 hW1 hW2 hS ls (lv_sub hl [1, 2, 3, 4, 0] rfl)
    by_cases hw19 : w = (19 : Int32)
    · refine lv_tableIn (pc := 39) (off := 1160) (tgt := 1199) hx hb dL_law_39 (by rw [hw19]; decide) (by rw [hw19]; decide) (by rw [hw19]; decide) (by decide) ?_
      obtain ⟨N1, k, N2, v, h1, h2, h3, h4, hI1⟩ := op_framed (xs (x4 + (1 : Int32)).toNatClampNeg) (xs (x4 + (2 : Int32)).toNatClampNeg) M1 M2 hI
      obtain ⟨g1, g2, g3, g4, gd1⟩ := hK0 _ _ hI
      obtain ⟨g1n, g2n, g3n, g4n, gd1n⟩ := hK0 _ _ hI1
      have gdr : ∀ q, M1.1 q < 16 → ¬ M2.1 q < 16 := fun q h h2 => gd1 q h2 h
      refine lv_aload_n (pc := 1199) hx hb dL_law_1199 rfl (lv_at hl 1 rfl) ?_
      refine lv_aload_n (pc := 1200) hx hb dL_law_1200 rfl (lv_at hl 0 rfl) ?_
      refine lv_iload (pc := 1201) hx hb dL_law_1201 (lv_at hl 4 rfl) ?_
      refine lv_iconst (pc := 1203) (v := (1 : Int32)) hx hb dL_law_1203 (by decide) ?_
      refine lv_iadd (pc := 1204) hx hb dL_law_1204 ?_
      refine va_sld (pc := 1205) hx hb hX hbl hbA hS h_in1 dL_law_1205 ?_
      refine lv_aload_n (pc := 1206) hx hb dL_law_1206 rfl (lv_at hl 0 rfl) ?_
      refine lv_iload (pc := 1207) hx hb dL_law_1207 (lv_at hl 4 rfl) ?_
      refine lv_iconst (pc := 1209) (v := (2 : Int32)) hx hb dL_law_1209 (by decide) ?_
      refine lv_iadd (pc := 1210) hx hb dL_law_1210 ?_
      refine va_sld (pc := 1211) hx hb hX hbl hbA hS h_in2 dL_law_1211 ?_
      refine lv_aload_n (pc := 1212) hx hb dL_law_1212 rfl (lv_at hl 3 rfl) ?_
      refine rg_I2 (pc := 1213) (z := (N1, k)) hW1 hW2 hS gd1 hA (rn_SW (hh := [(0, 10, 13, 39), (0, 10, 17, 13)]) (As := [.ref x, .int (xs (x4 + (1 : Int32)).toNatClampNeg), .int (xs (x4 + (2 : Int32)).toNatClampNeg), .ref o]) (rest := []) hC ⟨hW1, hS⟩ (c_L_framed hlt h1 _) m_637 m_638 m_0 m_639 hd_L_framed ⟨rfl, rfl, Nat.le_of_ble_eq_true rfl, Nat.le_of_ble_eq_true rfl⟩ rfl hl.1 rfl (Nat.le_of_ble_eq_true rfl) dL_law_1213 ⟨by show _ ≤ 601024; omega, by show _ ≤ 7293034; omega⟩) (fun H locs hW1 hW2 hS => ?_)
      refine lv_istore (pc := 1216) (lv' := [(5, .int k), (0, .ref b), (1, .ref x), (2, .ref d), (3, .ref o), (4, .int x4)]) hx hb dL_law_1216 hl (by decide) rfl (fun ls hl => ?_)
      refine lv_aload_n (pc := 1218) hx hb dL_law_1218 rfl (lv_at hl 3 rfl) ?_
      refine lv_aload_n (pc := 1219) hx hb dL_law_1219 rfl (lv_at hl 1 rfl) ?_
      refine lv_iload (pc := 1220) hx hb dL_law_1220 (lv_at hl 5 rfl) ?_
      refine lv_iconst (pc := 1222) (v := (1 : Int32)) hx hb dL_law_1222 (by decide) ?_
      refine lv_iadd (pc := 1223) hx hb dL_law_1223 ?_
      refine va_sld (pc := 1224) hx hb hX hbl hbA hS h_in1 dL_law_1224 ?_
      refine lv_aload_n (pc := 1225) hx hb dL_law_1225 rfl (lv_at hl 1 rfl) ?_
      refine lv_iload (pc := 1226) hx hb dL_law_1226 (lv_at hl 5 rfl) ?_
      refine lv_iconst (pc := 1228) (v := (2 : Int32)) hx hb dL_law_1228 (by decide) ?_
      refine lv_iadd (pc := 1229) hx hb dL_law_1229 ?_
      refine va_sld (pc := 1230) hx hb hX hbl hbA hS h_in2 dL_law_1230 ?_
      have hdq : ∀ q, N1.1 q < 16 → ¬ M2.1 q < 16 := hap M1 M2 N1 N2 hI hI1
      refine rg_I2 (pc := 1231) (z := (N2, v)) hW2 hW1 hS hdq hA (rn_V (κ := 8) (As := [.int (xs (x4 + (1 : Int32)).toNatClampNeg), .int (xs (x4 + (2 : Int32)).toNatClampNeg)]) (rest := []) hC ⟨hW2, hS⟩ rfl (by decide) g2 (c_X8_framed h2 _) m_969 m_970 m_971 m_9 m_972 hd_X8_framed ⟨rfl, rfl, Nat.le_of_ble_eq_true rfl, Nat.le_of_ble_eq_true rfl⟩ rfl hl.1 rfl (Nat.le_of_ble_eq_true rfl) dL_law_1231 ⟨by show _ ≤ 601024; omega, by show _ ≤ 7293034; omega⟩) (fun H locs hW2 hW1 hS => ?_)
      refine lv_istore (pc := 1234) (lv' := [(6, .int v), (5, .int k), (0, .ref b), (1, .ref x), (2, .ref d), (3, .ref o), (4, .int x4)]) hx hb dL_law_1234 hl (by decide) rfl (fun ls hl => ?_)
      refine lv_aload_n (pc := 1236) hx hb dL_law_1236 rfl (lv_at hl 4 rfl) ?_
      refine rg_I2 (pc := 1237) (z := (N2, k)) hW2 hW1 hS (fun q h h2 => gd1n q h2 h) hA (rn_V (κ := 8) (As := []) (rest := []) hC ⟨hW2, hS⟩ rfl (by decide) g2n (c_X8_thrown h3 _) m_781 m_782 m_783 m_9 m_784 hd_X8_thrown ⟨rfl, rfl, Nat.le_of_ble_eq_true rfl, Nat.le_of_ble_eq_true rfl⟩ rfl hl.1 rfl (Nat.le_of_ble_eq_true rfl) dL_law_1237 ⟨by show _ ≤ 601024; omega, by show _ ≤ 7293034; omega⟩) (fun H locs hW2 hW1 hS => ?_)
      refine lv_iload (pc := 1240) hx hb dL_law_1240 (lv_at hl 1 rfl) ?_
      refine lv_icmp_eq (pc := 1242) (tgt := 1247) hx hb dL_law_1242 (by decide) (fun hc => ?_) (fun hc => absurd rfl hc)
      refine lv_iload (pc := 1247) hx hb dL_law_1247 (lv_at hl 1 rfl) ?_
      refine lv_if_ne (pc := 1249) (tgt := 1264) hx hb dL_law_1249 (by decide) (fun hc => ?_) (fun hc => ?_)
      · refine lv_goto (pc := 1264) (tgt := 1398) hx hb dL_law_1264 (by decide) ?_
        obtain ⟨y4, ey4⟩ : ∃ z : Int32, z = x4 + (5 : Int32) := ⟨_, rfl⟩
        refine lv_iinc (pc := 1398) (v := y4) (lv' := [(4, .int y4), (6, .int v), (5, .int k), (0, .ref b), (1, .ref x), (2, .ref d), (3, .ref o)]) hx hb dL_law_1398 hl (k := 6) rfl (by rw [ey4]; rfl) (by decide) rfl (fun ls hl => ?_)
        refine lv_goto (pc := 1401) (tgt := 23) hx hb dL_law_1401 (by decide) ?_
        exact ih (i + 5) y4 _ _ N1 N2 _ _ hi5 (by omega) (by rw [ey4, ex4]; exact nI_add i 5) (by omega) (by omega) hI1 hW1 hW2 hS ls (lv_sub hl [3, 4, 5, 6, 0] rfl)
      · have h4k := h4 hc
        refine lv_aload_n (pc := 1252) hx hb dL_law_1252 rfl (lv_at hl 5 rfl) ?_
        refine lv_iconst (pc := 1253) (v := (0 : Int32)) hx hb dL_law_1253 (by decide) ?_
        refine rg_lald (pc := 1254) (r := ()) (g := some ()) hx hb hK ⟨hW1, hS⟩ dL_law_1254 (by unfold gd; rw [if_pos ⟨g3n, by rw [g4n]; decide⟩]) (fun _ => ?_)
        refine lv_iload (pc := 1255) hx hb dL_law_1255 (lv_at hl 0 rfl) ?_
        refine lv_i2l (pc := 1257) hx hb dL_law_1257 rfl ?_
        refine W.lcmp (pc := 1258) hx hb dL_law_1258 ?_
        refine lv_if_eq (pc := 1259) (tgt := 1264) hx hb dL_law_1259 (by decide) (fun hc => ?_) (fun hc => absurd (by show lg_cmp (mm_l N1 o 0) _ = 0; rw [h4k]; exact lg_same _) hc)
        refine lv_goto (pc := 1264) (tgt := 1398) hx hb dL_law_1264 (by decide) ?_
        obtain ⟨y4, ey4⟩ : ∃ z : Int32, z = x4 + (5 : Int32) := ⟨_, rfl⟩
        refine lv_iinc (pc := 1398) (v := y4) (lv' := [(4, .int y4), (6, .int v), (5, .int k), (0, .ref b), (1, .ref x), (2, .ref d), (3, .ref o)]) hx hb dL_law_1398 hl (k := 6) rfl (by rw [ey4]; rfl) (by decide) rfl (fun ls hl => ?_)
        refine lv_goto (pc := 1401) (tgt := 23) hx hb dL_law_1401 (by decide) ?_
        exact ih (i + 5) y4 _ _ N1 N2 _ _ hi5 (by omega) (by rw [ey4, ex4]; exact nI_add i 5) (by omega) (by omega) hI1 hW1 hW2 hS ls (lv_sub hl [3, 4, 5, 6, 0] rfl)
    by_cases hw20 : w = (20 : Int32)
    · refine lv_tableIn (pc := 39) (off := 1228) (tgt := 1267) hx hb dL_law_39 (by rw [hw20]; decide) (by rw [hw20]; decide) (by rw [hw20]; decide) (by decide) ?_
      obtain ⟨N1, k, N2, v, h1, h2, h3, h4, hI1⟩ := op_holds (xs (x4 + (1 : Int32)).toNatClampNeg) (xs (x4 + (2 : Int32)).toNatClampNeg) M1 M2 hI
      obtain ⟨g1, g2, g3, g4, gd1⟩ := hK0 _ _ hI
      obtain ⟨g1n, g2n, g3n, g4n, gd1n⟩ := hK0 _ _ hI1
      have gdr : ∀ q, M1.1 q < 16 → ¬ M2.1 q < 16 := fun q h h2 => gd1 q h2 h
      refine lv_aload_n (pc := 1267) hx hb dL_law_1267 rfl (lv_at hl 1 rfl) ?_
      refine lv_aload_n (pc := 1268) hx hb dL_law_1268 rfl (lv_at hl 0 rfl) ?_
      refine lv_iload (pc := 1269) hx hb dL_law_1269 (lv_at hl 4 rfl) ?_
      refine lv_iconst (pc := 1271) (v := (1 : Int32)) hx hb dL_law_1271 (by decide) ?_
      refine lv_iadd (pc := 1272) hx hb dL_law_1272 ?_
      refine va_sld (pc := 1273) hx hb hX hbl hbA hS h_in1 dL_law_1273 ?_
      refine lv_aload_n (pc := 1274) hx hb dL_law_1274 rfl (lv_at hl 0 rfl) ?_
      refine lv_iload (pc := 1275) hx hb dL_law_1275 (lv_at hl 4 rfl) ?_
      refine lv_iconst (pc := 1277) (v := (2 : Int32)) hx hb dL_law_1277 (by decide) ?_
      refine lv_iadd (pc := 1278) hx hb dL_law_1278 ?_
      refine va_sld (pc := 1279) hx hb hX hbl hbA hS h_in2 dL_law_1279 ?_
      refine lv_aload_n (pc := 1280) hx hb dL_law_1280 rfl (lv_at hl 3 rfl) ?_
      refine rg_I2 (pc := 1281) (z := (N1, k)) hW1 hW2 hS gd1 hA (rn_SW (hh := [(0, 17, 20, 39)]) (As := [.ref x, .int (xs (x4 + (1 : Int32)).toNatClampNeg), .int (xs (x4 + (2 : Int32)).toNatClampNeg), .ref o]) (rest := []) hC ⟨hW1, hS⟩ (c_L_holds hlt h1 _) m_644 m_645 m_0 m_646 hd_L_holds ⟨rfl, rfl, Nat.le_of_ble_eq_true rfl, Nat.le_of_ble_eq_true rfl⟩ rfl hl.1 rfl (Nat.le_of_ble_eq_true rfl) dL_law_1281 ⟨by show _ ≤ 601024; omega, by show _ ≤ 7293034; omega⟩) (fun H locs hW1 hW2 hS => ?_)
      refine lv_istore (pc := 1284) (lv' := [(5, .int k), (0, .ref b), (1, .ref x), (2, .ref d), (3, .ref o), (4, .int x4)]) hx hb dL_law_1284 hl (by decide) rfl (fun ls hl => ?_)
      refine lv_aload_n (pc := 1286) hx hb dL_law_1286 rfl (lv_at hl 3 rfl) ?_
      refine lv_aload_n (pc := 1287) hx hb dL_law_1287 rfl (lv_at hl 1 rfl) ?_
      refine lv_iload (pc := 1288) hx hb dL_law_1288 (lv_at hl 5 rfl) ?_
      refine lv_iconst (pc := 1290) (v := (1 : Int32)) hx hb dL_law_1290 (by decide) ?_
      refine lv_iadd (pc := 1291) hx hb dL_law_1291 ?_
      refine va_sld (pc := 1292) hx hb hX hbl hbA hS h_in1 dL_law_1292 ?_
      refine lv_aload_n (pc := 1293) hx hb dL_law_1293 rfl (lv_at hl 1 rfl) ?_
      refine lv_iload (pc := 1294) hx hb dL_law_1294 (lv_at hl 5 rfl) ?_
      refine lv_iconst (pc := 1296) (v := (2 : Int32)) hx hb dL_law_1296 (by decide) ?_
      refine lv_iadd (pc := 1297) hx hb dL_law_1297 ?_
      refine va_sld (pc := 1298) hx hb hX hbl hbA hS h_in2 dL_law_1298 ?_
      have hdq : ∀ q, N1.1 q < 16 → ¬ M2.1 q < 16 := hap M1 M2 N1 N2 hI hI1
      refine rg_I2 (pc := 1299) (z := (N2, v)) hW2 hW1 hS hdq hA (rn_V (κ := 8) (As := [.int (xs (x4 + (1 : Int32)).toNatClampNeg), .int (xs (x4 + (2 : Int32)).toNatClampNeg)]) (rest := []) hC ⟨hW2, hS⟩ rfl (by decide) g2 (c_X8_holds h2 _) m_973 m_974 m_975 m_9 m_976 hd_X8_holds ⟨rfl, rfl, Nat.le_of_ble_eq_true rfl, Nat.le_of_ble_eq_true rfl⟩ rfl hl.1 rfl (Nat.le_of_ble_eq_true rfl) dL_law_1299 ⟨by show _ ≤ 601024; omega, by show _ ≤ 7293034; omega⟩) (fun H locs hW2 hW1 hS => ?_)
      refine lv_istore (pc := 1302) (lv' := [(6, .int v), (5, .int k), (0, .ref b), (1, .ref x), (2, .ref d), (3, .ref o), (4, .int x4)]) hx hb dL_law_1302 hl (by decide) rfl (fun ls hl => ?_)
      refine lv_aload_n (pc := 1304) hx hb dL_law_1304 rfl (lv_at hl 4 rfl) ?_
      refine rg_I2 (pc := 1305) (z := (N2, k)) hW2 hW1 hS (fun q h h2 => gd1n q h2 h) hA (rn_V (κ := 8) (As := []) (rest := []) hC ⟨hW2, hS⟩ rfl (by decide) g2n (c_X8_thrown h3 _) m_781 m_782 m_783 m_9 m_784 hd_X8_thrown ⟨rfl, rfl, Nat.le_of_ble_eq_true rfl, Nat.le_of_ble_eq_true rfl⟩ rfl hl.1 rfl (Nat.le_of_ble_eq_true rfl) dL_law_1305 ⟨by show _ ≤ 601024; omega, by show _ ≤ 7293034; omega⟩) (fun H locs hW2 hW1 hS => ?_)
      refine lv_iload (pc := 1308) hx hb dL_law_1308 (lv_at hl 1 rfl) ?_
      refine lv_icmp_eq (pc := 1310) (tgt := 1315) hx hb dL_law_1310 (by decide) (fun hc => ?_) (fun hc => absurd rfl hc)
      refine lv_iload (pc := 1315) hx hb dL_law_1315 (lv_at hl 1 rfl) ?_
      refine lv_if_ne (pc := 1317) (tgt := 1339) hx hb dL_law_1317 (by decide) (fun hc => ?_) (fun hc => ?_)
      · refine lv_goto (pc := 1339) (tgt := 1398) hx hb dL_law_1339 (by decide) ?_
        obtain ⟨y4, ey4⟩ : ∃ z : Int32, z = x4 + (5 : Int32) := ⟨_, rfl⟩
        refine lv_iinc (pc := 1398) (v := y4) (lv' := [(4, .int y4), (6, .int v), (5, .int k), (0, .ref b), (1, .ref x), (2, .ref d), (3, .ref o)]) hx hb dL_law_1398 hl (k := 6) rfl (by rw [ey4]; rfl) (by decide) rfl (fun ls hl => ?_)
        refine lv_goto (pc := 1401) (tgt := 23) hx hb dL_law_1401 (by decide) ?_
        exact ih (i + 5) y4 _ _ N1 N2 _ _ hi5 (by omega) (by rw [ey4, ex4]; exact nI_add i 5) (by omega) (by omega) hI1 hW1 hW2 hS ls (lv_sub hl [3, 4, 5, 6, 0] rfl)
      · have h4k := h4 hc
        refine lv_aload_n (pc := 1320) hx hb dL_law_1320 rfl (lv_at hl 5 rfl) ?_
        refine lv_iconst (pc := 1321) (v := (0 : Int32)) hx hb dL_law_1321 (by decide) ?_
        refine rg_lald (pc := 1322) (r := ()) (g := some ()) hx hb hK ⟨hW1, hS⟩ dL_law_1322 (by unfold gd; rw [if_pos ⟨g3n, by rw [g4n]; decide⟩]) (fun _ => ?_)
        refine lv_iload (pc := 1323) hx hb dL_law_1323 (lv_at hl 0 rfl) ?_
        refine lv_if_eq (pc := 1325) (tgt := 1332) hx hb dL_law_1325 (by decide) (fun hv => ?_) (fun hv => ?_)
        · refine lv_lconst (pc := 1332) (v := (0 : Int64)) hx hb dL_law_1332 (by decide) ?_
          rw [if_pos hv] at h4k
          refine W.lcmp (pc := 1333) hx hb dL_law_1333 ?_
          refine lv_if_eq (pc := 1334) (tgt := 1339) hx hb dL_law_1334 (by decide) (fun hc => ?_) (fun hc => absurd (by show lg_cmp (mm_l N1 o 0) _ = 0; rw [h4k]; exact lg_same _) hc)
          refine lv_goto (pc := 1339) (tgt := 1398) hx hb dL_law_1339 (by decide) ?_
          obtain ⟨y4, ey4⟩ : ∃ z : Int32, z = x4 + (5 : Int32) := ⟨_, rfl⟩
          refine lv_iinc (pc := 1398) (v := y4) (lv' := [(4, .int y4), (6, .int v), (5, .int k), (0, .ref b), (1, .ref x), (2, .ref d), (3, .ref o)]) hx hb dL_law_1398 hl (k := 6) rfl (by rw [ey4]; rfl) (by decide) rfl (fun ls hl => ?_)
          refine lv_goto (pc := 1401) (tgt := 23) hx hb dL_law_1401 (by decide) ?_
          exact ih (i + 5) y4 _ _ N1 N2 _ _ hi5 (by omega) (by rw [ey4, ex4]; exact nI_add i 5) (by omega) (by omega) hI1 hW1 hW2 hS ls (lv_sub hl [3, 4, 5, 6, 0] rfl)
        · refine lv_lconst (pc := 1328) (v := (1 : Int64)) hx hb dL_law_1328 (by decide) ?_
          refine lv_goto (pc := 1329) (tgt := 1333) hx hb dL_law_1329 (by decide) ?_
          rw [if_neg hv] at h4k
          refine W.lcmp (pc := 1333) hx hb dL_law_1333 ?_
          refine lv_if_eq (pc := 1334) (tgt := 1339) hx hb dL_law_1334 (by decide) (fun hc => ?_) (fun hc => absurd (by show lg_cmp (mm_l N1 o 0) _ = 0; rw [h4k]; exact lg_same _) hc)
          refine lv_goto (pc := 1339) (tgt := 1398) hx hb dL_law_1339 (by decide) ?_
          obtain ⟨y4, ey4⟩ : ∃ z : Int32, z = x4 + (5 : Int32) := ⟨_, rfl⟩
          refine lv_iinc (pc := 1398) (v := y4) (lv' := [(4, .int y4), (6, .int v), (5, .int k), (0, .ref b), (1, .ref x), (2, .ref d), (3, .ref o)]) hx hb dL_law_1398 hl (k := 6) rfl (by rw [ey4]; rfl) (by decide) rfl (fun ls hl => ?_)
          refine lv_goto (pc := 1401) (tgt := 23) hx hb dL_law_1401 (by decide) ?_
          exact ih (i + 5) y4 _ _ N1 N2 _ _ hi5 (by omega) (by rw [ey4, ex4]; exact nI_add i 5) (by omega) (by omega) hI1 hW1 hW2 hS ls (lv_sub hl [3, 4, 5, 6, 0] rfl)
    by_cases hw21 : w = (21 : Int32)
    · refine lv_tableIn (pc := 39) (off := 1303) (tgt := 1342) hx hb dL_law_39 (by rw [hw21]; decide) (by rw [hw21]; decide) (by rw [hw21]; decide) (by decide) ?_
      obtain ⟨N1, k, N2, v, h1, h2, h3, h4, hI1⟩ := op_disputes (xs (x4 + (1 : Int32)).toNatClampNeg) M1 M2 hI
      obtain ⟨g1, g2, g3, g4, gd1⟩ := hK0 _ _ hI
      obtain ⟨g1n, g2n, g3n, g4n, gd1n⟩ := hK0 _ _ hI1
      have gdr : ∀ q, M1.1 q < 16 → ¬ M2.1 q < 16 := fun q h h2 => gd1 q h2 h
      refine lv_aload_n (pc := 1342) hx hb dL_law_1342 rfl (lv_at hl 1 rfl) ?_
      refine lv_aload_n (pc := 1343) hx hb dL_law_1343 rfl (lv_at hl 0 rfl) ?_
      refine lv_iload (pc := 1344) hx hb dL_law_1344 (lv_at hl 4 rfl) ?_
      refine lv_iconst (pc := 1346) (v := (1 : Int32)) hx hb dL_law_1346 (by decide) ?_
      refine lv_iadd (pc := 1347) hx hb dL_law_1347 ?_
      refine va_sld (pc := 1348) hx hb hX hbl hbA hS h_in1 dL_law_1348 ?_
      refine lv_aload_n (pc := 1349) hx hb dL_law_1349 rfl (lv_at hl 3 rfl) ?_
      refine rg_I2 (pc := 1350) (z := (N1, k)) hW1 hW2 hS gd1 hA (rn_SW (hh := [(0, 9, 12, 39)]) (As := [.ref x, .int (xs (x4 + (1 : Int32)).toNatClampNeg), .ref o]) (rest := []) hC ⟨hW1, hS⟩ (c_L_disputes hlt h1 _) m_655 m_656 m_0 m_657 hd_L_disputes ⟨rfl, rfl, Nat.le_of_ble_eq_true rfl, Nat.le_of_ble_eq_true rfl⟩ rfl hl.1 rfl (Nat.le_of_ble_eq_true rfl) dL_law_1350 ⟨by show _ ≤ 601024; omega, by show _ ≤ 7293034; omega⟩) (fun H locs hW1 hW2 hS => ?_)
      refine lv_istore (pc := 1353) (lv' := [(5, .int k), (0, .ref b), (1, .ref x), (2, .ref d), (3, .ref o), (4, .int x4)]) hx hb dL_law_1353 hl (by decide) rfl (fun ls hl => ?_)
      refine lv_aload_n (pc := 1355) hx hb dL_law_1355 rfl (lv_at hl 3 rfl) ?_
      refine lv_aload_n (pc := 1356) hx hb dL_law_1356 rfl (lv_at hl 1 rfl) ?_
      refine lv_iload (pc := 1357) hx hb dL_law_1357 (lv_at hl 5 rfl) ?_
      refine lv_iconst (pc := 1359) (v := (1 : Int32)) hx hb dL_law_1359 (by decide) ?_
      refine lv_iadd (pc := 1360) hx hb dL_law_1360 ?_
      refine va_sld (pc := 1361) hx hb hX hbl hbA hS h_in1 dL_law_1361 ?_
      have hdq : ∀ q, N1.1 q < 16 → ¬ M2.1 q < 16 := hap M1 M2 N1 N2 hI hI1
      refine rg_I2 (pc := 1362) (z := (N2, v)) hW2 hW1 hS hdq hA (rn_V (κ := 8) (As := [.int (xs (x4 + (1 : Int32)).toNatClampNeg)]) (rest := []) hC ⟨hW2, hS⟩ rfl (by decide) g2 (c_X8_disputes h2 _) m_985 m_986 m_987 m_9 m_988 hd_X8_disputes ⟨rfl, rfl, Nat.le_of_ble_eq_true rfl, Nat.le_of_ble_eq_true rfl⟩ rfl hl.1 rfl (Nat.le_of_ble_eq_true rfl) dL_law_1362 ⟨by show _ ≤ 601024; omega, by show _ ≤ 7293034; omega⟩) (fun H locs hW2 hW1 hS => ?_)
      refine lv_istore (pc := 1365) (lv' := [(6, .int v), (5, .int k), (0, .ref b), (1, .ref x), (2, .ref d), (3, .ref o), (4, .int x4)]) hx hb dL_law_1365 hl (by decide) rfl (fun ls hl => ?_)
      refine lv_aload_n (pc := 1367) hx hb dL_law_1367 rfl (lv_at hl 4 rfl) ?_
      refine rg_I2 (pc := 1368) (z := (N2, k)) hW2 hW1 hS (fun q h h2 => gd1n q h2 h) hA (rn_V (κ := 8) (As := []) (rest := []) hC ⟨hW2, hS⟩ rfl (by decide) g2n (c_X8_thrown h3 _) m_781 m_782 m_783 m_9 m_784 hd_X8_thrown ⟨rfl, rfl, Nat.le_of_ble_eq_true rfl, Nat.le_of_ble_eq_true rfl⟩ rfl hl.1 rfl (Nat.le_of_ble_eq_true rfl) dL_law_1368 ⟨by show _ ≤ 601024; omega, by show _ ≤ 7293034; omega⟩) (fun H locs hW2 hW1 hS => ?_)
      refine lv_iload (pc := 1371) hx hb dL_law_1371 (lv_at hl 1 rfl) ?_
      refine lv_icmp_eq (pc := 1373) (tgt := 1378) hx hb dL_law_1373 (by decide) (fun hc => ?_) (fun hc => absurd rfl hc)
      refine lv_iload (pc := 1378) hx hb dL_law_1378 (lv_at hl 1 rfl) ?_
      refine lv_if_ne (pc := 1380) (tgt := 1395) hx hb dL_law_1380 (by decide) (fun hc => ?_) (fun hc => ?_)
      · refine lv_goto (pc := 1395) (tgt := 1398) hx hb dL_law_1395 (by decide) ?_
        obtain ⟨y4, ey4⟩ : ∃ z : Int32, z = x4 + (5 : Int32) := ⟨_, rfl⟩
        refine lv_iinc (pc := 1398) (v := y4) (lv' := [(4, .int y4), (6, .int v), (5, .int k), (0, .ref b), (1, .ref x), (2, .ref d), (3, .ref o)]) hx hb dL_law_1398 hl (k := 6) rfl (by rw [ey4]; rfl) (by decide) rfl (fun ls hl => ?_)
        refine lv_goto (pc := 1401) (tgt := 23) hx hb dL_law_1401 (by decide) ?_
        exact ih (i + 5) y4 _ _ N1 N2 _ _ hi5 (by omega) (by rw [ey4, ex4]; exact nI_add i 5) (by omega) (by omega) hI1 hW1 hW2 hS ls (lv_sub hl [3, 4, 5, 6, 0] rfl)
      · have h4k := h4 hc
        refine lv_aload_n (pc := 1383) hx hb dL_law_1383 rfl (lv_at hl 5 rfl) ?_
        refine lv_iconst (pc := 1384) (v := (0 : Int32)) hx hb dL_law_1384 (by decide) ?_
        refine rg_lald (pc := 1385) (r := ()) (g := some ()) hx hb hK ⟨hW1, hS⟩ dL_law_1385 (by unfold gd; rw [if_pos ⟨g3n, by rw [g4n]; decide⟩]) (fun _ => ?_)
        refine lv_iload (pc := 1386) hx hb dL_law_1386 (lv_at hl 0 rfl) ?_
        refine lv_i2l (pc := 1388) hx hb dL_law_1388 rfl ?_
        refine W.lcmp (pc := 1389) hx hb dL_law_1389 ?_
        refine lv_if_eq (pc := 1390) (tgt := 1395) hx hb dL_law_1390 (by decide) (fun hc => ?_) (fun hc => absurd (by show lg_cmp (mm_l N1 o 0) _ = 0; rw [h4k]; exact lg_same _) hc)
        refine lv_goto (pc := 1395) (tgt := 1398) hx hb dL_law_1395 (by decide) ?_
        obtain ⟨y4, ey4⟩ : ∃ z : Int32, z = x4 + (5 : Int32) := ⟨_, rfl⟩
        refine lv_iinc (pc := 1398) (v := y4) (lv' := [(4, .int y4), (6, .int v), (5, .int k), (0, .ref b), (1, .ref x), (2, .ref d), (3, .ref o)]) hx hb dL_law_1398 hl (k := 6) rfl (by rw [ey4]; rfl) (by decide) rfl (fun ls hl => ?_)
        refine lv_goto (pc := 1401) (tgt := 23) hx hb dL_law_1401 (by decide) ?_
        exact ih (i + 5) y4 _ _ N1 N2 _ _ hi5 (by omega) (by rw [ey4, ex4]; exact nI_add i 5) (by omega) (by omega) hI1 hW1 hW2 hS ls (lv_sub hl [3, 4, 5, 6, 0] rfl)
    refine lv_tableOut (pc := 39) (tgt := 1398) hx hb dL_law_39 (by have h0 := sw_ne (0 : Int32) (k := 0) (by decide) hw0; have h1 := sw_ne (1 : Int32) (k := 1) (by decide) hw1; have h2 := sw_ne (2 : Int32) (k := 2) (by decide) hw2; have h3 := sw_ne (3 : Int32) (k := 3) (by decide) hw3; have h4 := sw_ne (4 : Int32) (k := 4) (by decide) hw4; have h5 := sw_ne (5 : Int32) (k := 5) (by decide) hw5; have h6 := sw_ne (6 : Int32) (k := 6) (by decide) hw6; have h7 := sw_ne (7 : Int32) (k := 7) (by decide) hw7; have h8 := sw_ne (8 : Int32) (k := 8) (by decide) hw8; have h9 := sw_ne (9 : Int32) (k := 9) (by decide) hw9; have h10 := sw_ne (10 : Int32) (k := 10) (by decide) hw10; have h11 := sw_ne (11 : Int32) (k := 11) (by decide) hw11; have h12 := sw_ne (12 : Int32) (k := 12) (by decide) hw12; have h13 := sw_ne (13 : Int32) (k := 13) (by decide) hw13; have h14 := sw_ne (14 : Int32) (k := 14) (by decide) hw14; have h15 := sw_ne (15 : Int32) (k := 15) (by decide) hw15; have h16 := sw_ne (16 : Int32) (k := 16) (by decide) hw16; have h17 := sw_ne (17 : Int32) (k := 17) (by decide) hw17; have h18 := sw_ne (18 : Int32) (k := 18) (by decide) hw18; have h19 := sw_ne (19 : Int32) (k := 19) (by decide) hw19; have h20 := sw_ne (20 : Int32) (k := 20) (by decide) hw20; have h21 := sw_ne (21 : Int32) (k := 21) (by decide) hw21; omega) (by decide) ?_
    obtain ⟨y4, ey4⟩ : ∃ z : Int32, z = x4 + (5 : Int32) := ⟨_, rfl⟩
    refine lv_iinc (pc := 1398) (v := y4) (lv' := [(4, .int y4), (0, .ref b), (1, .ref x), (2, .ref d), (3, .ref o)]) hx hb dL_law_1398 hl (k := 4) rfl (by rw [ey4]; rfl) (by decide) rfl (fun ls hl => ?_)
    refine lv_goto (pc := 1401) (tgt := 23) hx hb dL_law_1401 (by decide) ?_
    exact ih (i + 5) y4 _ _ M1 M2 _ _ hi5 (by omega) (by rw [ey4, ex4]; exact nI_add i 5) (by omega) (by omega) hI hW1 hW2 hS ls (lv_sub hl [1, 2, 3, 4, 0] rfl)
