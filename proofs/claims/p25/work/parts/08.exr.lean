/-! ===== THROWS, and calls of what throws (no traces kept) ===== -/
section XR
variable {p : Program} {l : Launch} {e : Env} {R : Room} {s : State} {m : MethodId} {args : Array Value} {below : List Frame} {meth : Method} {c : Code} {H : Heap} {locs : List Loc} {cells slots : Nat}
variable {cc : ByteArray} {pc maxL : Nat} {ls : Array Slot} {rest st0 : List Value} {D : va_G} {ca : Nat → ClassId} {A : Nat → Prop} {M : Mem} {b : Nat} {yo : MethodName}
variable {γ : Type} {r : Mem × (γ ⊕ Nat)} {Qc : Array Value → State → Outcome → State → Prop} {mcT msT mc ms : Nat} {a : Array Value}
theorem rg_xout {β : Type} {z : Mem × (β ⊕ Nat)} {k : Nat} {E : String} {ce : Cell} {q9 : Addr} {H1 : Heap} {locs1 : List Loc} (htab : ∀ x ∈ c.exceptionTable.toList, False) (hlocks : meth.locks = false) (he : E = exN k) (hr : r = (z.1, .inr k)) (hW : Wr D ca false A z.1 H1) (hS : va_S A s.heap H1 locs1) (hce : H1[q9]? = some ce) (hcv : ce.vm = .none) (hcl : s.vm.findClass E = some ce.cls) (hc : cells ≤ mcT) (hs : slots ≤ msT) :
    vx_W p l e R s m args below meth c H1 locs1 cells slots (vx_MQ below Qc (cxX D ca A r) args s mcT msT A) (F0 m pc ls rest) q9 := by
  refine vx_out (fun x hx => (htab x hx).elim) hlocks hce hcv hcl (fun t ht hvm => ?_) hS.2.2 hc hs
  subst hr
  exact ⟨(), trivial, ⟨⟨k, rfl, he⟩, by show Wr _ _ _ _ _ t.heap; rw [ht]; exact hW⟩, hS.F ht⟩
theorem rg_xI {fy : Option (Mem × (Int32 ⊕ Nat))} {F : Mem → Int32 → Option (Mem × (γ ⊕ Nat))} (hf : bx fy F = some r) (hR : Hp D ca false A s M H locs) (hA : ∀ q, s.heap.size ≤ q → A q) (htab : ∀ x ∈ c.exceptionTable.toList, False) (hlocks : meth.locks = false) (hc : cells + mc ≤ mcT) (hs : slots + ms ≤ msT)
    (hr : ∀ z, fy = some z → vx_Run p l e R s m args below meth c H locs cells slots mc ms (F0 m pc ls st0) rest (cxI D ca (fA M H.size) z a) (cxX D ca (fA M H.size) z) (fA M H.size))
    (kk : ∀ (v : Int32) (M1 : Mem) (H1 : Heap) (locs1 : List Loc), F M1 v = some r → Hp D ca false A s M1 H1 locs1 → W p l e R s m args below meth c H1 locs1 (cells + mc) (slots + ms) (vx_MQ below Qc (cxX D ca A r) args s mcT msT A) (F0 m (pc + 3) ls (.int v :: rest))) : W p l e R s m args below meth c H locs cells slots (vx_MQ below Qc (cxX D ca A r) args s mcT msT A) (F0 m pc ls st0) := by
  cases fy with
  | none => cases hf
  | some z =>
    have hAA := fA_A hR hA
    refine vx_calli (hr z rfl) hR.2 (fun q _ h => hAA q h) hAA (fun q _ h => hAA q h) (fun E ce q9 u t H1 locs1 ht hvm hp hB hz hk hS hce hcv hcl => ?_) (fun v u t H1 locs1 ht hvm hw hB hz1 hk1 hS => ?_)
    · obtain ⟨⟨k, hk2, he⟩, hB⟩ := hB
      rw [ht] at hB
      obtain ⟨z1, z2⟩ := z
      subst hk2
      exact rg_xout (z := (z1, (.inr k : Int32 ⊕ Nat))) htab hlocks he (Option.some.inj hf).symm (hB.up hAA) hS hce hcv hcl hc hs
    · rw [ht] at hB
      obtain ⟨z1, z2⟩ := z
      subst hw
      exact kk v z1 H1 locs1 hf ⟨hB.up hAA, hS⟩
theorem rg_xV {fy : Option (Mem × (Unit ⊕ Nat))} {F : Mem → Unit → Option (Mem × (γ ⊕ Nat))} (hf : bx fy F = some r) (hR : Hp D ca false A s M H locs) (hA : ∀ q, s.heap.size ≤ q → A q) (htab : ∀ x ∈ c.exceptionTable.toList, False) (hlocks : meth.locks = false) (hc : cells + mc ≤ mcT) (hs : slots + ms ≤ msT)
    (hr : ∀ z, fy = some z → vx_Run p l e R s m args below meth c H locs cells slots mc ms (F0 m pc ls st0) rest (cxV D ca (fA M H.size) z a) (cxX D ca (fA M H.size) z) (fA M H.size))
    (kk : ∀ (M1 : Mem) (H1 : Heap) (locs1 : List Loc), F M1 () = some r → Hp D ca false A s M1 H1 locs1 → W p l e R s m args below meth c H1 locs1 (cells + mc) (slots + ms) (vx_MQ below Qc (cxX D ca A r) args s mcT msT A) (F0 m (pc + 3) ls rest)) : W p l e R s m args below meth c H locs cells slots (vx_MQ below Qc (cxX D ca A r) args s mcT msT A) (F0 m pc ls st0) := by
  cases fy with
  | none => cases hf
  | some z =>
    have hAA := fA_A hR hA
    refine vx_callv (hr z rfl) hR.2 (fun q _ h => hAA q h) hAA (fun q _ h => hAA q h) (fun E ce q9 u t H1 locs1 ht hvm hp hB hz hk hS hce hcv hcl => ?_) (fun u t H1 locs1 ht hvm hw hB hz1 hk1 hS => ?_)
    · obtain ⟨⟨k, hk2, he⟩, hB⟩ := hB
      rw [ht] at hB
      obtain ⟨z1, z2⟩ := z
      subst hk2
      exact rg_xout (z := (z1, (.inr k : Unit ⊕ Nat))) htab hlocks he (Option.some.inj hf).symm (hB.up hAA) hS hce hcv hcl hc hs
    · rw [ht] at hB
      obtain ⟨z1, z2⟩ := z
      subst hw
      exact kk z1 H1 locs1 hf ⟨hB.up hAA, hS⟩
variable {y : MethodName} {bytes : ByteArray} {maxL' n index : Nat} {ret : Option FieldType} {rm : Room} {Qd : Array Value → State → Outcome → State → Prop} {XC : String → State → State → Prop} {free : Addr → Prop} {As : List Value} {o : Nat}
theorem xn_S (C : Cx cc maxL yo D ca b A p s m args meth c) (hR : Hp D ca false A s M H locs) (hM : vx_Met l y (Cond.code y bytes maxL' ret :: aw) rm (va_Pc As (Pw D ca false b H.size M)) Qd XC mc ms free) (h1 : Cond.methodLink yo.cls index y ∈ aw) (h2 : Cond.static y ∈ aw) (h3 : Cond.initialized y.cls ∈ aw) (h4 : Cond.code y bytes maxL' ret ∈ aw)
    (hd : y.cls ≠ "java/lang/invoke/MethodHandle" ∧ y.cls ≠ "java/lang/invoke/VarHandle" ∧ (parseMethodDescriptor y.desc).map (fun d => d.parameters.length) = some n) (hRm : rm.cells = mc ∧ rm.slots = ms ∧ rm.frames + 1 ≤ R.frames ∧ 8 + (maxL' + 11) + rm.locals ≤ R.locals)
    (hn : As.length = n) (hl : ls.size = maxL) (hst : st0 = As.reverse ++ rest) (hW : (rest.map fun v => v.category).sum ≤ 8) (hdg : decode cc pc = .ok (.invokestatic index, 3)) (hf : cells + mc ≤ R.cells ∧ slots + ms ≤ R.slots) :
    vx_Run p l e R s m args below meth c H locs cells slots mc ms (F0 m pc ls st0) rest (Qd As.toArray) XC free := by
  have C0 := C
  obtain ⟨hx, hb, hml, hts, hown, -⟩ := C
  exact vx_runS ⟨hx, hb, hml, hown, hts⟩ hM ⟨rn_cb C0 h1 h3 h4 hd hRm, hts _ h2⟩ ⟨Pw_blind, fun U hU hW9 => ⟨rfl, pw_call C0 hR U hU hW9⟩⟩ rfl hn hl hst (lv_room hW) hdg hf
theorem xn_V {T : u_T} {N κ : Nat} (C : Cx cc maxL yo D ca b A p s m args meth c) (hR : Hp D ca false A s M H locs) (hc : vwCl[κ]? = some (y.cls, T, N)) (h9 : κ < 9) (hq : M.1 o = κ) (hM : vx_Met l y (Cond.code y bytes maxL' ret :: aw) rm (va_Pc (.ref o :: As) (Pw D ca false b H.size M)) Qd XC mc ms free) (h1 : Cond.methodLink yo.cls index y ∈ aw) (h2 : Cond.instanceMethod y ∈ aw) (h5 : Cond.selects y.cls y y ∈ aw) (h3 : Cond.initialized y.cls ∈ aw) (h4 : Cond.code y bytes maxL' ret ∈ aw)
    (hd : y.cls ≠ "java/lang/invoke/MethodHandle" ∧ y.cls ≠ "java/lang/invoke/VarHandle" ∧ (parseMethodDescriptor y.desc).map (fun d => d.parameters.length) = some n) (hRm : rm.cells = mc ∧ rm.slots = ms ∧ rm.frames + 1 ≤ R.frames ∧ 8 + (maxL' + 11) + rm.locals ≤ R.locals)
    (hn : As.length = n) (hl : ls.size = maxL) (hst : st0 = As.reverse ++ .ref o :: rest) (hW : (rest.map fun v => v.category).sum ≤ 8) (hdg : decode cc pc = .ok (.invokevirtual index, 3)) (hf : cells + mc ≤ R.cells ∧ slots + ms ≤ R.slots) :
    vx_Run p l e R s m args below meth c H locs cells slots mc ms (F0 m pc ls st0) rest (Qd (Value.ref o :: As).toArray) XC free := by
  have C0 := C
  obtain ⟨hx, hb, hml, hts, hown, -, hXe, -⟩ := C
  exact vx_runV ⟨hx, hb, hml, hown, hts⟩ hM ⟨rn_cb C0 h1 h3 h4 hd hRm, hts _ h2, hts _ h5⟩ ⟨Pw_blind, rg_rec hXe.1 hR hc h9 hq, fun U hU hW9 => ⟨rfl, pw_call C0 hR U hU hW9⟩⟩ rfl hn hl hst (lv_room hW) hdg hf
/-- ends of a method that may throw -/
theorem rg_xiret (hx : p.tables.exec = Jvm.exec) (hb : c.code = cc) (hlocks : meth.locks = false) (hr : meth.sig.returnType = some .int) {v : Int32} {z : Mem × (Int32 ⊕ Nat)} (hf : some (M, .inl v) = some z) (hR : Hp D ca false A s M H locs) (hc : cells ≤ mcT) (hs : slots ≤ msT) (hdg : decode cc pc = .ok (.ireturn, 1)) :
    W p l e R s m args below meth c H locs cells slots (vx_MQ below (cxI D ca A z) (cxX D ca A z) args s mcT msT A) (F0 m pc ls [.int v]) := by
  cases hf
  exact W.widen hc hs (vx_ret (W.iret (v := v) hx hb hr (fun t ht hW => ⟨⟨v, (), rfl, rfl, by show Wr _ _ _ _ _ t.heap; rw [ht]; exact hR.1⟩, hR.2.F ht⟩) hR.2.2.2 hdg))
theorem rg_xzret (hx : p.tables.exec = Jvm.exec) (hb : c.code = cc) (hlocks : meth.locks = false) (hr : meth.sig.returnType = some .boolean) {v : Int32} {z : Mem × (Int32 ⊕ Nat)} (hf : gd (v = 0 ∨ v = 1) (some (M, .inl v)) = some z) (hR : Hp D ca false A s M H locs) (hc : cells ≤ mcT) (hs : slots ≤ msT) (hdg : decode cc pc = .ok (.ireturn, 1)) :
    W p l e R s m args below meth c H locs cells slots (vx_MQ below (cxI D ca A z) (cxX D ca A z) args s mcT msT A) (F0 m pc ls [.int v]) := by
  obtain ⟨hv, hf⟩ := gd_e hf
  cases hf
  exact W.widen hc hs (vx_ret (W.zret (v := v) hx hb hr (by rcases hv with rfl | rfl <;> rfl) (fun t ht hW => ⟨⟨v, (), rfl, rfl, by show Wr _ _ _ _ _ t.heap; rw [ht]; exact hR.1⟩, hR.2.F ht⟩) hR.2.2.2 hdg))
theorem rg_xlret (hx : p.tables.exec = Jvm.exec) (hb : c.code = cc) (hlocks : meth.locks = false) (hr : meth.sig.returnType = some .long) {v : Int64} {z : Mem × (Int64 ⊕ Nat)} (hf : some (M, .inl v) = some z) (hR : Hp D ca false A s M H locs) (hc : cells ≤ mcT) (hs : slots ≤ msT) (hdg : decode cc pc = .ok (.lreturn, 1)) :
    W p l e R s m args below meth c H locs cells slots (vx_MQ below (cxL D ca A z) (cxX D ca A z) args s mcT msT A) (F0 m pc ls [.long v]) := by
  cases hf
  exact W.widen hc hs (vx_ret (W.lret (v := v) hx hb hr (fun t ht hW => ⟨⟨v, (), rfl, rfl, by show Wr _ _ _ _ _ t.heap; rw [ht]; exact hR.1⟩, hR.2.F ht⟩) hR.2.2.2 hdg))
theorem rg_xvret (hx : p.tables.exec = Jvm.exec) (hb : c.code = cc) (hlocks : meth.locks = false) (hr : meth.sig.returnType = none) {z : Mem × (Unit ⊕ Nat)} (hf : some (M, .inl ()) = some z) (hR : Hp D ca false A s M H locs) (hc : cells ≤ mcT) (hs : slots ≤ msT) (hdg : decode cc pc = .ok (.return_, 1)) :
    W p l e R s m args below meth c H locs cells slots (vx_MQ below (cxV D ca A z) (cxX D ca A z) args s mcT msT A) (F0 m pc ls []) := by
  cases hf
  exact W.widen hc hs (vx_ret (W.vret hx hb hr (fun t ht hW => ⟨⟨(), rfl, rfl, by show Wr _ _ _ _ _ t.heap; rw [ht]; exact hR.1⟩, hR.2.F ht⟩) hR.2.2.2 hdg))
def exC : Nat → Nat := fun k => match k with
  | 0 => 179
  | 1 => 62
  | _ => 271
abbrev exS : List String := ["java/lang/RuntimeException", "java/lang/Exception"]
theorem at_ok : ∀ k, k < 3 → (vx_atS "RingHerd" (exC k) (exN k) exS).all (fun w => decide (w ∈ aw) || decide (w ∈ nwL)) = true := by decide +kernel
theorem at_ot : ∀ k, k < 3 → (vx_atS "RingHerd" (exC k) (exN k) exS).all vx_ot = true := by decide +kernel
theorem ex_fit : ∀ k, k < 3 → Bundle.fit (exN k) = true := by decide +kernel
theorem ex_fitS : ∀ n ∈ exS, Bundle.fit n = true := by decide +kernel
theorem ex_ini : ∀ k, k < 3 → Cond.initialized (exN k) ∈ aw := by decide +kernel
theorem at_ws {k : Nat} (hk : k < 3) (hts : ∀ w ∈ aw, w.before args s = true) (hnw : ∀ w ∈ nwL, va_Nw w s) : ∀ w ∈ vx_atS "RingHerd" (exC k) (exN k) exS, w.before args s = true := by
  intro w hw
  have h := List.all_eq_true.mp (at_ok k hk) w hw
  rw [Bool.or_eq_true] at h
  rcases h with h | h
  · exact hts w (of_decide_eq_true h)
  · have h2 := of_decide_eq_true h
    have h3 := nwL_ok w h2
    refine va_Nw.use ?_ (hnw w h2)
    cases w <;> first | rfl | (exact absurd h3 (by simp [isNW]))
theorem rg_thr (k : Nat) (hk3 : k < 3) {ik is : Nat} {text : String} (C : Cx cc maxL yo D ca b A p s m args meth c) (htab : ∀ x ∈ c.exceptionTable.toList, False) (hlt : l.stackTraces = false) (hls : ls.size = maxL) (hyo : yo.cls = "RingHerd") (hik : Cond.classLink "RingHerd" ik (exN k) ∈ aw) (hst : (is, text) ∈ stL) (hf : some (M, .inr k) = some r) (hR : Hp D ca false A s M H locs)
    (d0 : decode cc pc = .ok (.new ik, 3)) (d3 : decode cc (pc + 3) = .ok (.dup, 1)) (d4 : decode cc (pc + 4) = .ok (.ldc is, 2)) (d6 : decode cc (pc + 6) = .ok (.invokespecial (exC k), 3)) (d9 : decode cc (pc + 9) = .ok (.athrow, 1))
    (hRf : 6 ≤ R.frames) (hRl : (rest.map fun v => v.category).sum + 82 ≤ R.locals) (hRc : cells + 1 ≤ R.cells) (hRs : slots + 6 ≤ R.slots) (hc : cells + 1 ≤ mcT) (hs : slots + 6 ≤ msT) :
    W p l e R s m args below meth c H locs cells slots (vx_MQ below Qc (cxX D ca A r) args s mcT msT A) (F0 m pc ls rest) := by
  cases hf
  obtain ⟨hx, hb, hml, hts, hown, hlocks, hXe, hA, hAb, -⟩ := C
  obtain ⟨sa, hstr⟩ := hXe.2.2.2.1 _ hst
  have hats := at_ws hk3 hts hXe.2.1
  rw [hyo] at hown
  refine vx_throwS (A := A) (own := "RingHerd") (cls := exN k) (names := exS) hx hb hlt hown (ex_fit k hk3) ex_fitS (hts _ hik) (hts _ (ex_ini k hk3)) hstr hats ?_ (hXe.2.2.2.2.2.1.narrow hAb) (hXe.2.2.2.2.2.2.narrow hAb) hR.2 (hls.trans hml.symm) d0 d3 d4 d6 d9 (fun x hx => (htab x hx).elim) hRf (by show _ + 82 ≤ _; exact hRl) hRc hRs hlocks (fun t hvm h1 h2 => ?_) hR.2.2.2 hc hs
  · intro w hw
    rcases List.mem_cons.mp hw with e | hw
    · subst e; rfl
    · rcases List.mem_cons.mp hw with e | hw
      · subst e; rfl
      · exact List.all_eq_true.mp (at_ot k hk3) w hw
  · exact ⟨(), trivial, ⟨⟨k, rfl, rfl⟩, hR.1.1.kept (fun q hq => h2 q (hR.1.1.lt hq)), fun h => (by cases h), hR.1.2.2⟩, Nat.le_trans hR.2.1 h1, fun q hq hnq => (h2 q (Nat.lt_of_lt_of_le hq hR.2.1)).trans (hR.2.2.1 q hq hnq)⟩
theorem rg_thrW (k : Nat) (hk3 : k < 3) {ik is : Nat} {text : String} (C : Cx cc maxL yo D ca b A p s m args meth c) (htab : ∀ x ∈ c.exceptionTable.toList, False) (hlt : l.stackTraces = false) (hls : ls.size = maxL) (hyo : yo.cls = "RingHerd") (hik : Cond.classLink "RingHerd" ik (exN k) ∈ aw) (hst : (is, text) ∈ stL) (hf : some (M, .inr k) = some r) (hR : Hp D ca false A s M H locs)
    (d0 : decode cc pc = .ok (.new ik, 3)) (d3 : decode cc (pc + 3) = .ok (.dup, 1)) (d4 : decode cc (pc + 4) = .ok (.ldc_w is, 3)) (d7 : decode cc (pc + 7) = .ok (.invokespecial (exC k), 3)) (d10 : decode cc (pc + 10) = .ok (.athrow, 1))
    (hRf : 6 ≤ R.frames) (hRl : (rest.map fun v => v.category).sum + 82 ≤ R.locals) (hRc : cells + 1 ≤ R.cells) (hRs : slots + 6 ≤ R.slots) (hc : cells + 1 ≤ mcT) (hs : slots + 6 ≤ msT) :
    W p l e R s m args below meth c H locs cells slots (vx_MQ below Qc (cxX D ca A r) args s mcT msT A) (F0 m pc ls rest) := by
  cases hf
  obtain ⟨hx, hb, hml, hts, hown, hlocks, hXe, hA, hAb, -⟩ := C
  obtain ⟨sa, hstr⟩ := hXe.2.2.2.1 _ hst
  have hats := at_ws hk3 hts hXe.2.1
  rw [hyo] at hown
  refine vx_throwSW (A := A) (own := "RingHerd") (cls := exN k) (names := exS) hx hb hlt hown (ex_fit k hk3) ex_fitS (hts _ hik) (hts _ (ex_ini k hk3)) hstr hats ?_ (hXe.2.2.2.2.2.1.narrow hAb) (hXe.2.2.2.2.2.2.narrow hAb) hR.2 (hls.trans hml.symm) d0 d3 d4 d7 d10 (fun x hx => (htab x hx).elim) hRf (by show _ + 82 ≤ _; exact hRl) hRc hRs hlocks (fun t hvm h1 h2 => ?_) hR.2.2.2 hc hs
  · intro w hw
    rcases List.mem_cons.mp hw with e | hw
    · subst e; rfl
    · rcases List.mem_cons.mp hw with e | hw
      · subst e; rfl
      · exact List.all_eq_true.mp (at_ot k hk3) w hw
  · exact ⟨(), trivial, ⟨⟨k, rfl, rfl⟩, hR.1.1.kept (fun q hq => h2 q (hR.1.1.lt hq)), fun h => (by cases h), hR.1.2.2⟩, Nat.le_trans hR.2.1 h1, fun q hq hnq => (h2 q (Nat.lt_of_lt_of_le hq hR.2.1)).trans (hR.2.2.1 q hq hnq)⟩
end XR
/-! ===== WHAT IS MADE: objects and arrays, in constructors ===== -/
def dv_ (κ j : Nat) : Value := if fty κ j = 0 then .int 0 else if fty κ j = 1 then .long 0 else .null
theorem df_0 : ∀ j, j < 4 → defaultValue (tyX0 j) = dv_ 0 j := by
  intro j hj
  rcases (show j = 0 ∨ j = 1 ∨ j = 2 ∨ j = 3 by omega) with rfl | rfl | rfl | rfl <;> rfl
theorem in_0 : ∀ w ∈ u_ws RX0 TX0 4, w ∈ aw := by decide +kernel
theorem df_1 : ∀ j, j < 2 → defaultValue (tyX1 j) = dv_ 1 j := by
  intro j hj
  rcases (show j = 0 ∨ j = 1 by omega) with rfl | rfl <;> rfl
theorem in_1 : ∀ w ∈ u_ws RX1 TX1 2, w ∈ aw := by decide +kernel
theorem df_2 : ∀ j, j < 7 → defaultValue (tyX2 j) = dv_ 2 j := by
  intro j hj
  rcases (show j = 0 ∨ j = 1 ∨ j = 2 ∨ j = 3 ∨ j = 4 ∨ j = 5 ∨ j = 6 by omega) with rfl | rfl | rfl | rfl | rfl | rfl | rfl <;> rfl
theorem in_2 : ∀ w ∈ u_ws RX2 TX2 7, w ∈ aw := by decide +kernel
theorem df_3 : ∀ j, j < 7 → defaultValue (tyX3 j) = dv_ 3 j := by
  intro j hj
  rcases (show j = 0 ∨ j = 1 ∨ j = 2 ∨ j = 3 ∨ j = 4 ∨ j = 5 ∨ j = 6 by omega) with rfl | rfl | rfl | rfl | rfl | rfl | rfl <;> rfl
theorem in_3 : ∀ w ∈ u_ws RX3 TX3 7, w ∈ aw := by decide +kernel
theorem df_4 : ∀ j, j < 13 → defaultValue (tyX4 j) = dv_ 4 j := by
  intro j hj
  rcases (show j = 0 ∨ j = 1 ∨ j = 2 ∨ j = 3 ∨ j = 4 ∨ j = 5 ∨ j = 6 ∨ j = 7 ∨ j = 8 ∨ j = 9 ∨ j = 10 ∨ j = 11 ∨ j = 12 by omega) with rfl | rfl | rfl | rfl | rfl | rfl | rfl | rfl | rfl | rfl | rfl | rfl | rfl <;> rfl
theorem in_4 : ∀ w ∈ u_ws RX4 TX4 13, w ∈ aw := by decide +kernel
theorem df_5 : ∀ j, j < 3 → defaultValue (tyX5 j) = dv_ 5 j := by
  intro j hj
  rcases (show j = 0 ∨ j = 1 ∨ j = 2 by omega) with rfl | rfl | rfl <;> rfl
theorem in_5 : ∀ w ∈ u_ws RX5 TX5 3, w ∈ aw := by decide +kernel
theorem df_6 : ∀ j, j < 1 → defaultValue (tyX6 j) = dv_ 6 j := by
  intro j hj
  rcases (show j = 0 by omega) with rfl <;> rfl
theorem in_6 : ∀ w ∈ u_ws RX6 TX6 1, w ∈ aw := by decide +kernel
theorem df_7 : ∀ j, j < 11 → defaultValue (tyX7 j) = dv_ 7 j := by
  intro j hj
  rcases (show j = 0 ∨ j = 1 ∨ j = 2 ∨ j = 3 ∨ j = 4 ∨ j = 5 ∨ j = 6 ∨ j = 7 ∨ j = 8 ∨ j = 9 ∨ j = 10 by omega) with rfl | rfl | rfl | rfl | rfl | rfl | rfl | rfl | rfl | rfl | rfl <;> rfl
theorem in_7 : ∀ w ∈ u_ws RX7 TX7 11, w ∈ aw := by decide +kernel
theorem ov_n {M : Mem} {κ n : Nat} (j : Nat) : ov (ms_n M κ n) κ (mm_x M) j = dv_ κ j := by
  simp [ov, dv_, ms_n, zr2, mm_i, mm_l, mm_r, mm_x, va_rf]
theorem Rg.new {D : va_G} {ca : Nat → ClassId} {M : Mem} {H H1 : Heap} {κ n : Nat} (h : Rg D ca M H) (hx : mm_x M = H.size) (o1 : ∀ q, q < H.size → H1[q]? = H[q]?) (hc : cOk D ca (ms_n M κ n) (mm_x M) H1) : Rg D ca (ms_n M κ n) H1 := by
  intro q
  by_cases hq : q = mm_x M
  · rw [hq]; exact hc
  · refine (h q).kept (fun hk => o1 q (h.lt hk)) (va_up_ne _ _ hq) (va_up_ne _ _ hq) (fun k => ?_) (fun k => ?_) (fun k => ?_)
    · have hq' : ¬ q = M.2.2.2.2.2 := hq
      simp [ms_n, zr2, mm_i, hq']
    · have hq' : ¬ q = M.2.2.2.2.2 := hq
      simp [ms_n, zr2, mm_l, hq']
    · have hq' : ¬ q = M.2.2.2.2.2 := hq
      simp [ms_n, zr2, mm_r, hq']
section MK
variable {p : Program} {l : Launch} {e : Env} {R : Room} {s : State} {m : MethodId} {args : Array Value} {below : List Frame} {meth : Method} {c : Code} {H : Heap} {locs : List Loc} {cells slots : Nat} {Q : State → Prop}
variable {cc : ByteArray} {pc : Nat} {ls : Array Slot} {rest st0 : List Value} {D : va_G} {ca : Nat → ClassId} {A : Nat → Prop} {M : Mem} {α : Type} {r : α}
theorem Hp.new {H1 : Heap} {κ n : Nat} (hR : Hp D ca true A s M H locs) (hA : ∀ q, s.heap.size ≤ q → A q) (z1 : H1.size = H.size + 1) (o1 : ∀ q, q < H.size → H1[q]? = H[q]?) (hc : cOk D ca (ms_n M κ n) (mm_x M) H1) : Hp D ca true A s (ms_n M κ n) H1 locs := by
  obtain ⟨⟨h1, h2, h3⟩, hS⟩ := hR
  have hx := h2 rfl
  refine ⟨⟨h1.new hx o1 hc, fun _ => ?_, fun q hq => ?_⟩, ⟨Nat.le_trans hS.1 (by omega), fun x q1 q2 => (o1 x (Nat.lt_of_lt_of_le q1 hS.1)).trans (hS.2.1 x q1 q2), hS.2.2⟩⟩
  · show mm_x M + 1 = H1.size
    rw [hx, z1]
  · by_cases hqx : q = mm_x M
    · rw [hqx, hx]; exact hA _ hS.1
    · refine h3 q ?_
      have e1 : (ms_n M κ n).1 q = M.1 q := va_up_ne _ _ hqx
      rwa [e1] at hq
theorem rg_new (hx : p.tables.exec = Jvm.exec) (hb : c.code = cc) (hts : ∀ w ∈ aw, w.before args s = true) (hK : va_K D vwCl (tysL ca) s) (hR : Hp D ca true A s M H locs) (hA : ∀ q, s.heap.size ≤ q → A q) {own C : String} {T : u_T} {N κ index : Nat} (hown : s.vm.findClass own = some m.cls) (hin : ∀ w ∈ u_ws C T N, w ∈ aw) (hc : vwCl[κ]? = some (C, T, N)) (h9 : κ < 9)
    (ty : Nat → FieldType) (hty : ∀ k, k < N → parseFieldDescriptor (T k).2.2.1 = some (ty k)) (hdf : ∀ j, j < N → defaultValue (ty j) = dv_ κ j) (hcl : Cond.classLink own index C ∈ aw) (hinst : Cond.instantiable C N ∈ aw) (hini : Cond.initialized C ∈ aw) (hcells : cells + 1 ≤ R.cells) (hslots : slots + N ≤ R.slots) (hdg : decode cc pc = .ok (.new index, 3))
    {F : Nat → Mem → Option α} (hf : lt_ (mm_x M) (fun a => lt_ (ms_n M κ 0) (F a)) = some r)
    (kk : ∀ (a : Nat) (M1 : Mem) (H1 : Heap), F a M1 = some r → Hp D ca true A s M1 H1 locs → W p l e R s m args below meth c H1 locs (cells + 1) (slots + N) Q (F0 m (pc + 3) ls (.ref a :: rest))) : W p l e R s m args below meth c H locs cells slots Q (F0 m pc ls rest) := by
  have hKn := hK.1 κ _ hc
  have hxx := hR.1.2.1 rfl
  refine W.newcK hx hb hown (hts _ hcl) (hts _ hinst) (hts _ hini) rfl hdg hcells hslots hKn.2.1 hxx.symm fun H1 kC hkC e1 z1 o1 => ?_
  rw [hxx] at z1 o1
  refine kk _ _ H1 hf (hR.new hA z1 o1 ⟨fun _ => ⟨(C, T, N), ?_, ?_⟩, fun h => ?_⟩)
  · show vwCl[va_up M.1 _ κ _]? = _
    rw [va_up_self]; exact hc
  · show t_OB _ (D.1 (va_up M.1 _ κ _)) _ (D.2 (va_up M.1 _ κ _)) _ (ov _ (va_up M.1 _ κ _) _)
    rw [va_up_self]
    exact (u_born ty hts hin hKn hkC e1 hty).to (fun k hk => by rw [ov_n]; exact hdf k hk)
  · have : 9 ≤ va_up M.1 (mm_x M) κ (mm_x M) := h
    rw [va_up_self] at this
    omega
theorem rg_newa (hx : p.tables.exec = Jvm.exec) (hb : c.code = cc) (hts : ∀ w ∈ aw, w.before args s = true) (hK : va_K D vwCl (tysL ca) s) (hR : Hp D ca true A s M H locs) (hA : ∀ q, s.heap.size ≤ q → A q) {atype : ArrayType} {κ N : Nat} (t0 : Nat) (ht : (tysL ca)[t0]? = some (ca κ, newarray.typeOf atype)) (hκ : κ = 9 ∧ atype = .int ∨ κ = 10 ∧ atype = .boolean ∨ κ = 15 ∧ atype = .long)
    (harr : Cond.arrayClass (newarray.typeOf atype) ∈ aw) {n : Int32} (hn : ¬ n < 0) (hN : n.toNatClampNeg = N) (hbytes : N * componentBytes (newarray.typeOf atype) ≤ 536870912) (hcells : cells + 1 ≤ R.cells) (hslots : slots + N ≤ R.slots) (hdg : decode cc pc = .ok (.newarray atype, 2))
    {F : Nat → Mem → Option α} (hf : lt_ (mm_x M) (fun a => lt_ (ms_n M κ N) (F a)) = some r)
    (kk : ∀ (a : Nat) (M1 : Mem) (H1 : Heap), F a M1 = some r → Hp D ca true A s M1 H1 locs → W p l e R s m args below meth c H1 locs (cells + 1) (slots + N) Q (F0 m (pc + 2) ls (.ref a :: rest))) : W p l e R s m args below meth c H locs cells slots Q (F0 m pc ls (.int n :: rest)) := by
  have hxx := hR.1.2.1 rfl
  refine va_newaK hx hb (hts _ harr) rfl hdg rfl hn hN hbytes hcells hslots hxx.symm fun H1 cA e1 z1 o1 hAr hNm => ?_
  rw [hxx] at z1 o1
  have hra := (hK.2 t0 _ ht).2
  have hcA : cA = ca κ := by
    rcases hκ with ⟨rfl, rfl⟩ | ⟨rfl, rfl⟩ | ⟨rfl, rfl⟩ <;> exact Option.some.inj (hNm.symm.trans hra)
  refine kk _ _ H1 hf (hR.new hA z1 o1 ⟨fun h => ?_, fun _ _ => ?_⟩)
  · have : va_up M.1 (mm_x M) κ (mm_x M) < 9 := h
    rw [va_up_self] at this
    omega
  · show H1[mm_x M]? = some (arrV (ca (va_up M.1 _ κ _)) (va_up M.2.1 _ N _) (av _ (va_up M.1 _ κ _) _))
    rw [va_up_self, va_up_self, e1, hcA]
    have : av (ms_n M κ N) κ (mm_x M) = fun _ => defaultValue (newarray.typeOf atype) := by
      funext j
      rcases hκ with ⟨rfl, rfl⟩ | ⟨rfl, rfl⟩ | ⟨rfl, rfl⟩ <;> simp [av, ms_n, zr2, mm_i, mm_l, mm_x, newarray.typeOf, defaultValue]
    rw [this]
theorem rg_newq (hx : p.tables.exec = Jvm.exec) (hb : c.code = cc) (hts : ∀ w ∈ aw, w.before args s = true) (hK : va_K D vwCl (tysL ca) s) (hR : Hp D ca true A s M H locs) (hA : ∀ q, s.heap.size ≤ q → A q) {own C : String} {index κ N : Nat} (hown : s.vm.findClass own = some m.cls) (t0 : Nat) (ht : (tysL ca)[t0]? = some (ca κ, .object C)) (hκ : 11 ≤ κ ∧ κ < 15)
    (hcl : Cond.classLink own index C ∈ aw) (hover : va_AO C s) {n : Int32} (hn : ¬ n < 0) (hN : n.toNatClampNeg = N) (hbytes : N * 4 ≤ 536870912) (hcells : cells + 1 ≤ R.cells) (hslots : slots + N ≤ R.slots) (hdg : decode cc pc = .ok (.anewarray index, 3))
    {F : Nat → Mem → Option α} (hf : lt_ (mm_x M) (fun a => lt_ (ms_n M κ N) (F a)) = some r)
    (kk : ∀ (a : Nat) (M1 : Mem) (H1 : Heap), F a M1 = some r → Hp D ca true A s M1 H1 locs → W p l e R s m args below meth c H1 locs (cells + 1) (slots + N) Q (F0 m (pc + 3) ls (.ref a :: rest))) : W p l e R s m args below meth c H locs cells slots Q (F0 m pc ls (.int n :: rest)) := by
  have hxx := hR.1.2.1 rfl
  subst hN
  refine W.anew hx hb hown (hts _ hcl) (va_AO.use hover) rfl hdg rfl hn hbytes hcells hslots fun cA kA comp f1 f2 f3 f4 => ?_
  generalize hH1 : H.push ({ cls := cA, slots := Array.replicate n.toNatClampNeg .null, vm := .none } : Cell) = H1
  have z1 : H1.size = H.size + 1 := by rw [← hH1, Array.size_push]
  have e1 : H1[H.size]? = some (arrV cA n.toNatClampNeg (fun _ => .null)) := by rw [← hH1, Array.getElem?_push_size, ← arrV_new]
  have o1 : ∀ q : Nat, q < H.size → H1[q]? = H[q]? := fun q hq => by rw [← hH1, Array.getElem?_push, if_neg (Nat.ne_of_lt hq)]
  obtain ⟨kA', comp', k1, k2, k3, k4⟩ := (hK.2 t0 _ ht).2
  have hcA : cA = ca κ := Option.some.inj (f1.symm.trans k4)
  rw [← hxx] at e1 ⊢
  refine kk _ _ H1 hf (hR.new hA z1 o1 ⟨fun h => ?_, fun _ _ => ?_⟩)
  · have : va_up M.1 (mm_x M) κ (mm_x M) < 9 := h
    rw [va_up_self] at this
    omega
  · show H1[mm_x M]? = some (arrV (ca (va_up M.1 _ κ _)) (va_up M.2.1 _ n.toNatClampNeg _) (av _ (va_up M.1 _ κ _) _))
    rw [va_up_self, va_up_self, e1, hcA]
    have : av (ms_n M κ n.toNatClampNeg) κ (mm_x M) = fun _ => Value.null := by
      funext j
      have h1 : ¬ κ < 11 := by omega
      have h2 : ¬ κ = 15 := by omega
      simp [av, ms_n, zr2, mm_r, mm_x, va_rf, h1, h2]
    rw [this]
/-- an object into an array of its class -/
theorem rg_aast (hx : p.tables.exec = Jvm.exec) (hb : c.code = cc) {nx : Bool} (hK : va_K D vwCl (tysL ca) s) (hR : Hp D ca nx A s M H locs) {q o κ κo : Nat} {i : Int32} (t0 : Nat) {qc : vw_C} (ht : (tysL ca)[t0]? = some (ca κ, .object qc.1)) (hκ : 11 ≤ κ ∧ κ < 15) (hc : vwCl[κo]? = some qc) (h9 : κo < 9) (hdg : decode cc pc = .ok (.aastore, 1)) {F : Mem → Option α} (hf : gd ((M.1 q = κ ∧ M.1 o = κo) ∧ vi_ i (mm_N M q)) (lt_ (ms_r M q i.toNatClampNeg (some o)) F) = some r)
    (kk : ∀ (M1 : Mem) (H1 : Heap) (locs1 : List Loc), F M1 = some r → Hp D ca nx A s M1 H1 locs1 → W p l e R s m args below meth c H1 locs1 cells slots Q (F0 m (pc + 1) ls rest)) : W p l e R s m args below meth c H locs cells slots Q (F0 m pc ls (.ref o :: .int i :: .ref q :: rest)) := by
  obtain ⟨⟨⟨hq, ho⟩, hin⟩, hf⟩ := gd_e hf
  have hlt : i.toNatClampNeg < M.2.1 q := Nat.not_le.mp fun z => hin (Or.inr z)
  have h0 : ¬ i < 0 := fun z => hin (Or.inl z)
  obtain ⟨C, T, N⟩ := qc
  obtain ⟨cellV, g1, g2, g3, -⟩ := hR.1.1.obj ho hc h9
  have hcls := (hK.1 κo _ hc).2
  obtain ⟨kA, comp, k1, k2, k3, -⟩ := (hK.2 t0 _ ht).2
  have hcomp : comp = D.1 κo := Option.some.inj (k3.symm.trans hcls.1)
  subst hcomp
  obtain ⟨kC, hkC, -⟩ := hcls.2
  refine W.aast hx hb (hR.1.1.arr hq (by omega) (by omega)) (fun q h => by cases h) (fun h => by cases h) k1 k2 rfl hkC ⟨h0, by rw [arrV_size]; exact hlt⟩ g1 (fun q h => by rw [g3] at h; cases h) (by rw [g2]; exact hkC) (by rw [g2]; exact va_assign hcls) rfl rfl hdg fun H1 e1 e2 e3 => ?_
  exact kk _ H1 _ hf (rg_ast hR hq (by omega) (by omega) rfl rfl rfl (fun _ _ _ => rfl) (fun _ _ _ => rfl) ms_r_off (av_r (by omega) (by omega)) e1 e2 e3)
end MK
