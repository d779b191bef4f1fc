/-! ===== more rows: names in place, switches ===== -/
theorem lt_e {α β : Type} {a : α} {F : α → Option β} {r : β} (h : lt_ a F = some r) : F a = some r := h
theorem sw_ne {x : Int32} (v : Int32) {k : Int} (hv : v.toInt = k) (h : ¬ x = v) : x.toInt ≠ k := fun e => h (Int32.toInt_inj.mp (e.trans hv.symm))
section RG2
variable {p : Program} {l : Launch} {e : Env} {R : Room} {s : State} {m : MethodId} {args : Array Value} {below : List Frame} {meth : Method} {c : Code} {H : Heap} {locs : List Loc} {cells slots : Nat} {Q : State → Prop}
variable {cc : ByteArray} {pc : Nat} {ls : Array Slot} {rest : List Value} {α : Type} {r : α}
theorem rg_iinc (hx : p.tables.exec = Jvm.exec) (hb : c.code = cc) {i nL k : Nat} {n : Int} {x v : Int32} {lv : List (Nat × Value)} (hdg : decode cc pc = .ok (.iinc i n, 3)) (h : lv_has ls nL lv) (hk : lv[k]? = some (i, .int x)) (hv : x + Int32.ofInt n = v) (hn : i < nL) {F : Int32 → Option α} (hf : lt_ v F = some r)
    (kk : ∀ (y : Int32) (ls' : Array Slot), F y = some r → lv_has ls' nL ((i, Value.int y) :: lv.filter (fun q => !(q.1 == i) && !(q.1 + 1 == i && q.2.category == 2))) → W p l e R s m args below meth c H locs cells slots Q (F0 m (pc + 3) ls' rest)) : W p l e R s m args below meth c H locs cells slots Q (F0 m pc ls rest) :=
  lv_iinc hx hb hdg h hk hv hn rfl (fun ls' h' => kk v ls' hf h')
end RG2
-- selects of the private methods: the first places of the list
theorem ms_0 : Cond.selects "java/lang/Throwable" ⟨"java/lang/Throwable", "fillInStackTrace", "(I)Ljava/lang/Throwable;"⟩ ⟨"java/lang/Throwable", "fillInStackTrace", "(I)Ljava/lang/Throwable;"⟩ ∈ aw := aw_i 0 (by decide +kernel) (by decide +kernel)
theorem ms_1 : Cond.selects "RingHerd" ⟨"RingHerd", "passTick", "()V"⟩ ⟨"RingHerd", "passTick", "()V"⟩ ∈ aw := aw_i 1 (by decide +kernel) (by decide +kernel)
theorem ms_2 : Cond.selects "RingHerd$Herd" ⟨"RingHerd$Herd", "shift", "(LRingHerd$Grain;I)V"⟩ ⟨"RingHerd$Herd", "shift", "(LRingHerd$Grain;I)V"⟩ ∈ aw := aw_i 2 (by decide +kernel) (by decide +kernel)
theorem ms_3 : Cond.selects "RingHerd$Herd" ⟨"RingHerd$Herd", "partnerOf", "(II)I"⟩ ⟨"RingHerd$Herd", "partnerOf", "(II)I"⟩ ∈ aw := aw_i 3 (by decide +kernel) (by decide +kernel)
theorem ms_4 : Cond.selects "RingHerd$Herd" ⟨"RingHerd$Herd", "meet", "(LRingHerd$Grain;LRingHerd$Grain;)V"⟩ ⟨"RingHerd$Herd", "meet", "(LRingHerd$Grain;LRingHerd$Grain;)V"⟩ ∈ aw := aw_i 4 (by decide +kernel) (by decide +kernel)
theorem ms_5 : Cond.selects "RingHerd$Herd" ⟨"RingHerd$Herd", "stick", "(LRingHerd$Grain;LRingHerd$Grain;)V"⟩ ⟨"RingHerd$Herd", "stick", "(LRingHerd$Grain;LRingHerd$Grain;)V"⟩ ∈ aw := aw_i 5 (by decide +kernel) (by decide +kernel)
theorem ms_6 : Cond.selects "RingHerd$Herd" ⟨"RingHerd$Herd", "breakUp", "(LRingHerd$Grain;)V"⟩ ⟨"RingHerd$Herd", "breakUp", "(LRingHerd$Grain;)V"⟩ ∈ aw := aw_i 6 (by decide +kernel) (by decide +kernel)
theorem ms_7 : Cond.selects "RingHerd$Herd" ⟨"RingHerd$Herd", "bump", "(LRingHerd$Grain;LRingHerd$Grain;)V"⟩ ⟨"RingHerd$Herd", "bump", "(LRingHerd$Grain;LRingHerd$Grain;)V"⟩ ∈ aw := aw_i 7 (by decide +kernel) (by decide +kernel)
