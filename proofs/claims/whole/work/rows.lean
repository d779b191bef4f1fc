section
-- ===== PART A: goes FIRST, ahead of the names: the tables' words, and 'selects' of the private methods out of them =====
/-- a private method of a class that the tables say can be made, by its rows of tables_1 -/
def lw_okq (q : MethodName × Nat) : Prop := (q.1.cls ≠ "java/lang/invoke/MethodHandle" ∧ q.1.cls ≠ "java/lang/invoke/VarHandle") ∧ Cond.instantiable q.1.cls q.2 ∈ tables_1 ∧ Cond.privateMethod q.1 ∈ tables_1 ∧ Cond.instanceMethod q.1 ∈ tables_1
theorem lw_p0 : lw_okq (⟨"RingHerd", "surveyGaps", "()I"⟩, 11) := ⟨⟨by decide +kernel, by decide +kernel⟩, List.mem_of_getElem? (i := 18) (by decide +kernel), List.mem_of_getElem? (i := 284) (by decide +kernel), List.mem_of_getElem? (i := 285) (by decide +kernel)⟩
theorem lw_p1 : lw_okq (⟨"java/lang/Throwable", "fillInStackTrace", "(I)Ljava/lang/Throwable;"⟩, 6) := ⟨⟨by decide +kernel, by decide +kernel⟩, List.mem_of_getElem? (i := 344) (by decide +kernel), List.mem_of_getElem? (i := 342) (by decide +kernel), List.mem_of_getElem? (i := 343) (by decide +kernel)⟩
theorem lw_p2 : lw_okq (⟨"RingHerd", "passTick", "()V"⟩, 11) := ⟨⟨by decide +kernel, by decide +kernel⟩, List.mem_of_getElem? (i := 18) (by decide +kernel), List.mem_of_getElem? (i := 432) (by decide +kernel), List.mem_of_getElem? (i := 433) (by decide +kernel)⟩
theorem lw_p3 : lw_okq (⟨"RingHerd$Herd", "shift", "(LRingHerd$Grain;I)V"⟩, 7) := ⟨⟨by decide +kernel, by decide +kernel⟩, List.mem_of_getElem? (i := 26) (by decide +kernel), List.mem_of_getElem? (i := 470) (by decide +kernel), List.mem_of_getElem? (i := 471) (by decide +kernel)⟩
theorem lw_p4 : lw_okq (⟨"RingHerd$Herd", "partnerOf", "(II)I"⟩, 7) := ⟨⟨by decide +kernel, by decide +kernel⟩, List.mem_of_getElem? (i := 26) (by decide +kernel), List.mem_of_getElem? (i := 483) (by decide +kernel), List.mem_of_getElem? (i := 484) (by decide +kernel)⟩
theorem lw_p5 : lw_okq (⟨"RingHerd$Herd", "meet", "(LRingHerd$Grain;LRingHerd$Grain;)V"⟩, 7) := ⟨⟨by decide +kernel, by decide +kernel⟩, List.mem_of_getElem? (i := 26) (by decide +kernel), List.mem_of_getElem? (i := 487) (by decide +kernel), List.mem_of_getElem? (i := 488) (by decide +kernel)⟩
theorem lw_p6 : lw_okq (⟨"RingHerd$Herd", "stick", "(LRingHerd$Grain;LRingHerd$Grain;)V"⟩, 7) := ⟨⟨by decide +kernel, by decide +kernel⟩, List.mem_of_getElem? (i := 26) (by decide +kernel), List.mem_of_getElem? (i := 492) (by decide +kernel), List.mem_of_getElem? (i := 493) (by decide +kernel)⟩
theorem lw_p7 : lw_okq (⟨"RingHerd$Herd", "breakUp", "(LRingHerd$Grain;)V"⟩, 7) := ⟨⟨by decide +kernel, by decide +kernel⟩, List.mem_of_getElem? (i := 26) (by decide +kernel), List.mem_of_getElem? (i := 499) (by decide +kernel), List.mem_of_getElem? (i := 500) (by decide +kernel)⟩
theorem lw_p8 : lw_okq (⟨"RingHerd$Herd", "bump", "(LRingHerd$Grain;LRingHerd$Grain;)V"⟩, 7) := ⟨⟨by decide +kernel, by decide +kernel⟩, List.mem_of_getElem? (i := 26) (by decide +kernel), List.mem_of_getElem? (i := 503) (by decide +kernel), List.mem_of_getElem? (i := 504) (by decide +kernel)⟩
theorem lw_p9 : lw_okq (⟨"RingHerd", "ratioOf", "(LRingHerd$Moon;II)I"⟩, 11) := ⟨⟨by decide +kernel, by decide +kernel⟩, List.mem_of_getElem? (i := 18) (by decide +kernel), List.mem_of_getElem? (i := 619) (by decide +kernel), List.mem_of_getElem? (i := 620) (by decide +kernel)⟩
theorem lw_p10 : lw_okq (⟨"RingHerd", "keeperOf", "(II)I"⟩, 11) := ⟨⟨by decide +kernel, by decide +kernel⟩, List.mem_of_getElem? (i := 18) (by decide +kernel), List.mem_of_getElem? (i := 633) (by decide +kernel), List.mem_of_getElem? (i := 634) (by decide +kernel)⟩
theorem lw_p11 : lw_okq (⟨"RingHerdModel", "adds", "(IIIII)I"⟩, 37) := ⟨⟨by decide +kernel, by decide +kernel⟩, List.mem_of_getElem? (i := 663) (by decide +kernel), List.mem_of_getElem? (i := 797) (by decide +kernel), List.mem_of_getElem? (i := 798) (by decide +kernel)⟩
theorem lw_p12 : lw_okq (⟨"RingHerdModel", "goOn", "()V"⟩, 37) := ⟨⟨by decide +kernel, by decide +kernel⟩, List.mem_of_getElem? (i := 663) (by decide +kernel), List.mem_of_getElem? (i := 817) (by decide +kernel), List.mem_of_getElem? (i := 818) (by decide +kernel)⟩
theorem lw_p13 : lw_okq (⟨"RingHerdModel", "speedOf", "(I)I"⟩, 37) := ⟨⟨by decide +kernel, by decide +kernel⟩, List.mem_of_getElem? (i := 663) (by decide +kernel), List.mem_of_getElem? (i := 821) (by decide +kernel), List.mem_of_getElem? (i := 822) (by decide +kernel)⟩
theorem lw_p14 : lw_okq (⟨"RingHerdModel", "pushes", "(I)V"⟩, 37) := ⟨⟨by decide +kernel, by decide +kernel⟩, List.mem_of_getElem? (i := 663) (by decide +kernel), List.mem_of_getElem? (i := 826) (by decide +kernel), List.mem_of_getElem? (i := 827) (by decide +kernel)⟩
theorem lw_p15 : lw_okq (⟨"RingHerdModel", "momentumOf", "(I)J"⟩, 37) := ⟨⟨by decide +kernel, by decide +kernel⟩, List.mem_of_getElem? (i := 663) (by decide +kernel), List.mem_of_getElem? (i := 839) (by decide +kernel), List.mem_of_getElem? (i := 840) (by decide +kernel)⟩
def lw_privs_1 : List (MethodName × Nat) := [(⟨"RingHerd", "surveyGaps", "()I"⟩, 11), (⟨"java/lang/Throwable", "fillInStackTrace", "(I)Ljava/lang/Throwable;"⟩, 6), (⟨"RingHerd", "passTick", "()V"⟩, 11), (⟨"RingHerd$Herd", "shift", "(LRingHerd$Grain;I)V"⟩, 7), (⟨"RingHerd$Herd", "partnerOf", "(II)I"⟩, 7), (⟨"RingHerd$Herd", "meet", "(LRingHerd$Grain;LRingHerd$Grain;)V"⟩, 7), (⟨"RingHerd$Herd", "stick", "(LRingHerd$Grain;LRingHerd$Grain;)V"⟩, 7), (⟨"RingHerd$Herd", "breakUp", "(LRingHerd$Grain;)V"⟩, 7), (⟨"RingHerd$Herd", "bump", "(LRingHerd$Grain;LRingHerd$Grain;)V"⟩, 7), (⟨"RingHerd", "ratioOf", "(LRingHerd$Moon;II)I"⟩, 11), (⟨"RingHerd", "keeperOf", "(II)I"⟩, 11), (⟨"RingHerdModel", "adds", "(IIIII)I"⟩, 37), (⟨"RingHerdModel", "goOn", "()V"⟩, 37), (⟨"RingHerdModel", "speedOf", "(I)I"⟩, 37), (⟨"RingHerdModel", "pushes", "(I)V"⟩, 37), (⟨"RingHerdModel", "momentumOf", "(I)J"⟩, 37)]
theorem lw_r1 : ∀ q ∈ lw_privs_1, lw_okq q := List.forall_mem_cons.mpr ⟨lw_p0, List.forall_mem_cons.mpr ⟨lw_p1, List.forall_mem_cons.mpr ⟨lw_p2, List.forall_mem_cons.mpr ⟨lw_p3, List.forall_mem_cons.mpr ⟨lw_p4, List.forall_mem_cons.mpr ⟨lw_p5, List.forall_mem_cons.mpr ⟨lw_p6, List.forall_mem_cons.mpr ⟨lw_p7, List.forall_mem_cons.mpr ⟨lw_p8, List.forall_mem_cons.mpr ⟨lw_p9, List.forall_mem_cons.mpr ⟨lw_p10, List.forall_mem_cons.mpr ⟨lw_p11, List.forall_mem_cons.mpr ⟨lw_p12, List.forall_mem_cons.mpr ⟨lw_p13, List.forall_mem_cons.mpr ⟨lw_p14, List.forall_mem_cons.mpr ⟨lw_p15, fun _ h => absurd h List.not_mem_nil⟩⟩⟩⟩⟩⟩⟩⟩⟩⟩⟩⟩⟩⟩⟩⟩
theorem lw_p16 : lw_okq (⟨"RingHerdModel", "goes", "(II)V"⟩, 37) := ⟨⟨by decide +kernel, by decide +kernel⟩, List.mem_of_getElem? (i := 663) (by decide +kernel), List.mem_of_getElem? (i := 843) (by decide +kernel), List.mem_of_getElem? (i := 844) (by decide +kernel)⟩
theorem lw_p17 : lw_okq (⟨"RingHerdModel", "canMeet", "(II)Z"⟩, 37) := ⟨⟨by decide +kernel, by decide +kernel⟩, List.mem_of_getElem? (i := 663) (by decide +kernel), List.mem_of_getElem? (i := 847) (by decide +kernel), List.mem_of_getElem? (i := 848) (by decide +kernel)⟩
theorem lw_p18 : lw_okq (⟨"RingHerdModel", "meets", "(II)V"⟩, 37) := ⟨⟨by decide +kernel, by decide +kernel⟩, List.mem_of_getElem? (i := 663) (by decide +kernel), List.mem_of_getElem? (i := 851) (by decide +kernel), List.mem_of_getElem? (i := 852) (by decide +kernel)⟩
theorem lw_p19 : lw_okq (⟨"RingHerdModel", "sticks", "(II)V"⟩, 37) := ⟨⟨by decide +kernel, by decide +kernel⟩, List.mem_of_getElem? (i := 663) (by decide +kernel), List.mem_of_getElem? (i := 855) (by decide +kernel), List.mem_of_getElem? (i := 856) (by decide +kernel)⟩
theorem lw_p20 : lw_okq (⟨"RingHerdModel", "breaks", "(I)V"⟩, 37) := ⟨⟨by decide +kernel, by decide +kernel⟩, List.mem_of_getElem? (i := 663) (by decide +kernel), List.mem_of_getElem? (i := 859) (by decide +kernel), List.mem_of_getElem? (i := 860) (by decide +kernel)⟩
theorem lw_p21 : lw_okq (⟨"RingHerdModel", "parts", "(II)V"⟩, 37) := ⟨⟨by decide +kernel, by decide +kernel⟩, List.mem_of_getElem? (i := 663) (by decide +kernel), List.mem_of_getElem? (i := 863) (by decide +kernel), List.mem_of_getElem? (i := 864) (by decide +kernel)⟩
theorem lw_p22 : lw_okq (⟨"RingHerdModel", "massOf", "(I)I"⟩, 37) := ⟨⟨by decide +kernel, by decide +kernel⟩, List.mem_of_getElem? (i := 663) (by decide +kernel), List.mem_of_getElem? (i := 871) (by decide +kernel), List.mem_of_getElem? (i := 872) (by decide +kernel)⟩
theorem lw_p23 : lw_okq (⟨"RingHerdModel", "isFrame", "(I)Z"⟩, 37) := ⟨⟨by decide +kernel, by decide +kernel⟩, List.mem_of_getElem? (i := 663) (by decide +kernel), List.mem_of_getElem? (i := 880) (by decide +kernel), List.mem_of_getElem? (i := 881) (by decide +kernel)⟩
theorem lw_p24 : lw_okq (⟨"RingHerdModel", "there", "()I"⟩, 37) := ⟨⟨by decide +kernel, by decide +kernel⟩, List.mem_of_getElem? (i := 663) (by decide +kernel), List.mem_of_getElem? (i := 904) (by decide +kernel), List.mem_of_getElem? (i := 905) (by decide +kernel)⟩
theorem lw_p25 : lw_okq (⟨"RingHerdModel", "momentumNow", "()J"⟩, 37) := ⟨⟨by decide +kernel, by decide +kernel⟩, List.mem_of_getElem? (i := 663) (by decide +kernel), List.mem_of_getElem? (i := 920) (by decide +kernel), List.mem_of_getElem? (i := 921) (by decide +kernel)⟩
theorem lw_p26 : lw_okq (⟨"RingHerdModel", "resonanceOf", "(II)I"⟩, 37) := ⟨⟨by decide +kernel, by decide +kernel⟩, List.mem_of_getElem? (i := 663) (by decide +kernel), List.mem_of_getElem? (i := 934) (by decide +kernel), List.mem_of_getElem? (i := 935) (by decide +kernel)⟩
theorem lw_p27 : lw_okq (⟨"RingHerdModel", "gapAt", "(I)I"⟩, 37) := ⟨⟨by decide +kernel, by decide +kernel⟩, List.mem_of_getElem? (i := 663) (by decide +kernel), List.mem_of_getElem? (i := 942) (by decide +kernel), List.mem_of_getElem? (i := 943) (by decide +kernel)⟩
theorem lw_p28 : lw_okq (⟨"RingHerdModel", "gapFrom", "(I)I"⟩, 37) := ⟨⟨by decide +kernel, by decide +kernel⟩, List.mem_of_getElem? (i := 663) (by decide +kernel), List.mem_of_getElem? (i := 946) (by decide +kernel), List.mem_of_getElem? (i := 947) (by decide +kernel)⟩
theorem lw_p29 : lw_okq (⟨"RingHerdModel", "isEmpty", "(I)Z"⟩, 37) := ⟨⟨by decide +kernel, by decide +kernel⟩, List.mem_of_getElem? (i := 663) (by decide +kernel), List.mem_of_getElem? (i := 950) (by decide +kernel), List.mem_of_getElem? (i := 951) (by decide +kernel)⟩
theorem lw_p30 : lw_okq (⟨"RingHerdModel", "endOf", "(I)I"⟩, 37) := ⟨⟨by decide +kernel, by decide +kernel⟩, List.mem_of_getElem? (i := 663) (by decide +kernel), List.mem_of_getElem? (i := 954) (by decide +kernel), List.mem_of_getElem? (i := 955) (by decide +kernel)⟩
theorem lw_p31 : lw_okq (⟨"RingHerdModel", "keeper", "(II)I"⟩, 37) := ⟨⟨by decide +kernel, by decide +kernel⟩, List.mem_of_getElem? (i := 663) (by decide +kernel), List.mem_of_getElem? (i := 958) (by decide +kernel), List.mem_of_getElem? (i := 959) (by decide +kernel)⟩
def lw_privs_2 : List (MethodName × Nat) := [(⟨"RingHerdModel", "goes", "(II)V"⟩, 37), (⟨"RingHerdModel", "canMeet", "(II)Z"⟩, 37), (⟨"RingHerdModel", "meets", "(II)V"⟩, 37), (⟨"RingHerdModel", "sticks", "(II)V"⟩, 37), (⟨"RingHerdModel", "breaks", "(I)V"⟩, 37), (⟨"RingHerdModel", "parts", "(II)V"⟩, 37), (⟨"RingHerdModel", "massOf", "(I)I"⟩, 37), (⟨"RingHerdModel", "isFrame", "(I)Z"⟩, 37), (⟨"RingHerdModel", "there", "()I"⟩, 37), (⟨"RingHerdModel", "momentumNow", "()J"⟩, 37), (⟨"RingHerdModel", "resonanceOf", "(II)I"⟩, 37), (⟨"RingHerdModel", "gapAt", "(I)I"⟩, 37), (⟨"RingHerdModel", "gapFrom", "(I)I"⟩, 37), (⟨"RingHerdModel", "isEmpty", "(I)Z"⟩, 37), (⟨"RingHerdModel", "endOf", "(I)I"⟩, 37), (⟨"RingHerdModel", "keeper", "(II)I"⟩, 37)]
theorem lw_r2 : ∀ q ∈ lw_privs_2, lw_okq q := List.forall_mem_cons.mpr ⟨lw_p16, List.forall_mem_cons.mpr ⟨lw_p17, List.forall_mem_cons.mpr ⟨lw_p18, List.forall_mem_cons.mpr ⟨lw_p19, List.forall_mem_cons.mpr ⟨lw_p20, List.forall_mem_cons.mpr ⟨lw_p21, List.forall_mem_cons.mpr ⟨lw_p22, List.forall_mem_cons.mpr ⟨lw_p23, List.forall_mem_cons.mpr ⟨lw_p24, List.forall_mem_cons.mpr ⟨lw_p25, List.forall_mem_cons.mpr ⟨lw_p26, List.forall_mem_cons.mpr ⟨lw_p27, List.forall_mem_cons.mpr ⟨lw_p28, List.forall_mem_cons.mpr ⟨lw_p29, List.forall_mem_cons.mpr ⟨lw_p30, List.forall_mem_cons.mpr ⟨lw_p31, fun _ h => absurd h List.not_mem_nil⟩⟩⟩⟩⟩⟩⟩⟩⟩⟩⟩⟩⟩⟩⟩⟩
theorem lw_p32 : lw_okq (⟨"RingHerdModel", "isNear", "(II)Z"⟩, 37) := ⟨⟨by decide +kernel, by decide +kernel⟩, List.mem_of_getElem? (i := 663) (by decide +kernel), List.mem_of_getElem? (i := 962) (by decide +kernel), List.mem_of_getElem? (i := 963) (by decide +kernel)⟩
theorem lw_p33 : lw_okq (⟨"RingHerdModel", "isClaim", "(I)Z"⟩, 37) := ⟨⟨by decide +kernel, by decide +kernel⟩, List.mem_of_getElem? (i := 663) (by decide +kernel), List.mem_of_getElem? (i := 978) (by decide +kernel), List.mem_of_getElem? (i := 979) (by decide +kernel)⟩
theorem lw_p34 : lw_okq (⟨"RingHerdModel", "holdsBy", "(II)Z"⟩, 37) := ⟨⟨by decide +kernel, by decide +kernel⟩, List.mem_of_getElem? (i := 663) (by decide +kernel), List.mem_of_getElem? (i := 982) (by decide +kernel), List.mem_of_getElem? (i := 983) (by decide +kernel)⟩
def lw_privs_3 : List (MethodName × Nat) := [(⟨"RingHerdModel", "isNear", "(II)Z"⟩, 37), (⟨"RingHerdModel", "isClaim", "(I)Z"⟩, 37), (⟨"RingHerdModel", "holdsBy", "(II)Z"⟩, 37)]
theorem lw_r3 : ∀ q ∈ lw_privs_3, lw_okq q := List.forall_mem_cons.mpr ⟨lw_p32, List.forall_mem_cons.mpr ⟨lw_p33, List.forall_mem_cons.mpr ⟨lw_p34, fun _ h => absurd h List.not_mem_nil⟩⟩⟩
def lw_privs : List (MethodName × Nat) := lw_privs_1 ++ (lw_privs_2 ++ (lw_privs_3))
def lw_tbl : List Cond := k2_sels lw_privs ++ tables_1
theorem lw_privs_ok : ∀ q ∈ lw_privs, lw_okq q := by
  show ∀ q ∈ lw_privs_1 ++ (lw_privs_2 ++ (lw_privs_3)), lw_okq q
  exact List.forall_mem_append.mpr ⟨lw_r1, List.forall_mem_append.mpr ⟨lw_r2, lw_r3⟩⟩
end
section
/-! ===== BEGIN words of one list among another's, by their places ===== -/
theorem goodIn_r {big : List Cond} (ws : List Cond) (ps : List Nat) (hp : ws = ps.filterMap (fun i => big[i]?)) (h : ws.all goodWord = true) : GoodIn big ws := by
  intro w hw
  have h1 := List.all_eq_true.mp h w hw
  rw [hp] at hw
  obtain ⟨i, -, hi⟩ := List.mem_filterMap.mp hw
  have hm : w ∈ big := by first | exact List.mem_of_getElem? hi | exact List.getElem?_mem hi
  exact ⟨hm, good_of_word h1⟩
theorem goodIn_app {big a b : List Cond} (ha : GoodIn big a) (hb : GoodIn big b) : GoodIn big (a ++ b) := fun w h => (List.mem_append.mp h).elim (ha w) (hb w)
theorem goodIn_ca {big a b : List Cond} {c : Cond} (ha : GoodIn big (c :: a)) (hb : GoodIn big b) : GoodIn big (c :: (a ++ b)) := fun w h => (List.mem_cons.mp h).elim (fun e => ha w (List.mem_cons.mpr (Or.inl e))) (fun h => (List.mem_append.mp h).elim (fun h => ha w (List.mem_cons.mpr (Or.inr h))) (hb w))
theorem goodIn_sub {big ws : List Cond} (hm : ∀ w ∈ ws, w ∈ big) (h : ws.all goodWord = true) : GoodIn big ws := fun w hw => ⟨hm w hw, good_of_word (List.all_eq_true.mp h w hw)⟩
/-! ===== END ===== -/

/-! ===== BEGIN exceptions that leave a method, and their catching by the caller (launches without stack traces) ===== -/
section VXA
/-! The laws vx_back, vx_callV, vx_callS, vx_callSW, vx_throw0, vx_throwS follow proofs of the library, with one case more: JvmDerived/Free/Laws.lean (Back.of_free), Shelf42/LK1.lean (callV, callS), Shelf/KitTraced.lean (throwNew0V, throwNewS). -/
/-- where a method has thrown q: the class by its name, the cell, what was written, the world -/
def vx_T (XC : String → State → State → Prop) (st : State) (q : Addr) (t : State) (mc ms : Nat) (free : Addr → Prop) : Prop :=
  ∃ (E : String) (ce : Cell) (L : List Loc), XC E st t ∧ t.heap[q]? = some ce ∧ ce.vm = .none ∧ st.vm.findClass E = some ce.cls ∧ st.WarmedH t.vm ∧ st.sameButNew ({ t with vm := st.vm } : State) L mc ms ∧ ∀ z ∈ L, free z.base
def vx_Q (Qc : Array Value → State → Outcome → State → Prop) (XC : String → State → State → Prop) (mc ms : Nat) (free : Addr → Prop) : Array Value → State → Outcome → State → Prop := fun a st o t =>
  (Qc a st o t ∧ ∃ L, FrameEnd st o t L mc ms ∧ ∀ q ∈ L, free q.base) ∨ ∃ q, o = .threw q ∧ vx_T XC st q t mc ms free
/-- a callee that returns or throws -/
def vx_Met (l : Launch) (y : MethodName) (ws : List Cond) (rm : Room) (Pc : Array Value → State → Prop) (Qc : Array Value → State → Outcome → State → Prop) (XC : String → State → State → Prop) (mc ms : Nat) (free : Addr → Prop) : Prop :=
  MetFree l y (headSpec ws rm) Pc (fun _ _ _ _ _ => True) (vx_Q Qc XC mc ms free)
def vx_Post (XC : String → State → State → Prop) (mc ms : Nat) (free : Addr → Prop) : Pt → Array Value → Addr → Pt → Prop := fun A a q B =>
  ∃ (g : JFrame) (mk : MethodId) (t : State) (L : List Loc) (E : String) (ce : Cell), B.U.heap = t.heap ∧ B.U.vm = t.vm ∧ XC E (A.U.calling g mk a) t ∧ t.heap[q]? = some ce ∧ ce.vm = .none ∧ A.U.vm.findClass E = some ce.cls ∧ B.locs = A.locs ++ L ∧ (∀ z ∈ L, free z.base) ∧ B.cells = A.cells + mc ∧ B.slots = A.slots + ms
def vx_Back (l : Launch) (R : Room) (p : Program) (e : Env) (below : List Frame) (s : State) (sargs : Array Value) (y : MethodName) (len W9 : Nat)
    (Pre : Pt → Array Value → Prop) (Post : Pt → Array Value → Option Value → Pt → Prop) (PostX : Pt → Array Value → Addr → Pt → Prop) : Prop :=
  ∀ (m : MethodId) (meth : Method) (c : Code) (A : Pt) (g : JFrame) (ig : Instr) (mk : MethodId) (a : Array Value),
    Stand p l e R s m sargs below meth c A.U A.locs A.cells A.slots → g.method = m → g.locals.size = c.maxLocals → decode c.code g.pc = .ok (ig, len) →
    2 * g.monitorRoom + (g.stack.map fun v => v.category).sum ≤ W9 → A.U.methodNamed? y = some mk → Pre A a →
    (∃ (v : Option Value) (B : Pt), Stand p l e R s m sargs below meth c B.U B.locs B.cells B.slots ∧ Post A a v B ∧
      Steps p.tables e below (doInvoke e (A.U.setTop g) [] mk a).1 (B.U.setTop { g with pc := g.pc + len, stack := v.toList ++ g.stack })) ∨
    (∃ (q : Addr) (B : Pt), Stand p l e R s m sargs below meth c B.U B.locs B.cells B.slots ∧ PostX A a q B ∧
      Steps p.tables e below (doInvoke e (A.U.setTop g) [] mk a).1 ((B.U.setTop g).pushFrame (.throwing q)))
section Payer
variable {l : Launch} {R : Room} {p : Program} {e : Env} {below : List Frame} {s : State} {sargs : Array Value} {y : MethodName} {len W9 : Nat}
theorem vx_back {ws : List Cond} {rm : Room} {Pc : Array Value → State → Prop} {Qc : Array Value → State → Outcome → State → Prop} {XC : String → State → State → Prop} {mc ms : Nat} {free : Addr → Prop} {bytes : ByteArray} {maxL : Nat} {ret : Option FieldType}
    (hM : vx_Met l y ws rm Pc Qc XC mc ms free) (hblind : FrameBlind Pc) (hrc : rm.cells = mc) (hrs : rm.slots = ms)
    (hframes : rm.frames + 1 ≤ R.frames) (hlocals : W9 + (maxL + 11) + rm.locals ≤ R.locals)
    (hws : ∀ w ∈ ws, ∀ a' U, s.WarmedH U.vm → w.before a' U = true) (hcode : Cond.code y bytes maxL ret ∈ ws) (hinit : ∀ a' U, s.WarmedH U.vm → (Cond.initialized y.cls).before a' U = true) :
    vx_Back l R p e below s sargs y len W9 (PreOf R mc ms Pc) (PostOf Qc mc ms free) (vx_Post XC mc ms free) := by
  intro m meth c A g ig mk a X hg hsize hdg hW hn hp
  have h1 : (headSpec ws rm).pre.before a A.U = true := atoms_intro fun w hw => hws w hw _ _ X.warmed
  have h2 : (Cond.code y bytes maxL ret).before a A.U = true := hws _ hcode _ _ X.warmed
  have h3 : (Cond.initialized y.cls).before a A.U = true := hinit _ _ X.warmed
  have h4 : A.cells + (headSpec ws rm).room.cells ≤ R.cells := by rw [show (headSpec ws rm).room.cells = mc from hrc]; exact hp.1
  have h5 : A.slots + (headSpec ws rm).room.slots ≤ R.slots := by rw [show (headSpec ws rm).room.slots = ms from hrs]; exact hp.2.1
  have hPc : Pc a (A.U.calling g mk a) := hblind _ _ _ _ hp.2.2
  obtain ⟨U, Ls, c0, s0⟩ := A
  dsimp only [Pt.U, Pt.locs, Pt.cells, Pt.slots] at h1 h2 h3 h4 h5 X hn hPc ⊢
  obtain ⟨methY, cY, hmY, hcY, -, hlY, -, -, -, -⟩ := Cond.code_spec hn h2
  obtain ⟨kY, hkY, -⟩ := className_of_methodNamed hn
  have hinitY : kY.init = .initialized := Cond.initialized_spec (findClass_of_methodNamed hn) hkY h3
  have h : At U g.method c below := by rw [hg]; exact X.here
  have hlocals9 : W9 + (maxL + 11) + (headSpec ws rm).room.locals ≤ R.locals := hlocals
  have happ : (headSpec ws rm).appliesLoose y e.platform (U.calling g mk a) = true :=
    Spec.appliesLoose_calling (g := g) h hdg hn hkY hinitY
      (X.room_calling (g := g) (R' := (headSpec ws rm).room) hsize hmY hcY hframes (by rw [hlY]; omega) h4 h5) h1
  obtain ⟨mid, hmid⟩ := h.above
  have hfr : (U.setTop g).frames = (.java g :: mid) ++ below := by rw [State.frames_setTop' g h.top, hmid]; rfl
  obtain ⟨o, s₂, hsteps, -, hend, hq⟩ := Steps.callFree hM p X.admits X.cas X.clock (acts := []) hfr happ hPc trivial
  have hq' : vx_Q Qc XC mc ms free a (U.calling g mk a) o s₂ := hq
  rw [State.frames_setTop' g h.top] at hend
  obtain ⟨g₀, hg0⟩ := Option.isSome_iff_exists.mp h.top
  obtain ⟨r, hr⟩ := State.topJava?_eq_some.mp hg0
  have hr' : (({ U with heap := s₂.heap, slotsUsed := s₂.slotsUsed } : State).setVm s₂.vm).frames = .java g₀ :: r := hr
  rcases hq' with ⟨hqc, L, hfe, hL⟩ | ⟨q, rfl, E, ce, L, hx, hce, hcv, hcl, hW₂, hsm, hL⟩
  · obtain ⟨⟨v, rfl⟩, hW₂, e2, q2, q3, q4, q5, q6⟩ := id hfe
    have e3 : s₂ = ({ (U.calling g mk a).setFrames s₂.frames with heap := s₂.heap, slotsUsed := s₂.slotsUsed } : State).setVm s₂.vm := by
      have : s₂ = ({ s₂ with vm := (U.calling g mk a).vm } : State).setVm s₂.vm := rfl
      rw [e2] at this
      exact this
    obtain ⟨c₂, i₂, len₂, hc₂, hd₂, hf₂⟩ := hend
    have hW' : U.WarmedH s₂.vm := hW₂
    have hcc : c₂ = c := by
      have h1 : s₂.code? g.method = U.code? g.method := by
        rw [State.code?_eq, State.code?_eq, hW'.alike.method?]
      exact Option.some.inj (hc₂.symm.trans (h1.trans h.code))
    subst hcc
    have hlen : len₂ = len := by rw [hdg] at hd₂; cases hd₂; rfl
    subst hlen
    have hs₂ : s₂ = (({ U with heap := s₂.heap, slotsUsed := s₂.slotsUsed } : State).setVm s₂.vm).setTop { g with pc := g.pc + len₂, stack := v.toList ++ g.stack } := by
      refine e3.trans ?_
      rw [hf₂, State.calling_eq h.top, State.setFrames_setFrames, State.setTop_of_frames _ hr', hr]
      rfl
    have hsame : U.sameButNew ({ U with heap := s₂.heap, slotsUsed := s₂.slotsUsed } : State) L mc ms := by
      refine ⟨?_, q2, q3, q4, q5, q6⟩
      obtain ⟨t, ht, -⟩ := State.frames_cons hr
      show ({ U with heap := s₂.heap, slotsUsed := s₂.slotsUsed } : State) = { U.setFrames U.frames with heap := s₂.heap, slotsUsed := s₂.slotsUsed }
      rw [State.setFrames_self ht]
    subst hg
    refine Or.inl ⟨v, ⟨(({ U with heap := s₂.heap, slotsUsed := s₂.slotsUsed } : State).setVm s₂.vm), Ls ++ L, c0 + mc, s0 + ms⟩,
      ⟨X.admits, X.cas, X.clock, X.frames, X.room, X.hears, X.method, X.code, (X.here.setHeapUsed s₂.heap s₂.slotsUsed).setVm hW'.alike, X.tail, State.WarmedH.trans X.warmed hW', X.limits, X.bytes, X.same.trans (hsame.setVm s.vm)⟩,
      ⟨g, mk, s₂, L, rfl, rfl, hqc, rfl, hL, rfl, rfl⟩, ?_⟩
    show Steps p.tables e below _ ((({ U with heap := s₂.heap, slotsUsed := s₂.slotsUsed } : State).setVm s₂.vm).setTop { g with pc := g.pc + len₂, stack := v.toList ++ g.stack })
    rw [← hs₂]
    exact hsteps
  · obtain ⟨e2, q2, q3, q4, q5, q6⟩ := id hsm
    have e3 : s₂ = ({ (U.calling g mk a).setFrames s₂.frames with heap := s₂.heap, slotsUsed := s₂.slotsUsed } : State).setVm s₂.vm := by
      have : s₂ = ({ s₂ with vm := (U.calling g mk a).vm } : State).setVm s₂.vm := rfl
      rw [e2] at this
      exact this
    have hf₂ : s₂.frames = .throwing q :: .java g :: U.frames.tail := hend
    have hW' : U.WarmedH s₂.vm := hW₂
    have hs₂ : s₂ = ((({ U with heap := s₂.heap, slotsUsed := s₂.slotsUsed } : State).setVm s₂.vm).setTop g).pushFrame (.throwing q) := by
      refine e3.trans ?_
      rw [hf₂, State.calling_eq h.top, State.setFrames_setFrames, State.pushFrame, State.frames_setTop _ hr', State.setTop_of_frames _ hr', State.setFrames_setFrames, hr]
      rfl
    have hsame : U.sameButNew ({ U with heap := s₂.heap, slotsUsed := s₂.slotsUsed } : State) L mc ms := by
      refine ⟨?_, q2, q3, q4, q5, q6⟩
      obtain ⟨t, ht, -⟩ := State.frames_cons hr
      show ({ U with heap := s₂.heap, slotsUsed := s₂.slotsUsed } : State) = { U.setFrames U.frames with heap := s₂.heap, slotsUsed := s₂.slotsUsed }
      rw [State.setFrames_self ht]
    subst hg
    refine Or.inr ⟨q, ⟨(({ U with heap := s₂.heap, slotsUsed := s₂.slotsUsed } : State).setVm s₂.vm), Ls ++ L, c0 + mc, s0 + ms⟩,
      ⟨X.admits, X.cas, X.clock, X.frames, X.room, X.hears, X.method, X.code, (X.here.setHeapUsed s₂.heap s₂.slotsUsed).setVm hW'.alike, X.tail, State.WarmedH.trans X.warmed hW', X.limits, X.bytes, X.same.trans (hsame.setVm s.vm)⟩,
      ⟨g, mk, s₂, L, E, ce, rfl, rfl, hx, hce, hcv, hcl, rfl, hL, rfl, rfl⟩, ?_⟩
    show Steps p.tables e below _ (((({ U with heap := s₂.heap, slotsUsed := s₂.slotsUsed } : State).setVm s₂.vm).setTop g).pushFrame (.throwing q))
    rw [← hs₂]
    exact hsteps
end Payer
section Calls
variable {p : Program} {l : Launch} {e : Env} {R : Room} {s : State} {m : MethodId} {args : Array Value} {below : List Frame} {meth : Method} {c : Code} {T : State} {locs : List Loc} {cells slots : Nat}
theorem vx_callV (X : Stand p l e R s m args below meth c T locs cells slots) (hexec : p.tables.exec = Jvm.exec) {own C : String} {index : Nat} {y : MethodName} {bytes : ByteArray} {maxL : Nat} {ret : Option FieldType}
    (hown : s.vm.findClass own = some m.cls) (hlink : (Cond.methodLink own index y).before args s = true) (hinst : (Cond.instanceMethod y).before args s = true) (hsel : (Cond.selects C y y).before args s = true)
    (hcode : (Cond.code y bytes maxL ret).before args s = true) (hy : y.cls ≠ "java/lang/invoke/MethodHandle" ∧ y.cls ≠ "java/lang/invoke/VarHandle")
    {W9 : Nat} {Pre : Pt → Array Value → Prop} {Post : Pt → Array Value → Option Value → Pt → Prop} {PostX : Pt → Array Value → Addr → Pt → Prop} (hK : vx_Back l R p e below s args y 3 W9 Pre Post PostX)
    {b : Addr} {cellB : Cell} (hcell : T.heap[b]? = some cellB) (hobj : cellB.vm.isStatics = false) (hcls : s.vm.findClass C = some cellB.cls)
    {g : JFrame} (hg : g.method = m) (hsize : g.locals.size = c.maxLocals) {argsL rest : List Value} (hlen : ∀ sig, parseMethodDescriptor y.desc = some sig → argsL.length = sig.parameters.length)
    (hstack : g.stack = argsL.reverse ++ .ref b :: rest) (hW : 2 * g.monitorRoom + (rest.map fun v => v.category).sum ≤ W9) (hdg : decode c.code g.pc = .ok (.invokevirtual index, 3))
    (hpre : ∀ vm₁, s.WarmedH vm₁ → Pre ⟨T.setVm vm₁, locs, cells, slots⟩ (Value.ref b :: argsL).toArray) :
    (∃ (v : Option Value) (vm₁ : Vm) (B : Pt), s.WarmedH vm₁ ∧ Stand p l e R s m args below meth c B.U B.locs B.cells B.slots ∧ Post ⟨T.setVm vm₁, locs, cells, slots⟩ (Value.ref b :: argsL).toArray v B ∧
      ∀ target, Steps p.tables e below (B.U.setTop { g with pc := g.pc + 3, stack := v.toList ++ rest }) target → Steps p.tables e below (T.setTop g) target) ∨
    (∃ (q : Addr) (vm₁ : Vm) (B : Pt), s.WarmedH vm₁ ∧ Stand p l e R s m args below meth c B.U B.locs B.cells B.slots ∧ PostX ⟨T.setVm vm₁, locs, cells, slots⟩ (Value.ref b :: argsL).toArray q B ∧
      Steps p.tables e below (T.setTop g) ((B.U.setTop { g with stack := rest }).pushFrame (.throwing q))) := by
  obtain ⟨mk, methM, hnamed, hmethM, hstM, habM⟩ := Cond.instanceMethod_spec hinst
  obtain ⟨methM', cM, hmethM', -, -, -, -, -, -, hsigM⟩ := Cond.code_spec hnamed hcode
  cases hmethM.symm.trans hmethM'
  obtain ⟨c2, r2, m2, q1, q2, q3, q4, kP, hkP, hkPi⟩ := Cond.selects_spec hsel
  cases hcls.symm.trans q1
  cases (State.methodFound?_of_named hnamed hy).symm.trans q2
  cases hnamed.symm.trans q3
  have hselP : selectMethod e.platform s.vm cellB.cls mk = .method mk := by rw [Launch.admits_selectMethod X.admits]; exact q4
  obtain ⟨vm₁, X₁, hstep₁⟩ := X.invokevirtual hexec hown hlink hnamed hmethM hstM hkP hkPi hy (a := b) (cell := cellB) hcell
    (fun z h => by rw [h] at hobj; cases hobj) hselP hmethM habM hkP hkPi (g := g) hg (argsL := argsL) (rest := rest) (hlen _ hsigM) hstack hdg
  rcases hK m meth c ⟨T.setVm vm₁, locs, cells, slots⟩ { g with stack := rest } (.invokevirtual index) mk (Value.ref b :: argsL).toArray X₁ hg hsize hdg hW (X₁.named hnamed) (hpre vm₁ X₁.warmed) with ⟨v, B, X', hpost, hsteps⟩ | ⟨q, B, X', hpost, hsteps⟩
  · exact Or.inl ⟨v, vm₁, B, X₁.warmed, X', hpost, fun target h => hstep₁ _ fun acts => by rw [doInvoke_state]; exact hsteps.trans h⟩
  · exact Or.inr ⟨q, vm₁, B, X₁.warmed, X', hpost, hstep₁ _ fun acts => by rw [doInvoke_state]; exact hsteps⟩
theorem vx_callS (X : Stand p l e R s m args below meth c T locs cells slots) (hexec : p.tables.exec = Jvm.exec) {own : String} {index : Nat} {y : MethodName} {bytes : ByteArray} {maxL : Nat} {ret : Option FieldType}
    (hown : s.vm.findClass own = some m.cls) (hlink : (Cond.methodLink own index y).before args s = true) (hstat : (Cond.static y).before args s = true) (hinit : (Cond.initialized y.cls).before args s = true)
    (hcode : (Cond.code y bytes maxL ret).before args s = true) (hy : y.cls ≠ "java/lang/invoke/MethodHandle" ∧ y.cls ≠ "java/lang/invoke/VarHandle")
    {W9 : Nat} {Pre : Pt → Array Value → Prop} {Post : Pt → Array Value → Option Value → Pt → Prop} {PostX : Pt → Array Value → Addr → Pt → Prop} (hK : vx_Back l R p e below s args y 3 W9 Pre Post PostX)
    {g : JFrame} (hg : g.method = m) (hsize : g.locals.size = c.maxLocals) {argsL rest : List Value} (hlen : ∀ sig, parseMethodDescriptor y.desc = some sig → argsL.length = sig.parameters.length)
    (hstack : g.stack = argsL.reverse ++ rest) (hW : 2 * g.monitorRoom + (rest.map fun v => v.category).sum ≤ W9) (hdg : decode c.code g.pc = .ok (.invokestatic index, 3))
    (hpre : ∀ vm₁, s.WarmedH vm₁ → Pre ⟨T.setVm vm₁, locs, cells, slots⟩ argsL.toArray) :
    (∃ (v : Option Value) (vm₁ : Vm) (B : Pt), s.WarmedH vm₁ ∧ Stand p l e R s m args below meth c B.U B.locs B.cells B.slots ∧ Post ⟨T.setVm vm₁, locs, cells, slots⟩ argsL.toArray v B ∧
      ∀ target, Steps p.tables e below (B.U.setTop { g with pc := g.pc + 3, stack := v.toList ++ rest }) target → Steps p.tables e below (T.setTop g) target) ∨
    (∃ (q : Addr) (vm₁ : Vm) (B : Pt), s.WarmedH vm₁ ∧ Stand p l e R s m args below meth c B.U B.locs B.cells B.slots ∧ PostX ⟨T.setVm vm₁, locs, cells, slots⟩ argsL.toArray q B ∧
      Steps p.tables e below (T.setTop g) ((B.U.setTop { g with stack := rest }).pushFrame (.throwing q))) := by
  obtain ⟨mk, hnamed⟩ := Cond.code_named hcode
  obtain ⟨methM, cM, hmethM, -, -, -, -, -, -, hsigM⟩ := Cond.code_spec hnamed hcode
  have hstatic : methM.isStatic = true := Cond.static_spec hnamed hmethM hstat
  obtain ⟨kP, hkP, -⟩ := className_of_methodNamed hnamed
  have hinitP : kP.init = .initialized := Cond.initialized_spec (findClass_of_methodNamed hnamed) hkP hinit
  obtain ⟨vm₁, X₁, hstep₁⟩ := X.invokestatic hexec hown hlink hnamed hmethM hstatic hkP hinitP hy (g := g) hg (argsL := argsL) (rest := rest) (hlen _ hsigM) hstack hdg
  rcases hK m meth c ⟨T.setVm vm₁, locs, cells, slots⟩ { g with stack := rest } (.invokestatic index) mk argsL.toArray X₁ hg hsize hdg hW (X₁.named hnamed) (hpre vm₁ X₁.warmed) with ⟨v, B, X', hpost, hsteps⟩ | ⟨q, B, X', hpost, hsteps⟩
  · exact Or.inl ⟨v, vm₁, B, X₁.warmed, X', hpost, fun target h => hstep₁ _ fun acts => by rw [doInvoke_state]; exact hsteps.trans h⟩
  · exact Or.inr ⟨q, vm₁, B, X₁.warmed, X', hpost, hstep₁ _ fun acts => by rw [doInvoke_state]; exact hsteps⟩
end Calls
theorem vx_cls {s : State} {T : State} {vm₁ : Vm} {E : String} {k : ClassId} (hW : s.WarmedH vm₁) (h : (T.setVm vm₁).vm.findClass E = some k) : s.vm.findClass E = some k := by
  have h1 : vm₁.findClass E = some k := h
  rw [hW.alike.findClass] at h1
  exact h1
/-- the method's frame g, with q thrown over it -/
def vx_W (p : Program) (l : Launch) (e : Env) (R : Room) (s : State) (m : MethodId) (args : Array Value) (below : List Frame) (meth : Method) (c : Code) (H : Heap) (locs : List Loc) (cells slots : Nat) (Q : State → Prop) (g : JFrame) (q : Addr) : Prop :=
  ∀ T : State, T.heap = H → Stand p l e R s m args below meth c T locs cells slots → ∃ t, Steps p.tables e below ((T.setTop g).pushFrame (.throwing q)) t ∧ Q t
def vx_Run (p : Program) (l : Launch) (e : Env) (R : Room) (s : State) (m : MethodId) (args : Array Value) (below : List Frame) (meth : Method) (c : Code) (H : Heap) (locs : List Loc) (cells slots mc ms : Nat) (g : JFrame) (rest : List Value) (Qa : State → Outcome → State → Prop) (XC : String → State → State → Prop) (free : Addr → Prop) : Prop :=
  ∀ T : State, T.heap = H → Stand p l e R s m args below meth c T locs cells slots →
    (∃ (v : Option Value) (st₀ t T' : State) (L : List Loc), st₀.heap = H ∧ Stand p l e R s m args below meth c T' (locs ++ L) (cells + mc) (slots + ms) ∧ (∀ q ∈ L, free q.base) ∧ T'.heap = t.heap ∧ T'.vm = t.vm ∧ Qa st₀ (.returned v) t ∧
      Goes p e below T g T' { g with pc := g.pc + 3, stack := v.toList ++ rest }) ∨
    (∃ (q : Addr) (st₀ t T' : State) (L : List Loc) (E : String) (ce : Cell), st₀.heap = H ∧ Stand p l e R s m args below meth c T' (locs ++ L) (cells + mc) (slots + ms) ∧ (∀ z ∈ L, free z.base) ∧ T'.heap = t.heap ∧ T'.vm = t.vm ∧ XC E st₀ t ∧ t.heap[q]? = some ce ∧ ce.vm = .none ∧ s.vm.findClass E = some ce.cls ∧
      Steps p.tables e below (T.setTop g) ((T'.setTop { g with stack := rest }).pushFrame (.throwing q)))
def vx_X {S : Type} (px : S → Prop) (B : String → S → State → Prop) (A : Nat → Prop) : String → State → State → Prop := fun E st t => ∃ u : S, px u ∧ B E u t ∧ va_F A st t
section Runs
variable {p : Program} {l : Launch} {e : Env} {R : Room} {s : State} {m : MethodId} {args : Array Value} {below : List Frame} {meth : Method} {c : Code} {H : Heap} {locs : List Loc} {cells slots : Nat}
variable {y : MethodName} {bytes cc : ByteArray} {maxL nL mc ms n index : Nat} {ret : Option FieldType} {ws : List Cond} {rm : Room} {Pc : Array Value → State → Prop} {Qc : Array Value → State → Outcome → State → Prop} {XC : String → State → State → Prop} {free : Addr → Prop} {Ts : List Cond} {own C : String} {b : Addr} {As rest : List Value} {g : JFrame}
theorem vx_callBack (cb : CallB R s args own index y bytes maxL ret ws rm mc ms n) (hM : vx_Met l y ws rm Pc Qc XC mc ms free) (hbl : FrameBlind Pc) : vx_Back l R p e below s args y 3 8 (PreOf R mc ms Pc) (PostOf Qc mc ms free) (vx_Post XC mc ms free) := by
  obtain ⟨hrc, hrs, hfr, hlo, hws, hcw, -, hini, -⟩ := cb
  exact vx_back (bytes := bytes) (maxL := maxL) (ret := ret) hM hbl hrc hrs hfr hlo hws hcw (fun a' U hW => word_at hW (Or.inl (by first | rfl | simp [Cond.onTables, Cond.keeps, Cond.steady])) hini)
theorem vx_runV (S : CallFix p m c cc nL s args Ts own) (hM : vx_Met l y ws rm Pc Qc XC mc ms free) (cw : CallW R s args own C index y bytes maxL ret ws rm mc ms n) (hp : PreV s H C b Pc As)
    (hg : g.method = m) (hn : As.length = n) (hsize : g.locals.size = nL) (hstack : g.stack = As.reverse ++ .ref b :: rest) (hW : 2 * g.monitorRoom + (rest.map fun v => v.category).sum ≤ 8) (hdg : decode cc g.pc = .ok (.invokevirtual index, 3)) (hf : cells + mc ≤ R.cells ∧ slots + ms ≤ R.slots) :
    vx_Run p l e R s m args below meth c H locs cells slots mc ms g rest (Qc (Value.ref b :: As).toArray) XC free := by
  have hK : vx_Back l R p e below s args y 3 8 (PreOf R mc ms Pc) (PostOf Qc mc ms free) (vx_Post XC mc ms free) := vx_callBack cw.1 hM hp.1
  obtain ⟨⟨-, -, -, -, -, -, hcode, -, hy, hlen, hl⟩, hin, hse⟩ := cw
  obtain ⟨hx, hb, hml, ho, -⟩ := S
  obtain ⟨-, ⟨cellB, hcB, hoB, hclB⟩, hPc⟩ := hp
  intro T hT X
  rcases vx_callV X hx (C := C) (bytes := bytes) (maxL := maxL) (ret := ret) ho hl hin hse hcode hy hK (by rw [hT]; exact hcB) hoB hclB hg (hsize.trans hml.symm) (argsL := As) (rest := rest) (fun sig h => hn.trans (hlen sig h)) hstack hW (by rw [hb]; exact hdg)
    (fun vm₁ hW₁ => ⟨hf.1, hf.2, hPc (T.setVm vm₁) hT hW₁⟩) with ⟨v, vm₁, ⟨U', l2, c2, s2⟩, hW₁, X', ⟨g', mk, t, L, e1, e2, hq, h1, hL, h2, h3⟩, st⟩ | ⟨q, vm₁, ⟨U', l2, c2, s2⟩, hW₁, X', ⟨g', mk, t, L, E, ce, e1, e2, hq, hce, hcv, hcl, h1, hL, h2, h3⟩, st⟩
  · dsimp only [Pt.U, Pt.locs, Pt.cells, Pt.slots] at X' e1 e2 h1 h2 h3 st
    subst h1; subst h2; subst h3
    exact Or.inl ⟨v, (T.setVm vm₁).calling g' mk (Value.ref b :: As).toArray, t, U', L, hT, X', hL, e1, e2, hq, st⟩
  · dsimp only [Pt.U, Pt.locs, Pt.cells, Pt.slots] at X' e1 e2 h1 h2 h3 st hcl
    subst h1; subst h2; subst h3
    exact Or.inr ⟨q, (T.setVm vm₁).calling g' mk (Value.ref b :: As).toArray, t, U', L, E, ce, hT, X', hL, e1, e2, hq, hce, hcv, vx_cls hW₁ hcl, st⟩
theorem vx_runS (S : CallFix p m c cc nL s args Ts own) (hM : vx_Met l y ws rm Pc Qc XC mc ms free) (cw : CallB R s args own index y bytes maxL ret ws rm mc ms n ∧ (Cond.static y).before args s = true) (hp : PreS s H Pc As)
    (hg : g.method = m) (hn : As.length = n) (hsize : g.locals.size = nL) (hstack : g.stack = As.reverse ++ rest) (hW : 2 * g.monitorRoom + (rest.map fun v => v.category).sum ≤ 8) (hdg : decode cc g.pc = .ok (.invokestatic index, 3)) (hf : cells + mc ≤ R.cells ∧ slots + ms ≤ R.slots) :
    vx_Run p l e R s m args below meth c H locs cells slots mc ms g rest (Qc As.toArray) XC free := by
  have hK : vx_Back l R p e below s args y 3 8 (PreOf R mc ms Pc) (PostOf Qc mc ms free) (vx_Post XC mc ms free) := vx_callBack cw.1 hM hp.1
  obtain ⟨⟨-, -, -, -, -, -, hcode, hini, hy, hlen, hl⟩, hstt⟩ := cw
  obtain ⟨hx, hb, hml, ho, -⟩ := S
  intro T hT X
  rcases vx_callS X hx (bytes := bytes) (maxL := maxL) (ret := ret) ho hl hstt hini hcode hy hK hg (hsize.trans hml.symm) (argsL := As) (rest := rest) (fun sig h => hn.trans (hlen sig h)) hstack hW (by rw [hb]; exact hdg)
    (fun vm₁ hW₁ => ⟨hf.1, hf.2, hp.2 (T.setVm vm₁) hT hW₁⟩) with ⟨v, vm₁, ⟨U', l2, c2, s2⟩, hW₁, X', ⟨g', mk, t, L, e1, e2, hq, h1, hL, h2, h3⟩, st⟩ | ⟨q, vm₁, ⟨U', l2, c2, s2⟩, hW₁, X', ⟨g', mk, t, L, E, ce, e1, e2, hq, hce, hcv, hcl, h1, hL, h2, h3⟩, st⟩
  · dsimp only [Pt.U, Pt.locs, Pt.cells, Pt.slots] at X' e1 e2 h1 h2 h3 st
    subst h1; subst h2; subst h3
    exact Or.inl ⟨v, (T.setVm vm₁).calling g' mk As.toArray, t, U', L, hT, X', hL, e1, e2, hq, st⟩
  · dsimp only [Pt.U, Pt.locs, Pt.cells, Pt.slots] at X' e1 e2 h1 h2 h3 st hcl
    subst h1; subst h2; subst h3
    exact Or.inr ⟨q, (T.setVm vm₁).calling g' mk As.toArray, t, U', L, E, ce, hT, X', hL, e1, e2, hq, hce, hcv, vx_cls hW₁ hcl, st⟩
end Runs
section Rows
variable {p : Program} {l : Launch} {e : Env} {R : Room} {s : State} {m : MethodId} {args : Array Value} {below : List Frame} {meth : Method} {c : Code} {H : Heap} {locs : List Loc} {cells slots : Nat} {Q : State → Prop}
variable {mc ms : Nat} {free : Addr → Prop} {A0 A1 : Nat → Prop} {H0 : Heap} {a : Array Value} {pc : Nat} {ls : Array Slot} {st0 rest : List Value}
theorem vx_keep {st₀ t T' : State} {L : List Loc} (h0 : st₀.heap = H) (e1 : T'.heap = t.heap) (hS : va_S A0 H0 H locs) (hA : ∀ q, q < H.size → A1 q → A0 q) (hf : ∀ q, free q → A0 q) (hL : ∀ q ∈ L, free q.base) (hF : va_F A1 st₀ t) :
    H.size ≤ T'.heap.size ∧ (∀ q : Nat, q < H.size → ¬ A1 q → T'.heap[q]? = H[q]?) ∧ va_S A0 H0 T'.heap (locs ++ L) := by
  obtain ⟨hz, hk⟩ := hF
  rw [h0] at hz hk
  exact ⟨by rw [e1]; exact hz, fun q h1 h2 => by rw [e1]; exact hk q h1 h2,
    ⟨Nat.le_trans hS.1 (by rw [e1]; exact hz), fun q h1 h2 => by rw [e1, hk q (Nat.lt_of_lt_of_le h1 hS.1) (fun z => h2 (hA q (Nat.lt_of_lt_of_le h1 hS.1) z))]; exact hS.2.1 q h1 h2, fun q hq => by
      rcases List.mem_append.mp hq with h | h
      · exact hS.2.2 q h
      · exact hf _ (hL q h)⟩⟩
theorem vx_calli {S SX : Type} {post : Int32 → S → Prop} {px : SX → Prop} {B : S → State → Prop} {BX : String → SX → State → Prop} {AX : Nat → Prop} (hr : vx_Run p l e R s m args below meth c H locs cells slots mc ms (F0 m pc ls st0) rest (va_Qi post B A1 a) (vx_X px BX AX) free) (hS : va_S A0 H0 H locs) (hA : ∀ q, q < H.size → A1 q → A0 q) (hf : ∀ q, free q → A0 q) (hAX : ∀ q, q < H.size → AX q → A0 q)
    (kx : ∀ (E : String) (ce : Cell) (q9 : Addr) (u : SX) (t : State) (H1 : Heap) (locs1 : List Loc), t.heap = H1 → s.vm.Alike t.vm → px u → BX E u t → H.size ≤ H1.size → (∀ q : Nat, q < H.size → ¬ AX q → H1[q]? = H[q]?) → va_S A0 H0 H1 locs1 → H1[q9]? = some ce → ce.vm = .none → s.vm.findClass E = some ce.cls → vx_W p l e R s m args below meth c H1 locs1 (cells + mc) (slots + ms) Q (F0 m pc ls rest) q9)
    (kk : ∀ (r : Int32) (u : S) (t : State) (H1 : Heap) (locs1 : List Loc), t.heap = H1 → s.vm.Alike t.vm → post r u → B u t → H.size ≤ H1.size → (∀ q : Nat, q < H.size → ¬ A1 q → H1[q]? = H[q]?) → va_S A0 H0 H1 locs1 → W p l e R s m args below meth c H1 locs1 (cells + mc) (slots + ms) Q (F0 m (pc + 3) ls (.int r :: rest))) : W p l e R s m args below meth c H locs cells slots Q (F0 m pc ls st0) := by
  intro T hT X
  rcases hr T hT X with ⟨v, st₀, t, T', L, h0, X', hL, e1, e2, ⟨⟨r, u, hv, hp, hb⟩, hF⟩, st⟩ | ⟨q, st₀, t, T', L, E, ce, h0, X', hL, e1, e2, ⟨u, hp, hb, hF⟩, hce, hcv, hcl, st⟩
  · cases hv
    obtain ⟨k1, k2, k3⟩ := vx_keep h0 e1 hS hA hf hL hF
    obtain ⟨t2, a1, b1⟩ := kk r u t T'.heap (locs ++ L) e1.symm (by rw [← e2]; exact X'.warmed.alike) hp hb k1 k2 k3 T' rfl X'
    exact ⟨t2, st t2 a1, b1⟩
  · obtain ⟨k1, k2, k3⟩ := vx_keep h0 e1 hS hAX hf hL hF
    obtain ⟨t2, a1, b1⟩ := kx E ce q u t T'.heap (locs ++ L) e1.symm (by rw [← e2]; exact X'.warmed.alike) hp hb k1 k2 k3 (by rw [e1]; exact hce) hcv hcl T' rfl X'
    exact ⟨t2, st.trans a1, b1⟩
theorem vx_calll {S SX : Type} {post : Int64 → S → Prop} {px : SX → Prop} {B : S → State → Prop} {BX : String → SX → State → Prop} {AX : Nat → Prop} (hr : vx_Run p l e R s m args below meth c H locs cells slots mc ms (F0 m pc ls st0) rest (va_Ql post B A1 a) (vx_X px BX AX) free) (hS : va_S A0 H0 H locs) (hA : ∀ q, q < H.size → A1 q → A0 q) (hf : ∀ q, free q → A0 q) (hAX : ∀ q, q < H.size → AX q → A0 q)
    (kx : ∀ (E : String) (ce : Cell) (q9 : Addr) (u : SX) (t : State) (H1 : Heap) (locs1 : List Loc), t.heap = H1 → s.vm.Alike t.vm → px u → BX E u t → H.size ≤ H1.size → (∀ q : Nat, q < H.size → ¬ AX q → H1[q]? = H[q]?) → va_S A0 H0 H1 locs1 → H1[q9]? = some ce → ce.vm = .none → s.vm.findClass E = some ce.cls → vx_W p l e R s m args below meth c H1 locs1 (cells + mc) (slots + ms) Q (F0 m pc ls rest) q9)
    (kk : ∀ (r : Int64) (u : S) (t : State) (H1 : Heap) (locs1 : List Loc), t.heap = H1 → s.vm.Alike t.vm → post r u → B u t → H.size ≤ H1.size → (∀ q : Nat, q < H.size → ¬ A1 q → H1[q]? = H[q]?) → va_S A0 H0 H1 locs1 → W p l e R s m args below meth c H1 locs1 (cells + mc) (slots + ms) Q (F0 m (pc + 3) ls (.long r :: rest))) : W p l e R s m args below meth c H locs cells slots Q (F0 m pc ls st0) := by
  intro T hT X
  rcases hr T hT X with ⟨v, st₀, t, T', L, h0, X', hL, e1, e2, ⟨⟨r, u, hv, hp, hb⟩, hF⟩, st⟩ | ⟨q, st₀, t, T', L, E, ce, h0, X', hL, e1, e2, ⟨u, hp, hb, hF⟩, hce, hcv, hcl, st⟩
  · cases hv
    obtain ⟨k1, k2, k3⟩ := vx_keep h0 e1 hS hA hf hL hF
    obtain ⟨t2, a1, b1⟩ := kk r u t T'.heap (locs ++ L) e1.symm (by rw [← e2]; exact X'.warmed.alike) hp hb k1 k2 k3 T' rfl X'
    exact ⟨t2, st t2 a1, b1⟩
  · obtain ⟨k1, k2, k3⟩ := vx_keep h0 e1 hS hAX hf hL hF
    obtain ⟨t2, a1, b1⟩ := kx E ce q u t T'.heap (locs ++ L) e1.symm (by rw [← e2]; exact X'.warmed.alike) hp hb k1 k2 k3 (by rw [e1]; exact hce) hcv hcl T' rfl X'
    exact ⟨t2, st.trans a1, b1⟩
theorem vx_callf {S SX : Type} {post : UInt32 → S → Prop} {px : SX → Prop} {B : S → State → Prop} {BX : String → SX → State → Prop} {AX : Nat → Prop} (hr : vx_Run p l e R s m args below meth c H locs cells slots mc ms (F0 m pc ls st0) rest (va_Qf post B A1 a) (vx_X px BX AX) free) (hS : va_S A0 H0 H locs) (hA : ∀ q, q < H.size → A1 q → A0 q) (hf : ∀ q, free q → A0 q) (hAX : ∀ q, q < H.size → AX q → A0 q)
    (kx : ∀ (E : String) (ce : Cell) (q9 : Addr) (u : SX) (t : State) (H1 : Heap) (locs1 : List Loc), t.heap = H1 → s.vm.Alike t.vm → px u → BX E u t → H.size ≤ H1.size → (∀ q : Nat, q < H.size → ¬ AX q → H1[q]? = H[q]?) → va_S A0 H0 H1 locs1 → H1[q9]? = some ce → ce.vm = .none → s.vm.findClass E = some ce.cls → vx_W p l e R s m args below meth c H1 locs1 (cells + mc) (slots + ms) Q (F0 m pc ls rest) q9)
    (kk : ∀ (r : UInt32) (u : S) (t : State) (H1 : Heap) (locs1 : List Loc), t.heap = H1 → s.vm.Alike t.vm → post r u → B u t → H.size ≤ H1.size → (∀ q : Nat, q < H.size → ¬ A1 q → H1[q]? = H[q]?) → va_S A0 H0 H1 locs1 → W p l e R s m args below meth c H1 locs1 (cells + mc) (slots + ms) Q (F0 m (pc + 3) ls (.float r :: rest))) : W p l e R s m args below meth c H locs cells slots Q (F0 m pc ls st0) := by
  intro T hT X
  rcases hr T hT X with ⟨v, st₀, t, T', L, h0, X', hL, e1, e2, ⟨⟨r, u, hv, hp, hb⟩, hF⟩, st⟩ | ⟨q, st₀, t, T', L, E, ce, h0, X', hL, e1, e2, ⟨u, hp, hb, hF⟩, hce, hcv, hcl, st⟩
  · cases hv
    obtain ⟨k1, k2, k3⟩ := vx_keep h0 e1 hS hA hf hL hF
    obtain ⟨t2, a1, b1⟩ := kk r u t T'.heap (locs ++ L) e1.symm (by rw [← e2]; exact X'.warmed.alike) hp hb k1 k2 k3 T' rfl X'
    exact ⟨t2, st t2 a1, b1⟩
  · obtain ⟨k1, k2, k3⟩ := vx_keep h0 e1 hS hAX hf hL hF
    obtain ⟨t2, a1, b1⟩ := kx E ce q u t T'.heap (locs ++ L) e1.symm (by rw [← e2]; exact X'.warmed.alike) hp hb k1 k2 k3 (by rw [e1]; exact hce) hcv hcl T' rfl X'
    exact ⟨t2, st.trans a1, b1⟩
theorem vx_calld {S SX : Type} {post : UInt64 → S → Prop} {px : SX → Prop} {B : S → State → Prop} {BX : String → SX → State → Prop} {AX : Nat → Prop} (hr : vx_Run p l e R s m args below meth c H locs cells slots mc ms (F0 m pc ls st0) rest (va_Qd post B A1 a) (vx_X px BX AX) free) (hS : va_S A0 H0 H locs) (hA : ∀ q, q < H.size → A1 q → A0 q) (hf : ∀ q, free q → A0 q) (hAX : ∀ q, q < H.size → AX q → A0 q)
    (kx : ∀ (E : String) (ce : Cell) (q9 : Addr) (u : SX) (t : State) (H1 : Heap) (locs1 : List Loc), t.heap = H1 → s.vm.Alike t.vm → px u → BX E u t → H.size ≤ H1.size → (∀ q : Nat, q < H.size → ¬ AX q → H1[q]? = H[q]?) → va_S A0 H0 H1 locs1 → H1[q9]? = some ce → ce.vm = .none → s.vm.findClass E = some ce.cls → vx_W p l e R s m args below meth c H1 locs1 (cells + mc) (slots + ms) Q (F0 m pc ls rest) q9)
    (kk : ∀ (r : UInt64) (u : S) (t : State) (H1 : Heap) (locs1 : List Loc), t.heap = H1 → s.vm.Alike t.vm → post r u → B u t → H.size ≤ H1.size → (∀ q : Nat, q < H.size → ¬ A1 q → H1[q]? = H[q]?) → va_S A0 H0 H1 locs1 → W p l e R s m args below meth c H1 locs1 (cells + mc) (slots + ms) Q (F0 m (pc + 3) ls (.double r :: rest))) : W p l e R s m args below meth c H locs cells slots Q (F0 m pc ls st0) := by
  intro T hT X
  rcases hr T hT X with ⟨v, st₀, t, T', L, h0, X', hL, e1, e2, ⟨⟨r, u, hv, hp, hb⟩, hF⟩, st⟩ | ⟨q, st₀, t, T', L, E, ce, h0, X', hL, e1, e2, ⟨u, hp, hb, hF⟩, hce, hcv, hcl, st⟩
  · cases hv
    obtain ⟨k1, k2, k3⟩ := vx_keep h0 e1 hS hA hf hL hF
    obtain ⟨t2, a1, b1⟩ := kk r u t T'.heap (locs ++ L) e1.symm (by rw [← e2]; exact X'.warmed.alike) hp hb k1 k2 k3 T' rfl X'
    exact ⟨t2, st t2 a1, b1⟩
  · obtain ⟨k1, k2, k3⟩ := vx_keep h0 e1 hS hAX hf hL hF
    obtain ⟨t2, a1, b1⟩ := kx E ce q u t T'.heap (locs ++ L) e1.symm (by rw [← e2]; exact X'.warmed.alike) hp hb k1 k2 k3 (by rw [e1]; exact hce) hcv hcl T' rfl X'
    exact ⟨t2, st.trans a1, b1⟩
theorem vx_callv {S SX : Type} {post : S → Prop} {px : SX → Prop} {B : S → State → Prop} {BX : String → SX → State → Prop} {AX : Nat → Prop} (hr : vx_Run p l e R s m args below meth c H locs cells slots mc ms (F0 m pc ls st0) rest (va_Qv post B A1 a) (vx_X px BX AX) free) (hS : va_S A0 H0 H locs) (hA : ∀ q, q < H.size → A1 q → A0 q) (hf : ∀ q, free q → A0 q) (hAX : ∀ q, q < H.size → AX q → A0 q)
    (kx : ∀ (E : String) (ce : Cell) (q9 : Addr) (u : SX) (t : State) (H1 : Heap) (locs1 : List Loc), t.heap = H1 → s.vm.Alike t.vm → px u → BX E u t → H.size ≤ H1.size → (∀ q : Nat, q < H.size → ¬ AX q → H1[q]? = H[q]?) → va_S A0 H0 H1 locs1 → H1[q9]? = some ce → ce.vm = .none → s.vm.findClass E = some ce.cls → vx_W p l e R s m args below meth c H1 locs1 (cells + mc) (slots + ms) Q (F0 m pc ls rest) q9)
    (kk : ∀ (u : S) (t : State) (H1 : Heap) (locs1 : List Loc), t.heap = H1 → s.vm.Alike t.vm → post u → B u t → H.size ≤ H1.size → (∀ q : Nat, q < H.size → ¬ A1 q → H1[q]? = H[q]?) → va_S A0 H0 H1 locs1 → W p l e R s m args below meth c H1 locs1 (cells + mc) (slots + ms) Q (F0 m (pc + 3) ls (rest))) : W p l e R s m args below meth c H locs cells slots Q (F0 m pc ls st0) := by
  intro T hT X
  rcases hr T hT X with ⟨v, st₀, t, T', L, h0, X', hL, e1, e2, ⟨⟨u, hv, hp, hb⟩, hF⟩, st⟩ | ⟨q, st₀, t, T', L, E, ce, h0, X', hL, e1, e2, ⟨u, hp, hb, hF⟩, hce, hcv, hcl, st⟩
  · cases hv
    obtain ⟨k1, k2, k3⟩ := vx_keep h0 e1 hS hA hf hL hF
    obtain ⟨t2, a1, b1⟩ := kk u t T'.heap (locs ++ L) e1.symm (by rw [← e2]; exact X'.warmed.alike) hp hb k1 k2 k3 T' rfl X'
    exact ⟨t2, st t2 a1, b1⟩
  · obtain ⟨k1, k2, k3⟩ := vx_keep h0 e1 hS hAX hf hL hF
    obtain ⟨t2, a1, b1⟩ := kx E ce q u t T'.heap (locs ++ L) e1.symm (by rw [← e2]; exact X'.warmed.alike) hp hb k1 k2 k3 (by rw [e1]; exact hce) hcv hcl T' rfl X'
    exact ⟨t2, st.trans a1, b1⟩
/-- caught by the row x of this method's table; the rows ahead don't take it -/
theorem vx_catch {own name : String} {E : String} {ce : Cell} {q : Addr} (hown : s.vm.findClass own = some m.cls) (pre : List ExceptionTableEntry) (x : ExceptionTableEntry) (suf : List ExceptionTableEntry) (hsplit : c.exceptionTable.toList = pre ++ x :: suf)
    (hpass : ∀ z ∈ pre, covers z pc = false ∨ (z.catchType ≠ 0 ∧ ∃ nm : String, (Cond.classLink own z.catchType nm).before args s = true ∧ va_Nc E nm s)) (hx : covers x pc = true) (h0 : x.catchType ≠ 0)
    (hlink : (Cond.classLink own x.catchType name).before args s = true) (hcast : (Cond.castable E name).before args s = true) (hcell : H[q]? = some ce) (hv : ce.vm = .none) (hcl : s.vm.findClass E = some ce.cls)
    (kk : W p l e R s m args below meth c H locs cells slots Q (F0 m x.handlerPc ls [.ref q])) : vx_W p l e R s m args below meth c H locs cells slots Q (F0 m pc ls rest) q := by
  intro T hT X
  have hpl : e.platform.magicAccessors = ({} : Platform).magicAccessors := by rw [X.admits.platform]
  obtain ⟨c3, c4, hc3, hc4, hasg⟩ := Cond.castable_spec hcast
  cases Option.some.inj (hc3.symm.trans hcl)
  obtain ⟨c5, hc5, hcl5⟩ := Cond.classLink_spec hown hlink e.platform hpl
  cases Option.some.inj (hc4.symm.trans hc5)
  obtain ⟨vm', X', st⟩ := X.thenCaughtThrough q (g := F0 m pc ls rest) rfl (Steps.refl _) (by rw [hT]; exact hcell) (by rw [hv]; rfl) (by obtain ⟨k9, h9, -⟩ := Vm.findClass_spec hcl; exact ⟨k9, h9⟩) pre x suf hsplit
    (fun z hz => by
      rcases hpass z hz with h | ⟨hz0, nm, hl1, hn1⟩
      · exact Or.inl h
      · obtain ⟨c6, hc6, hcl6⟩ := Cond.classLink_spec hown hl1 e.platform hpl
        obtain ⟨a8, b8, h1, h2, h3⟩ := hn1
        cases Option.some.inj (h1.symm.trans hcl)
        cases Option.some.inj (h2.symm.trans hc6)
        exact Or.inr ⟨hz0, _, hcl6, h3⟩) hx (Or.inr ⟨h0, c4, hcl5, hasg⟩)
  obtain ⟨t, a1, b1⟩ := kk (T.setVm vm') hT X'
  exact ⟨t, st.trans a1, b1⟩
end Rows
section Ends
variable {p : Program} {l : Launch} {e : Env} {R : Room} {s : State} {m : MethodId} {args : Array Value} {below : List Frame} {meth : Method} {c : Code} {H : Heap} {locs : List Loc} {cells slots : Nat} {Q : State → Prop}
variable {mc ms : Nat} {free : Addr → Prop} {A0 A1 : Nat → Prop} {H0 : Heap} {a : Array Value} {ls : Array Slot} {st0 rest : List Value}
variable {Qc : Array Value → State → Outcome → State → Prop} {XC : String → State → State → Prop}
/-- what a body that may throw owes at its end -/
def vx_MQ (below : List Frame) (Qc : Array Value → State → Outcome → State → Prop) (XC : String → State → State → Prop) (a : Array Value) (s : State) (mc ms : Nat) (free : Addr → Prop) : State → Prop := fun t =>
  ∃ o, t.status = .running ∧ Ended t below o ∧ vx_Q Qc XC mc ms free a s o t
theorem vx_ret {g : JFrame} {mc ms : Nat} (k : W p l e R s m args below meth c H locs cells slots (MQ below Qc args s mc ms free) g) : W p l e R s m args below meth c H locs cells slots (vx_MQ below Qc XC args s mc ms free) g := by
  intro T hT X
  obtain ⟨t, a1, o, b1, b2, b3, b4⟩ := k T hT X
  exact ⟨t, a1, o, b1, b2, Or.inl ⟨b3, b4⟩⟩
/-- not caught here: it goes on to the caller -/
theorem vx_widen {g : JFrame} {q : Addr} {k n : Nat} (h1 : cells ≤ k) (h2 : slots ≤ n) (kk : vx_W p l e R s m args below meth c H locs k n Q g q) : vx_W p l e R s m args below meth c H locs cells slots Q g q := fun T hT X => kk T hT (stand_widen X h1 h2)
theorem vx_out {pc : Nat} {E : String} {ce : Cell} {q : Addr} {mc ms : Nat} (hout : ∀ x ∈ c.exceptionTable.toList, covers x pc = false) (hlocks : meth.locks = false) (hcell : H[q]? = some ce) (hv : ce.vm = .none) (hcl : s.vm.findClass E = some ce.cls)
    (hx : ∀ t : State, t.heap = H → s.vm.Alike t.vm → XC E s t) (hf : ∀ z ∈ locs, free z.base) (hc : cells ≤ mc) (hs : slots ≤ ms) :
    vx_W p l e R s m args below meth c H locs cells slots (vx_MQ below Qc XC args s mc ms free) (F0 m pc ls rest) q := by
  intro T hT X
  obtain ⟨st1, hrun, hend, hW, hsm⟩ := X.leaveThrown q (g := F0 m pc ls rest) rfl rfl rfl hout hlocks
  have hcell9 : (T.setFrames (.throwing q :: below)).heap[q]? = some ce := by
    show T.heap[q]? = some ce
    rw [hT]; exact hcell
  exact ⟨_, st1, .threw q, hrun, hend, Or.inr ⟨q, rfl, E, ce, locs, hx _ hT hW.alike, hcell9, hv, hcl, hW, hsm.mono hc hs, hf⟩⟩
theorem vx_frame {U : State} {k n : Nat} (h : s.sameButNew ({ U with vm := s.vm } : State) locs k n) : s.heap.size ≤ U.heap.size ∧ ∀ q : Nat, q < s.heap.size → (∀ z ∈ locs, z.base ≠ q) → U.heap[q]? = s.heap[q]? := by
  obtain ⟨-, h2, -, -, -, h6⟩ := h
  refine ⟨h2, fun q hq hz => ?_⟩
  obtain ⟨c9, e1, e2, e3, e4⟩ := h6 q _ (Array.getElem?_eq_getElem hq)
  have hs : c9.slots = (s.heap[q]).slots := Array.ext_getElem? fun i => e4 i fun hm => hz _ hm rfl
  have h9 : c9 = s.heap[q] := by
    rw [hs] at e2
    exact e2
  have e5 : U.heap[q]? = some c9 := e1
  rw [e5, h9, Array.getElem?_eq_getElem hq]
/-- the words of a throw but the four that speak of the heap -/
def vx_no (w : Cond) : Bool := decide (w ≠ .isRef (.static Bundle.tN "UNASSIGNED_STACK" Bundle.steD)) && decide (w ≠ .isRef (.static Bundle.tN "SUPPRESSED_SENTINEL" Bundle.listD)) && decide (w ≠ .laysStatic Bundle.tN "UNASSIGNED_STACK" Bundle.steD) && decide (w ≠ .laysStatic Bundle.tN "SUPPRESSED_SENTINEL" Bundle.listD)
def vx_at0 (own : String) (ic : Nat) (X : String) (names : List String) : List Cond := (Bundle.ownAtoms0 own ic X names).filter vx_no
def vx_atS (own : String) (ic : Nat) (X : String) (names : List String) : List Cond := (Bundle.ownAtoms own ic X names).filter vx_no
/-- a word that the tables alone decide, or a good one -/
def vx_ot (w : Cond) : Bool := w.onTables || goodWord w
theorem vx_ot_at {args a' : Array Value} {s U : State} {w : Cond} (hW : s.WarmedH U.vm) (hvm : s.vm = U.vm) (hg : vx_ot w = true) (h : w.before args s = true) : w.before a' U = true := by
  simp only [vx_ot, Bool.or_eq_true] at hg
  rcases hg with hg | hg
  · exact va_tabs hg hvm h
  · exact word_at hW (good_of_word hg) h
/-- a list's words: the good ones out of the method's own list, the others by premises of their own -/
theorem vx_hat {args : Array Value} {s : State} {L B : List Cond} (h1 : ∀ w ∈ L.filter goodWord, w.before args s = true) (h2 : ∀ w ∈ L.filter (fun w => !goodWord w), w ∈ B) (h3 : ∀ w ∈ B, w.before args s = true) : ∀ w ∈ L, w.before args s = true := by
  intro w hw
  by_cases g : goodWord w = true
  · exact h1 w (List.mem_filter.mpr ⟨hw, g⟩)
  · refine h3 w (h2 w (List.mem_filter.mpr ⟨hw, ?_⟩))
    show (!goodWord w) = true
    cases hgw : goodWord w
    · rfl
    · exact absurd hgw g
theorem vx_c {args : Array Value} {s : State} {w : Cond} {B : List Cond} (h : w.before args s = true) (t : ∀ w ∈ B, w.before args s = true) : ∀ w' ∈ w :: B, w'.before args s = true := fun w' h' => (List.mem_cons.mp h').elim (fun e => by rw [e]; exact h) (t w')
theorem vx_n {args : Array Value} {s : State} : ∀ w ∈ ([] : List Cond), w.before args s = true := fun _ h => nomatch h
theorem vx_own {args : Array Value} {s : State} {L : List Cond} (h1 : ∀ w ∈ L.filter vx_no, w.before args s = true)
    (hU : (Cond.isRef (.static Bundle.tN "UNASSIGNED_STACK" Bundle.steD)).before args s = true) (hN : (Cond.isRef (.static Bundle.tN "SUPPRESSED_SENTINEL" Bundle.listD)).before args s = true)
    (lU : (Cond.laysStatic Bundle.tN "UNASSIGNED_STACK" Bundle.steD).before args s = true) (lN : (Cond.laysStatic Bundle.tN "SUPPRESSED_SENTINEL" Bundle.listD).before args s = true) : ∀ w ∈ L, w.before args s = true := by
  intro w hw
  by_cases e1 : w = .isRef (.static Bundle.tN "UNASSIGNED_STACK" Bundle.steD)
  · rw [e1]; exact hU
  · by_cases e2 : w = .isRef (.static Bundle.tN "SUPPRESSED_SENTINEL" Bundle.listD)
    · rw [e2]; exact hN
    · by_cases e3 : w = .laysStatic Bundle.tN "UNASSIGNED_STACK" Bundle.steD
      · rw [e3]; exact lU
      · by_cases e4 : w = .laysStatic Bundle.tN "SUPPRESSED_SENTINEL" Bundle.listD
        · rw [e4]; exact lN
        · exact h1 w (List.mem_filter.mpr ⟨hw, by unfold vx_no; rw [decide_eq_true e1, decide_eq_true e2, decide_eq_true e3, decide_eq_true e4]; rfl⟩)
/-- where a static field lies, its class's statics cell in H -/
def vx_L (C n d : String) (A : Nat → Prop) (U : State) (H : Heap) : Prop := ∃ (c : ClassId) (k : Class) (i : Nat) (f : Field) (a : Nat) (cell : Cell), U.vm.findClass C = some c ∧ U.fieldFound? C n d = some (c, k, i, f) ∧ f.isStatic = true ∧ k.statics = some a ∧ H[a]? = some cell ∧ cell.vm.isStatics = true ∧ cell.cls = c ∧ f.slot < cell.slots.size ∧ k.staticTypes[f.slot]? = some f.type ∧ ¬ A a
theorem vx_L.moved {C n d : String} {A : Nat → Prop} {u U : State} {H : Heap} (hvm : u.vm.Alike U.vm) (h : vx_L C n d A u H) : vx_L C n d A U H := by
  obtain ⟨c, k, i, f, a, cell, h1, h2, h3, h4, h5, h6, h7, h8, h9, h10⟩ := h
  obtain ⟨k', hi', he⟩ := State.fieldFound?_setVm hvm h2
  exact ⟨c, k', i, f, a, cell, by rw [hvm.findClass]; exact h1, hi', h3, by rw [he]; exact h4, h5, h6, h7, h8, by rw [he]; exact h9, h10⟩
theorem vx_L.kept {C n d : String} {A : Nat → Prop} {U : State} {H H1 : Heap} (h : vx_L C n d A U H) (hq : ∀ a : Nat, a < H.size → ¬ A a → H1[a]? = H[a]?) : vx_L C n d A U H1 := by
  obtain ⟨c, k, i, f, a, cell, h1, h2, h3, h4, h5, h6, h7, h8, h9, h10⟩ := h
  exact ⟨c, k, i, f, a, cell, h1, h2, h3, h4, by rw [hq a (Array.getElem?_eq_some_iff.mp h5).1 h10]; exact h5, h6, h7, h8, h9, h10⟩
theorem vx_L.narrow {C n d : String} {A B : Nat → Prop} {U : State} {H : Heap} (h : vx_L C n d A U H) (hAB : ∀ q, B q → A q) : vx_L C n d B U H := by
  obtain ⟨c, k, i, f, a, cell, h1, h2, h3, h4, h5, h6, h7, h8, h9, h10⟩ := h
  exact ⟨c, k, i, f, a, cell, h1, h2, h3, h4, h5, h6, h7, h8, h9, fun z => h10 (hAB _ z)⟩
theorem vx_L.word {C n d : String} {A : Nat → Prop} {s : State} {args : Array Value} (h : vx_L C n d A s s.heap) : (Cond.laysStatic C n d).before args s = true := by
  obtain ⟨c, k, i, f, a, cell, h1, h2, h3, h4, h5, h6, h7, h8, h9, -⟩ := h
  show (Cond.laysStatic C n d).holds args s none s [] = true
  exact Cond.laysStatic_of h1 h2 h3 h4 h5 h6 h7 h8 h9
/-- .. and what it holds: null or some reference -/
def vx_Zq (C n d : String) (A : Nat → Prop) (U : State) (H : Heap) : Prop := va_Zq C n d A U H ∧ vx_L C n d A U H
theorem vx_Zq.moved {C n d : String} {A : Nat → Prop} {u U : State} {H : Heap} (hvm : u.vm.Alike U.vm) (h : vx_Zq C n d A u H) : vx_Zq C n d A U H := ⟨va_Zq.moved hvm h.1, vx_L.moved hvm h.2⟩
theorem vx_Zq.kept {C n d : String} {A : Nat → Prop} {U : State} {H H1 : Heap} (h : vx_Zq C n d A U H) (hq : ∀ a : Nat, a < H.size → ¬ A a → H1[a]? = H[a]?) : vx_Zq C n d A U H1 := ⟨va_Zq.kept h.1 hq, vx_L.kept h.2 hq⟩
theorem vx_Zq.narrow {C n d : String} {A B : Nat → Prop} {U : State} {H : Heap} (h : vx_Zq C n d A U H) (hAB : ∀ q, B q → A q) : vx_Zq C n d B U H := ⟨va_Zq.narrow h.1 hAB, vx_L.narrow h.2 hAB⟩
theorem vx_Zqof {args : Array Value} {s : State} {C n d : String} {A : Nat → Prop} (hl : (Cond.laysStatic C n d).before args s = true) (hini : (Cond.initialized C).before args s = true) (h : (Cond.isRef (.static C n d)).before args s = true) (hA : ∀ a : Nat, a < s.heap.size → ¬ A a) : vx_Zq C n d A s s.heap := by
  refine ⟨va_Zqof hl hini h hA, ?_⟩
  obtain ⟨c, k, i, f, a, cell, h1, h2, h3, h4, h5, h6, h7, h8, h9⟩ := Cond.laysStatic_spec hl
  exact ⟨c, k, i, f, a, cell, h1, h2, h3, h4, h5, h6, h7, h8, h9, hA a (Array.getElem?_eq_some_iff.mp h5).1⟩
theorem vx_isRef {C n d : String} {v : Value} {A : Nat → Prop} {s : State} {args : Array Value} (h : va_Z C n d v A s s.heap) (hv : v.isRef = true) : (Cond.isRef (.static C n d)).before args s = true := by
  obtain ⟨cf, kf, fi, f, a, cell, h1, h2, h3, h4, h5, h6, h7, -⟩ := h
  have he : (Term.static C n d).eval args s none [] s = some v := by
    simp [Term.eval, State.fieldNamed?, h1, h2, h4, h5, h6, h7]
  simp only [Cond.before, Cond.holds, Cond.value, he]
  cases v <;> simp_all [Value.isRef]
theorem vx_isRefq {C n d : String} {A : Nat → Prop} {s : State} {args : Array Value} (h : va_Zq C n d A s s.heap) : (Cond.isRef (.static C n d)).before args s = true := by
  rcases h with h | ⟨t, h⟩
  · exact vx_isRef h rfl
  · exact vx_isRef h rfl
/-- the same frame, seen from here: as if the method were called anew in this heap -/
theorem vx_rebase {T : State} (X : Stand p l e R s m args below meth c T locs cells slots) {R' : Room} (hf : R'.frames ≤ R.frames) (hl : R'.locals ≤ R.locals) (hc : cells + R'.cells ≤ R.cells) (hs : slots + R'.slots ≤ R.slots) :
    Stand p l e R' ((T.setVm s.vm).setFrames (.invoking m args :: below)) m args below meth c T [] 0 0 := by
  have htop : (T.setVm s.vm).topJava?.isSome := X.here.top
  have hF : ((T.setVm s.vm).setFrames (.invoking m args :: below)).frames = .invoking m args :: below := State.frames_setFrames _ (State.cur_lt_of_top htop)
  obtain ⟨g₀, hg0⟩ := Option.isSome_iff_exists.mp htop
  obtain ⟨r, hr⟩ := State.topJava?_eq_some.mp hg0
  have hl9 : e.platform.stackLimits (T.setVm s.vm).me = e.platform.stackLimits s.me := X.limits
  have hb9 : (T.setVm s.vm).me.stackBytes = s.me.stackBytes := X.bytes
  refine ⟨X.admits, X.cas, X.clock, hF, ?_, X.hears, X.method, X.code, X.here, X.tail, X.warmed, ?_, ?_, ?_⟩
  · have h := X.room
    have hU : ((T.setVm s.vm).setFrames (.invoking m args :: below)).localsInUse = s.localsInUse := by
      rw [State.localsInUse_invoking hF (meth := meth) (c := c) X.method X.code, State.localsInUse_invoking X.frames X.method X.code]
    simp only [State.hasRoom, Bool.and_eq_true, decide_eq_true_eq] at h ⊢
    obtain ⟨⟨⟨⟨h1, h2, h3, h4, h5, h6⟩, h7⟩, h8⟩, h9⟩ := h
    rw [X.frames, List.length_cons] at h2 h3
    have q1 := X.heapSize
    have q2 := X.used
    simp only [hF, hU, List.length_cons, State.stackLimits_setFrames, State.stackBytes_setFrames, hl9, hb9]
    refine ⟨⟨⟨⟨by omega, by omega, by omega, by omega, by omega, h6⟩, ?_⟩, ?_⟩, X.book⟩
    · show T.heap.size + R'.cells ≤ e.platform.maxCells
      omega
    · show T.slotsUsed + R'.slots ≤ e.platform.maxSlots
      omega
  · rw [State.stackLimits_setFrames]; rfl
  · rw [State.stackBytes_setFrames]; rfl
  · refine ⟨?_, Nat.le_refl _, Nat.le_refl _, ?_, ?_, fun a c9 h9 => ⟨c9, h9, rfl, rfl, fun _ _ => rfl⟩⟩
    · obtain ⟨t, ht, -⟩ := State.frames_cons hr
      show T.setVm s.vm = { ((T.setVm s.vm).setFrames (.invoking m args :: below)).setFrames (T.setVm s.vm).frames with heap := T.heap, slotsUsed := T.slotsUsed }
      rw [State.setFrames_setFrames, State.setFrames_self ht]
      rfl
    · show T.slotsUsed = T.slotsUsed + ((T.heap.toList.drop T.heap.size).map (·.slots.size)).sum
      rw [List.drop_eq_nil_of_le (Nat.le_of_eq Array.length_toList)]
      rfl
    · show ((T.heap.toList.drop T.heap.size).map (·.slots.size)).sum ≤ 0
      rw [List.drop_eq_nil_of_le (Nat.le_of_eq Array.length_toList)]
      exact Nat.le_refl _
/-- 'throw new E()': new; dup; invokespecial; athrow -/
theorem vx_throw0 {cc : ByteArray} {pc : Nat} (hexec : p.tables.exec = Jvm.exec) (hb : c.code = cc) (hl : l.stackTraces = false) {own cls : String} {names : List String} {ik ic mc ms : Nat} {A : Nat → Prop}
    (hown : s.vm.findClass own = some m.cls) (hcls : Bundle.fit cls = true) (hnames : ∀ n ∈ names, Bundle.fit n = true)
    (hk : (Cond.classLink own ik cls).before args s = true) (hini : (Cond.initialized cls).before args s = true) (hat : ∀ w ∈ vx_at0 own ic cls names, w.before args s = true)
    (hgood : ∀ w ∈ Cond.classLink own ik cls :: Cond.initialized cls :: vx_at0 own ic cls names, vx_ot w = true)
    (hU : vx_Zq Bundle.tN "UNASSIGNED_STACK" Bundle.steD A s s.heap) (hN : vx_Zq Bundle.tN "SUPPRESSED_SENTINEL" Bundle.listD A s s.heap) (hS : va_S A s.heap H locs) (hsize : ls.size = c.maxLocals)
    (d0 : decode cc pc = .ok (.new ik, 3)) (d3 : decode cc (pc + 3) = .ok (.dup, 1)) (d4 : decode cc (pc + 4) = .ok (.invokespecial ic, 3)) (d7 : decode cc (pc + 7) = .ok (.athrow, 1))
    (hout : ∀ x ∈ c.exceptionTable.toList, covers x (pc + 7) = false)
    (hRframes : names.length + 3 < R.frames) (hRlocals : (rest.map fun v => v.category).sum + (13 * (names.length + 1) + 42) ≤ R.locals) (hRcells : cells + 1 ≤ R.cells) (hRslots : slots + 6 ≤ R.slots) (hlocks : meth.locks = false)
    (hx : ∀ t : State, s.vm.Alike t.vm → H.size ≤ t.heap.size → (∀ q : Nat, q < H.size → t.heap[q]? = H[q]?) → XC cls s t)
    (hf : ∀ z ∈ locs, free z.base) (hc : cells + 1 ≤ mc) (hs : slots + 6 ≤ ms) :
    W p l e R s m args below meth c H locs cells slots (vx_MQ below Qc XC args s mc ms free) (F0 m pc ls rest) := by
  intro T hT X
  have htr : e.platform.stackTraces = false := (show e.platform.stackTraces = l.stackTraces by rw [X.admits.platform]).trans hl
  have Y := vx_rebase X (R' := { frames := R.frames, locals := R.locals, cells := 1, slots := 6 }) (Nat.le_refl _) (Nat.le_refl _) hRcells hRslots
  obtain ⟨s', hA⟩ : ∃ z, z = (T.setVm s.vm).setFrames (.invoking m args :: below) := ⟨_, rfl⟩
  rw [← hA] at Y
  have hvm : s'.vm = s.vm := by rw [hA]; rfl
  have hhp : s'.heap = H := by rw [hA]; exact hT
  have hW0 : s.WarmedH s'.vm := by rw [hvm]; exact State.WarmedH.refl s
  have hat' : ∀ w ∈ vx_at0 own ic cls names, w.before args s' = true := fun w hw => vx_ot_at hW0 hvm.symm (hgood w (List.mem_cons_of_mem _ (List.mem_cons_of_mem _ hw))) (hat w hw)
  have hk' : (Cond.classLink own ik cls).before args s' = true := vx_ot_at hW0 hvm.symm (hgood _ List.mem_cons_self) hk
  have hini' : (Cond.initialized cls).before args s' = true := vx_ot_at hW0 hvm.symm (hgood _ (List.mem_cons_of_mem _ List.mem_cons_self)) hini
  have hU' : vx_Zq Bundle.tN "UNASSIGNED_STACK" Bundle.steD A s' s'.heap := by rw [hhp]; exact vx_Zq.moved hW0.alike (hU.kept hS.2.1)
  have hN' : vx_Zq Bundle.tN "SUPPRESSED_SENTINEL" Bundle.listD A s' s'.heap := by rw [hhp]; exact vx_Zq.moved hW0.alike (hN.kept hS.2.1)
  have h : ∀ w ∈ Bundle.ownAtoms0 own ic cls names, w.before args s' = true := vx_own hat' (vx_isRefq hU'.1) (vx_isRefq hN'.1) hU'.2.word hN'.2.word
  have hown' : s'.vm.findClass own = some m.cls := by rw [hvm]; exact hown
  have hins : (Cond.instantiable cls 6).before args s' = true := h _ (by simp [Bundle.ownAtoms0])
  obtain ⟨vm₁, cX, kX, hfX, hkX, -, -, X₁, st1⟩ := Y.newCold hexec (own := own) (C := cls) (index := ik) (n := 6) hown' hk' hins hini'
    (g := F0 m pc ls rest) rfl (by rw [hb]; exact d0) (Nat.le_refl _) (Nat.le_refl _)
  generalize hT1 : (T.setVm vm₁).pushCell { cls := cX, slots := kX.instanceTypes.map defaultValue, vm := .none } = T1 at X₁ st1
  have hcat : (Value.ref T.heap.size).category = 1 := rfl
  have hcellA : T1.heap[T.heap.size]? = some (freshCell cX kX) := by rw [← hT1]; exact State.heap_pushCell_size _ _
  have d3' : decode c.code (pc + 3) = .ok (.dup, 1) := by rw [hb]; exact d3
  obtain ⟨U, hsteps, hrun, hend, hW, hsame, ce, hce, hO⟩ := X₁.ctorThrow0 hexec htr (own := own) (cls := cls) (names := names) (ic := ic) hown' hcls hnames h (fun x hx => nomatch hx) hfX hkX hcellA (by rw [hhp, hT]; exact Nat.le_refl _)
    (g := { method := m, pc := pc + 4, locals := ls, stack := .ref T.heap.size :: .ref T.heap.size :: rest, locked := none }) rfl hsize rfl rfl (rest := rest) rfl
    (by rw [hb]; exact d4) (by rw [hb]; exact d7) hout hRframes (by simp only [List.map_cons, List.sum_cons, hcat]; omega) hlocks
  obtain ⟨f1, f2⟩ := vx_frame hsame
  rw [hhp] at f1 f2
  have hWs : s.WarmedH U.vm := State.WarmedH.trans hW0 hW
  have hcl : s.vm.findClass cls = some ce.cls := by
    have h9 := hO.cls
    rw [hvm] at h9
    exact h9
  have hall : s.sameButNew ({ U with vm := s.vm } : State) locs mc ms := by
    subst hA
    obtain ⟨e1, e2⟩ := hsame
    rw [State.setFrames_setFrames] at e1
    have h2 : (T.setVm s.vm).sameButNew ({ U with vm := s.vm } : State) [] (0 + 1) (0 + 6) := ⟨e1, e2⟩
    have h3 := X.same.trans h2
    rw [List.append_nil] at h3
    exact h3.mono hc hs
  refine ⟨U, ?_, .threw T.heap.size, hrun, hend, Or.inr ⟨T.heap.size, rfl, cls, ce, locs, hx U hWs.alike f1 (fun q hq => f2 q hq (fun z hz => nomatch hz)), hce, hO.vm, hcl, hWs, hall, hf⟩⟩
  refine st1 _ ?_
  show Steps p.tables e below (T1.setTop { method := m, pc := pc + 3, locals := ls, stack := .ref T.heap.size :: rest, locked := none }) _
  jvm_step X₁.here [X₁.here.top, hexec, d3', Value.category]
  exact hsteps
/-- 'throw new E("text")': new; dup; ldc; invokespecial; athrow -/
theorem vx_throwS {cc : ByteArray} {pc : Nat} (hexec : p.tables.exec = Jvm.exec) (hb : c.code = cc) (hl : l.stackTraces = false) {own cls text : String} {names : List String} {ik is ic mc ms sa : Nat} {A : Nat → Prop}
    (hown : s.vm.findClass own = some m.cls) (hcls : Bundle.fit cls = true) (hnames : ∀ n ∈ names, Bundle.fit n = true)
    (hk : (Cond.classLink own ik cls).before args s = true) (hini : (Cond.initialized cls).before args s = true) (hstr : vk_R own is text sa s) (hat : ∀ w ∈ vx_atS own ic cls names, w.before args s = true)
    (hgood : ∀ w ∈ Cond.classLink own ik cls :: Cond.initialized cls :: vx_atS own ic cls names, vx_ot w = true)
    (hU : vx_Zq Bundle.tN "UNASSIGNED_STACK" Bundle.steD A s s.heap) (hN : vx_Zq Bundle.tN "SUPPRESSED_SENTINEL" Bundle.listD A s s.heap) (hS : va_S A s.heap H locs) (hsize : ls.size = c.maxLocals)
    (d0 : decode cc pc = .ok (.new ik, 3)) (d3 : decode cc (pc + 3) = .ok (.dup, 1)) (d4 : decode cc (pc + 4) = .ok (.ldc is, 2)) (d6 : decode cc (pc + 6) = .ok (.invokespecial ic, 3)) (d9 : decode cc (pc + 9) = .ok (.athrow, 1))
    (hout : ∀ x ∈ c.exceptionTable.toList, covers x (pc + 9) = false)
    (hRframes : names.length + 3 < R.frames) (hRlocals : (rest.map fun v => v.category).sum + (13 * (names.length + 1) + 43) ≤ R.locals) (hRcells : cells + 1 ≤ R.cells) (hRslots : slots + 6 ≤ R.slots) (hlocks : meth.locks = false)
    (hx : ∀ t : State, s.vm.Alike t.vm → H.size ≤ t.heap.size → (∀ q : Nat, q < H.size → t.heap[q]? = H[q]?) → XC cls s t)
    (hf : ∀ z ∈ locs, free z.base) (hc : cells + 1 ≤ mc) (hs : slots + 6 ≤ ms) :
    W p l e R s m args below meth c H locs cells slots (vx_MQ below Qc XC args s mc ms free) (F0 m pc ls rest) := by
  intro T hT X
  have htr : e.platform.stackTraces = false := (show e.platform.stackTraces = l.stackTraces by rw [X.admits.platform]).trans hl
  have Y := vx_rebase X (R' := { frames := R.frames, locals := R.locals, cells := 1, slots := 6 }) (Nat.le_refl _) (Nat.le_refl _) hRcells hRslots
  obtain ⟨s', hA⟩ : ∃ z, z = (T.setVm s.vm).setFrames (.invoking m args :: below) := ⟨_, rfl⟩
  rw [← hA] at Y
  have hvm : s'.vm = s.vm := by rw [hA]; rfl
  have hhp : s'.heap = H := by rw [hA]; exact hT
  have hW0 : s.WarmedH s'.vm := by rw [hvm]; exact State.WarmedH.refl s
  have hat' : ∀ w ∈ vx_atS own ic cls names, w.before args s' = true := fun w hw => vx_ot_at hW0 hvm.symm (hgood w (List.mem_cons_of_mem _ (List.mem_cons_of_mem _ hw))) (hat w hw)
  have hk' : (Cond.classLink own ik cls).before args s' = true := vx_ot_at hW0 hvm.symm (hgood _ List.mem_cons_self) hk
  have hini' : (Cond.initialized cls).before args s' = true := vx_ot_at hW0 hvm.symm (hgood _ (List.mem_cons_of_mem _ List.mem_cons_self)) hini
  have hU' : vx_Zq Bundle.tN "UNASSIGNED_STACK" Bundle.steD A s' s'.heap := by rw [hhp]; exact vx_Zq.moved hW0.alike (hU.kept hS.2.1)
  have hN' : vx_Zq Bundle.tN "SUPPRESSED_SENTINEL" Bundle.listD A s' s'.heap := by rw [hhp]; exact vx_Zq.moved hW0.alike (hN.kept hS.2.1)
  have h : ∀ w ∈ Bundle.ownAtoms own ic cls names, w.before args s' = true := vx_own hat' (vx_isRefq hU'.1) (vx_isRefq hN'.1) hU'.2.word hN'.2.word
  have hown' : s'.vm.findClass own = some m.cls := by rw [hvm]; exact hown
  have hins : (Cond.instantiable cls 6).before args s' = true := h _ (by simp [Bundle.ownAtoms])
  obtain ⟨vm₁, cX, kX, hfX, hkX, -, -, X₁, st1⟩ := Y.newCold hexec (own := own) (C := cls) (index := ik) (n := 6) hown' hk' hins hini'
    (g := F0 m pc ls rest) rfl (by rw [hb]; exact d0) (Nat.le_refl _) (Nat.le_refl _)
  generalize hT1 : (T.setVm vm₁).pushCell { cls := cX, slots := kX.instanceTypes.map defaultValue, vm := .none } = T1 at X₁ st1
  have hcat : (Value.ref T.heap.size).category = 1 := rfl
  have hcellA : T1.heap[T.heap.size]? = some (freshCell cX kX) := by rw [← hT1]; exact State.heap_pushCell_size _ _
  have d3' : decode c.code (pc + 3) = .ok (.dup, 1) := by rw [hb]; exact d3
  have d4' : decode c.code (pc + 4) = .ok (.ldc is, 2) := by rw [hb]; exact d4
  have hstr' : vk_R own is text sa s' := vk_R.warm hW0 hstr
  obtain ⟨U, hsteps, hrun, hend, hW, hsame, ce, hce, hO⟩ := X₁.ctorThrowS hexec htr (own := own) (cls := cls) (names := names) (ic := ic) hown' hcls hnames h (fun x hx => nomatch hx) hfX hkX hcellA (by rw [hhp, hT]; exact Nat.le_refl _) (msg := .ref sa) rfl
    (g := { method := m, pc := pc + 6, locals := ls, stack := .ref sa :: .ref T.heap.size :: .ref T.heap.size :: rest, locked := none }) rfl hsize rfl rfl (rest := rest) rfl
    (by rw [hb]; exact d6) (by rw [hb]; exact d9) hout hRframes (by simp only [List.map_cons, List.sum_cons, hcat]; omega) hlocks
  obtain ⟨f1, f2⟩ := vx_frame hsame
  rw [hhp] at f1 f2
  have hWs : s.WarmedH U.vm := State.WarmedH.trans hW0 hW
  have hcl : s.vm.findClass cls = some ce.cls := by
    have h9 := hO.cls
    rw [hvm] at h9
    exact h9
  have hall : s.sameButNew ({ U with vm := s.vm } : State) locs mc ms := by
    subst hA
    obtain ⟨e1, e2⟩ := hsame
    rw [State.setFrames_setFrames] at e1
    have h2 : (T.setVm s.vm).sameButNew ({ U with vm := s.vm } : State) [] (0 + 1) (0 + 6) := ⟨e1, e2⟩
    have h3 := X.same.trans h2
    rw [List.append_nil] at h3
    exact h3.mono hc hs
  refine ⟨U, ?_, .threw T.heap.size, hrun, hend, Or.inr ⟨T.heap.size, rfl, cls, ce, locs, hx U hWs.alike f1 (fun q hq => f2 q hq (fun z hz => nomatch hz)), hce, hO.vm, hcl, hWs, hall, hf⟩⟩
  refine st1 _ ?_
  show Steps p.tables e below (T1.setTop { method := m, pc := pc + 3, locals := ls, stack := .ref T.heap.size :: rest, locked := none }) _
  jvm_step X₁.here [X₁.here.top, hexec, d3', Value.category]
  exact X₁.ldcString hexec (own := own) (text := text) (index := is) (a := sa) hown' hstr'.1 hstr'.2
    (g := { method := m, pc := pc + 4, locals := ls, stack := .ref T.heap.size :: .ref T.heap.size :: rest, locked := none }) rfl d4' _ hsteps
/-- 'throw new E("text")', the text by a wide index -/
theorem vx_throwSW {cc : ByteArray} {pc : Nat} (hexec : p.tables.exec = Jvm.exec) (hb : c.code = cc) (hl : l.stackTraces = false) {own cls text : String} {names : List String} {ik is ic mc ms sa : Nat} {A : Nat → Prop}
    (hown : s.vm.findClass own = some m.cls) (hcls : Bundle.fit cls = true) (hnames : ∀ n ∈ names, Bundle.fit n = true)
    (hk : (Cond.classLink own ik cls).before args s = true) (hini : (Cond.initialized cls).before args s = true) (hstr : vk_R own is text sa s) (hat : ∀ w ∈ vx_atS own ic cls names, w.before args s = true)
    (hgood : ∀ w ∈ Cond.classLink own ik cls :: Cond.initialized cls :: vx_atS own ic cls names, vx_ot w = true)
    (hU : vx_Zq Bundle.tN "UNASSIGNED_STACK" Bundle.steD A s s.heap) (hN : vx_Zq Bundle.tN "SUPPRESSED_SENTINEL" Bundle.listD A s s.heap) (hS : va_S A s.heap H locs) (hsize : ls.size = c.maxLocals)
    (d0 : decode cc pc = .ok (.new ik, 3)) (d3 : decode cc (pc + 3) = .ok (.dup, 1)) (d4 : decode cc (pc + 4) = .ok (.ldc_w is, 3)) (d7 : decode cc (pc + 7) = .ok (.invokespecial ic, 3)) (d10 : decode cc (pc + 10) = .ok (.athrow, 1))
    (hout : ∀ x ∈ c.exceptionTable.toList, covers x (pc + 10) = false)
    (hRframes : names.length + 3 < R.frames) (hRlocals : (rest.map fun v => v.category).sum + (13 * (names.length + 1) + 43) ≤ R.locals) (hRcells : cells + 1 ≤ R.cells) (hRslots : slots + 6 ≤ R.slots) (hlocks : meth.locks = false)
    (hx : ∀ t : State, s.vm.Alike t.vm → H.size ≤ t.heap.size → (∀ q : Nat, q < H.size → t.heap[q]? = H[q]?) → XC cls s t)
    (hf : ∀ z ∈ locs, free z.base) (hc : cells + 1 ≤ mc) (hs : slots + 6 ≤ ms) :
    W p l e R s m args below meth c H locs cells slots (vx_MQ below Qc XC args s mc ms free) (F0 m pc ls rest) := by
  intro T hT X
  have htr : e.platform.stackTraces = false := (show e.platform.stackTraces = l.stackTraces by rw [X.admits.platform]).trans hl
  have Y := vx_rebase X (R' := { frames := R.frames, locals := R.locals, cells := 1, slots := 6 }) (Nat.le_refl _) (Nat.le_refl _) hRcells hRslots
  obtain ⟨s', hA⟩ : ∃ z, z = (T.setVm s.vm).setFrames (.invoking m args :: below) := ⟨_, rfl⟩
  rw [← hA] at Y
  have hvm : s'.vm = s.vm := by rw [hA]; rfl
  have hhp : s'.heap = H := by rw [hA]; exact hT
  have hW0 : s.WarmedH s'.vm := by rw [hvm]; exact State.WarmedH.refl s
  have hat' : ∀ w ∈ vx_atS own ic cls names, w.before args s' = true := fun w hw => vx_ot_at hW0 hvm.symm (hgood w (List.mem_cons_of_mem _ (List.mem_cons_of_mem _ hw))) (hat w hw)
  have hk' : (Cond.classLink own ik cls).before args s' = true := vx_ot_at hW0 hvm.symm (hgood _ List.mem_cons_self) hk
  have hini' : (Cond.initialized cls).before args s' = true := vx_ot_at hW0 hvm.symm (hgood _ (List.mem_cons_of_mem _ List.mem_cons_self)) hini
  have hU' : vx_Zq Bundle.tN "UNASSIGNED_STACK" Bundle.steD A s' s'.heap := by rw [hhp]; exact vx_Zq.moved hW0.alike (hU.kept hS.2.1)
  have hN' : vx_Zq Bundle.tN "SUPPRESSED_SENTINEL" Bundle.listD A s' s'.heap := by rw [hhp]; exact vx_Zq.moved hW0.alike (hN.kept hS.2.1)
  have h : ∀ w ∈ Bundle.ownAtoms own ic cls names, w.before args s' = true := vx_own hat' (vx_isRefq hU'.1) (vx_isRefq hN'.1) hU'.2.word hN'.2.word
  have hown' : s'.vm.findClass own = some m.cls := by rw [hvm]; exact hown
  have hins : (Cond.instantiable cls 6).before args s' = true := h _ (by simp [Bundle.ownAtoms])
  obtain ⟨vm₁, cX, kX, hfX, hkX, -, -, X₁, st1⟩ := Y.newCold hexec (own := own) (C := cls) (index := ik) (n := 6) hown' hk' hins hini'
    (g := F0 m pc ls rest) rfl (by rw [hb]; exact d0) (Nat.le_refl _) (Nat.le_refl _)
  generalize hT1 : (T.setVm vm₁).pushCell { cls := cX, slots := kX.instanceTypes.map defaultValue, vm := .none } = T1 at X₁ st1
  have hcat : (Value.ref T.heap.size).category = 1 := rfl
  have hcellA : T1.heap[T.heap.size]? = some (freshCell cX kX) := by rw [← hT1]; exact State.heap_pushCell_size _ _
  have d3' : decode c.code (pc + 3) = .ok (.dup, 1) := by rw [hb]; exact d3
  have d4' : decode c.code (pc + 4) = .ok (.ldc_w is, 3) := by rw [hb]; exact d4
  have hstr' : vk_R own is text sa s' := vk_R.warm hW0 hstr
  obtain ⟨U, hsteps, hrun, hend, hW, hsame, ce, hce, hO⟩ := X₁.ctorThrowS hexec htr (own := own) (cls := cls) (names := names) (ic := ic) hown' hcls hnames h (fun x hx => nomatch hx) hfX hkX hcellA (by rw [hhp, hT]; exact Nat.le_refl _) (msg := .ref sa) rfl
    (g := { method := m, pc := pc + 7, locals := ls, stack := .ref sa :: .ref T.heap.size :: .ref T.heap.size :: rest, locked := none }) rfl hsize rfl rfl (rest := rest) rfl
    (by rw [hb]; exact d7) (by rw [hb]; exact d10) hout hRframes (by simp only [List.map_cons, List.sum_cons, hcat]; omega) hlocks
  obtain ⟨f1, f2⟩ := vx_frame hsame
  rw [hhp] at f1 f2
  have hWs : s.WarmedH U.vm := State.WarmedH.trans hW0 hW
  have hcl : s.vm.findClass cls = some ce.cls := by
    have h9 := hO.cls
    rw [hvm] at h9
    exact h9
  have hall : s.sameButNew ({ U with vm := s.vm } : State) locs mc ms := by
    subst hA
    obtain ⟨e1, e2⟩ := hsame
    rw [State.setFrames_setFrames] at e1
    have h2 : (T.setVm s.vm).sameButNew ({ U with vm := s.vm } : State) [] (0 + 1) (0 + 6) := ⟨e1, e2⟩
    have h3 := X.same.trans h2
    rw [List.append_nil] at h3
    exact h3.mono hc hs
  refine ⟨U, ?_, .threw T.heap.size, hrun, hend, Or.inr ⟨T.heap.size, rfl, cls, ce, locs, hx U hWs.alike f1 (fun q hq => f2 q hq (fun z hz => nomatch hz)), hce, hO.vm, hcl, hWs, hall, hf⟩⟩
  refine st1 _ ?_
  show Steps p.tables e below (T1.setTop { method := m, pc := pc + 3, locals := ls, stack := .ref T.heap.size :: rest, locked := none }) _
  jvm_step X₁.here [X₁.here.top, hexec, d3', Value.category]
  exact X₁.ldcStringW hexec (own := own) (text := text) (index := is) (a := sa) hown' hstr'.1 hstr'.2
    (g := { method := m, pc := pc + 4, locals := ls, stack := .ref T.heap.size :: .ref T.heap.size :: rest, locked := none }) rfl d4' _ hsteps
end Ends
section Bodies
variable {l : Launch}
theorem vx_ofW {y : MethodName} {ws ws' : List Cond} {rm : Room} {Pc : Array Value → State → Prop} {Qc : Array Value → State → Outcome → State → Prop} {XC : String → State → State → Prop} {mc ms : Nat} {free : Addr → Prop} {cc : ByteArray} {maxL : Nat} {ret : Option FieldType}
    (hy : plainName y.cls = true) (hw : ws = Cond.code y cc maxL ret :: ws')
    (body : ∀ p e s m args below meth c s₁, BodyLoose p l y (headSpec ws rm) cc maxL ret e s m args below meth c s₁ → c.maxLocals = maxL → (∀ x ∈ c.exceptionTable.toList, False) → Pc args s →
      W p l e (headSpec ws rm).room s m args below meth c s.heap [] 0 0 (vx_MQ below Qc XC args s mc ms free) (entryFrame m args maxL)) : vx_Met l y ws rm Pc Qc XC mc ms free := by
  refine MetFree.of_bodyS (code := cc) (maxLocals := maxL) (ret := ret) hy ?_ ?_
  · intro args s m h hn
    obtain ⟨meth, c, h1, h2, h3, h4, h5, h6, -, -⟩ := Cond.code_spec hn (atoms_spec (ws := ws) h _ (by rw [hw]; exact List.mem_cons_self))
    exact ⟨meth, c, h1, h2, h3, h4, h5, h6⟩
  · intro p e s m args below meth c s₁ B hml hP _
    have hh0 : s₁.heap = s.heap := by rw [B.state]; rfl
    have ht : ∀ x ∈ c.exceptionTable.toList, False := by
      obtain ⟨meth9, c9, h1, h2, -, -, -, -, h7, -⟩ := Cond.code_spec B.named (atoms_spec (ws := ws) B.pre _ (by rw [hw]; exact List.mem_cons_self))
      cases Option.some.inj (h1.symm.trans B.method)
      cases Option.some.inj (h2.symm.trans (Stand.of_body B).code)
      intro x hx
      rw [Array.isEmpty_iff.mp h7] at hx
      cases hx
    obtain ⟨t, a1, o, b1, b2, b3⟩ := body p e s m args below meth c s₁ B hml ht hP s₁ hh0 (Stand.of_body B)
    exact ⟨t, o, a1, b1, b2, b3⟩
/-- the table of a body with handlers -/
theorem vx_table {p : Program} {x y : MethodName} {S : Spec} {cc bytes : ByteArray} {maxL maxL' : Nat} {ret ret' : Option FieldType} {e : Env} {s s₁ : State} {m : MethodId} {args : Array Value} {below : List Frame} {meth : Method} {c : Code} {hh : List (Nat × Nat × Nat × Nat)}
    (B : BodyLoose p l y S cc maxL ret e s m args below meth c s₁) (h : (Cond.codeWith y bytes maxL' ret' hh).before args s = true) : c.exceptionTable.toList = tableOf hh := by
  obtain ⟨m9, meth9, c9, hn9, h1, h2, -, -, h6, -⟩ := Cond.codeWith_spec h
  cases Option.some.inj (hn9.symm.trans B.named)
  cases Option.some.inj (h1.symm.trans B.method)
  cases Option.some.inj (h2.symm.trans (Stand.of_body B).code)
  rw [← h6, table_eq]
end Bodies
end VXA
/-! ===== END ===== -/
/-! ===== BEGIN a static call of a method with an exception table ===== -/
section VXS
variable {p : Program} {l : Launch} {e : Env} {R : Room} {s : State} {m : MethodId} {args : Array Value} {below : List Frame} {meth : Method} {c : Code} {T : State} {H : Heap} {locs : List Loc} {cells slots : Nat}
abbrev vx_CSW (R : Room) (s : State) (args : Array Value) (own : String) (index : Nat) (y : MethodName) (bytes : ByteArray) (maxL : Nat) (ret : Option FieldType) (hh : List (Nat × Nat × Nat × Nat)) (ws : List Cond) (rm : Room) (mc ms n : Nat) : Prop :=
  (rm.cells = mc ∧ rm.slots = ms ∧ rm.frames + 1 ≤ R.frames ∧ 8 + (maxL + 11) + rm.locals ≤ R.locals ∧ (∀ w ∈ ws, ∀ (a' : Array Value) (U : State), s.WarmedH U.vm → w.before a' U = true) ∧ Cond.codeWith y bytes maxL ret hh ∈ ws) ∧
  (Cond.codeWith y bytes maxL ret hh).before args s = true ∧ (Cond.initialized y.cls).before args s = true ∧ (y.cls ≠ "java/lang/invoke/MethodHandle" ∧ y.cls ≠ "java/lang/invoke/VarHandle") ∧
  (∀ sig, parseMethodDescriptor y.desc = some sig → n = sig.parameters.length) ∧ (Cond.methodLink own index y).before args s = true ∧ (Cond.static y).before args s = true
theorem vx_cwSW {own : String} {index maxL mc ms : Nat} {y : MethodName} {bytes : ByteArray} {ret : Option FieldType} {hh : List (Nat × Nat × Nat × Nat)} {Ts ws ws' : List Cond} {rm : Room} (n : Nat) (ht : ∀ w ∈ Ts, w.before args s = true) (hT : GoodIn Ts (va_wsS own index y ws)) (hw : ws = Cond.codeWith y bytes maxL ret hh :: ws') (hrc : rm.cells = mc) (hrs : rm.slots = ms)
    (hd : y.cls ≠ "java/lang/invoke/MethodHandle" ∧ y.cls ≠ "java/lang/invoke/VarHandle" ∧ (parseMethodDescriptor y.desc).map (fun d => d.parameters.length) = some n) (hR : rm.frames + 1 ≤ R.frames ∧ 8 + (maxL + 11) + rm.locals ≤ R.locals) :
    vx_CSW R s args own index y bytes maxL ret hh ws rm mc ms n := by
  have ok : ∀ w ∈ va_wsS own index y ws, w.before args s = true := fun w h => ht w (hT w h).1
  have hG : GoodIn Ts ws := fun w h => hT w (by unfold va_wsS; exact List.mem_append_right _ h)
  have hc : Cond.codeWith y bytes maxL ret hh ∈ ws := by rw [hw]; exact List.mem_cons_self
  refine ⟨⟨hrc, hrs, hR.1, hR.2, pay_in ht hG, hc⟩, ht _ (hG _ hc).1, ok _ (by simp [va_wsS]), ⟨hd.1, hd.2.1⟩, fun sig h => ?_, ok _ (by simp [va_wsS]), ok _ (by simp [va_wsS])⟩
  have h2 := hd.2.2
  rw [h] at h2
  exact (Option.some.inj h2).symm
theorem vx_callSW (X : Stand p l e R s m args below meth c T locs cells slots) (hexec : p.tables.exec = Jvm.exec) {own : String} {index : Nat} {y : MethodName} {bytes : ByteArray} {maxL : Nat} {ret : Option FieldType} {hh : List (Nat × Nat × Nat × Nat)}
    (hown : s.vm.findClass own = some m.cls) (hlink : (Cond.methodLink own index y).before args s = true) (hstat : (Cond.static y).before args s = true) (hinit : (Cond.initialized y.cls).before args s = true)
    (hcode : (Cond.codeWith y bytes maxL ret hh).before args s = true) (hy : y.cls ≠ "java/lang/invoke/MethodHandle" ∧ y.cls ≠ "java/lang/invoke/VarHandle")
    {W9 : Nat} {Pre : Pt → Array Value → Prop} {Post : Pt → Array Value → Option Value → Pt → Prop} (hK : Back l R p e below s args y 3 W9 Pre Post)
    {g : JFrame} (hg : g.method = m) (hsize : g.locals.size = c.maxLocals) {argsL rest : List Value} (hlen : ∀ sig, parseMethodDescriptor y.desc = some sig → argsL.length = sig.parameters.length)
    (hstack : g.stack = argsL.reverse ++ rest) (hW : 2 * g.monitorRoom + (rest.map fun v => v.category).sum ≤ W9) (hdg : decode c.code g.pc = .ok (.invokestatic index, 3))
    (hpre : ∀ vm₁, s.WarmedH vm₁ → Pre ⟨T.setVm vm₁, locs, cells, slots⟩ argsL.toArray) :
    ∃ (v : Option Value) (vm₁ : Vm) (B : Pt), s.WarmedH vm₁ ∧ Stand p l e R s m args below meth c B.U B.locs B.cells B.slots ∧ Post ⟨T.setVm vm₁, locs, cells, slots⟩ argsL.toArray v B ∧
      ∀ target, Steps p.tables e below (B.U.setTop { g with pc := g.pc + 3, stack := v.toList ++ rest }) target → Steps p.tables e below (T.setTop g) target := by
  obtain ⟨mk, methM, cM, hnamed, hmethM, -, -, -, -, -, -, hsigM⟩ := Cond.codeWith_spec hcode
  have hstatic : methM.isStatic = true := Cond.static_spec hnamed hmethM hstat
  obtain ⟨kP, hkP, -⟩ := className_of_methodNamed hnamed
  have hinitP : kP.init = .initialized := Cond.initialized_spec (findClass_of_methodNamed hnamed) hkP hinit
  obtain ⟨vm₁, X₁, hstep₁⟩ := X.invokestatic hexec hown hlink hnamed hmethM hstatic hkP hinitP hy (g := g) hg (argsL := argsL) (rest := rest) (hlen _ hsigM) hstack hdg
  obtain ⟨v, B, X', hpost, hsteps⟩ := hK m meth c ⟨T.setVm vm₁, locs, cells, slots⟩ { g with stack := rest } (.invokestatic index) mk argsL.toArray X₁ hg hsize hdg hW (X₁.named hnamed) (hpre vm₁ X₁.warmed)
  exact ⟨v, vm₁, B, X₁.warmed, X', hpost, fun target h => hstep₁ _ fun acts => by rw [doInvoke_state]; exact hsteps.trans h⟩
theorem vx_runSW {y : MethodName} {bytes cc : ByteArray} {maxL nL mc ms n index : Nat} {ret : Option FieldType} {hh : List (Nat × Nat × Nat × Nat)} {ws : List Cond} {rm : Room} {Pc : Array Value → State → Prop} {Qc : Array Value → State → Outcome → State → Prop} {free : Addr → Prop} {Ts : List Cond} {own : String} {As rest : List Value} {g : JFrame}
    (S : CallFix p m c cc nL s args Ts own) (hM : Met l y ws rm Pc Qc mc ms free) (cw : vx_CSW R s args own index y bytes maxL ret hh ws rm mc ms n) (hp : PreS s H Pc As)
    (hg : g.method = m) (hn : As.length = n) (hsize : g.locals.size = nL) (hstack : g.stack = As.reverse ++ rest) (hW : 2 * g.monitorRoom + (rest.map fun v => v.category).sum ≤ 8) (hdg : decode cc g.pc = .ok (.invokestatic index, 3)) (hf : cells + mc ≤ R.cells ∧ slots + ms ≤ R.slots) :
    va_Run p l e R s m args below meth c H locs cells slots mc ms g rest (Qc As.toArray) (free) := by
  obtain ⟨⟨hrc, hrs, hfr, hlo, hws, hcw⟩, hcode, hini, hy, hlen, hl, hstt⟩ := cw
  have hK : Back l R p e below s args y 3 8 (PreOf R mc ms Pc) (PostOf Qc mc ms free) := va_backW (hh := hh) (bytes := bytes) (maxL := maxL) (ret := ret) hM hp.1 hrc hrs hfr hlo hws hcw (fun a' U hW => word_at hW (Or.inl (by first | rfl | simp [Cond.onTables, Cond.keeps, Cond.steady])) hini)
  obtain ⟨hx, hb, hml, ho, -⟩ := S
  intro T hT X
  obtain ⟨v, vm₁, ⟨U', l2, c2, s2⟩, hW₁, X', ⟨g', mk, t, L, e1, e2, hq, h1, hL, h2, h3⟩, st⟩ := vx_callSW X hx (hh := hh) (bytes := bytes) (maxL := maxL) (ret := ret) ho hl hstt hini hcode hy hK hg (hsize.trans hml.symm) (argsL := As) (rest := rest) (fun sig h => hn.trans (hlen sig h)) hstack hW (by rw [hb]; exact hdg)
    (fun vm₁ hW₁ => ⟨hf.1, hf.2, hp.2 (T.setVm vm₁) hT hW₁⟩)
  dsimp only [Pt.U, Pt.locs, Pt.cells, Pt.slots] at X' e1 e2 h1 h2 h3 st
  subst h1; subst h2; subst h3
  exact ⟨v, (T.setVm vm₁).calling g' mk As.toArray, t, U', L, hT, X', hL, e1, e2, hq, st⟩
/-- not caught here, past rows that name other classes: it goes on to the caller -/
theorem vx_outP {p : Program} {l : Launch} {e : Env} {R : Room} {s : State} {m : MethodId} {args : Array Value} {below : List Frame} {meth : Method} {c : Code} {H : Heap} {locs : List Loc} {cells slots : Nat} {free : Addr → Prop} {ls : Array Slot} {rest : List Value} {Qc : Array Value → State → Outcome → State → Prop} {XC : String → State → State → Prop}
    {pc : Nat} {own E : String} {ce : Cell} {q : Addr} {mc ms : Nat} (hown : s.vm.findClass own = some m.cls) (hlocks : meth.locks = false)
    (hpass : ∀ z ∈ c.exceptionTable.toList, covers z pc = false ∨ (z.catchType ≠ 0 ∧ ∃ nm : String, (Cond.classLink own z.catchType nm).before args s = true ∧ va_Nc E nm s)) (hcell : H[q]? = some ce) (hv : ce.vm = .none) (hcl : s.vm.findClass E = some ce.cls)
    (hx : ∀ t : State, t.heap = H → s.vm.Alike t.vm → XC E s t) (hf : ∀ z ∈ locs, free z.base) (hc : cells ≤ mc) (hs : slots ≤ ms) :
    vx_W p l e R s m args below meth c H locs cells slots (vx_MQ below Qc XC args s mc ms free) (F0 m pc ls rest) q := by
  intro T hT X
  have hpl : e.platform.magicAccessors = ({} : Platform).magicAccessors := by rw [X.admits.platform]
  obtain ⟨vm', hW', X', st⟩ := X.outThrough hlocks q (g := F0 m pc ls rest) rfl rfl rfl (cell := ce) (by rw [hT]; exact hcell) (by rw [hv]; rfl)
    (by obtain ⟨k9, h9, -⟩ := Vm.findClass_spec hcl; exact ⟨k9, h9⟩) (fun z hz => by
      rcases hpass z hz with h | ⟨hz0, nm, hl1, hn1⟩
      · exact Or.inl h
      · obtain ⟨c6, hc6, hcl6⟩ := Cond.classLink_spec hown hl1 e.platform hpl
        obtain ⟨a8, b8, h1, h2, h3⟩ := hn1
        cases Option.some.inj (h1.symm.trans hcl)
        cases Option.some.inj (h2.symm.trans hc6)
        exact Or.inr ⟨hz0, _, hcl6, h3⟩)
  obtain ⟨g₀, hfr⟩ := X'.frames_eq
  have hcell9 : ((T.setVm vm').setFrames (.throwing q :: below)).heap[q]? = some ce := by
    show T.heap[q]? = some ce
    rw [hT]; exact hcell
  have hend : Ended ((T.setVm vm').setFrames (.throwing q :: below)) below (.threw q) := State.frames_setFrames _ (State.cur_lt_of_frames hfr)
  refine ⟨(T.setVm vm').setFrames (.throwing q :: below), ?_, .threw q, X'.here.running, hend, Or.inr ⟨q, rfl, E, ce, locs, hx _ hT (X'.ends _).1.alike, hcell9, hv, hcl, (X'.ends _).1, (X'.ends _).2.mono hc hs, hf⟩⟩
  rw [X.pushThrowing_eq]
  exact st
/-- a thing of a world lies in the heap -/
theorem vx_lt {D : va_G} {cl : List vw_C} {ws : va_W} {H1 : Heap} (h : va_P D cl ws H1) {k : Nat} {q : Nat × va_E} (hk : ws[k]? = some q) : q.1 < H1.size := (h k q hk).lt
end VXS
/-! ===== END ===== -/
/-! ===== BEGIN methods with a table of their own: called by a name, returning or throwing ===== -/
section VXH
/-! vx_backW, vx_callVX, vx_callSX, vx_callVW, vx_runVW, vx_runVX, vx_runSX, vx_ofWH follow the same proofs as their sisters above (Free/Laws.lean, Shelf42/LK1.lean); vx_outP calls Shelf42/NT130.lean (outThrough). -/
section
variable {l : Launch} {R : Room} {p : Program} {e : Env} {below : List Frame} {s : State} {sargs : Array Value} {y : MethodName} {len W9 : Nat}
theorem vx_backW {ws : List Cond} {rm : Room} {Pc : Array Value → State → Prop} {Qc : Array Value → State → Outcome → State → Prop} {XC : String → State → State → Prop} {mc ms : Nat} {free : Addr → Prop} {bytes : ByteArray} {maxL : Nat} {ret : Option FieldType} {hh : List (Nat × Nat × Nat × Nat)}
    (hM : vx_Met l y ws rm Pc Qc XC mc ms free) (hblind : FrameBlind Pc) (hrc : rm.cells = mc) (hrs : rm.slots = ms)
    (hframes : rm.frames + 1 ≤ R.frames) (hlocals : W9 + (maxL + 11) + rm.locals ≤ R.locals)
    (hws : ∀ w ∈ ws, ∀ a' U, s.WarmedH U.vm → w.before a' U = true) (hcode : Cond.codeWith y bytes maxL ret hh ∈ ws) (hinit : ∀ a' U, s.WarmedH U.vm → (Cond.initialized y.cls).before a' U = true) :
    vx_Back l R p e below s sargs y len W9 (PreOf R mc ms Pc) (PostOf Qc mc ms free) (vx_Post XC mc ms free) := by
  intro m meth c A g ig mk a X hg hsize hdg hW hn hp
  have h1 : (headSpec ws rm).pre.before a A.U = true := atoms_intro fun w hw => hws w hw _ _ X.warmed
  have h2 : (Cond.codeWith y bytes maxL ret hh).before a A.U = true := hws _ hcode _ _ X.warmed
  have h3 : (Cond.initialized y.cls).before a A.U = true := hinit _ _ X.warmed
  have h4 : A.cells + (headSpec ws rm).room.cells ≤ R.cells := by rw [show (headSpec ws rm).room.cells = mc from hrc]; exact hp.1
  have h5 : A.slots + (headSpec ws rm).room.slots ≤ R.slots := by rw [show (headSpec ws rm).room.slots = ms from hrs]; exact hp.2.1
  have hPc : Pc a (A.U.calling g mk a) := hblind _ _ _ _ hp.2.2
  obtain ⟨U, Ls, c0, s0⟩ := A
  dsimp only [Pt.U, Pt.locs, Pt.cells, Pt.slots] at h1 h2 h3 h4 h5 X hn hPc ⊢
  obtain ⟨m9, methY, cY, hn9, hmY, hcY, -, hlY, -⟩ := Cond.codeWith_spec h2
  cases Option.some.inj (hn9.symm.trans hn)
  obtain ⟨kY, hkY, -⟩ := className_of_methodNamed hn
  have hinitY : kY.init = .initialized := Cond.initialized_spec (findClass_of_methodNamed hn) hkY h3
  have h : At U g.method c below := by rw [hg]; exact X.here
  have hlocals9 : W9 + (maxL + 11) + (headSpec ws rm).room.locals ≤ R.locals := hlocals
  have happ : (headSpec ws rm).appliesLoose y e.platform (U.calling g mk a) = true :=
    Spec.appliesLoose_calling (g := g) h hdg hn hkY hinitY
      (X.room_calling (g := g) (R' := (headSpec ws rm).room) hsize hmY hcY hframes (by rw [hlY]; omega) h4 h5) h1
  obtain ⟨mid, hmid⟩ := h.above
  have hfr : (U.setTop g).frames = (.java g :: mid) ++ below := by rw [State.frames_setTop' g h.top, hmid]; rfl
  obtain ⟨o, s₂, hsteps, -, hend, hq⟩ := Steps.callFree hM p X.admits X.cas X.clock (acts := []) hfr happ hPc trivial
  have hq' : vx_Q Qc XC mc ms free a (U.calling g mk a) o s₂ := hq
  rw [State.frames_setTop' g h.top] at hend
  obtain ⟨g₀, hg0⟩ := Option.isSome_iff_exists.mp h.top
  obtain ⟨r, hr⟩ := State.topJava?_eq_some.mp hg0
  have hr' : (({ U with heap := s₂.heap, slotsUsed := s₂.slotsUsed } : State).setVm s₂.vm).frames = .java g₀ :: r := hr
  rcases hq' with ⟨hqc, L, hfe, hL⟩ | ⟨q, rfl, E, ce, L, hx, hce, hcv, hcl, hW₂, hsm, hL⟩
  · obtain ⟨⟨v, rfl⟩, hW₂, e2, q2, q3, q4, q5, q6⟩ := id hfe
    have e3 : s₂ = ({ (U.calling g mk a).setFrames s₂.frames with heap := s₂.heap, slotsUsed := s₂.slotsUsed } : State).setVm s₂.vm := by
      have : s₂ = ({ s₂ with vm := (U.calling g mk a).vm } : State).setVm s₂.vm := rfl
      rw [e2] at this
      exact this
    obtain ⟨c₂, i₂, len₂, hc₂, hd₂, hf₂⟩ := hend
    have hW' : U.WarmedH s₂.vm := hW₂
    have hcc : c₂ = c := by
      have h1 : s₂.code? g.method = U.code? g.method := by
        rw [State.code?_eq, State.code?_eq, hW'.alike.method?]
      exact Option.some.inj (hc₂.symm.trans (h1.trans h.code))
    subst hcc
    have hlen : len₂ = len := by rw [hdg] at hd₂; cases hd₂; rfl
    subst hlen
    have hs₂ : s₂ = (({ U with heap := s₂.heap, slotsUsed := s₂.slotsUsed } : State).setVm s₂.vm).setTop { g with pc := g.pc + len₂, stack := v.toList ++ g.stack } := by
      refine e3.trans ?_
      rw [hf₂, State.calling_eq h.top, State.setFrames_setFrames, State.setTop_of_frames _ hr', hr]
      rfl
    have hsame : U.sameButNew ({ U with heap := s₂.heap, slotsUsed := s₂.slotsUsed } : State) L mc ms := by
      refine ⟨?_, q2, q3, q4, q5, q6⟩
      obtain ⟨t, ht, -⟩ := State.frames_cons hr
      show ({ U with heap := s₂.heap, slotsUsed := s₂.slotsUsed } : State) = { U.setFrames U.frames with heap := s₂.heap, slotsUsed := s₂.slotsUsed }
      rw [State.setFrames_self ht]
    subst hg
    refine Or.inl ⟨v, ⟨(({ U with heap := s₂.heap, slotsUsed := s₂.slotsUsed } : State).setVm s₂.vm), Ls ++ L, c0 + mc, s0 + ms⟩,
      ⟨X.admits, X.cas, X.clock, X.frames, X.room, X.hears, X.method, X.code, (X.here.setHeapUsed s₂.heap s₂.slotsUsed).setVm hW'.alike, X.tail, State.WarmedH.trans X.warmed hW', X.limits, X.bytes, X.same.trans (hsame.setVm s.vm)⟩,
      ⟨g, mk, s₂, L, rfl, rfl, hqc, rfl, hL, rfl, rfl⟩, ?_⟩
    show Steps p.tables e below _ ((({ U with heap := s₂.heap, slotsUsed := s₂.slotsUsed } : State).setVm s₂.vm).setTop { g with pc := g.pc + len₂, stack := v.toList ++ g.stack })
    rw [← hs₂]
    exact hsteps
  · obtain ⟨e2, q2, q3, q4, q5, q6⟩ := id hsm
    have e3 : s₂ = ({ (U.calling g mk a).setFrames s₂.frames with heap := s₂.heap, slotsUsed := s₂.slotsUsed } : State).setVm s₂.vm := by
      have : s₂ = ({ s₂ with vm := (U.calling g mk a).vm } : State).setVm s₂.vm := rfl
      rw [e2] at this
      exact this
    have hf₂ : s₂.frames = .throwing q :: .java g :: U.frames.tail := hend
    have hW' : U.WarmedH s₂.vm := hW₂
    have hs₂ : s₂ = ((({ U with heap := s₂.heap, slotsUsed := s₂.slotsUsed } : State).setVm s₂.vm).setTop g).pushFrame (.throwing q) := by
      refine e3.trans ?_
      rw [hf₂, State.calling_eq h.top, State.setFrames_setFrames, State.pushFrame, State.frames_setTop _ hr', State.setTop_of_frames _ hr', State.setFrames_setFrames, hr]
      rfl
    have hsame : U.sameButNew ({ U with heap := s₂.heap, slotsUsed := s₂.slotsUsed } : State) L mc ms := by
      refine ⟨?_, q2, q3, q4, q5, q6⟩
      obtain ⟨t, ht, -⟩ := State.frames_cons hr
      show ({ U with heap := s₂.heap, slotsUsed := s₂.slotsUsed } : State) = { U.setFrames U.frames with heap := s₂.heap, slotsUsed := s₂.slotsUsed }
      rw [State.setFrames_self ht]
    subst hg
    refine Or.inr ⟨q, ⟨(({ U with heap := s₂.heap, slotsUsed := s₂.slotsUsed } : State).setVm s₂.vm), Ls ++ L, c0 + mc, s0 + ms⟩,
      ⟨X.admits, X.cas, X.clock, X.frames, X.room, X.hears, X.method, X.code, (X.here.setHeapUsed s₂.heap s₂.slotsUsed).setVm hW'.alike, X.tail, State.WarmedH.trans X.warmed hW', X.limits, X.bytes, X.same.trans (hsame.setVm s.vm)⟩,
      ⟨g, mk, s₂, L, E, ce, rfl, rfl, hx, hce, hcv, hcl, rfl, hL, rfl, rfl⟩, ?_⟩
    show Steps p.tables e below _ (((({ U with heap := s₂.heap, slotsUsed := s₂.slotsUsed } : State).setVm s₂.vm).setTop g).pushFrame (.throwing q))
    rw [← hs₂]
    exact hsteps
end
variable {p : Program} {l : Launch} {e : Env} {R : Room} {s : State} {m : MethodId} {args : Array Value} {below : List Frame} {meth : Method} {c : Code} {T : State} {H : Heap} {locs : List Loc} {cells slots : Nat}
theorem vx_callVX (X : Stand p l e R s m args below meth c T locs cells slots) (hexec : p.tables.exec = Jvm.exec) {own C : String} {index : Nat} {y : MethodName} {bytes : ByteArray} {maxL : Nat} {ret : Option FieldType} {hh : List (Nat × Nat × Nat × Nat)}
    (hown : s.vm.findClass own = some m.cls) (hlink : (Cond.methodLink own index y).before args s = true) (hinst : (Cond.instanceMethod y).before args s = true) (hsel : (Cond.selects C y y).before args s = true)
    (hcode : (Cond.codeWith y bytes maxL ret hh).before args s = true) (hy : y.cls ≠ "java/lang/invoke/MethodHandle" ∧ y.cls ≠ "java/lang/invoke/VarHandle")
    {W9 : Nat} {Pre : Pt → Array Value → Prop} {Post : Pt → Array Value → Option Value → Pt → Prop} {PostX : Pt → Array Value → Addr → Pt → Prop} (hK : vx_Back l R p e below s args y 3 W9 Pre Post PostX)
    {b : Addr} {cellB : Cell} (hcell : T.heap[b]? = some cellB) (hobj : cellB.vm.isStatics = false) (hcls : s.vm.findClass C = some cellB.cls)
    {g : JFrame} (hg : g.method = m) (hsize : g.locals.size = c.maxLocals) {argsL rest : List Value} (hlen : ∀ sig, parseMethodDescriptor y.desc = some sig → argsL.length = sig.parameters.length)
    (hstack : g.stack = argsL.reverse ++ .ref b :: rest) (hW : 2 * g.monitorRoom + (rest.map fun v => v.category).sum ≤ W9) (hdg : decode c.code g.pc = .ok (.invokevirtual index, 3))
    (hpre : ∀ vm₁, s.WarmedH vm₁ → Pre ⟨T.setVm vm₁, locs, cells, slots⟩ (Value.ref b :: argsL).toArray) :
    (∃ (v : Option Value) (vm₁ : Vm) (B : Pt), s.WarmedH vm₁ ∧ Stand p l e R s m args below meth c B.U B.locs B.cells B.slots ∧ Post ⟨T.setVm vm₁, locs, cells, slots⟩ (Value.ref b :: argsL).toArray v B ∧
      ∀ target, Steps p.tables e below (B.U.setTop { g with pc := g.pc + 3, stack := v.toList ++ rest }) target → Steps p.tables e below (T.setTop g) target) ∨
    (∃ (q : Addr) (vm₁ : Vm) (B : Pt), s.WarmedH vm₁ ∧ Stand p l e R s m args below meth c B.U B.locs B.cells B.slots ∧ PostX ⟨T.setVm vm₁, locs, cells, slots⟩ (Value.ref b :: argsL).toArray q B ∧
      Steps p.tables e below (T.setTop g) ((B.U.setTop { g with stack := rest }).pushFrame (.throwing q))) := by
  obtain ⟨mk, methM, hnamed, hmethM, hstM, habM⟩ := Cond.instanceMethod_spec hinst
  obtain ⟨m8, methM', cM, hn8, hmethM', -, -, -, -, -, -, hsigM⟩ := Cond.codeWith_spec hcode
  cases Option.some.inj (hn8.symm.trans hnamed)
  cases hmethM.symm.trans hmethM'
  obtain ⟨c2, r2, m2, q1, q2, q3, q4, kP, hkP, hkPi⟩ := Cond.selects_spec hsel
  cases hcls.symm.trans q1
  cases (State.methodFound?_of_named hnamed hy).symm.trans q2
  cases hnamed.symm.trans q3
  have hselP : selectMethod e.platform s.vm cellB.cls mk = .method mk := by rw [Launch.admits_selectMethod X.admits]; exact q4
  obtain ⟨vm₁, X₁, hstep₁⟩ := X.invokevirtual hexec hown hlink hnamed hmethM hstM hkP hkPi hy (a := b) (cell := cellB) hcell
    (fun z h => by rw [h] at hobj; cases hobj) hselP hmethM habM hkP hkPi (g := g) hg (argsL := argsL) (rest := rest) (hlen _ hsigM) hstack hdg
  rcases hK m meth c ⟨T.setVm vm₁, locs, cells, slots⟩ { g with stack := rest } (.invokevirtual index) mk (Value.ref b :: argsL).toArray X₁ hg hsize hdg hW (X₁.named hnamed) (hpre vm₁ X₁.warmed) with ⟨v, B, X', hpost, hsteps⟩ | ⟨q, B, X', hpost, hsteps⟩
  · exact Or.inl ⟨v, vm₁, B, X₁.warmed, X', hpost, fun target h => hstep₁ _ fun acts => by rw [doInvoke_state]; exact hsteps.trans h⟩
  · exact Or.inr ⟨q, vm₁, B, X₁.warmed, X', hpost, hstep₁ _ fun acts => by rw [doInvoke_state]; exact hsteps⟩
theorem vx_callSX (X : Stand p l e R s m args below meth c T locs cells slots) (hexec : p.tables.exec = Jvm.exec) {own : String} {index : Nat} {y : MethodName} {bytes : ByteArray} {maxL : Nat} {ret : Option FieldType} {hh : List (Nat × Nat × Nat × Nat)}
    (hown : s.vm.findClass own = some m.cls) (hlink : (Cond.methodLink own index y).before args s = true) (hstat : (Cond.static y).before args s = true) (hinit : (Cond.initialized y.cls).before args s = true)
    (hcode : (Cond.codeWith y bytes maxL ret hh).before args s = true) (hy : y.cls ≠ "java/lang/invoke/MethodHandle" ∧ y.cls ≠ "java/lang/invoke/VarHandle")
    {W9 : Nat} {Pre : Pt → Array Value → Prop} {Post : Pt → Array Value → Option Value → Pt → Prop} {PostX : Pt → Array Value → Addr → Pt → Prop} (hK : vx_Back l R p e below s args y 3 W9 Pre Post PostX)
    {g : JFrame} (hg : g.method = m) (hsize : g.locals.size = c.maxLocals) {argsL rest : List Value} (hlen : ∀ sig, parseMethodDescriptor y.desc = some sig → argsL.length = sig.parameters.length)
    (hstack : g.stack = argsL.reverse ++ rest) (hW : 2 * g.monitorRoom + (rest.map fun v => v.category).sum ≤ W9) (hdg : decode c.code g.pc = .ok (.invokestatic index, 3))
    (hpre : ∀ vm₁, s.WarmedH vm₁ → Pre ⟨T.setVm vm₁, locs, cells, slots⟩ argsL.toArray) :
    (∃ (v : Option Value) (vm₁ : Vm) (B : Pt), s.WarmedH vm₁ ∧ Stand p l e R s m args below meth c B.U B.locs B.cells B.slots ∧ Post ⟨T.setVm vm₁, locs, cells, slots⟩ argsL.toArray v B ∧
      ∀ target, Steps p.tables e below (B.U.setTop { g with pc := g.pc + 3, stack := v.toList ++ rest }) target → Steps p.tables e below (T.setTop g) target) ∨
    (∃ (q : Addr) (vm₁ : Vm) (B : Pt), s.WarmedH vm₁ ∧ Stand p l e R s m args below meth c B.U B.locs B.cells B.slots ∧ PostX ⟨T.setVm vm₁, locs, cells, slots⟩ argsL.toArray q B ∧
      Steps p.tables e below (T.setTop g) ((B.U.setTop { g with stack := rest }).pushFrame (.throwing q))) := by
  obtain ⟨mk, methM, cM, hnamed, hmethM, -, -, -, -, -, -, hsigM⟩ := Cond.codeWith_spec hcode
  have hstatic : methM.isStatic = true := Cond.static_spec hnamed hmethM hstat
  obtain ⟨kP, hkP, -⟩ := className_of_methodNamed hnamed
  have hinitP : kP.init = .initialized := Cond.initialized_spec (findClass_of_methodNamed hnamed) hkP hinit
  obtain ⟨vm₁, X₁, hstep₁⟩ := X.invokestatic hexec hown hlink hnamed hmethM hstatic hkP hinitP hy (g := g) hg (argsL := argsL) (rest := rest) (hlen _ hsigM) hstack hdg
  rcases hK m meth c ⟨T.setVm vm₁, locs, cells, slots⟩ { g with stack := rest } (.invokestatic index) mk argsL.toArray X₁ hg hsize hdg hW (X₁.named hnamed) (hpre vm₁ X₁.warmed) with ⟨v, B, X', hpost, hsteps⟩ | ⟨q, B, X', hpost, hsteps⟩
  · exact Or.inl ⟨v, vm₁, B, X₁.warmed, X', hpost, fun target h => hstep₁ _ fun acts => by rw [doInvoke_state]; exact hsteps.trans h⟩
  · exact Or.inr ⟨q, vm₁, B, X₁.warmed, X', hpost, hstep₁ _ fun acts => by rw [doInvoke_state]; exact hsteps⟩
theorem vx_callVW (X : Stand p l e R s m args below meth c T locs cells slots) (hexec : p.tables.exec = Jvm.exec) {own C : String} {index : Nat} {y : MethodName} {bytes : ByteArray} {maxL : Nat} {ret : Option FieldType} {hh : List (Nat × Nat × Nat × Nat)}
    (hown : s.vm.findClass own = some m.cls) (hlink : (Cond.methodLink own index y).before args s = true) (hinst : (Cond.instanceMethod y).before args s = true) (hsel : (Cond.selects C y y).before args s = true)
    (hcode : (Cond.codeWith y bytes maxL ret hh).before args s = true) (hy : y.cls ≠ "java/lang/invoke/MethodHandle" ∧ y.cls ≠ "java/lang/invoke/VarHandle")
    {W9 : Nat} {Pre : Pt → Array Value → Prop} {Post : Pt → Array Value → Option Value → Pt → Prop} (hK : Back l R p e below s args y 3 W9 Pre Post)
    {b : Addr} {cellB : Cell} (hcell : T.heap[b]? = some cellB) (hobj : cellB.vm.isStatics = false) (hcls : s.vm.findClass C = some cellB.cls)
    {g : JFrame} (hg : g.method = m) (hsize : g.locals.size = c.maxLocals) {argsL rest : List Value} (hlen : ∀ sig, parseMethodDescriptor y.desc = some sig → argsL.length = sig.parameters.length)
    (hstack : g.stack = argsL.reverse ++ .ref b :: rest) (hW : 2 * g.monitorRoom + (rest.map fun v => v.category).sum ≤ W9) (hdg : decode c.code g.pc = .ok (.invokevirtual index, 3))
    (hpre : ∀ vm₁, s.WarmedH vm₁ → Pre ⟨T.setVm vm₁, locs, cells, slots⟩ (Value.ref b :: argsL).toArray) :
    ∃ (v : Option Value) (vm₁ : Vm) (B : Pt), s.WarmedH vm₁ ∧ Stand p l e R s m args below meth c B.U B.locs B.cells B.slots ∧ Post ⟨T.setVm vm₁, locs, cells, slots⟩ (Value.ref b :: argsL).toArray v B ∧
      ∀ target, Steps p.tables e below (B.U.setTop { g with pc := g.pc + 3, stack := v.toList ++ rest }) target → Steps p.tables e below (T.setTop g) target := by
  obtain ⟨mk, methM, hnamed, hmethM, hstM, habM⟩ := Cond.instanceMethod_spec hinst
  obtain ⟨m8, methM', cM, hn8, hmethM', -, -, -, -, -, -, hsigM⟩ := Cond.codeWith_spec hcode
  cases Option.some.inj (hn8.symm.trans hnamed)
  cases hmethM.symm.trans hmethM'
  obtain ⟨c2, r2, m2, q1, q2, q3, q4, kP, hkP, hkPi⟩ := Cond.selects_spec hsel
  cases hcls.symm.trans q1
  cases (State.methodFound?_of_named hnamed hy).symm.trans q2
  cases hnamed.symm.trans q3
  have hselP : selectMethod e.platform s.vm cellB.cls mk = .method mk := by rw [Launch.admits_selectMethod X.admits]; exact q4
  obtain ⟨vm₁, X₁, hstep₁⟩ := X.invokevirtual hexec hown hlink hnamed hmethM hstM hkP hkPi hy (a := b) (cell := cellB) hcell
    (fun z h => by rw [h] at hobj; cases hobj) hselP hmethM habM hkP hkPi (g := g) hg (argsL := argsL) (rest := rest) (hlen _ hsigM) hstack hdg
  obtain ⟨v, B, X', hpost, hsteps⟩ := hK m meth c ⟨T.setVm vm₁, locs, cells, slots⟩ { g with stack := rest } (.invokevirtual index) mk (Value.ref b :: argsL).toArray X₁ hg hsize hdg hW (X₁.named hnamed) (hpre vm₁ X₁.warmed)
  exact ⟨v, vm₁, B, X₁.warmed, X', hpost, fun target h => hstep₁ _ fun acts => by rw [doInvoke_state]; exact hsteps.trans h⟩
abbrev vx_CVW (R : Room) (s : State) (args : Array Value) (own C : String) (index : Nat) (y : MethodName) (bytes : ByteArray) (maxL : Nat) (ret : Option FieldType) (hh : List (Nat × Nat × Nat × Nat)) (ws : List Cond) (rm : Room) (mc ms n : Nat) : Prop :=
  (rm.cells = mc ∧ rm.slots = ms ∧ rm.frames + 1 ≤ R.frames ∧ 8 + (maxL + 11) + rm.locals ≤ R.locals ∧ (∀ w ∈ ws, ∀ (a' : Array Value) (U : State), s.WarmedH U.vm → w.before a' U = true) ∧ Cond.codeWith y bytes maxL ret hh ∈ ws) ∧
  (Cond.codeWith y bytes maxL ret hh).before args s = true ∧ (Cond.initialized y.cls).before args s = true ∧ (y.cls ≠ "java/lang/invoke/MethodHandle" ∧ y.cls ≠ "java/lang/invoke/VarHandle") ∧
  (∀ sig, parseMethodDescriptor y.desc = some sig → n = sig.parameters.length) ∧ (Cond.methodLink own index y).before args s = true ∧ (Cond.instanceMethod y).before args s = true ∧ (Cond.selects C y y).before args s = true
theorem vx_cwVW {own C : String} {index maxL mc ms : Nat} {y : MethodName} {bytes : ByteArray} {ret : Option FieldType} {hh : List (Nat × Nat × Nat × Nat)} {Ts ws ws' : List Cond} {rm : Room} (n : Nat) (ht : ∀ w ∈ Ts, w.before args s = true) (hT : GoodIn Ts (wsV own index C y ws)) (hw : ws = Cond.codeWith y bytes maxL ret hh :: ws') (hrc : rm.cells = mc) (hrs : rm.slots = ms)
    (hd : y.cls = C ∧ y.cls ≠ "java/lang/invoke/MethodHandle" ∧ y.cls ≠ "java/lang/invoke/VarHandle" ∧ (parseMethodDescriptor y.desc).map (fun d => d.parameters.length) = some n) (hR : rm.frames + 1 ≤ R.frames ∧ 8 + (maxL + 11) + rm.locals ≤ R.locals) :
    vx_CVW R s args own C index y bytes maxL ret hh ws rm mc ms n := by
  obtain ⟨hC, hd⟩ := hd
  subst hC
  have ok : ∀ w ∈ wsV own index y.cls y ws, w.before args s = true := fun w h => ht w (hT w h).1
  have hG : GoodIn Ts ws := fun w h => hT w (by unfold wsV; exact List.mem_append_right _ h)
  have hc : Cond.codeWith y bytes maxL ret hh ∈ ws := by rw [hw]; exact List.mem_cons_self
  refine ⟨⟨hrc, hrs, hR.1, hR.2, pay_in ht hG, hc⟩, ht _ (hG _ hc).1, ok _ (by simp [wsV]), ⟨hd.1, hd.2.1⟩, fun sig h => ?_, ok _ (by simp [wsV]), ok _ (by simp [wsV]), ok _ (by simp [wsV])⟩
  have h2 := hd.2.2
  rw [h] at h2
  exact (Option.some.inj h2).symm
theorem vx_runVW {y : MethodName} {bytes cc : ByteArray} {maxL nL mc ms n index : Nat} {ret : Option FieldType} {hh : List (Nat × Nat × Nat × Nat)} {ws : List Cond} {rm : Room} {Pc : Array Value → State → Prop} {Qc : Array Value → State → Outcome → State → Prop} {free : Addr → Prop} {Ts : List Cond} {own C : String} {b : Addr} {As rest : List Value} {g : JFrame}
    (S : CallFix p m c cc nL s args Ts own) (hM : Met l y ws rm Pc Qc mc ms free) (cw : vx_CVW R s args own C index y bytes maxL ret hh ws rm mc ms n) (hp : PreV s H C b Pc As)
    (hg : g.method = m) (hn : As.length = n) (hsize : g.locals.size = nL) (hstack : g.stack = As.reverse ++ .ref b :: rest) (hW : 2 * g.monitorRoom + (rest.map fun v => v.category).sum ≤ 8) (hdg : decode cc g.pc = .ok (.invokevirtual index, 3)) (hf : cells + mc ≤ R.cells ∧ slots + ms ≤ R.slots) :
    va_Run p l e R s m args below meth c H locs cells slots mc ms g rest (Qc (Value.ref b :: As).toArray) free := by
  obtain ⟨⟨hrc, hrs, hfr, hlo, hws, hcw⟩, hcode, hini, hy, hlen, hl, hin, hse⟩ := cw
  have hK : Back l R p e below s args y 3 8 (PreOf R mc ms Pc) (PostOf Qc mc ms free) := va_backW (hh := hh) (bytes := bytes) (maxL := maxL) (ret := ret) hM hp.1 hrc hrs hfr hlo hws hcw (fun a' U hW => word_at hW (Or.inl (by first | rfl | simp [Cond.onTables, Cond.keeps, Cond.steady])) hini)
  obtain ⟨hx, hb, hml, ho, -⟩ := S
  obtain ⟨-, ⟨cellB, hcB, hoB, hclB⟩, hPc⟩ := hp
  intro T hT X
  obtain ⟨v, vm₁, ⟨U', l2, c2, s2⟩, hW₁, X', ⟨g', mk, t, L, e1, e2, hq, h1, hL, h2, h3⟩, st⟩ := vx_callVW X hx (C := C) (hh := hh) (bytes := bytes) (maxL := maxL) (ret := ret) ho hl hin hse hcode hy hK (by rw [hT]; exact hcB) hoB hclB hg (hsize.trans hml.symm) (argsL := As) (rest := rest) (fun sig h => hn.trans (hlen sig h)) hstack hW (by rw [hb]; exact hdg)
    (fun vm₁ hW₁ => ⟨hf.1, hf.2, hPc (T.setVm vm₁) hT hW₁⟩)
  dsimp only [Pt.U, Pt.locs, Pt.cells, Pt.slots] at X' e1 e2 h1 h2 h3 st
  subst h1; subst h2; subst h3
  exact ⟨v, (T.setVm vm₁).calling g' mk (Value.ref b :: As).toArray, t, U', L, hT, X', hL, e1, e2, hq, st⟩
section
variable {y : MethodName} {bytes cc : ByteArray} {maxL nL mc ms n index : Nat} {ret : Option FieldType} {ws : List Cond} {rm : Room} {Pc : Array Value → State → Prop} {Qc : Array Value → State → Outcome → State → Prop} {XC : String → State → State → Prop} {free : Addr → Prop} {Ts : List Cond} {own C : String} {b : Addr} {As rest : List Value} {g : JFrame}
theorem vx_runVX {hh : List (Nat × Nat × Nat × Nat)} (S : CallFix p m c cc nL s args Ts own) (hM : vx_Met l y ws rm Pc Qc XC mc ms free) (cw : vx_CVW R s args own C index y bytes maxL ret hh ws rm mc ms n) (hp : PreV s H C b Pc As)
    (hg : g.method = m) (hn : As.length = n) (hsize : g.locals.size = nL) (hstack : g.stack = As.reverse ++ .ref b :: rest) (hW : 2 * g.monitorRoom + (rest.map fun v => v.category).sum ≤ 8) (hdg : decode cc g.pc = .ok (.invokevirtual index, 3)) (hf : cells + mc ≤ R.cells ∧ slots + ms ≤ R.slots) :
    vx_Run p l e R s m args below meth c H locs cells slots mc ms g rest (Qc (Value.ref b :: As).toArray) XC free := by
  obtain ⟨⟨hrc, hrs, hfr, hlo, hws, hcw⟩, hcode, hini, hy, hlen, hl, hin, hse⟩ := cw
  have hK : vx_Back l R p e below s args y 3 8 (PreOf R mc ms Pc) (PostOf Qc mc ms free) (vx_Post XC mc ms free) := vx_backW (hh := hh) (bytes := bytes) (maxL := maxL) (ret := ret) hM hp.1 hrc hrs hfr hlo hws hcw (fun a' U hW => word_at hW (Or.inl (by first | rfl | simp [Cond.onTables, Cond.keeps, Cond.steady])) hini)
  obtain ⟨hx, hb, hml, ho, -⟩ := S
  obtain ⟨-, ⟨cellB, hcB, hoB, hclB⟩, hPc⟩ := hp
  intro T hT X
  rcases vx_callVX X hx (C := C) (hh := hh) (bytes := bytes) (maxL := maxL) (ret := ret) ho hl hin hse hcode hy hK (by rw [hT]; exact hcB) hoB hclB hg (hsize.trans hml.symm) (argsL := As) (rest := rest) (fun sig h => hn.trans (hlen sig h)) hstack hW (by rw [hb]; exact hdg)
    (fun vm₁ hW₁ => ⟨hf.1, hf.2, hPc (T.setVm vm₁) hT hW₁⟩) with ⟨v, vm₁, ⟨U', l2, c2, s2⟩, hW₁, X', ⟨g', mk, t, L, e1, e2, hq, h1, hL, h2, h3⟩, st⟩ | ⟨q, vm₁, ⟨U', l2, c2, s2⟩, hW₁, X', ⟨g', mk, t, L, E, ce, e1, e2, hq, hce, hcv, hcl, h1, hL, h2, h3⟩, st⟩
  · dsimp only [Pt.U, Pt.locs, Pt.cells, Pt.slots] at X' e1 e2 h1 h2 h3 st
    subst h1; subst h2; subst h3
    exact Or.inl ⟨v, (T.setVm vm₁).calling g' mk (Value.ref b :: As).toArray, t, U', L, hT, X', hL, e1, e2, hq, st⟩
  · dsimp only [Pt.U, Pt.locs, Pt.cells, Pt.slots] at X' e1 e2 h1 h2 h3 st hcl
    subst h1; subst h2; subst h3
    exact Or.inr ⟨q, (T.setVm vm₁).calling g' mk (Value.ref b :: As).toArray, t, U', L, E, ce, hT, X', hL, e1, e2, hq, hce, hcv, vx_cls hW₁ hcl, st⟩
theorem vx_runSX {hh : List (Nat × Nat × Nat × Nat)} (S : CallFix p m c cc nL s args Ts own) (hM : vx_Met l y ws rm Pc Qc XC mc ms free) (cw : vx_CSW R s args own index y bytes maxL ret hh ws rm mc ms n) (hp : PreS s H Pc As)
    (hg : g.method = m) (hn : As.length = n) (hsize : g.locals.size = nL) (hstack : g.stack = As.reverse ++ rest) (hW : 2 * g.monitorRoom + (rest.map fun v => v.category).sum ≤ 8) (hdg : decode cc g.pc = .ok (.invokestatic index, 3)) (hf : cells + mc ≤ R.cells ∧ slots + ms ≤ R.slots) :
    vx_Run p l e R s m args below meth c H locs cells slots mc ms g rest (Qc As.toArray) XC free := by
  obtain ⟨⟨hrc, hrs, hfr, hlo, hws, hcw⟩, hcode, hini, hy, hlen, hl, hstt⟩ := cw
  have hK : vx_Back l R p e below s args y 3 8 (PreOf R mc ms Pc) (PostOf Qc mc ms free) (vx_Post XC mc ms free) := vx_backW (hh := hh) (bytes := bytes) (maxL := maxL) (ret := ret) hM hp.1 hrc hrs hfr hlo hws hcw (fun a' U hW => word_at hW (Or.inl (by first | rfl | simp [Cond.onTables, Cond.keeps, Cond.steady])) hini)
  obtain ⟨hx, hb, hml, ho, -⟩ := S
  intro T hT X
  rcases vx_callSX X hx (hh := hh) (bytes := bytes) (maxL := maxL) (ret := ret) ho hl hstt hini hcode hy hK hg (hsize.trans hml.symm) (argsL := As) (rest := rest) (fun sig h => hn.trans (hlen sig h)) hstack hW (by rw [hb]; exact hdg)
    (fun vm₁ hW₁ => ⟨hf.1, hf.2, hp.2 (T.setVm vm₁) hT hW₁⟩) with ⟨v, vm₁, ⟨U', l2, c2, s2⟩, hW₁, X', ⟨g', mk, t, L, e1, e2, hq, h1, hL, h2, h3⟩, st⟩ | ⟨q, vm₁, ⟨U', l2, c2, s2⟩, hW₁, X', ⟨g', mk, t, L, E, ce, e1, e2, hq, hce, hcv, hcl, h1, hL, h2, h3⟩, st⟩
  · dsimp only [Pt.U, Pt.locs, Pt.cells, Pt.slots] at X' e1 e2 h1 h2 h3 st
    subst h1; subst h2; subst h3
    exact Or.inl ⟨v, (T.setVm vm₁).calling g' mk As.toArray, t, U', L, hT, X', hL, e1, e2, hq, st⟩
  · dsimp only [Pt.U, Pt.locs, Pt.cells, Pt.slots] at X' e1 e2 h1 h2 h3 st hcl
    subst h1; subst h2; subst h3
    exact Or.inr ⟨q, (T.setVm vm₁).calling g' mk As.toArray, t, U', L, E, ce, hT, X', hL, e1, e2, hq, hce, hcv, vx_cls hW₁ hcl, st⟩
end
end VXH
theorem vx_ofWH {l : Launch} {y : MethodName} {ws ws' : List Cond} {rm : Room} {Pc : Array Value → State → Prop} {Qc : Array Value → State → Outcome → State → Prop} {XC : String → State → State → Prop} {mc ms : Nat} {free : Addr → Prop} {cc : ByteArray} {maxL : Nat} {ret : Option FieldType} {hh : List (Nat × Nat × Nat × Nat)}
    (hy : plainName y.cls = true) (hw : ws = Cond.codeWith y cc maxL ret hh :: ws')
    (body : ∀ p e s m args below meth c s₁, BodyLoose p l y (headSpec ws rm) cc maxL ret e s m args below meth c s₁ → c.maxLocals = maxL → Pc args s →
      W p l e (headSpec ws rm).room s m args below meth c s.heap [] 0 0 (vx_MQ below Qc XC args s mc ms free) (entryFrame m args maxL)) : vx_Met l y ws rm Pc Qc XC mc ms free := by
  refine MetFree.of_bodyS (code := cc) (maxLocals := maxL) (ret := ret) hy ?_ ?_
  · intro args s m h hn
    obtain ⟨m9, meth, c, hn9, h1, h2, h3, h4, -, h5, h6, -⟩ := Cond.codeWith_spec (atoms_spec (ws := ws) h _ (by rw [hw]; exact List.mem_cons_self))
    cases hn.symm.trans hn9
    exact ⟨meth, c, h1, h2, h3, h4, h5, h6⟩
  · intro p e s m args below meth c s₁ B hml hP _
    have hh0 : s₁.heap = s.heap := by rw [B.state]; rfl
    obtain ⟨t, a1, o, b1, b2, b3⟩ := body p e s m args below meth c s₁ B hml hP s₁ hh0 (Stand.of_body B)
    exact ⟨t, o, a1, b1, b2, b3⟩
/-! ===== END ===== -/
end
section
/-! ===== BEGIN printed: names, fields, word lists, decode rows ===== -/
def RX0 : String := "RingHerd$Claim"
def TX0 : u_T := fun k => match k with
  | 0 => ("RingHerd$Claim", "frame", "I", false)
  | 1 => ("RingHerd$Claim", "from", "I", false)
  | 2 => ("RingHerd$Claim", "to", "I", false)
  | _ => ("RingHerd$Claim", "most", "I", false)
def tyX0 : Nat → FieldType := fun k => match k with
  | 0 => .int
  | 1 => .int
  | 2 => .int
  | _ => .int
abbrev wsX00 : List Cond := u_ws RX0 TX0 4
theorem nmX0 : ∀ a, a < 4 → ∀ b, b < 4 → a ≠ b → (TX0 a).2.1 ≠ (TX0 b).2.1 := by decide +kernel
theorem tyX0_ok : ∀ k, k < 4 → parseFieldDescriptor (TX0 k).2.2.1 = some (tyX0 k) := by decide +kernel
abbrev cX0_init : ByteArray := prog_2_method_1_code
def yX0_init : MethodName := ⟨RX0, "<init>", "()V"⟩
abbrev cX0_holdsBy : ByteArray := prog_2_method_2_code
def yX0_holdsBy : MethodName := ⟨RX0, "holdsBy", "(LRingHerd$Frame;)Z"⟩
def RX1 : String := "RingHerd$Frame"
def TX1 : u_T := fun k => match k with
  | 0 => ("RingHerd$Frame", "masses", "[I", true)
  | _ => ("RingHerd$Frame", "takenAt", "I", false)
def tyX1 : Nat → FieldType := fun k => match k with
  | 0 => .array .int
  | _ => .int
abbrev wsX10 : List Cond := u_ws RX1 TX1 2
theorem nmX1 : ∀ a, a < 2 → ∀ b, b < 2 → a ≠ b → (TX1 a).2.1 ≠ (TX1 b).2.1 := by decide +kernel
theorem tyX1_ok : ∀ k, k < 2 → parseFieldDescriptor (TX1 k).2.2.1 = some (tyX1 k) := by decide +kernel
abbrev cX1_init : ByteArray := prog_3_method_1_code
def yX1_init : MethodName := ⟨RX1, "<init>", "()V"⟩
def RX2 : String := "RingHerd$Grain"
def TX2 : u_T := fun k => match k with
  | 0 => ("RingHerd$Grain", "lane", "I", false)
  | 1 => ("RingHerd$Grain", "angle", "I", false)
  | 2 => ("RingHerd$Grain", "mass", "I", false)
  | 3 => ("RingHerd$Grain", "unrest", "I", false)
  | 4 => ("RingHerd$Grain", "darkness", "I", false)
  | 5 => ("RingHerd$Grain", "there", "Z", false)
  | _ => ("RingHerd$Grain", "met", "Z", false)
def tyX2 : Nat → FieldType := fun k => match k with
  | 0 => .int
  | 1 => .int
  | 2 => .int
  | 3 => .int
  | 4 => .int
  | 5 => .boolean
  | _ => .boolean
abbrev wsX20 : List Cond := u_ws RX2 TX2 7
theorem nmX2 : ∀ a, a < 7 → ∀ b, b < 7 → a ≠ b → (TX2 a).2.1 ≠ (TX2 b).2.1 := by decide +kernel
theorem tyX2_ok : ∀ k, k < 7 → parseFieldDescriptor (TX2 k).2.2.1 = some (tyX2 k) := by decide +kernel
abbrev cX2_init : ByteArray := prog_4_method_1_code
def yX2_init : MethodName := ⟨RX2, "<init>", "()V"⟩
abbrev cX2_carried : ByteArray := prog_4_method_2_code
def yX2_carried : MethodName := ⟨RX2, "carried", "()J"⟩
abbrev cX2_isNear : ByteArray := prog_4_method_3_code
def yX2_isNear : MethodName := ⟨RX2, "isNear", "(IIII)Z"⟩
abbrev cX2_mayMeet : ByteArray := prog_4_method_4_code
def yX2_mayMeet : MethodName := ⟨RX2, "mayMeet", "()Z"⟩
def RX3 : String := "RingHerd$Herd"
def TX3 : u_T := fun k => match k with
  | 0 => ("RingHerd$Herd", "planet", "LRingHerd$Planet;", true)
  | 1 => ("RingHerd$Herd", "ledger", "LRingHerd$Ledger;", true)
  | 2 => ("RingHerd$Herd", "grains", "[LRingHerd$Grain;", true)
  | 3 => ("RingHerd$Herd", "grainCount", "I", false)
  | 4 => ("RingHerd$Herd", "firstBound", "I", false)
  | 5 => ("RingHerd$Herd", "secondBound", "I", false)
  | _ => ("RingHerd$Herd", "spring", "I", false)
def tyX3 : Nat → FieldType := fun k => match k with
  | 0 => .object "RingHerd$Planet"
  | 1 => .object "RingHerd$Ledger"
  | 2 => .array (.object "RingHerd$Grain")
  | 3 => .int
  | 4 => .int
  | 5 => .int
  | _ => .int
abbrev wsX30 : List Cond := u_ws RX3 TX3 7
theorem nmX3 : ∀ a, a < 7 → ∀ b, b < 7 → a ≠ b → (TX3 a).2.1 ≠ (TX3 b).2.1 := by decide +kernel
theorem tyX3_ok : ∀ k, k < 7 → parseFieldDescriptor (TX3 k).2.2.1 = some (tyX3 k) := by decide +kernel
abbrev cX3_init : ByteArray := prog_5_method_1_code
def yX3_init : MethodName := ⟨RX3, "<init>", "()V"⟩
abbrev cX3_put : ByteArray := prog_5_method_2_code
def yX3_put : MethodName := ⟨RX3, "put", "(IIII)I"⟩
abbrev cX3_countThere : ByteArray := prog_5_method_3_code
def yX3_countThere : MethodName := ⟨RX3, "countThere", "()I"⟩
abbrev cX3_massThere : ByteArray := prog_5_method_4_code
def yX3_massThere : MethodName := ⟨RX3, "massThere", "()I"⟩
abbrev cX3_momentumThere : ByteArray := prog_5_method_5_code
def yX3_momentumThere : MethodName := ⟨RX3, "momentumThere", "()J"⟩
abbrev cX3_weighLanes : ByteArray := prog_5_method_6_code
def yX3_weighLanes : MethodName := ⟨RX3, "weighLanes", "([I)V"⟩
abbrev cX3_goRound : ByteArray := prog_5_method_7_code
def yX3_goRound : MethodName := ⟨RX3, "goRound", "()V"⟩
abbrev cX3_yieldTo : ByteArray := prog_5_method_8_code
def yX3_yieldTo : MethodName := ⟨RX3, "yieldTo", "(LRingHerd$Moon;)V"⟩
abbrev cX3_meetAll : ByteArray := prog_5_method_9_code
def yX3_meetAll : MethodName := ⟨RX3, "meetAll", "()V"⟩
abbrev cX3_darken : ByteArray := prog_5_method_10_code
def yX3_darken : MethodName := ⟨RX3, "darken", "()V"⟩
abbrev cX3_partnerOf : ByteArray := prog_5_method_11_code
def yX3_partnerOf : MethodName := ⟨RX3, "partnerOf", "(II)I"⟩
abbrev cX3_meet : ByteArray := prog_5_method_12_code
def yX3_meet : MethodName := ⟨RX3, "meet", "(LRingHerd$Grain;LRingHerd$Grain;)V"⟩
abbrev cX3_stick : ByteArray := prog_5_method_13_code
def yX3_stick : MethodName := ⟨RX3, "stick", "(LRingHerd$Grain;LRingHerd$Grain;)V"⟩
abbrev cX3_blend : ByteArray := prog_5_method_14_code
def yX3_blend : MethodName := ⟨RX3, "blend", "(LRingHerd$Grain;ILRingHerd$Grain;I)I"⟩
abbrev cX3_breakUp : ByteArray := prog_5_method_15_code
def yX3_breakUp : MethodName := ⟨RX3, "breakUp", "(LRingHerd$Grain;)V"⟩
abbrev cX3_bump : ByteArray := prog_5_method_16_code
def yX3_bump : MethodName := ⟨RX3, "bump", "(LRingHerd$Grain;LRingHerd$Grain;)V"⟩
abbrev cX3_shift : ByteArray := prog_5_method_17_code
def yX3_shift : MethodName := ⟨RX3, "shift", "(LRingHerd$Grain;I)V"⟩
def RX4 : String := "RingHerd$Ledger"
def TX4 : u_T := fun k => match k with
  | 0 => ("RingHerd$Ledger", "stuck", "I", false)
  | 1 => ("RingHerd$Ledger", "broken", "I", false)
  | 2 => ("RingHerd$Ledger", "bumps", "I", false)
  | 3 => ("RingHerd$Ledger", "rained", "I", false)
  | 4 => ("RingHerd$Ledger", "escaped", "I", false)
  | 5 => ("RingHerd$Ledger", "putMass", "I", false)
  | 6 => ("RingHerd$Ledger", "rainedMass", "I", false)
  | 7 => ("RingHerd$Ledger", "escapedMass", "I", false)
  | 8 => ("RingHerd$Ledger", "putMomentum", "J", false)
  | 9 => ("RingHerd$Ledger", "rainedMomentum", "J", false)
  | 10 => ("RingHerd$Ledger", "escapedMomentum", "J", false)
  | 11 => ("RingHerd$Ledger", "givenByMoons", "J", false)
  | _ => ("RingHerd$Ledger", "heat", "J", false)
def tyX4 : Nat → FieldType := fun k => match k with
  | 0 => .int
  | 1 => .int
  | 2 => .int
  | 3 => .int
  | 4 => .int
  | 5 => .int
  | 6 => .int
  | 7 => .int
  | 8 => .long
  | 9 => .long
  | 10 => .long
  | 11 => .long
  | _ => .long
abbrev wsX40 : List Cond := u_ws RX4 TX4 13
theorem nmX4 : ∀ a, a < 13 → ∀ b, b < 13 → a ≠ b → (TX4 a).2.1 ≠ (TX4 b).2.1 := by decide +kernel
theorem tyX4_ok : ∀ k, k < 13 → parseFieldDescriptor (TX4 k).2.2.1 = some (tyX4 k) := by decide +kernel
abbrev cX4_init : ByteArray := prog_6_method_1_code
def yX4_init : MethodName := ⟨RX4, "<init>", "()V"⟩
def RX5 : String := "RingHerd$Moon"
def TX5 : u_T := fun k => match k with
  | 0 => ("RingHerd$Moon", "lane", "I", false)
  | 1 => ("RingHerd$Moon", "angle", "I", false)
  | _ => ("RingHerd$Moon", "width", "I", false)
def tyX5 : Nat → FieldType := fun k => match k with
  | 0 => .int
  | 1 => .int
  | _ => .int
abbrev wsX50 : List Cond := u_ws RX5 TX5 3
theorem nmX5 : ∀ a, a < 3 → ∀ b, b < 3 → a ≠ b → (TX5 a).2.1 ≠ (TX5 b).2.1 := by decide +kernel
theorem tyX5_ok : ∀ k, k < 3 → parseFieldDescriptor (TX5 k).2.2.1 = some (tyX5 k) := by decide +kernel
abbrev cX5_init : ByteArray := prog_7_method_1_code
def yX5_init : MethodName := ⟨RX5, "<init>", "()V"⟩
def RX6 : String := "RingHerd$Planet"
def TX6 : u_T := fun k => match k with
  | _ => ("RingHerd$Planet", "flatness", "I", false)
def tyX6 : Nat → FieldType := fun k => match k with
  | _ => .int
abbrev wsX60 : List Cond := u_ws RX6 TX6 1
theorem nmX6 : ∀ a, a < 1 → ∀ b, b < 1 → a ≠ b → (TX6 a).2.1 ≠ (TX6 b).2.1 := by decide +kernel
theorem tyX6_ok : ∀ k, k < 1 → parseFieldDescriptor (TX6 k).2.2.1 = some (tyX6 k) := by decide +kernel
abbrev cX6_init : ByteArray := prog_8_method_1_code
def yX6_init : MethodName := ⟨RX6, "<init>", "()V"⟩
abbrev cX6_speedIn : ByteArray := prog_8_method_2_code
def yX6_speedIn : MethodName := ⟨RX6, "speedIn", "(I)I"⟩
def RX7 : String := "RingHerd"
def TX7 : u_T := fun k => match k with
  | 0 => ("RingHerd", "herd", "LRingHerd$Herd;", true)
  | 1 => ("RingHerd", "moons", "[LRingHerd$Moon;", true)
  | 2 => ("RingHerd", "moonCount", "I", false)
  | 3 => ("RingHerd", "frames", "[LRingHerd$Frame;", true)
  | 4 => ("RingHerd", "frameCount", "I", false)
  | 5 => ("RingHerd", "claims", "[LRingHerd$Claim;", true)
  | 6 => ("RingHerd", "claimCount", "I", false)
  | 7 => ("RingHerd", "ticksGone", "I", false)
  | 8 => ("RingHerd", "laneMasses", "[I", true)
  | 9 => ("RingHerd", "gapFirsts", "[I", true)
  | _ => ("RingHerd", "gapLasts", "[I", true)
def tyX7 : Nat → FieldType := fun k => match k with
  | 0 => .object "RingHerd$Herd"
  | 1 => .array (.object "RingHerd$Moon")
  | 2 => .int
  | 3 => .array (.object "RingHerd$Frame")
  | 4 => .int
  | 5 => .array (.object "RingHerd$Claim")
  | 6 => .int
  | 7 => .int
  | 8 => .array .int
  | 9 => .array .int
  | _ => .array .int
abbrev wsX70 : List Cond := u_ws RX7 TX7 11
theorem nmX7 : ∀ a, a < 11 → ∀ b, b < 11 → a ≠ b → (TX7 a).2.1 ≠ (TX7 b).2.1 := by decide +kernel
theorem tyX7_ok : ∀ k, k < 11 → parseFieldDescriptor (TX7 k).2.2.1 = some (tyX7 k) := by decide +kernel
abbrev cX7_init : ByteArray := prog_1_method_1_code
def yX7_init : MethodName := ⟨RX7, "<init>", "()V"⟩
abbrev cX7_grain : ByteArray := prog_1_method_2_code
def yX7_grain : MethodName := ⟨RX7, "grain", "(IIII)I"⟩
abbrev cX7_moon : ByteArray := prog_1_method_3_code
def yX7_moon : MethodName := ⟨RX7, "moon", "(III)I"⟩
abbrev cX7_flatness : ByteArray := prog_1_method_4_code
def yX7_flatness : MethodName := ⟨RX7, "flatness", "(I)I"⟩
abbrev cX7_bounds : ByteArray := prog_1_method_5_code
def yX7_bounds : MethodName := ⟨RX7, "bounds", "(III)V"⟩
abbrev cX7_tick : ByteArray := prog_1_method_6_code
def yX7_tick : MethodName := ⟨RX7, "tick", "(I)I"⟩
abbrev cX7_frame : ByteArray := prog_1_method_7_code
def yX7_frame : MethodName := ⟨RX7, "frame", "()I"⟩
abbrev cX7_claim : ByteArray := prog_1_method_8_code
def yX7_claim : MethodName := ⟨RX7, "claim", "(IIII)I"⟩
abbrev cX7_now : ByteArray := prog_1_method_9_code
def yX7_now : MethodName := ⟨RX7, "now", "()I"⟩
abbrev cX7_told : ByteArray := prog_1_method_10_code
def yX7_told : MethodName := ⟨RX7, "told", "(II)I"⟩
abbrev cX7_angle : ByteArray := prog_1_method_11_code
def yX7_angle : MethodName := ⟨RX7, "angle", "(I)I"⟩
abbrev cX7_speed : ByteArray := prog_1_method_12_code
def yX7_speed : MethodName := ⟨RX7, "speed", "(I)I"⟩
abbrev cX7_count : ByteArray := prog_1_method_13_code
def yX7_count : MethodName := ⟨RX7, "count", "(I)I"⟩
abbrev cX7_mass : ByteArray := prog_1_method_14_code
def yX7_mass : MethodName := ⟨RX7, "mass", "(I)I"⟩
abbrev cX7_sum : ByteArray := prog_1_method_15_code
def yX7_sum : MethodName := ⟨RX7, "sum", "(I)I"⟩
abbrev cX7_momentum : ByteArray := prog_1_method_16_code
def yX7_momentum : MethodName := ⟨RX7, "momentum", "(I)J"⟩
abbrev cX7_momentumByLanes : ByteArray := prog_1_method_17_code
def yX7_momentumByLanes : MethodName := ⟨RX7, "momentumByLanes", "()J"⟩
abbrev cX7_resonance : ByteArray := prog_1_method_18_code
def yX7_resonance : MethodName := ⟨RX7, "resonance", "(II)I"⟩
abbrev cX7_gap : ByteArray := prog_1_method_19_code
def yX7_gap : MethodName := ⟨RX7, "gap", "(II)I"⟩
abbrev cX7_gaps : ByteArray := prog_1_method_20_code
def yX7_gaps : MethodName := ⟨RX7, "gaps", "()I"⟩
abbrev cX7_framed : ByteArray := prog_1_method_21_code
def yX7_framed : MethodName := ⟨RX7, "framed", "(II)I"⟩
abbrev cX7_holds : ByteArray := prog_1_method_22_code
def yX7_holds : MethodName := ⟨RX7, "holds", "(II)Z"⟩
abbrev cX7_disputes : ByteArray := prog_1_method_23_code
def yX7_disputes : MethodName := ⟨RX7, "disputes", "(I)I"⟩
abbrev cX7_requireRange : ByteArray := prog_1_method_24_code
def yX7_requireRange : MethodName := ⟨RX7, "requireRange", "(III)V"⟩
abbrev cX7_requireLane : ByteArray := prog_1_method_25_code
def yX7_requireLane : MethodName := ⟨RX7, "requireLane", "(I)V"⟩
abbrev cX7_requirePlace : ByteArray := prog_1_method_26_code
def yX7_requirePlace : MethodName := ⟨RX7, "requirePlace", "(III)V"⟩
abbrev cX7_requireNumber : ByteArray := prog_1_method_27_code
def yX7_requireNumber : MethodName := ⟨RX7, "requireNumber", "(II)V"⟩
abbrev cX7_radiusOf : ByteArray := prog_1_method_28_code
def yX7_radiusOf : MethodName := ⟨RX7, "radiusOf", "(I)I"⟩
abbrev cX7_turned : ByteArray := prog_1_method_29_code
def yX7_turned : MethodName := ⟨RX7, "turned", "(II)I"⟩
abbrev cX7_anglesApart : ByteArray := prog_1_method_30_code
def yX7_anglesApart : MethodName := ⟨RX7, "anglesApart", "(II)I"⟩
abbrev cX7_widthOf : ByteArray := prog_1_method_31_code
def yX7_widthOf : MethodName := ⟨RX7, "widthOf", "(I)I"⟩
abbrev cX7_passTick : ByteArray := prog_1_method_32_code
def yX7_passTick : MethodName := ⟨RX7, "passTick", "()V"⟩
abbrev cX7_ratioOf : ByteArray := prog_1_method_33_code
def yX7_ratioOf : MethodName := ⟨RX7, "ratioOf", "(LRingHerd$Moon;II)I"⟩
abbrev cX7_inTune : ByteArray := prog_1_method_34_code
def yX7_inTune : MethodName := ⟨RX7, "inTune", "(II)Z"⟩
abbrev cX7_surveyGaps : ByteArray := prog_1_method_35_code
def yX7_surveyGaps : MethodName := ⟨RX7, "surveyGaps", "()I"⟩
abbrev cX7_keeperOf : ByteArray := prog_1_method_36_code
def yX7_keeperOf : MethodName := ⟨RX7, "keeperOf", "(II)I"⟩
def RX8 : String := "RingHerdModel"
def TX8 : u_T := fun k => match k with
  | 0 => ("RingHerdModel", "thrown", "I", false)
  | 1 => ("RingHerdModel", "now", "I", false)
  | 2 => ("RingHerdModel", "flatness", "I", false)
  | 3 => ("RingHerdModel", "first", "I", false)
  | 4 => ("RingHerdModel", "second", "I", false)
  | 5 => ("RingHerdModel", "spring", "I", false)
  | 6 => ("RingHerdModel", "grains", "I", false)
  | 7 => ("RingHerdModel", "lanes", "[I", true)
  | 8 => ("RingHerdModel", "angles", "[I", true)
  | 9 => ("RingHerdModel", "masses", "[I", true)
  | 10 => ("RingHerdModel", "unrests", "[I", true)
  | 11 => ("RingHerdModel", "darks", "[I", true)
  | 12 => ("RingHerdModel", "areThere", "[Z", true)
  | 13 => ("RingHerdModel", "haveMet", "[Z", true)
  | 14 => ("RingHerdModel", "moons", "I", false)
  | 15 => ("RingHerdModel", "moonLanes", "[I", true)
  | 16 => ("RingHerdModel", "moonAngles", "[I", true)
  | 17 => ("RingHerdModel", "moonMasses", "[I", true)
  | 18 => ("RingHerdModel", "stuck", "I", false)
  | 19 => ("RingHerdModel", "broke", "I", false)
  | 20 => ("RingHerdModel", "bumps", "I", false)
  | 21 => ("RingHerdModel", "rained", "I", false)
  | 22 => ("RingHerdModel", "escaped", "I", false)
  | 23 => ("RingHerdModel", "rainedMass", "I", false)
  | 24 => ("RingHerdModel", "escapedMass", "I", false)
  | 25 => ("RingHerdModel", "putMass", "I", false)
  | 26 => ("RingHerdModel", "putMomentum", "J", false)
  | 27 => ("RingHerdModel", "given", "J", false)
  | 28 => ("RingHerdModel", "heat", "J", false)
  | 29 => ("RingHerdModel", "frames", "I", false)
  | 30 => ("RingHerdModel", "framed", "[I", true)
  | 31 => ("RingHerdModel", "frameTicks", "[I", true)
  | 32 => ("RingHerdModel", "claims", "I", false)
  | 33 => ("RingHerdModel", "claimFrames", "[I", true)
  | 34 => ("RingHerdModel", "claimFrom", "[I", true)
  | 35 => ("RingHerdModel", "claimTo", "[I", true)
  | _ => ("RingHerdModel", "claimMost", "[I", true)
def tyX8 : Nat → FieldType := fun k => match k with
  | 0 => .int
  | 1 => .int
  | 2 => .int
  | 3 => .int
  | 4 => .int
  | 5 => .int
  | 6 => .int
  | 7 => .array .int
  | 8 => .array .int
  | 9 => .array .int
  | 10 => .array .int
  | 11 => .array .int
  | 12 => .array .boolean
  | 13 => .array .boolean
  | 14 => .int
  | 15 => .array .int
  | 16 => .array .int
  | 17 => .array .int
  | 18 => .int
  | 19 => .int
  | 20 => .int
  | 21 => .int
  | 22 => .int
  | 23 => .int
  | 24 => .int
  | 25 => .int
  | 26 => .long
  | 27 => .long
  | 28 => .long
  | 29 => .int
  | 30 => .array .int
  | 31 => .array .int
  | 32 => .int
  | 33 => .array .int
  | 34 => .array .int
  | 35 => .array .int
  | _ => .array .int
abbrev wsX80 : List Cond := u_ws RX8 TX8 37
theorem nmX8 : ∀ a, a < 37 → ∀ b, b < 37 → a ≠ b → (TX8 a).2.1 ≠ (TX8 b).2.1 := by decide +kernel
theorem tyX8_ok : ∀ k, k < 37 → parseFieldDescriptor (TX8 k).2.2.1 = some (tyX8 k) := by decide +kernel
abbrev cX8_init : ByteArray := prog_10_method_1_code
def yX8_init : MethodName := ⟨RX8, "<init>", "()V"⟩
abbrev cX8_thrown : ByteArray := prog_10_method_2_code
def yX8_thrown : MethodName := ⟨RX8, "thrown", "()I"⟩
abbrev cX8_isIn : ByteArray := prog_10_method_3_code
def yX8_isIn : MethodName := ⟨RX8, "isIn", "(III)Z"⟩
abbrev cX8_isLane : ByteArray := prog_10_method_4_code
def yX8_isLane : MethodName := ⟨RX8, "isLane", "(I)Z"⟩
abbrev cX8_grain : ByteArray := prog_10_method_5_code
def yX8_grain : MethodName := ⟨RX8, "grain", "(IIII)I"⟩
abbrev cX8_adds : ByteArray := prog_10_method_6_code
def yX8_adds : MethodName := ⟨RX8, "adds", "(IIIII)I"⟩
abbrev cX8_moon : ByteArray := prog_10_method_7_code
def yX8_moon : MethodName := ⟨RX8, "moon", "(III)I"⟩
abbrev cX8_flatness : ByteArray := prog_10_method_8_code
def yX8_flatness : MethodName := ⟨RX8, "flatness", "(I)I"⟩
abbrev cX8_bounds : ByteArray := prog_10_method_9_code
def yX8_bounds : MethodName := ⟨RX8, "bounds", "(III)V"⟩
abbrev cX8_speedOf : ByteArray := prog_10_method_10_code
def yX8_speedOf : MethodName := ⟨RX8, "speedOf", "(I)I"⟩
abbrev cX8_size : ByteArray := prog_10_method_11_code
def yX8_size : MethodName := ⟨RX8, "size", "(I)I"⟩
abbrev cX8_apart : ByteArray := prog_10_method_12_code
def yX8_apart : MethodName := ⟨RX8, "apart", "(II)I"⟩
abbrev cX8_momentumOf : ByteArray := prog_10_method_13_code
def yX8_momentumOf : MethodName := ⟨RX8, "momentumOf", "(I)J"⟩
abbrev cX8_goes : ByteArray := prog_10_method_14_code
def yX8_goes : MethodName := ⟨RX8, "goes", "(II)V"⟩
abbrev cX8_widthOf : ByteArray := prog_10_method_15_code
def yX8_widthOf : MethodName := ⟨RX8, "widthOf", "(I)I"⟩
abbrev cX8_pushes : ByteArray := prog_10_method_16_code
def yX8_pushes : MethodName := ⟨RX8, "pushes", "(I)V"⟩
abbrev cX8_sticks : ByteArray := prog_10_method_17_code
def yX8_sticks : MethodName := ⟨RX8, "sticks", "(II)V"⟩
abbrev cX8_breaks : ByteArray := prog_10_method_18_code
def yX8_breaks : MethodName := ⟨RX8, "breaks", "(I)V"⟩
abbrev cX8_parts : ByteArray := prog_10_method_19_code
def yX8_parts : MethodName := ⟨RX8, "parts", "(II)V"⟩
abbrev cX8_meets : ByteArray := prog_10_method_20_code
def yX8_meets : MethodName := ⟨RX8, "meets", "(II)V"⟩
abbrev cX8_canMeet : ByteArray := prog_10_method_21_code
def yX8_canMeet : MethodName := ⟨RX8, "canMeet", "(II)Z"⟩
abbrev cX8_goOn : ByteArray := prog_10_method_22_code
def yX8_goOn : MethodName := ⟨RX8, "goOn", "()V"⟩
abbrev cX8_tick : ByteArray := prog_10_method_23_code
def yX8_tick : MethodName := ⟨RX8, "tick", "(I)I"⟩
abbrev cX8_massOf : ByteArray := prog_10_method_24_code
def yX8_massOf : MethodName := ⟨RX8, "massOf", "(I)I"⟩
abbrev cX8_frame : ByteArray := prog_10_method_25_code
def yX8_frame : MethodName := ⟨RX8, "frame", "()I"⟩
abbrev cX8_isFrame : ByteArray := prog_10_method_26_code
def yX8_isFrame : MethodName := ⟨RX8, "isFrame", "(I)Z"⟩
abbrev cX8_claim : ByteArray := prog_10_method_27_code
def yX8_claim : MethodName := ⟨RX8, "claim", "(IIII)I"⟩
abbrev cX8_now : ByteArray := prog_10_method_28_code
def yX8_now : MethodName := ⟨RX8, "now", "()I"⟩
abbrev cX8_told : ByteArray := prog_10_method_29_code
def yX8_told : MethodName := ⟨RX8, "told", "(II)I"⟩
abbrev cX8_angle : ByteArray := prog_10_method_30_code
def yX8_angle : MethodName := ⟨RX8, "angle", "(I)I"⟩
abbrev cX8_speed : ByteArray := prog_10_method_31_code
def yX8_speed : MethodName := ⟨RX8, "speed", "(I)I"⟩
abbrev cX8_there : ByteArray := prog_10_method_32_code
def yX8_there : MethodName := ⟨RX8, "there", "()I"⟩
abbrev cX8_count : ByteArray := prog_10_method_33_code
def yX8_count : MethodName := ⟨RX8, "count", "(I)I"⟩
abbrev cX8_mass : ByteArray := prog_10_method_34_code
def yX8_mass : MethodName := ⟨RX8, "mass", "(I)I"⟩
abbrev cX8_sum : ByteArray := prog_10_method_35_code
def yX8_sum : MethodName := ⟨RX8, "sum", "(I)I"⟩
abbrev cX8_momentumNow : ByteArray := prog_10_method_36_code
def yX8_momentumNow : MethodName := ⟨RX8, "momentumNow", "()J"⟩
abbrev cX8_momentum : ByteArray := prog_10_method_37_code
def yX8_momentum : MethodName := ⟨RX8, "momentum", "(I)J"⟩
abbrev cX8_momentumByLanes : ByteArray := prog_10_method_38_code
def yX8_momentumByLanes : MethodName := ⟨RX8, "momentumByLanes", "()J"⟩
abbrev cX8_resonanceOf : ByteArray := prog_10_method_39_code
def yX8_resonanceOf : MethodName := ⟨RX8, "resonanceOf", "(II)I"⟩
abbrev cX8_resonance : ByteArray := prog_10_method_40_code
def yX8_resonance : MethodName := ⟨RX8, "resonance", "(II)I"⟩
abbrev cX8_isEmpty : ByteArray := prog_10_method_41_code
def yX8_isEmpty : MethodName := ⟨RX8, "isEmpty", "(I)Z"⟩
abbrev cX8_gapFrom : ByteArray := prog_10_method_42_code
def yX8_gapFrom : MethodName := ⟨RX8, "gapFrom", "(I)I"⟩
abbrev cX8_endOf : ByteArray := prog_10_method_43_code
def yX8_endOf : MethodName := ⟨RX8, "endOf", "(I)I"⟩
abbrev cX8_gapAt : ByteArray := prog_10_method_44_code
def yX8_gapAt : MethodName := ⟨RX8, "gapAt", "(I)I"⟩
abbrev cX8_isNear : ByteArray := prog_10_method_45_code
def yX8_isNear : MethodName := ⟨RX8, "isNear", "(II)Z"⟩
abbrev cX8_keeper : ByteArray := prog_10_method_46_code
def yX8_keeper : MethodName := ⟨RX8, "keeper", "(II)I"⟩
abbrev cX8_gap : ByteArray := prog_10_method_47_code
def yX8_gap : MethodName := ⟨RX8, "gap", "(II)I"⟩
abbrev cX8_gaps : ByteArray := prog_10_method_48_code
def yX8_gaps : MethodName := ⟨RX8, "gaps", "()I"⟩
abbrev cX8_framed : ByteArray := prog_10_method_49_code
def yX8_framed : MethodName := ⟨RX8, "framed", "(II)I"⟩
abbrev cX8_holdsBy : ByteArray := prog_10_method_50_code
def yX8_holdsBy : MethodName := ⟨RX8, "holdsBy", "(II)Z"⟩
abbrev cX8_isClaim : ByteArray := prog_10_method_51_code
def yX8_isClaim : MethodName := ⟨RX8, "isClaim", "(I)Z"⟩
abbrev cX8_holds : ByteArray := prog_10_method_52_code
def yX8_holds : MethodName := ⟨RX8, "holds", "(II)Z"⟩
abbrev cX8_disputes : ByteArray := prog_10_method_53_code
def yX8_disputes : MethodName := ⟨RX8, "disputes", "(I)I"⟩
def RJ9 : String := "java/lang/Math"
def TJ9 : u_T := fun k => match k with
  | _ => ("", "", "", false)
def tyJ9 : Nat → FieldType := fun k => match k with
  | _ => .int
abbrev wsJ90 : List Cond := u_ws RJ9 TJ9 0
theorem nmJ9 : ∀ a, a < 0 → ∀ b, b < 0 → a ≠ b → (TJ9 a).2.1 ≠ (TJ9 b).2.1 := by decide +kernel
theorem tyJ9_ok : ∀ k, k < 0 → parseFieldDescriptor (TJ9 k).2.2.1 = some (tyJ9 k) := by decide +kernel
abbrev cJ9_abs_0f7a4 : ByteArray := prog_15_method_59_code
def yJ9_abs_0f7a4 : MethodName := ⟨RJ9, "abs", "(I)I"⟩
abbrev cJ9_min_7cf53 : ByteArray := prog_15_method_69_code
def yJ9_min_7cf53 : MethodName := ⟨RJ9, "min", "(II)I"⟩
def RJ0 : String := "java/lang/String"
def TJ0 : u_T := fun k => match k with
  | _ => ("", "", "", false)
def tyJ0 : Nat → FieldType := fun k => match k with
  | _ => .int
abbrev wsJ00 : List Cond := u_ws RJ0 TJ0 0
theorem nmJ0 : ∀ a, a < 0 → ∀ b, b < 0 → a ≠ b → (TJ0 a).2.1 ≠ (TJ0 b).2.1 := by decide +kernel
theorem tyJ0_ok : ∀ k, k < 0 → parseFieldDescriptor (TJ0 k).2.2.1 = some (tyJ0 k) := by decide +kernel
def RL : String := "RingHerdLaw"
abbrev cL_grain : ByteArray := method_3_code
def yL_grain : MethodName := ⟨RL, "grain", "(LRingHerd;IIII[J)I"⟩
abbrev cL_moon : ByteArray := method_4_code
def yL_moon : MethodName := ⟨RL, "moon", "(LRingHerd;III[J)I"⟩
abbrev cL_flatness : ByteArray := method_5_code
def yL_flatness : MethodName := ⟨RL, "flatness", "(LRingHerd;I[J)I"⟩
abbrev cL_bounds : ByteArray := method_6_code
def yL_bounds : MethodName := ⟨RL, "bounds", "(LRingHerd;III)I"⟩
abbrev cL_tick : ByteArray := method_7_code
def yL_tick : MethodName := ⟨RL, "tick", "(LRingHerd;I[J)I"⟩
abbrev cL_frame : ByteArray := method_8_code
def yL_frame : MethodName := ⟨RL, "frame", "(LRingHerd;[J)I"⟩
abbrev cL_claim : ByteArray := method_9_code
def yL_claim : MethodName := ⟨RL, "claim", "(LRingHerd;IIII[J)I"⟩
abbrev cL_told : ByteArray := method_10_code
def yL_told : MethodName := ⟨RL, "told", "(LRingHerd;II[J)I"⟩
abbrev cL_angle : ByteArray := method_11_code
def yL_angle : MethodName := ⟨RL, "angle", "(LRingHerd;I[J)I"⟩
abbrev cL_speed : ByteArray := method_12_code
def yL_speed : MethodName := ⟨RL, "speed", "(LRingHerd;I[J)I"⟩
abbrev cL_count : ByteArray := method_13_code
def yL_count : MethodName := ⟨RL, "count", "(LRingHerd;I[J)I"⟩
abbrev cL_mass : ByteArray := method_14_code
def yL_mass : MethodName := ⟨RL, "mass", "(LRingHerd;I[J)I"⟩
abbrev cL_sum : ByteArray := method_15_code
def yL_sum : MethodName := ⟨RL, "sum", "(LRingHerd;I[J)I"⟩
abbrev cL_momentum : ByteArray := method_16_code
def yL_momentum : MethodName := ⟨RL, "momentum", "(LRingHerd;I[J)I"⟩
abbrev cL_resonance : ByteArray := method_17_code
def yL_resonance : MethodName := ⟨RL, "resonance", "(LRingHerd;II[J)I"⟩
abbrev cL_gap : ByteArray := method_18_code
def yL_gap : MethodName := ⟨RL, "gap", "(LRingHerd;II[J)I"⟩
abbrev cL_framed : ByteArray := method_19_code
def yL_framed : MethodName := ⟨RL, "framed", "(LRingHerd;II[J)I"⟩
abbrev cL_holds : ByteArray := method_20_code
def yL_holds : MethodName := ⟨RL, "holds", "(LRingHerd;II[J)I"⟩
abbrev cL_disputes : ByteArray := method_21_code
def yL_disputes : MethodName := ⟨RL, "disputes", "(LRingHerd;I[J)I"⟩
abbrev cL_law : ByteArray := code
def yL_law : MethodName := ⟨RL, "law", "([I)Z"⟩
abbrev vwCl : List vw_C := [(RX0, TX0, 4), (RX1, TX1, 2), (RX2, TX2, 7), (RX3, TX3, 7), (RX4, TX4, 13), (RX5, TX5, 3), (RX6, TX6, 1), (RX7, TX7, 11), (RX8, TX8, 37)]
end
section
/-- all the words of the tables that stay good: every method's list is its own code and these -/
def aw : List Cond := lw_tbl.filter goodWord
theorem aw_i (i : Nat) {w : Cond} (h : lw_tbl[i]? = some w) (hg : goodWord w = true) : w ∈ aw := List.mem_filter.mpr ⟨List.mem_of_getElem? h, hg⟩
theorem m_0 : (Cond.initialized "RingHerdLaw") ∈ aw := aw_i 35 (by decide +kernel) (by decide +kernel)
theorem m_1 : (Cond.initialized "RingHerd") ∈ aw := aw_i 36 (by decide +kernel) (by decide +kernel)
theorem m_2 : (Cond.initialized "RingHerd$Herd") ∈ aw := aw_i 37 (by decide +kernel) (by decide +kernel)
theorem m_3 : (Cond.initialized "RingHerd$Planet") ∈ aw := aw_i 38 (by decide +kernel) (by decide +kernel)
theorem m_4 : (Cond.initialized "RingHerd$Ledger") ∈ aw := aw_i 39 (by decide +kernel) (by decide +kernel)
theorem m_5 : (Cond.initialized "RingHerd$Grain") ∈ aw := aw_i 40 (by decide +kernel) (by decide +kernel)
theorem m_6 : (Cond.initialized "RingHerd$Moon") ∈ aw := aw_i 41 (by decide +kernel) (by decide +kernel)
theorem m_7 : (Cond.initialized "RingHerd$Frame") ∈ aw := aw_i 42 (by decide +kernel) (by decide +kernel)
theorem m_8 : (Cond.initialized "RingHerd$Claim") ∈ aw := aw_i 43 (by decide +kernel) (by decide +kernel)
theorem m_9 : (Cond.initialized "RingHerdModel") ∈ aw := aw_i 44 (by decide +kernel) (by decide +kernel)
theorem m_10 : (Cond.initialized "java/lang/Throwable") ∈ aw := aw_i 45 (by decide +kernel) (by decide +kernel)
theorem m_11 : (Cond.initialized "java/lang/Exception") ∈ aw := aw_i 46 (by decide +kernel) (by decide +kernel)
theorem m_12 : (Cond.initialized "java/lang/RuntimeException") ∈ aw := aw_i 47 (by decide +kernel) (by decide +kernel)
theorem m_13 : (Cond.initialized "java/lang/IllegalArgumentException") ∈ aw := aw_i 48 (by decide +kernel) (by decide +kernel)
theorem m_14 : (Cond.initialized "java/lang/IllegalStateException") ∈ aw := aw_i 49 (by decide +kernel) (by decide +kernel)
theorem m_15 : (Cond.initialized "java/lang/Math") ∈ aw := aw_i 50 (by decide +kernel) (by decide +kernel)
theorem m_16 : (Cond.initialized "java/lang/IndexOutOfBoundsException") ∈ aw := aw_i 51 (by decide +kernel) (by decide +kernel)
theorem m_17 : (Cond.classLink "RingHerdLaw" (8 : Nat) "RingHerd") ∈ aw := aw_i 52 (by decide +kernel) (by decide +kernel)
theorem m_18 : (Cond.instantiable "RingHerd" (11 : Nat)) ∈ aw := aw_i 53 (by decide +kernel) (by decide +kernel)
theorem m_19 : (Cond.methodLink "RingHerdLaw" (80 : Nat) ({ cls := "RingHerd", name := "<init>", desc := "()V" } : Jvm.MethodName)) ∈ aw := aw_i 54 (by decide +kernel) (by decide +kernel)
theorem m_20 : (Cond.instanceMethod ({ cls := "RingHerd", name := "<init>", desc := "()V" } : Jvm.MethodName)) ∈ aw := aw_i 55 (by decide +kernel) (by decide +kernel)
theorem m_21 : (Cond.code ({ cls := "RingHerd", name := "<init>", desc := "()V" } : Jvm.MethodName) prog_1_method_1_code (2 : Nat) (Option.none : Option Jvm.ClassFile.FieldType)) ∈ aw := aw_i 56 (by decide +kernel) (by decide +kernel)
theorem m_22 : (Cond.methodLink "RingHerd" (3 : Nat) ({ cls := "java/lang/Object", name := "<init>", desc := "()V" } : Jvm.MethodName)) ∈ aw := aw_i 57 (by decide +kernel) (by decide +kernel)
theorem m_23 : (Cond.instanceMethod ({ cls := "java/lang/Object", name := "<init>", desc := "()V" } : Jvm.MethodName)) ∈ aw := aw_i 58 (by decide +kernel) (by decide +kernel)
theorem m_24 : (Cond.code ({ cls := "java/lang/Object", name := "<init>", desc := "()V" } : Jvm.MethodName) object_method_1_code (1 : Nat) (Option.none : Option Jvm.ClassFile.FieldType)) ∈ aw := aw_i 59 (by decide +kernel) (by decide +kernel)
theorem m_25 : (Cond.classLink "RingHerd" (9 : Nat) "RingHerd$Herd") ∈ aw := aw_i 60 (by decide +kernel) (by decide +kernel)
theorem m_26 : (Cond.instantiable "RingHerd$Herd" (7 : Nat)) ∈ aw := aw_i 61 (by decide +kernel) (by decide +kernel)
theorem m_27 : (Cond.methodLink "RingHerd" (11 : Nat) ({ cls := "RingHerd$Herd", name := "<init>", desc := "()V" } : Jvm.MethodName)) ∈ aw := aw_i 62 (by decide +kernel) (by decide +kernel)
theorem m_28 : (Cond.instanceMethod ({ cls := "RingHerd$Herd", name := "<init>", desc := "()V" } : Jvm.MethodName)) ∈ aw := aw_i 63 (by decide +kernel) (by decide +kernel)
theorem m_29 : (Cond.code ({ cls := "RingHerd$Herd", name := "<init>", desc := "()V" } : Jvm.MethodName) prog_5_method_1_code (2 : Nat) (Option.none : Option Jvm.ClassFile.FieldType)) ∈ aw := aw_i 64 (by decide +kernel) (by decide +kernel)
theorem m_30 : (Cond.methodLink "RingHerd$Herd" (3 : Nat) ({ cls := "java/lang/Object", name := "<init>", desc := "()V" } : Jvm.MethodName)) ∈ aw := aw_i 65 (by decide +kernel) (by decide +kernel)
theorem m_31 : (Cond.classLink "RingHerd$Herd" (9 : Nat) "RingHerd$Planet") ∈ aw := aw_i 66 (by decide +kernel) (by decide +kernel)
theorem m_32 : (Cond.instantiable "RingHerd$Planet" (1 : Nat)) ∈ aw := aw_i 67 (by decide +kernel) (by decide +kernel)
theorem m_34 : (Cond.instanceMethod ({ cls := "RingHerd$Planet", name := "<init>", desc := "()V" } : Jvm.MethodName)) ∈ aw := aw_i 69 (by decide +kernel) (by decide +kernel)
theorem m_35 : (Cond.code ({ cls := "RingHerd$Planet", name := "<init>", desc := "()V" } : Jvm.MethodName) prog_8_method_1_code (1 : Nat) (Option.none : Option Jvm.ClassFile.FieldType)) ∈ aw := aw_i 70 (by decide +kernel) (by decide +kernel)
theorem m_36 : (Cond.methodLink "RingHerd$Planet" (3 : Nat) ({ cls := "java/lang/Object", name := "<init>", desc := "()V" } : Jvm.MethodName)) ∈ aw := aw_i 71 (by decide +kernel) (by decide +kernel)
theorem m_37 : (Cond.fieldLink "RingHerd$Planet" (14 : Nat) "RingHerd$Planet" "flatness" "I") ∈ aw := aw_i 72 (by decide +kernel) (by decide +kernel)
theorem m_38 : (Cond.fieldLink "RingHerd" (91 : Nat) "RingHerd$Planet" "flatness" "I") ∈ aw := aw_i 73 (by decide +kernel) (by decide +kernel)
theorem m_39 : (Cond.lays "RingHerd$Planet" "RingHerd$Planet" "flatness" "I") ∈ aw := aw_i 74 (by decide +kernel) (by decide +kernel)
theorem m_42 : (Cond.classLink "RingHerd$Herd" (18 : Nat) "RingHerd$Ledger") ∈ aw := aw_i 77 (by decide +kernel) (by decide +kernel)
theorem m_43 : (Cond.instantiable "RingHerd$Ledger" (13 : Nat)) ∈ aw := aw_i 78 (by decide +kernel) (by decide +kernel)
theorem m_45 : (Cond.instanceMethod ({ cls := "RingHerd$Ledger", name := "<init>", desc := "()V" } : Jvm.MethodName)) ∈ aw := aw_i 80 (by decide +kernel) (by decide +kernel)
theorem m_46 : (Cond.code ({ cls := "RingHerd$Ledger", name := "<init>", desc := "()V" } : Jvm.MethodName) prog_6_method_1_code (1 : Nat) (Option.none : Option Jvm.ClassFile.FieldType)) ∈ aw := aw_i 81 (by decide +kernel) (by decide +kernel)
theorem m_47 : (Cond.methodLink "RingHerd$Ledger" (1 : Nat) ({ cls := "java/lang/Object", name := "<init>", desc := "()V" } : Jvm.MethodName)) ∈ aw := aw_i 82 (by decide +kernel) (by decide +kernel)
theorem m_48 : (Cond.fieldLink "RingHerd" (191 : Nat) "RingHerd$Ledger" "stuck" "I") ∈ aw := aw_i 83 (by decide +kernel) (by decide +kernel)
theorem m_49 : (Cond.fieldLink "RingHerd$Herd" (137 : Nat) "RingHerd$Ledger" "stuck" "I") ∈ aw := aw_i 84 (by decide +kernel) (by decide +kernel)
theorem m_50 : (Cond.fieldLink "RingHerd" (196 : Nat) "RingHerd$Ledger" "broken" "I") ∈ aw := aw_i 85 (by decide +kernel) (by decide +kernel)
theorem m_51 : (Cond.fieldLink "RingHerd$Herd" (143 : Nat) "RingHerd$Ledger" "broken" "I") ∈ aw := aw_i 86 (by decide +kernel) (by decide +kernel)
theorem m_52 : (Cond.fieldLink "RingHerd" (199 : Nat) "RingHerd$Ledger" "bumps" "I") ∈ aw := aw_i 87 (by decide +kernel) (by decide +kernel)
theorem m_53 : (Cond.fieldLink "RingHerd$Herd" (146 : Nat) "RingHerd$Ledger" "bumps" "I") ∈ aw := aw_i 88 (by decide +kernel) (by decide +kernel)
theorem m_54 : (Cond.fieldLink "RingHerd" (202 : Nat) "RingHerd$Ledger" "rained" "I") ∈ aw := aw_i 89 (by decide +kernel) (by decide +kernel)
theorem m_55 : (Cond.fieldLink "RingHerd$Herd" (149 : Nat) "RingHerd$Ledger" "rained" "I") ∈ aw := aw_i 90 (by decide +kernel) (by decide +kernel)
theorem m_56 : (Cond.fieldLink "RingHerd" (205 : Nat) "RingHerd$Ledger" "escaped" "I") ∈ aw := aw_i 91 (by decide +kernel) (by decide +kernel)
theorem m_57 : (Cond.fieldLink "RingHerd$Herd" (158 : Nat) "RingHerd$Ledger" "escaped" "I") ∈ aw := aw_i 92 (by decide +kernel) (by decide +kernel)
theorem m_58 : (Cond.fieldLink "RingHerd$Herd" (61 : Nat) "RingHerd$Ledger" "putMass" "I") ∈ aw := aw_i 93 (by decide +kernel) (by decide +kernel)
theorem m_59 : (Cond.fieldLink "RingHerd" (219 : Nat) "RingHerd$Ledger" "putMass" "I") ∈ aw := aw_i 94 (by decide +kernel) (by decide +kernel)
theorem m_60 : (Cond.fieldLink "RingHerd" (213 : Nat) "RingHerd$Ledger" "rainedMass" "I") ∈ aw := aw_i 95 (by decide +kernel) (by decide +kernel)
theorem m_61 : (Cond.fieldLink "RingHerd$Herd" (152 : Nat) "RingHerd$Ledger" "rainedMass" "I") ∈ aw := aw_i 96 (by decide +kernel) (by decide +kernel)
theorem m_62 : (Cond.fieldLink "RingHerd" (216 : Nat) "RingHerd$Ledger" "escapedMass" "I") ∈ aw := aw_i 97 (by decide +kernel) (by decide +kernel)
theorem m_63 : (Cond.fieldLink "RingHerd$Herd" (161 : Nat) "RingHerd$Ledger" "escapedMass" "I") ∈ aw := aw_i 98 (by decide +kernel) (by decide +kernel)
theorem m_64 : (Cond.fieldLink "RingHerd$Herd" (64 : Nat) "RingHerd$Ledger" "putMomentum" "J") ∈ aw := aw_i 99 (by decide +kernel) (by decide +kernel)
theorem m_65 : (Cond.fieldLink "RingHerd" (235 : Nat) "RingHerd$Ledger" "putMomentum" "J") ∈ aw := aw_i 100 (by decide +kernel) (by decide +kernel)
theorem m_66 : (Cond.fieldLink "RingHerd" (228 : Nat) "RingHerd$Ledger" "rainedMomentum" "J") ∈ aw := aw_i 101 (by decide +kernel) (by decide +kernel)
theorem m_67 : (Cond.fieldLink "RingHerd$Herd" (155 : Nat) "RingHerd$Ledger" "rainedMomentum" "J") ∈ aw := aw_i 102 (by decide +kernel) (by decide +kernel)
theorem m_68 : (Cond.fieldLink "RingHerd" (232 : Nat) "RingHerd$Ledger" "escapedMomentum" "J") ∈ aw := aw_i 103 (by decide +kernel) (by decide +kernel)
theorem m_69 : (Cond.fieldLink "RingHerd$Herd" (164 : Nat) "RingHerd$Ledger" "escapedMomentum" "J") ∈ aw := aw_i 104 (by decide +kernel) (by decide +kernel)
theorem m_70 : (Cond.fieldLink "RingHerd$Herd" (100 : Nat) "RingHerd$Ledger" "givenByMoons" "J") ∈ aw := aw_i 105 (by decide +kernel) (by decide +kernel)
theorem m_71 : (Cond.fieldLink "RingHerd" (238 : Nat) "RingHerd$Ledger" "givenByMoons" "J") ∈ aw := aw_i 106 (by decide +kernel) (by decide +kernel)
theorem m_72 : (Cond.fieldLink "RingHerd$Herd" (140 : Nat) "RingHerd$Ledger" "heat" "J") ∈ aw := aw_i 107 (by decide +kernel) (by decide +kernel)
theorem m_73 : (Cond.fieldLink "RingHerd" (241 : Nat) "RingHerd$Ledger" "heat" "J") ∈ aw := aw_i 108 (by decide +kernel) (by decide +kernel)
theorem m_74 : (Cond.lays "RingHerd$Ledger" "RingHerd$Ledger" "stuck" "I") ∈ aw := aw_i 109 (by decide +kernel) (by decide +kernel)
theorem m_76 : (Cond.lays "RingHerd$Ledger" "RingHerd$Ledger" "broken" "I") ∈ aw := aw_i 111 (by decide +kernel) (by decide +kernel)
theorem m_78 : (Cond.lays "RingHerd$Ledger" "RingHerd$Ledger" "bumps" "I") ∈ aw := aw_i 113 (by decide +kernel) (by decide +kernel)
theorem m_80 : (Cond.lays "RingHerd$Ledger" "RingHerd$Ledger" "rained" "I") ∈ aw := aw_i 115 (by decide +kernel) (by decide +kernel)
theorem m_82 : (Cond.lays "RingHerd$Ledger" "RingHerd$Ledger" "escaped" "I") ∈ aw := aw_i 117 (by decide +kernel) (by decide +kernel)
theorem m_84 : (Cond.lays "RingHerd$Ledger" "RingHerd$Ledger" "putMass" "I") ∈ aw := aw_i 119 (by decide +kernel) (by decide +kernel)
theorem m_86 : (Cond.lays "RingHerd$Ledger" "RingHerd$Ledger" "rainedMass" "I") ∈ aw := aw_i 121 (by decide +kernel) (by decide +kernel)
theorem m_88 : (Cond.lays "RingHerd$Ledger" "RingHerd$Ledger" "escapedMass" "I") ∈ aw := aw_i 123 (by decide +kernel) (by decide +kernel)
theorem m_90 : (Cond.lays "RingHerd$Ledger" "RingHerd$Ledger" "putMomentum" "J") ∈ aw := aw_i 125 (by decide +kernel) (by decide +kernel)
theorem m_92 : (Cond.lays "RingHerd$Ledger" "RingHerd$Ledger" "rainedMomentum" "J") ∈ aw := aw_i 127 (by decide +kernel) (by decide +kernel)
theorem m_94 : (Cond.lays "RingHerd$Ledger" "RingHerd$Ledger" "escapedMomentum" "J") ∈ aw := aw_i 129 (by decide +kernel) (by decide +kernel)
theorem m_96 : (Cond.lays "RingHerd$Ledger" "RingHerd$Ledger" "givenByMoons" "J") ∈ aw := aw_i 131 (by decide +kernel) (by decide +kernel)
theorem m_98 : (Cond.lays "RingHerd$Ledger" "RingHerd$Ledger" "heat" "J") ∈ aw := aw_i 133 (by decide +kernel) (by decide +kernel)
theorem m_101 : (Cond.classLink "RingHerd$Herd" (25 : Nat) "RingHerd$Grain") ∈ aw := aw_i 136 (by decide +kernel) (by decide +kernel)
theorem m_103 : (Cond.instantiable "RingHerd$Grain" (7 : Nat)) ∈ aw := aw_i 138 (by decide +kernel) (by decide +kernel)
theorem m_105 : (Cond.instanceMethod ({ cls := "RingHerd$Grain", name := "<init>", desc := "()V" } : Jvm.MethodName)) ∈ aw := aw_i 140 (by decide +kernel) (by decide +kernel)
theorem m_106 : (Cond.code ({ cls := "RingHerd$Grain", name := "<init>", desc := "()V" } : Jvm.MethodName) prog_4_method_1_code (1 : Nat) (Option.none : Option Jvm.ClassFile.FieldType)) ∈ aw := aw_i 141 (by decide +kernel) (by decide +kernel)
theorem m_107 : (Cond.methodLink "RingHerd$Grain" (3 : Nat) ({ cls := "java/lang/Object", name := "<init>", desc := "()V" } : Jvm.MethodName)) ∈ aw := aw_i 142 (by decide +kernel) (by decide +kernel)
theorem m_108 : (Cond.fieldLink "RingHerd$Grain" (15 : Nat) "RingHerd$Grain" "lane" "I") ∈ aw := aw_i 143 (by decide +kernel) (by decide +kernel)
theorem m_109 : (Cond.fieldLink "RingHerd$Herd" (45 : Nat) "RingHerd$Grain" "lane" "I") ∈ aw := aw_i 144 (by decide +kernel) (by decide +kernel)
theorem m_110 : (Cond.fieldLink "RingHerd" (158 : Nat) "RingHerd$Grain" "lane" "I") ∈ aw := aw_i 145 (by decide +kernel) (by decide +kernel)
theorem m_111 : (Cond.fieldLink "RingHerd$Herd" (48 : Nat) "RingHerd$Grain" "angle" "I") ∈ aw := aw_i 146 (by decide +kernel) (by decide +kernel)
theorem m_112 : (Cond.fieldLink "RingHerd$Grain" (24 : Nat) "RingHerd$Grain" "angle" "I") ∈ aw := aw_i 147 (by decide +kernel) (by decide +kernel)
theorem m_113 : (Cond.fieldLink "RingHerd" (161 : Nat) "RingHerd$Grain" "angle" "I") ∈ aw := aw_i 148 (by decide +kernel) (by decide +kernel)
theorem m_114 : (Cond.fieldLink "RingHerd$Grain" (9 : Nat) "RingHerd$Grain" "mass" "I") ∈ aw := aw_i 149 (by decide +kernel) (by decide +kernel)
theorem m_115 : (Cond.fieldLink "RingHerd$Herd" (51 : Nat) "RingHerd$Grain" "mass" "I") ∈ aw := aw_i 150 (by decide +kernel) (by decide +kernel)
theorem m_116 : (Cond.fieldLink "RingHerd" (162 : Nat) "RingHerd$Grain" "mass" "I") ∈ aw := aw_i 151 (by decide +kernel) (by decide +kernel)
theorem m_117 : (Cond.fieldLink "RingHerd$Herd" (54 : Nat) "RingHerd$Grain" "unrest" "I") ∈ aw := aw_i 152 (by decide +kernel) (by decide +kernel)
theorem m_118 : (Cond.fieldLink "RingHerd" (165 : Nat) "RingHerd$Grain" "unrest" "I") ∈ aw := aw_i 153 (by decide +kernel) (by decide +kernel)
theorem m_119 : (Cond.fieldLink "RingHerd$Herd" (117 : Nat) "RingHerd$Grain" "darkness" "I") ∈ aw := aw_i 154 (by decide +kernel) (by decide +kernel)
theorem m_120 : (Cond.fieldLink "RingHerd" (168 : Nat) "RingHerd$Grain" "darkness" "I") ∈ aw := aw_i 155 (by decide +kernel) (by decide +kernel)
theorem m_121 : (Cond.fieldLink "RingHerd$Herd" (57 : Nat) "RingHerd$Grain" "there" "Z") ∈ aw := aw_i 156 (by decide +kernel) (by decide +kernel)
theorem m_122 : (Cond.fieldLink "RingHerd$Grain" (31 : Nat) "RingHerd$Grain" "there" "Z") ∈ aw := aw_i 157 (by decide +kernel) (by decide +kernel)
theorem m_123 : (Cond.fieldLink "RingHerd" (171 : Nat) "RingHerd$Grain" "there" "Z") ∈ aw := aw_i 158 (by decide +kernel) (by decide +kernel)
theorem m_124 : (Cond.fieldLink "RingHerd$Grain" (35 : Nat) "RingHerd$Grain" "met" "Z") ∈ aw := aw_i 159 (by decide +kernel) (by decide +kernel)
theorem m_125 : (Cond.fieldLink "RingHerd$Herd" (103 : Nat) "RingHerd$Grain" "met" "Z") ∈ aw := aw_i 160 (by decide +kernel) (by decide +kernel)
theorem m_126 : (Cond.lays "RingHerd$Grain" "RingHerd$Grain" "lane" "I") ∈ aw := aw_i 161 (by decide +kernel) (by decide +kernel)
theorem m_128 : (Cond.lays "RingHerd$Grain" "RingHerd$Grain" "angle" "I") ∈ aw := aw_i 163 (by decide +kernel) (by decide +kernel)
theorem m_130 : (Cond.lays "RingHerd$Grain" "RingHerd$Grain" "mass" "I") ∈ aw := aw_i 165 (by decide +kernel) (by decide +kernel)
theorem m_132 : (Cond.lays "RingHerd$Grain" "RingHerd$Grain" "unrest" "I") ∈ aw := aw_i 167 (by decide +kernel) (by decide +kernel)
theorem m_134 : (Cond.lays "RingHerd$Grain" "RingHerd$Grain" "darkness" "I") ∈ aw := aw_i 169 (by decide +kernel) (by decide +kernel)
theorem m_136 : (Cond.lays "RingHerd$Grain" "RingHerd$Grain" "there" "Z") ∈ aw := aw_i 171 (by decide +kernel) (by decide +kernel)
theorem m_138 : (Cond.lays "RingHerd$Grain" "RingHerd$Grain" "met" "Z") ∈ aw := aw_i 173 (by decide +kernel) (by decide +kernel)
theorem m_141 : (Cond.fieldLink "RingHerd$Herd" (12 : Nat) "RingHerd$Herd" "planet" "LRingHerd$Planet;") ∈ aw := aw_i 176 (by decide +kernel) (by decide +kernel)
theorem m_142 : (Cond.fieldLink "RingHerd" (87 : Nat) "RingHerd$Herd" "planet" "LRingHerd$Planet;") ∈ aw := aw_i 177 (by decide +kernel) (by decide +kernel)
theorem m_143 : (Cond.fieldLink "RingHerd$Herd" (21 : Nat) "RingHerd$Herd" "ledger" "LRingHerd$Ledger;") ∈ aw := aw_i 178 (by decide +kernel) (by decide +kernel)
theorem m_144 : (Cond.fieldLink "RingHerd" (187 : Nat) "RingHerd$Herd" "ledger" "LRingHerd$Ledger;") ∈ aw := aw_i 179 (by decide +kernel) (by decide +kernel)
theorem m_145 : (Cond.fieldLink "RingHerd$Herd" (27 : Nat) "RingHerd$Herd" "grains" "[LRingHerd$Grain;") ∈ aw := aw_i 180 (by decide +kernel) (by decide +kernel)
theorem m_146 : (Cond.fieldLink "RingHerd" (154 : Nat) "RingHerd$Herd" "grains" "[LRingHerd$Grain;") ∈ aw := aw_i 181 (by decide +kernel) (by decide +kernel)
theorem m_147 : (Cond.fieldLink "RingHerd$Herd" (42 : Nat) "RingHerd$Herd" "grainCount" "I") ∈ aw := aw_i 182 (by decide +kernel) (by decide +kernel)
theorem m_148 : (Cond.fieldLink "RingHerd" (54 : Nat) "RingHerd$Herd" "grainCount" "I") ∈ aw := aw_i 183 (by decide +kernel) (by decide +kernel)
theorem m_149 : (Cond.fieldLink "RingHerd$Herd" (32 : Nat) "RingHerd$Herd" "firstBound" "I") ∈ aw := aw_i 184 (by decide +kernel) (by decide +kernel)
theorem m_150 : (Cond.fieldLink "RingHerd" (96 : Nat) "RingHerd$Herd" "firstBound" "I") ∈ aw := aw_i 185 (by decide +kernel) (by decide +kernel)
theorem m_151 : (Cond.fieldLink "RingHerd$Herd" (36 : Nat) "RingHerd$Herd" "secondBound" "I") ∈ aw := aw_i 186 (by decide +kernel) (by decide +kernel)
theorem m_152 : (Cond.fieldLink "RingHerd" (99 : Nat) "RingHerd$Herd" "secondBound" "I") ∈ aw := aw_i 187 (by decide +kernel) (by decide +kernel)
theorem m_153 : (Cond.fieldLink "RingHerd$Herd" (39 : Nat) "RingHerd$Herd" "spring" "I") ∈ aw := aw_i 188 (by decide +kernel) (by decide +kernel)
theorem m_154 : (Cond.fieldLink "RingHerd" (102 : Nat) "RingHerd$Herd" "spring" "I") ∈ aw := aw_i 189 (by decide +kernel) (by decide +kernel)
theorem m_155 : (Cond.laysFinal "RingHerd$Herd" "RingHerd$Herd" "planet" "LRingHerd$Planet;") ∈ aw := aw_i 190 (by decide +kernel) (by decide +kernel)
theorem m_157 : (Cond.laysFinal "RingHerd$Herd" "RingHerd$Herd" "ledger" "LRingHerd$Ledger;") ∈ aw := aw_i 192 (by decide +kernel) (by decide +kernel)
theorem m_159 : (Cond.laysFinal "RingHerd$Herd" "RingHerd$Herd" "grains" "[LRingHerd$Grain;") ∈ aw := aw_i 194 (by decide +kernel) (by decide +kernel)
theorem m_161 : (Cond.lays "RingHerd$Herd" "RingHerd$Herd" "grainCount" "I") ∈ aw := aw_i 196 (by decide +kernel) (by decide +kernel)
theorem m_163 : (Cond.lays "RingHerd$Herd" "RingHerd$Herd" "firstBound" "I") ∈ aw := aw_i 198 (by decide +kernel) (by decide +kernel)
theorem m_165 : (Cond.lays "RingHerd$Herd" "RingHerd$Herd" "secondBound" "I") ∈ aw := aw_i 200 (by decide +kernel) (by decide +kernel)
theorem m_167 : (Cond.lays "RingHerd$Herd" "RingHerd$Herd" "spring" "I") ∈ aw := aw_i 202 (by decide +kernel) (by decide +kernel)
theorem m_170 : (Cond.classLink "RingHerd" (16 : Nat) "RingHerd$Moon") ∈ aw := aw_i 205 (by decide +kernel) (by decide +kernel)
theorem m_172 : (Cond.instantiable "RingHerd$Moon" (3 : Nat)) ∈ aw := aw_i 207 (by decide +kernel) (by decide +kernel)
theorem m_174 : (Cond.instanceMethod ({ cls := "RingHerd$Moon", name := "<init>", desc := "()V" } : Jvm.MethodName)) ∈ aw := aw_i 209 (by decide +kernel) (by decide +kernel)
theorem m_175 : (Cond.code ({ cls := "RingHerd$Moon", name := "<init>", desc := "()V" } : Jvm.MethodName) prog_7_method_1_code (1 : Nat) (Option.none : Option Jvm.ClassFile.FieldType)) ∈ aw := aw_i 210 (by decide +kernel) (by decide +kernel)
theorem m_176 : (Cond.methodLink "RingHerd$Moon" (1 : Nat) ({ cls := "java/lang/Object", name := "<init>", desc := "()V" } : Jvm.MethodName)) ∈ aw := aw_i 211 (by decide +kernel) (by decide +kernel)
theorem m_177 : (Cond.fieldLink "RingHerd" (74 : Nat) "RingHerd$Moon" "lane" "I") ∈ aw := aw_i 212 (by decide +kernel) (by decide +kernel)
theorem m_178 : (Cond.fieldLink "RingHerd$Herd" (80 : Nat) "RingHerd$Moon" "lane" "I") ∈ aw := aw_i 213 (by decide +kernel) (by decide +kernel)
theorem m_179 : (Cond.fieldLink "RingHerd" (77 : Nat) "RingHerd$Moon" "angle" "I") ∈ aw := aw_i 214 (by decide +kernel) (by decide +kernel)
theorem m_180 : (Cond.fieldLink "RingHerd$Herd" (83 : Nat) "RingHerd$Moon" "angle" "I") ∈ aw := aw_i 215 (by decide +kernel) (by decide +kernel)
theorem m_181 : (Cond.fieldLink "RingHerd" (84 : Nat) "RingHerd$Moon" "width" "I") ∈ aw := aw_i 216 (by decide +kernel) (by decide +kernel)
theorem m_182 : (Cond.fieldLink "RingHerd$Herd" (84 : Nat) "RingHerd$Moon" "width" "I") ∈ aw := aw_i 217 (by decide +kernel) (by decide +kernel)
theorem m_183 : (Cond.lays "RingHerd$Moon" "RingHerd$Moon" "lane" "I") ∈ aw := aw_i 218 (by decide +kernel) (by decide +kernel)
theorem m_185 : (Cond.lays "RingHerd$Moon" "RingHerd$Moon" "angle" "I") ∈ aw := aw_i 220 (by decide +kernel) (by decide +kernel)
theorem m_187 : (Cond.lays "RingHerd$Moon" "RingHerd$Moon" "width" "I") ∈ aw := aw_i 222 (by decide +kernel) (by decide +kernel)
theorem m_190 : (Cond.classLink "RingHerd" (23 : Nat) "RingHerd$Frame") ∈ aw := aw_i 225 (by decide +kernel) (by decide +kernel)
theorem m_192 : (Cond.instantiable "RingHerd$Frame" (2 : Nat)) ∈ aw := aw_i 227 (by decide +kernel) (by decide +kernel)
theorem m_194 : (Cond.instanceMethod ({ cls := "RingHerd$Frame", name := "<init>", desc := "()V" } : Jvm.MethodName)) ∈ aw := aw_i 229 (by decide +kernel) (by decide +kernel)
theorem m_195 : (Cond.code ({ cls := "RingHerd$Frame", name := "<init>", desc := "()V" } : Jvm.MethodName) prog_3_method_1_code (1 : Nat) (Option.none : Option Jvm.ClassFile.FieldType)) ∈ aw := aw_i 230 (by decide +kernel) (by decide +kernel)
theorem m_196 : (Cond.methodLink "RingHerd$Frame" (3 : Nat) ({ cls := "java/lang/Object", name := "<init>", desc := "()V" } : Jvm.MethodName)) ∈ aw := aw_i 231 (by decide +kernel) (by decide +kernel)
theorem m_197 : (Cond.fieldLink "RingHerd$Frame" (9 : Nat) "RingHerd$Frame" "masses" "[I") ∈ aw := aw_i 232 (by decide +kernel) (by decide +kernel)
theorem m_198 : (Cond.fieldLink "RingHerd$Claim" (18 : Nat) "RingHerd$Frame" "masses" "[I") ∈ aw := aw_i 233 (by decide +kernel) (by decide +kernel)
theorem m_199 : (Cond.fieldLink "RingHerd" (121 : Nat) "RingHerd$Frame" "masses" "[I") ∈ aw := aw_i 234 (by decide +kernel) (by decide +kernel)
theorem m_200 : (Cond.fieldLink "RingHerd" (118 : Nat) "RingHerd$Frame" "takenAt" "I") ∈ aw := aw_i 235 (by decide +kernel) (by decide +kernel)
theorem m_201 : (Cond.laysFinal "RingHerd$Frame" "RingHerd$Frame" "masses" "[I") ∈ aw := aw_i 236 (by decide +kernel) (by decide +kernel)
theorem m_203 : (Cond.lays "RingHerd$Frame" "RingHerd$Frame" "takenAt" "I") ∈ aw := aw_i 238 (by decide +kernel) (by decide +kernel)
theorem m_206 : (Cond.arrayClass Jvm.ClassFile.FieldType.int) ∈ aw := aw_i 241 (by decide +kernel) (by decide +kernel)
theorem m_207 : (Cond.classLink "RingHerd" (30 : Nat) "RingHerd$Claim") ∈ aw := aw_i 242 (by decide +kernel) (by decide +kernel)
theorem m_209 : (Cond.instantiable "RingHerd$Claim" (4 : Nat)) ∈ aw := aw_i 244 (by decide +kernel) (by decide +kernel)
theorem m_211 : (Cond.instanceMethod ({ cls := "RingHerd$Claim", name := "<init>", desc := "()V" } : Jvm.MethodName)) ∈ aw := aw_i 246 (by decide +kernel) (by decide +kernel)
theorem m_212 : (Cond.code ({ cls := "RingHerd$Claim", name := "<init>", desc := "()V" } : Jvm.MethodName) prog_2_method_1_code (1 : Nat) (Option.none : Option Jvm.ClassFile.FieldType)) ∈ aw := aw_i 247 (by decide +kernel) (by decide +kernel)
theorem m_213 : (Cond.methodLink "RingHerd$Claim" (3 : Nat) ({ cls := "java/lang/Object", name := "<init>", desc := "()V" } : Jvm.MethodName)) ∈ aw := aw_i 248 (by decide +kernel) (by decide +kernel)
theorem m_214 : (Cond.fieldLink "RingHerd" (142 : Nat) "RingHerd$Claim" "frame" "I") ∈ aw := aw_i 249 (by decide +kernel) (by decide +kernel)
theorem m_215 : (Cond.fieldLink "RingHerd$Claim" (9 : Nat) "RingHerd$Claim" "from" "I") ∈ aw := aw_i 250 (by decide +kernel) (by decide +kernel)
theorem m_216 : (Cond.fieldLink "RingHerd" (145 : Nat) "RingHerd$Claim" "from" "I") ∈ aw := aw_i 251 (by decide +kernel) (by decide +kernel)
theorem m_217 : (Cond.fieldLink "RingHerd$Claim" (15 : Nat) "RingHerd$Claim" "to" "I") ∈ aw := aw_i 252 (by decide +kernel) (by decide +kernel)
theorem m_218 : (Cond.fieldLink "RingHerd" (148 : Nat) "RingHerd$Claim" "to" "I") ∈ aw := aw_i 253 (by decide +kernel) (by decide +kernel)
theorem m_219 : (Cond.fieldLink "RingHerd$Claim" (24 : Nat) "RingHerd$Claim" "most" "I") ∈ aw := aw_i 254 (by decide +kernel) (by decide +kernel)
theorem m_220 : (Cond.fieldLink "RingHerd" (151 : Nat) "RingHerd$Claim" "most" "I") ∈ aw := aw_i 255 (by decide +kernel) (by decide +kernel)
theorem m_221 : (Cond.lays "RingHerd$Claim" "RingHerd$Claim" "frame" "I") ∈ aw := aw_i 256 (by decide +kernel) (by decide +kernel)
theorem m_223 : (Cond.lays "RingHerd$Claim" "RingHerd$Claim" "from" "I") ∈ aw := aw_i 258 (by decide +kernel) (by decide +kernel)
theorem m_225 : (Cond.lays "RingHerd$Claim" "RingHerd$Claim" "to" "I") ∈ aw := aw_i 260 (by decide +kernel) (by decide +kernel)
theorem m_227 : (Cond.lays "RingHerd$Claim" "RingHerd$Claim" "most" "I") ∈ aw := aw_i 262 (by decide +kernel) (by decide +kernel)
theorem m_230 : (Cond.fieldLink "RingHerd" (12 : Nat) "RingHerd" "herd" "LRingHerd$Herd;") ∈ aw := aw_i 265 (by decide +kernel) (by decide +kernel)
theorem m_231 : (Cond.fieldLink "RingHerd" (18 : Nat) "RingHerd" "moons" "[LRingHerd$Moon;") ∈ aw := aw_i 266 (by decide +kernel) (by decide +kernel)
theorem m_232 : (Cond.fieldLink "RingHerd" (69 : Nat) "RingHerd" "moonCount" "I") ∈ aw := aw_i 267 (by decide +kernel) (by decide +kernel)
theorem m_233 : (Cond.fieldLink "RingHerd" (25 : Nat) "RingHerd" "frames" "[LRingHerd$Frame;") ∈ aw := aw_i 268 (by decide +kernel) (by decide +kernel)
theorem m_234 : (Cond.fieldLink "RingHerd" (113 : Nat) "RingHerd" "frameCount" "I") ∈ aw := aw_i 269 (by decide +kernel) (by decide +kernel)
theorem m_235 : (Cond.fieldLink "RingHerd" (32 : Nat) "RingHerd" "claims" "[LRingHerd$Claim;") ∈ aw := aw_i 270 (by decide +kernel) (by decide +kernel)
theorem m_236 : (Cond.fieldLink "RingHerd" (137 : Nat) "RingHerd" "claimCount" "I") ∈ aw := aw_i 271 (by decide +kernel) (by decide +kernel)
theorem m_237 : (Cond.fieldLink "RingHerd" (105 : Nat) "RingHerd" "ticksGone" "I") ∈ aw := aw_i 272 (by decide +kernel) (by decide +kernel)
theorem m_238 : (Cond.fieldLink "RingHerd" (37 : Nat) "RingHerd" "laneMasses" "[I") ∈ aw := aw_i 273 (by decide +kernel) (by decide +kernel)
theorem m_239 : (Cond.fieldLink "RingHerd" (41 : Nat) "RingHerd" "gapFirsts" "[I") ∈ aw := aw_i 274 (by decide +kernel) (by decide +kernel)
theorem m_240 : (Cond.fieldLink "RingHerd" (44 : Nat) "RingHerd" "gapLasts" "[I") ∈ aw := aw_i 275 (by decide +kernel) (by decide +kernel)
theorem m_241 : (Cond.laysFinal "RingHerd" "RingHerd" "herd" "LRingHerd$Herd;") ∈ aw := aw_i 276 (by decide +kernel) (by decide +kernel)
theorem m_243 : (Cond.laysFinal "RingHerd" "RingHerd" "moons" "[LRingHerd$Moon;") ∈ aw := aw_i 278 (by decide +kernel) (by decide +kernel)
theorem m_245 : (Cond.lays "RingHerd" "RingHerd" "moonCount" "I") ∈ aw := aw_i 280 (by decide +kernel) (by decide +kernel)
theorem m_247 : (Cond.laysFinal "RingHerd" "RingHerd" "frames" "[LRingHerd$Frame;") ∈ aw := aw_i 282 (by decide +kernel) (by decide +kernel)
theorem m_249 : (Cond.lays "RingHerd" "RingHerd" "frameCount" "I") ∈ aw := aw_i 284 (by decide +kernel) (by decide +kernel)
theorem m_251 : (Cond.laysFinal "RingHerd" "RingHerd" "claims" "[LRingHerd$Claim;") ∈ aw := aw_i 286 (by decide +kernel) (by decide +kernel)
theorem m_253 : (Cond.lays "RingHerd" "RingHerd" "claimCount" "I") ∈ aw := aw_i 288 (by decide +kernel) (by decide +kernel)
theorem m_255 : (Cond.lays "RingHerd" "RingHerd" "ticksGone" "I") ∈ aw := aw_i 290 (by decide +kernel) (by decide +kernel)
theorem m_257 : (Cond.laysFinal "RingHerd" "RingHerd" "laneMasses" "[I") ∈ aw := aw_i 292 (by decide +kernel) (by decide +kernel)
theorem m_259 : (Cond.laysFinal "RingHerd" "RingHerd" "gapFirsts" "[I") ∈ aw := aw_i 294 (by decide +kernel) (by decide +kernel)
theorem m_261 : (Cond.laysFinal "RingHerd" "RingHerd" "gapLasts" "[I") ∈ aw := aw_i 296 (by decide +kernel) (by decide +kernel)
theorem m_264 : (Cond.methodLink "RingHerdLaw" (115 : Nat) ({ cls := "RingHerd", name := "now", desc := "()I" } : Jvm.MethodName)) ∈ aw := aw_i 299 (by decide +kernel) (by decide +kernel)
theorem m_265 : (Cond.instanceMethod ({ cls := "RingHerd", name := "now", desc := "()I" } : Jvm.MethodName)) ∈ aw := aw_i 300 (by decide +kernel) (by decide +kernel)
theorem m_266 : (Cond.selects "RingHerd" ({ cls := "RingHerd", name := "now", desc := "()I" } : Jvm.MethodName) ({ cls := "RingHerd", name := "now", desc := "()I" } : Jvm.MethodName)) ∈ aw := aw_i 301 (by decide +kernel) (by decide +kernel)
theorem m_267 : (Cond.code ({ cls := "RingHerd", name := "now", desc := "()I" } : Jvm.MethodName) prog_1_method_9_code (1 : Nat) (Option.some Jvm.ClassFile.FieldType.int)) ∈ aw := aw_i 302 (by decide +kernel) (by decide +kernel)
theorem m_268 : (Cond.methodLink "RingHerdLaw" (141 : Nat) ({ cls := "RingHerd", name := "momentumByLanes", desc := "()J" } : Jvm.MethodName)) ∈ aw := aw_i 303 (by decide +kernel) (by decide +kernel)
theorem m_269 : (Cond.instanceMethod ({ cls := "RingHerd", name := "momentumByLanes", desc := "()J" } : Jvm.MethodName)) ∈ aw := aw_i 304 (by decide +kernel) (by decide +kernel)
theorem m_270 : (Cond.selects "RingHerd" ({ cls := "RingHerd", name := "momentumByLanes", desc := "()J" } : Jvm.MethodName) ({ cls := "RingHerd", name := "momentumByLanes", desc := "()J" } : Jvm.MethodName)) ∈ aw := aw_i 305 (by decide +kernel) (by decide +kernel)
theorem m_271 : (Cond.code ({ cls := "RingHerd", name := "momentumByLanes", desc := "()J" } : Jvm.MethodName) prog_1_method_17_code (4 : Nat) (Option.some Jvm.ClassFile.FieldType.long)) ∈ aw := aw_i 306 (by decide +kernel) (by decide +kernel)
theorem m_272 : (Cond.methodLink "RingHerd" (124 : Nat) ({ cls := "RingHerd$Herd", name := "weighLanes", desc := "([I)V" } : Jvm.MethodName)) ∈ aw := aw_i 307 (by decide +kernel) (by decide +kernel)
theorem m_273 : (Cond.instanceMethod ({ cls := "RingHerd$Herd", name := "weighLanes", desc := "([I)V" } : Jvm.MethodName)) ∈ aw := aw_i 308 (by decide +kernel) (by decide +kernel)
theorem m_274 : (Cond.selects "RingHerd$Herd" ({ cls := "RingHerd$Herd", name := "weighLanes", desc := "([I)V" } : Jvm.MethodName) ({ cls := "RingHerd$Herd", name := "weighLanes", desc := "([I)V" } : Jvm.MethodName)) ∈ aw := aw_i 309 (by decide +kernel) (by decide +kernel)
theorem m_275 : (Cond.code ({ cls := "RingHerd$Herd", name := "weighLanes", desc := "([I)V" } : Jvm.MethodName) prog_5_method_6_code (6 : Nat) (Option.none : Option Jvm.ClassFile.FieldType)) ∈ aw := aw_i 310 (by decide +kernel) (by decide +kernel)
theorem m_276 : (Cond.methodLink "RingHerd" (244 : Nat) ({ cls := "RingHerd", name := "radiusOf", desc := "(I)I" } : Jvm.MethodName)) ∈ aw := aw_i 311 (by decide +kernel) (by decide +kernel)
theorem m_277 : (Cond.static ({ cls := "RingHerd", name := "radiusOf", desc := "(I)I" } : Jvm.MethodName)) ∈ aw := aw_i 312 (by decide +kernel) (by decide +kernel)
theorem m_278 : (Cond.code ({ cls := "RingHerd", name := "radiusOf", desc := "(I)I" } : Jvm.MethodName) prog_1_method_28_code (1 : Nat) (Option.some Jvm.ClassFile.FieldType.int)) ∈ aw := aw_i 313 (by decide +kernel) (by decide +kernel)
theorem m_279 : (Cond.methodLink "RingHerdLaw" (152 : Nat) ({ cls := "RingHerd", name := "gaps", desc := "()I" } : Jvm.MethodName)) ∈ aw := aw_i 314 (by decide +kernel) (by decide +kernel)
theorem m_280 : (Cond.instanceMethod ({ cls := "RingHerd", name := "gaps", desc := "()I" } : Jvm.MethodName)) ∈ aw := aw_i 315 (by decide +kernel) (by decide +kernel)
theorem m_281 : (Cond.selects "RingHerd" ({ cls := "RingHerd", name := "gaps", desc := "()I" } : Jvm.MethodName) ({ cls := "RingHerd", name := "gaps", desc := "()I" } : Jvm.MethodName)) ∈ aw := aw_i 316 (by decide +kernel) (by decide +kernel)
theorem m_282 : (Cond.code ({ cls := "RingHerd", name := "gaps", desc := "()I" } : Jvm.MethodName) prog_1_method_20_code (1 : Nat) (Option.some Jvm.ClassFile.FieldType.int)) ∈ aw := aw_i 317 (by decide +kernel) (by decide +kernel)
theorem m_283 : (Cond.methodLink "RingHerd" (251 : Nat) ({ cls := "RingHerd", name := "surveyGaps", desc := "()I" } : Jvm.MethodName)) ∈ aw := aw_i 318 (by decide +kernel) (by decide +kernel)
theorem m_285 : (Cond.instanceMethod ({ cls := "RingHerd", name := "surveyGaps", desc := "()I" } : Jvm.MethodName)) ∈ aw := aw_i 320 (by decide +kernel) (by decide +kernel)
theorem m_286 : (Cond.code ({ cls := "RingHerd", name := "surveyGaps", desc := "()I" } : Jvm.MethodName) prog_1_method_35_code (4 : Nat) (Option.some Jvm.ClassFile.FieldType.int)) ∈ aw := aw_i 321 (by decide +kernel) (by decide +kernel)
theorem m_287 : (Cond.methodLink "RingHerdLaw" (84 : Nat) ({ cls := "RingHerdLaw", name := "grain", desc := "(LRingHerd;IIII[J)I" } : Jvm.MethodName)) ∈ aw := aw_i 322 (by decide +kernel) (by decide +kernel)
theorem m_288 : (Cond.static ({ cls := "RingHerdLaw", name := "grain", desc := "(LRingHerd;IIII[J)I" } : Jvm.MethodName)) ∈ aw := aw_i 323 (by decide +kernel) (by decide +kernel)
theorem m_289 : (Cond.codeWith ({ cls := "RingHerdLaw", name := "grain", desc := "(LRingHerd;IIII[J)I" } : Jvm.MethodName) method_3_code (7 : Nat) (Option.some Jvm.ClassFile.FieldType.int) [((0 : Nat), (14 : Nat), (17 : Nat), (13 : Nat)), ((0 : Nat), (14 : Nat), (21 : Nat), (15 : Nat))]) ∈ aw := aw_i 324 (by decide +kernel) (by decide +kernel)
theorem m_290 : (Cond.classLink "RingHerdLaw" (13 : Nat) "java/lang/IllegalArgumentException") ∈ aw := aw_i 325 (by decide +kernel) (by decide +kernel)
theorem m_291 : (Cond.classLink "RingHerdLaw" (15 : Nat) "java/lang/IllegalStateException") ∈ aw := aw_i 326 (by decide +kernel) (by decide +kernel)
theorem m_292 : (Cond.methodLink "RingHerdLaw" (7 : Nat) ({ cls := "RingHerd", name := "grain", desc := "(IIII)I" } : Jvm.MethodName)) ∈ aw := aw_i 327 (by decide +kernel) (by decide +kernel)
theorem m_293 : (Cond.instanceMethod ({ cls := "RingHerd", name := "grain", desc := "(IIII)I" } : Jvm.MethodName)) ∈ aw := aw_i 328 (by decide +kernel) (by decide +kernel)
theorem m_294 : (Cond.selects "RingHerd" ({ cls := "RingHerd", name := "grain", desc := "(IIII)I" } : Jvm.MethodName) ({ cls := "RingHerd", name := "grain", desc := "(IIII)I" } : Jvm.MethodName)) ∈ aw := aw_i 329 (by decide +kernel) (by decide +kernel)
theorem m_295 : (Cond.code ({ cls := "RingHerd", name := "grain", desc := "(IIII)I" } : Jvm.MethodName) prog_1_method_2_code (5 : Nat) (Option.some Jvm.ClassFile.FieldType.int)) ∈ aw := aw_i 330 (by decide +kernel) (by decide +kernel)
theorem m_296 : (Cond.methodLink "RingHerd" (47 : Nat) ({ cls := "RingHerd", name := "requirePlace", desc := "(III)V" } : Jvm.MethodName)) ∈ aw := aw_i 331 (by decide +kernel) (by decide +kernel)
theorem m_297 : (Cond.static ({ cls := "RingHerd", name := "requirePlace", desc := "(III)V" } : Jvm.MethodName)) ∈ aw := aw_i 332 (by decide +kernel) (by decide +kernel)
theorem m_298 : (Cond.code ({ cls := "RingHerd", name := "requirePlace", desc := "(III)V" } : Jvm.MethodName) prog_1_method_26_code (3 : Nat) (Option.none : Option Jvm.ClassFile.FieldType)) ∈ aw := aw_i 333 (by decide +kernel) (by decide +kernel)
theorem m_299 : (Cond.methodLink "RingHerd" (132 : Nat) ({ cls := "RingHerd", name := "requireLane", desc := "(I)V" } : Jvm.MethodName)) ∈ aw := aw_i 334 (by decide +kernel) (by decide +kernel)
theorem m_300 : (Cond.static ({ cls := "RingHerd", name := "requireLane", desc := "(I)V" } : Jvm.MethodName)) ∈ aw := aw_i 335 (by decide +kernel) (by decide +kernel)
theorem m_301 : (Cond.code ({ cls := "RingHerd", name := "requireLane", desc := "(I)V" } : Jvm.MethodName) prog_1_method_25_code (1 : Nat) (Option.none : Option Jvm.ClassFile.FieldType)) ∈ aw := aw_i 336 (by decide +kernel) (by decide +kernel)
theorem m_302 : (Cond.methodLink "RingHerd" (51 : Nat) ({ cls := "RingHerd", name := "requireRange", desc := "(III)V" } : Jvm.MethodName)) ∈ aw := aw_i 337 (by decide +kernel) (by decide +kernel)
theorem m_303 : (Cond.static ({ cls := "RingHerd", name := "requireRange", desc := "(III)V" } : Jvm.MethodName)) ∈ aw := aw_i 338 (by decide +kernel) (by decide +kernel)
theorem m_304 : (Cond.code ({ cls := "RingHerd", name := "requireRange", desc := "(III)V" } : Jvm.MethodName) prog_1_method_24_code (3 : Nat) (Option.none : Option Jvm.ClassFile.FieldType)) ∈ aw := aw_i 339 (by decide +kernel) (by decide +kernel)
theorem m_305 : (Cond.classLink "RingHerd" (175 : Nat) "java/lang/IllegalArgumentException") ∈ aw := aw_i 340 (by decide +kernel) (by decide +kernel)
theorem m_306 : (Cond.instantiable "java/lang/IllegalArgumentException" (6 : Nat)) ∈ aw := aw_i 341 (by decide +kernel) (by decide +kernel)
theorem m_314 : (Cond.selects "java/lang/IllegalArgumentException" ({ cls := "java/lang/Throwable", name := "fillInStackTrace", desc := "(I)Ljava/lang/Throwable;" } : Jvm.MethodName) ({ cls := "java/lang/Throwable", name := "fillInStackTrace", desc := "(I)Ljava/lang/Throwable;" } : Jvm.MethodName)) ∈ aw := aw_i 349 (by decide +kernel) (by decide +kernel)
theorem m_315 : (Cond.selects "java/lang/IllegalArgumentException" ({ cls := "java/lang/Throwable", name := "fillInStackTrace", desc := "()Ljava/lang/Throwable;" } : Jvm.MethodName) ({ cls := "java/lang/Throwable", name := "fillInStackTrace", desc := "()Ljava/lang/Throwable;" } : Jvm.MethodName)) ∈ aw := aw_i 350 (by decide +kernel) (by decide +kernel)
theorem m_316 : (Cond.lays "java/lang/IllegalArgumentException" "java/lang/Throwable" "cause" "Ljava/lang/Throwable;") ∈ aw := aw_i 351 (by decide +kernel) (by decide +kernel)
theorem m_317 : (Cond.lays "java/lang/Throwable" "java/lang/Throwable" "cause" "Ljava/lang/Throwable;") ∈ aw := aw_i 352 (by decide +kernel) (by decide +kernel)
theorem m_318 : (Cond.lays "java/lang/IllegalArgumentException" "java/lang/Throwable" "stackTrace" "[Ljava/lang/StackTraceElement;") ∈ aw := aw_i 353 (by decide +kernel) (by decide +kernel)
theorem m_319 : (Cond.lays "java/lang/Throwable" "java/lang/Throwable" "stackTrace" "[Ljava/lang/StackTraceElement;") ∈ aw := aw_i 354 (by decide +kernel) (by decide +kernel)
theorem m_320 : (Cond.lays "java/lang/IllegalArgumentException" "java/lang/Throwable" "suppressedExceptions" "Ljava/util/List;") ∈ aw := aw_i 355 (by decide +kernel) (by decide +kernel)
theorem m_321 : (Cond.lays "java/lang/Throwable" "java/lang/Throwable" "suppressedExceptions" "Ljava/util/List;") ∈ aw := aw_i 356 (by decide +kernel) (by decide +kernel)
theorem m_322 : (Cond.lays "java/lang/IllegalArgumentException" "java/lang/Throwable" "detailMessage" "Ljava/lang/String;") ∈ aw := aw_i 357 (by decide +kernel) (by decide +kernel)
theorem m_323 : (Cond.lays "java/lang/Throwable" "java/lang/Throwable" "detailMessage" "Ljava/lang/String;") ∈ aw := aw_i 358 (by decide +kernel) (by decide +kernel)
theorem m_324 : (Cond.lays "java/lang/IllegalArgumentException" "java/lang/Throwable" "backtrace" "Ljava/lang/Object;") ∈ aw := aw_i 359 (by decide +kernel) (by decide +kernel)
theorem m_325 : (Cond.lays "java/lang/Throwable" "java/lang/Throwable" "backtrace" "Ljava/lang/Object;") ∈ aw := aw_i 360 (by decide +kernel) (by decide +kernel)
theorem m_326 : (Cond.fieldLink "java/lang/Throwable" (198 : Nat) "java/lang/Throwable" "backtrace" "Ljava/lang/Object;") ∈ aw := aw_i 361 (by decide +kernel) (by decide +kernel)
theorem m_328 : (Cond.instanceMethod ({ cls := "java/lang/Throwable", name := "<init>", desc := "()V" } : Jvm.MethodName)) ∈ aw := aw_i 363 (by decide +kernel) (by decide +kernel)
theorem m_329 : (Cond.code ({ cls := "java/lang/Throwable", name := "<init>", desc := "()V" } : Jvm.MethodName) prog_18_method_1_code (1 : Nat) (Option.none : Option Jvm.ClassFile.FieldType)) ∈ aw := aw_i 364 (by decide +kernel) (by decide +kernel)
theorem m_330 : (Cond.methodLink "java/lang/Throwable" (1 : Nat) ({ cls := "java/lang/Object", name := "<init>", desc := "()V" } : Jvm.MethodName)) ∈ aw := aw_i 365 (by decide +kernel) (by decide +kernel)
theorem m_331 : (Cond.fieldLink "java/lang/Throwable" (13 : Nat) "java/lang/Throwable" "UNASSIGNED_STACK" "[Ljava/lang/StackTraceElement;") ∈ aw := aw_i 366 (by decide +kernel) (by decide +kernel)
theorem m_333 : (Cond.fieldLink "java/lang/Throwable" (20 : Nat) "java/lang/Throwable" "SUPPRESSED_SENTINEL" "Ljava/util/List;") ∈ aw := aw_i 368 (by decide +kernel) (by decide +kernel)
theorem m_335 : (Cond.methodLink "java/lang/Throwable" (27 : Nat) ({ cls := "java/lang/Throwable", name := "fillInStackTrace", desc := "()Ljava/lang/Throwable;" } : Jvm.MethodName)) ∈ aw := aw_i 370 (by decide +kernel) (by decide +kernel)
theorem m_336 : (Cond.instanceMethod ({ cls := "java/lang/Throwable", name := "fillInStackTrace", desc := "()Ljava/lang/Throwable;" } : Jvm.MethodName)) ∈ aw := aw_i 371 (by decide +kernel) (by decide +kernel)
theorem m_337 : (Cond.sameMethod "java/lang/Throwable" "java/lang/Throwable" "fillInStackTrace" "()Ljava/lang/Throwable;") ∈ aw := aw_i 372 (by decide +kernel) (by decide +kernel)
theorem m_338 : (Cond.selects "java/lang/IllegalStateException" ({ cls := "java/lang/Throwable", name := "fillInStackTrace", desc := "()Ljava/lang/Throwable;" } : Jvm.MethodName) ({ cls := "java/lang/Throwable", name := "fillInStackTrace", desc := "()Ljava/lang/Throwable;" } : Jvm.MethodName)) ∈ aw := aw_i 373 (by decide +kernel) (by decide +kernel)
theorem m_339 : (Cond.selects "java/lang/IndexOutOfBoundsException" ({ cls := "java/lang/Throwable", name := "fillInStackTrace", desc := "()Ljava/lang/Throwable;" } : Jvm.MethodName) ({ cls := "java/lang/Throwable", name := "fillInStackTrace", desc := "()Ljava/lang/Throwable;" } : Jvm.MethodName)) ∈ aw := aw_i 374 (by decide +kernel) (by decide +kernel)
theorem m_340 : (Cond.codeSync ({ cls := "java/lang/Throwable", name := "fillInStackTrace", desc := "()Ljava/lang/Throwable;" } : Jvm.MethodName) prog_18_method_18_code (1 : Nat) (Option.some (Jvm.ClassFile.FieldType.object "java/lang/Throwable"))) ∈ aw := aw_i 375 (by decide +kernel) (by decide +kernel)
theorem m_341 : (Cond.methodLink "java/lang/Throwable" (202 : Nat) ({ cls := "java/lang/Throwable", name := "fillInStackTrace", desc := "(I)Ljava/lang/Throwable;" } : Jvm.MethodName)) ∈ aw := aw_i 376 (by decide +kernel) (by decide +kernel)
theorem m_343 : (Cond.instanceMethod ({ cls := "java/lang/Throwable", name := "fillInStackTrace", desc := "(I)Ljava/lang/Throwable;" } : Jvm.MethodName)) ∈ aw := aw_i 378 (by decide +kernel) (by decide +kernel)
theorem m_344 : (Cond.instantiable "java/lang/Throwable" (6 : Nat)) ∈ aw := aw_i 379 (by decide +kernel) (by decide +kernel)
theorem m_345 : (Cond.native ({ cls := "java/lang/Throwable", name := "fillInStackTrace", desc := "(I)Ljava/lang/Throwable;" } : Jvm.MethodName)) ∈ aw := aw_i 380 (by decide +kernel) (by decide +kernel)
theorem m_347 : (Cond.methodLink "RingHerd" (179 : Nat) ({ cls := "java/lang/IllegalArgumentException", name := "<init>", desc := "(Ljava/lang/String;)V" } : Jvm.MethodName)) ∈ aw := aw_i 382 (by decide +kernel) (by decide +kernel)
theorem m_348 : (Cond.instanceMethod ({ cls := "java/lang/IllegalArgumentException", name := "<init>", desc := "(Ljava/lang/String;)V" } : Jvm.MethodName)) ∈ aw := aw_i 383 (by decide +kernel) (by decide +kernel)
theorem m_349 : (Cond.code ({ cls := "java/lang/IllegalArgumentException", name := "<init>", desc := "(Ljava/lang/String;)V" } : Jvm.MethodName) prog_12_method_2_code (2 : Nat) (Option.none : Option Jvm.ClassFile.FieldType)) ∈ aw := aw_i 384 (by decide +kernel) (by decide +kernel)
theorem m_350 : (Cond.methodLink "java/lang/IllegalArgumentException" (7 : Nat) ({ cls := "java/lang/RuntimeException", name := "<init>", desc := "(Ljava/lang/String;)V" } : Jvm.MethodName)) ∈ aw := aw_i 385 (by decide +kernel) (by decide +kernel)
theorem m_351 : (Cond.instanceMethod ({ cls := "java/lang/RuntimeException", name := "<init>", desc := "(Ljava/lang/String;)V" } : Jvm.MethodName)) ∈ aw := aw_i 386 (by decide +kernel) (by decide +kernel)
theorem m_352 : (Cond.code ({ cls := "java/lang/RuntimeException", name := "<init>", desc := "(Ljava/lang/String;)V" } : Jvm.MethodName) prog_16_method_2_code (2 : Nat) (Option.none : Option Jvm.ClassFile.FieldType)) ∈ aw := aw_i 387 (by decide +kernel) (by decide +kernel)
theorem m_353 : (Cond.methodLink "java/lang/RuntimeException" (7 : Nat) ({ cls := "java/lang/Exception", name := "<init>", desc := "(Ljava/lang/String;)V" } : Jvm.MethodName)) ∈ aw := aw_i 388 (by decide +kernel) (by decide +kernel)
theorem m_354 : (Cond.instanceMethod ({ cls := "java/lang/Exception", name := "<init>", desc := "(Ljava/lang/String;)V" } : Jvm.MethodName)) ∈ aw := aw_i 389 (by decide +kernel) (by decide +kernel)
theorem m_355 : (Cond.code ({ cls := "java/lang/Exception", name := "<init>", desc := "(Ljava/lang/String;)V" } : Jvm.MethodName) prog_11_method_2_code (2 : Nat) (Option.none : Option Jvm.ClassFile.FieldType)) ∈ aw := aw_i 390 (by decide +kernel) (by decide +kernel)
theorem m_356 : (Cond.methodLink "java/lang/Exception" (7 : Nat) ({ cls := "java/lang/Throwable", name := "<init>", desc := "(Ljava/lang/String;)V" } : Jvm.MethodName)) ∈ aw := aw_i 391 (by decide +kernel) (by decide +kernel)
theorem m_357 : (Cond.instanceMethod ({ cls := "java/lang/Throwable", name := "<init>", desc := "(Ljava/lang/String;)V" } : Jvm.MethodName)) ∈ aw := aw_i 392 (by decide +kernel) (by decide +kernel)
theorem m_358 : (Cond.code ({ cls := "java/lang/Throwable", name := "<init>", desc := "(Ljava/lang/String;)V" } : Jvm.MethodName) prog_18_method_2_code (2 : Nat) (Option.none : Option Jvm.ClassFile.FieldType)) ∈ aw := aw_i 393 (by decide +kernel) (by decide +kernel)
theorem m_360 : (Cond.fieldLink "java/lang/Throwable" (31 : Nat) "java/lang/Throwable" "detailMessage" "Ljava/lang/String;") ∈ aw := aw_i 395 (by decide +kernel) (by decide +kernel)
theorem m_361 : (Cond.fieldLink "java/lang/Throwable" (7 : Nat) "java/lang/Throwable" "cause" "Ljava/lang/Throwable;") ∈ aw := aw_i 396 (by decide +kernel) (by decide +kernel)
theorem m_362 : (Cond.fieldLink "java/lang/Throwable" (17 : Nat) "java/lang/Throwable" "stackTrace" "[Ljava/lang/StackTraceElement;") ∈ aw := aw_i 397 (by decide +kernel) (by decide +kernel)
theorem m_363 : (Cond.fieldLink "java/lang/Throwable" (24 : Nat) "java/lang/Throwable" "suppressedExceptions" "Ljava/util/List;") ∈ aw := aw_i 398 (by decide +kernel) (by decide +kernel)
theorem m_368 : (Cond.lays "java/lang/IllegalArgumentException" "java/lang/Throwable" "depth" "I") ∈ aw := aw_i 403 (by decide +kernel) (by decide +kernel)
theorem m_372 : (Cond.arrayClass Jvm.ClassFile.FieldType.byte) ∈ aw := aw_i 407 (by decide +kernel) (by decide +kernel)
theorem m_373 : (Cond.constant "RingHerd" (266 : Nat) (35999 : Int32)) ∈ aw := aw_i 408 (by decide +kernel) (by decide +kernel)
theorem m_374 : (Cond.classLink "RingHerd" (58 : Nat) "java/lang/IllegalStateException") ∈ aw := aw_i 409 (by decide +kernel) (by decide +kernel)
theorem m_375 : (Cond.instantiable "java/lang/IllegalStateException" (6 : Nat)) ∈ aw := aw_i 410 (by decide +kernel) (by decide +kernel)
theorem m_377 : (Cond.selects "java/lang/IllegalStateException" ({ cls := "java/lang/Throwable", name := "fillInStackTrace", desc := "(I)Ljava/lang/Throwable;" } : Jvm.MethodName) ({ cls := "java/lang/Throwable", name := "fillInStackTrace", desc := "(I)Ljava/lang/Throwable;" } : Jvm.MethodName)) ∈ aw := aw_i 412 (by decide +kernel) (by decide +kernel)
theorem m_378 : (Cond.lays "java/lang/IllegalStateException" "java/lang/Throwable" "cause" "Ljava/lang/Throwable;") ∈ aw := aw_i 413 (by decide +kernel) (by decide +kernel)
theorem m_379 : (Cond.lays "java/lang/IllegalStateException" "java/lang/Throwable" "stackTrace" "[Ljava/lang/StackTraceElement;") ∈ aw := aw_i 414 (by decide +kernel) (by decide +kernel)
theorem m_380 : (Cond.lays "java/lang/IllegalStateException" "java/lang/Throwable" "suppressedExceptions" "Ljava/util/List;") ∈ aw := aw_i 415 (by decide +kernel) (by decide +kernel)
theorem m_381 : (Cond.lays "java/lang/IllegalStateException" "java/lang/Throwable" "detailMessage" "Ljava/lang/String;") ∈ aw := aw_i 416 (by decide +kernel) (by decide +kernel)
theorem m_382 : (Cond.lays "java/lang/IllegalStateException" "java/lang/Throwable" "backtrace" "Ljava/lang/Object;") ∈ aw := aw_i 417 (by decide +kernel) (by decide +kernel)
theorem m_384 : (Cond.methodLink "RingHerd" (62 : Nat) ({ cls := "java/lang/IllegalStateException", name := "<init>", desc := "(Ljava/lang/String;)V" } : Jvm.MethodName)) ∈ aw := aw_i 419 (by decide +kernel) (by decide +kernel)
theorem m_385 : (Cond.instanceMethod ({ cls := "java/lang/IllegalStateException", name := "<init>", desc := "(Ljava/lang/String;)V" } : Jvm.MethodName)) ∈ aw := aw_i 420 (by decide +kernel) (by decide +kernel)
theorem m_386 : (Cond.code ({ cls := "java/lang/IllegalStateException", name := "<init>", desc := "(Ljava/lang/String;)V" } : Jvm.MethodName) prog_13_method_2_code (2 : Nat) (Option.none : Option Jvm.ClassFile.FieldType)) ∈ aw := aw_i 421 (by decide +kernel) (by decide +kernel)
theorem m_387 : (Cond.methodLink "java/lang/IllegalStateException" (7 : Nat) ({ cls := "java/lang/RuntimeException", name := "<init>", desc := "(Ljava/lang/String;)V" } : Jvm.MethodName)) ∈ aw := aw_i 422 (by decide +kernel) (by decide +kernel)
theorem m_388 : (Cond.lays "java/lang/IllegalStateException" "java/lang/Throwable" "depth" "I") ∈ aw := aw_i 423 (by decide +kernel) (by decide +kernel)
theorem m_390 : (Cond.methodLink "RingHerd" (65 : Nat) ({ cls := "RingHerd$Herd", name := "put", desc := "(IIII)I" } : Jvm.MethodName)) ∈ aw := aw_i 425 (by decide +kernel) (by decide +kernel)
theorem m_391 : (Cond.instanceMethod ({ cls := "RingHerd$Herd", name := "put", desc := "(IIII)I" } : Jvm.MethodName)) ∈ aw := aw_i 426 (by decide +kernel) (by decide +kernel)
theorem m_392 : (Cond.selects "RingHerd$Herd" ({ cls := "RingHerd$Herd", name := "put", desc := "(IIII)I" } : Jvm.MethodName) ({ cls := "RingHerd$Herd", name := "put", desc := "(IIII)I" } : Jvm.MethodName)) ∈ aw := aw_i 427 (by decide +kernel) (by decide +kernel)
theorem m_393 : (Cond.code ({ cls := "RingHerd$Herd", name := "put", desc := "(IIII)I" } : Jvm.MethodName) prog_5_method_2_code (6 : Nat) (Option.some Jvm.ClassFile.FieldType.int)) ∈ aw := aw_i 428 (by decide +kernel) (by decide +kernel)
theorem m_394 : (Cond.methodLink "RingHerd$Herd" (68 : Nat) ({ cls := "RingHerd$Grain", name := "carried", desc := "()J" } : Jvm.MethodName)) ∈ aw := aw_i 429 (by decide +kernel) (by decide +kernel)
theorem m_395 : (Cond.instanceMethod ({ cls := "RingHerd$Grain", name := "carried", desc := "()J" } : Jvm.MethodName)) ∈ aw := aw_i 430 (by decide +kernel) (by decide +kernel)
theorem m_396 : (Cond.selects "RingHerd$Grain" ({ cls := "RingHerd$Grain", name := "carried", desc := "()J" } : Jvm.MethodName) ({ cls := "RingHerd$Grain", name := "carried", desc := "()J" } : Jvm.MethodName)) ∈ aw := aw_i 431 (by decide +kernel) (by decide +kernel)
theorem m_397 : (Cond.code ({ cls := "RingHerd$Grain", name := "carried", desc := "()J" } : Jvm.MethodName) prog_4_method_2_code (1 : Nat) (Option.some Jvm.ClassFile.FieldType.long)) ∈ aw := aw_i 432 (by decide +kernel) (by decide +kernel)
theorem m_398 : (Cond.methodLink "RingHerdLaw" (93 : Nat) ({ cls := "RingHerdLaw", name := "moon", desc := "(LRingHerd;III[J)I" } : Jvm.MethodName)) ∈ aw := aw_i 433 (by decide +kernel) (by decide +kernel)
theorem m_399 : (Cond.static ({ cls := "RingHerdLaw", name := "moon", desc := "(LRingHerd;III[J)I" } : Jvm.MethodName)) ∈ aw := aw_i 434 (by decide +kernel) (by decide +kernel)
theorem m_400 : (Cond.codeWith ({ cls := "RingHerdLaw", name := "moon", desc := "(LRingHerd;III[J)I" } : Jvm.MethodName) method_4_code (6 : Nat) (Option.some Jvm.ClassFile.FieldType.int) [((0 : Nat), (12 : Nat), (15 : Nat), (13 : Nat)), ((0 : Nat), (12 : Nat), (19 : Nat), (15 : Nat))]) ∈ aw := aw_i 435 (by decide +kernel) (by decide +kernel)
theorem m_401 : (Cond.methodLink "RingHerdLaw" (17 : Nat) ({ cls := "RingHerd", name := "moon", desc := "(III)I" } : Jvm.MethodName)) ∈ aw := aw_i 436 (by decide +kernel) (by decide +kernel)
theorem m_402 : (Cond.instanceMethod ({ cls := "RingHerd", name := "moon", desc := "(III)I" } : Jvm.MethodName)) ∈ aw := aw_i 437 (by decide +kernel) (by decide +kernel)
theorem m_403 : (Cond.selects "RingHerd" ({ cls := "RingHerd", name := "moon", desc := "(III)I" } : Jvm.MethodName) ({ cls := "RingHerd", name := "moon", desc := "(III)I" } : Jvm.MethodName)) ∈ aw := aw_i 438 (by decide +kernel) (by decide +kernel)
theorem m_404 : (Cond.code ({ cls := "RingHerd", name := "moon", desc := "(III)I" } : Jvm.MethodName) prog_1_method_3_code (5 : Nat) (Option.some Jvm.ClassFile.FieldType.int)) ∈ aw := aw_i 439 (by decide +kernel) (by decide +kernel)
theorem m_406 : (Cond.methodLink "RingHerd" (80 : Nat) ({ cls := "RingHerd", name := "widthOf", desc := "(I)I" } : Jvm.MethodName)) ∈ aw := aw_i 441 (by decide +kernel) (by decide +kernel)
theorem m_407 : (Cond.static ({ cls := "RingHerd", name := "widthOf", desc := "(I)I" } : Jvm.MethodName)) ∈ aw := aw_i 442 (by decide +kernel) (by decide +kernel)
theorem m_408 : (Cond.code ({ cls := "RingHerd", name := "widthOf", desc := "(I)I" } : Jvm.MethodName) prog_1_method_31_code (3 : Nat) (Option.some Jvm.ClassFile.FieldType.int)) ∈ aw := aw_i 443 (by decide +kernel) (by decide +kernel)
theorem m_409 : (Cond.methodLink "RingHerdLaw" (97 : Nat) ({ cls := "RingHerdLaw", name := "flatness", desc := "(LRingHerd;I[J)I" } : Jvm.MethodName)) ∈ aw := aw_i 444 (by decide +kernel) (by decide +kernel)
theorem m_410 : (Cond.static ({ cls := "RingHerdLaw", name := "flatness", desc := "(LRingHerd;I[J)I" } : Jvm.MethodName)) ∈ aw := aw_i 445 (by decide +kernel) (by decide +kernel)
theorem m_411 : (Cond.codeWith ({ cls := "RingHerdLaw", name := "flatness", desc := "(LRingHerd;I[J)I" } : Jvm.MethodName) method_5_code (4 : Nat) (Option.some Jvm.ClassFile.FieldType.int) [((0 : Nat), (9 : Nat), (12 : Nat), (13 : Nat))]) ∈ aw := aw_i 446 (by decide +kernel) (by decide +kernel)
theorem m_412 : (Cond.methodLink "RingHerdLaw" (21 : Nat) ({ cls := "RingHerd", name := "flatness", desc := "(I)I" } : Jvm.MethodName)) ∈ aw := aw_i 447 (by decide +kernel) (by decide +kernel)
theorem m_413 : (Cond.instanceMethod ({ cls := "RingHerd", name := "flatness", desc := "(I)I" } : Jvm.MethodName)) ∈ aw := aw_i 448 (by decide +kernel) (by decide +kernel)
theorem m_414 : (Cond.selects "RingHerd" ({ cls := "RingHerd", name := "flatness", desc := "(I)I" } : Jvm.MethodName) ({ cls := "RingHerd", name := "flatness", desc := "(I)I" } : Jvm.MethodName)) ∈ aw := aw_i 449 (by decide +kernel) (by decide +kernel)
theorem m_415 : (Cond.code ({ cls := "RingHerd", name := "flatness", desc := "(I)I" } : Jvm.MethodName) prog_1_method_4_code (3 : Nat) (Option.some Jvm.ClassFile.FieldType.int)) ∈ aw := aw_i 450 (by decide +kernel) (by decide +kernel)
theorem m_416 : (Cond.methodLink "RingHerdLaw" (101 : Nat) ({ cls := "RingHerdLaw", name := "bounds", desc := "(LRingHerd;III)I" } : Jvm.MethodName)) ∈ aw := aw_i 451 (by decide +kernel) (by decide +kernel)
theorem m_417 : (Cond.static ({ cls := "RingHerdLaw", name := "bounds", desc := "(LRingHerd;III)I" } : Jvm.MethodName)) ∈ aw := aw_i 452 (by decide +kernel) (by decide +kernel)
theorem m_418 : (Cond.codeWith ({ cls := "RingHerdLaw", name := "bounds", desc := "(LRingHerd;III)I" } : Jvm.MethodName) method_6_code (5 : Nat) (Option.some Jvm.ClassFile.FieldType.int) [((0 : Nat), (7 : Nat), (10 : Nat), (13 : Nat))]) ∈ aw := aw_i 453 (by decide +kernel) (by decide +kernel)
theorem m_419 : (Cond.methodLink "RingHerdLaw" (25 : Nat) ({ cls := "RingHerd", name := "bounds", desc := "(III)V" } : Jvm.MethodName)) ∈ aw := aw_i 454 (by decide +kernel) (by decide +kernel)
theorem m_420 : (Cond.instanceMethod ({ cls := "RingHerd", name := "bounds", desc := "(III)V" } : Jvm.MethodName)) ∈ aw := aw_i 455 (by decide +kernel) (by decide +kernel)
theorem m_421 : (Cond.selects "RingHerd" ({ cls := "RingHerd", name := "bounds", desc := "(III)V" } : Jvm.MethodName) ({ cls := "RingHerd", name := "bounds", desc := "(III)V" } : Jvm.MethodName)) ∈ aw := aw_i 456 (by decide +kernel) (by decide +kernel)
theorem m_422 : (Cond.code ({ cls := "RingHerd", name := "bounds", desc := "(III)V" } : Jvm.MethodName) prog_1_method_5_code (4 : Nat) (Option.none : Option Jvm.ClassFile.FieldType)) ∈ aw := aw_i 457 (by decide +kernel) (by decide +kernel)
theorem m_423 : (Cond.methodLink "RingHerdLaw" (105 : Nat) ({ cls := "RingHerdLaw", name := "tick", desc := "(LRingHerd;I[J)I" } : Jvm.MethodName)) ∈ aw := aw_i 458 (by decide +kernel) (by decide +kernel)
theorem m_424 : (Cond.static ({ cls := "RingHerdLaw", name := "tick", desc := "(LRingHerd;I[J)I" } : Jvm.MethodName)) ∈ aw := aw_i 459 (by decide +kernel) (by decide +kernel)
theorem m_425 : (Cond.codeWith ({ cls := "RingHerdLaw", name := "tick", desc := "(LRingHerd;I[J)I" } : Jvm.MethodName) method_7_code (4 : Nat) (Option.some Jvm.ClassFile.FieldType.int) [((0 : Nat), (9 : Nat), (12 : Nat), (13 : Nat)), ((0 : Nat), (9 : Nat), (15 : Nat), (15 : Nat))]) ∈ aw := aw_i 460 (by decide +kernel) (by decide +kernel)
theorem m_426 : (Cond.methodLink "RingHerdLaw" (29 : Nat) ({ cls := "RingHerd", name := "tick", desc := "(I)I" } : Jvm.MethodName)) ∈ aw := aw_i 461 (by decide +kernel) (by decide +kernel)
theorem m_427 : (Cond.instanceMethod ({ cls := "RingHerd", name := "tick", desc := "(I)I" } : Jvm.MethodName)) ∈ aw := aw_i 462 (by decide +kernel) (by decide +kernel)
theorem m_428 : (Cond.selects "RingHerd" ({ cls := "RingHerd", name := "tick", desc := "(I)I" } : Jvm.MethodName) ({ cls := "RingHerd", name := "tick", desc := "(I)I" } : Jvm.MethodName)) ∈ aw := aw_i 463 (by decide +kernel) (by decide +kernel)
theorem m_429 : (Cond.code ({ cls := "RingHerd", name := "tick", desc := "(I)I" } : Jvm.MethodName) prog_1_method_6_code (3 : Nat) (Option.some Jvm.ClassFile.FieldType.int)) ∈ aw := aw_i 464 (by decide +kernel) (by decide +kernel)
theorem m_431 : (Cond.methodLink "RingHerd" (110 : Nat) ({ cls := "RingHerd", name := "passTick", desc := "()V" } : Jvm.MethodName)) ∈ aw := aw_i 466 (by decide +kernel) (by decide +kernel)
theorem m_433 : (Cond.instanceMethod ({ cls := "RingHerd", name := "passTick", desc := "()V" } : Jvm.MethodName)) ∈ aw := aw_i 468 (by decide +kernel) (by decide +kernel)
theorem m_434 : (Cond.code ({ cls := "RingHerd", name := "passTick", desc := "()V" } : Jvm.MethodName) prog_1_method_32_code (2 : Nat) (Option.none : Option Jvm.ClassFile.FieldType)) ∈ aw := aw_i 469 (by decide +kernel) (by decide +kernel)
theorem m_435 : (Cond.methodLink "RingHerd" (180 : Nat) ({ cls := "RingHerd$Planet", name := "speedIn", desc := "(I)I" } : Jvm.MethodName)) ∈ aw := aw_i 470 (by decide +kernel) (by decide +kernel)
theorem m_436 : (Cond.instanceMethod ({ cls := "RingHerd$Planet", name := "speedIn", desc := "(I)I" } : Jvm.MethodName)) ∈ aw := aw_i 471 (by decide +kernel) (by decide +kernel)
theorem m_437 : (Cond.selects "RingHerd$Planet" ({ cls := "RingHerd$Planet", name := "speedIn", desc := "(I)I" } : Jvm.MethodName) ({ cls := "RingHerd$Planet", name := "speedIn", desc := "(I)I" } : Jvm.MethodName)) ∈ aw := aw_i 472 (by decide +kernel) (by decide +kernel)
theorem m_438 : (Cond.code ({ cls := "RingHerd$Planet", name := "speedIn", desc := "(I)I" } : Jvm.MethodName) prog_8_method_2_code (3 : Nat) (Option.some Jvm.ClassFile.FieldType.int)) ∈ aw := aw_i 473 (by decide +kernel) (by decide +kernel)
theorem m_440 : (Cond.constant "RingHerd$Planet" (13 : Nat) (36000 : Int32)) ∈ aw := aw_i 475 (by decide +kernel) (by decide +kernel)
theorem m_441 : (Cond.methodLink "RingHerd" (281 : Nat) ({ cls := "RingHerd", name := "turned", desc := "(II)I" } : Jvm.MethodName)) ∈ aw := aw_i 476 (by decide +kernel) (by decide +kernel)
theorem m_442 : (Cond.static ({ cls := "RingHerd", name := "turned", desc := "(II)I" } : Jvm.MethodName)) ∈ aw := aw_i 477 (by decide +kernel) (by decide +kernel)
theorem m_443 : (Cond.code ({ cls := "RingHerd", name := "turned", desc := "(II)I" } : Jvm.MethodName) prog_1_method_29_code (2 : Nat) (Option.some Jvm.ClassFile.FieldType.int)) ∈ aw := aw_i 478 (by decide +kernel) (by decide +kernel)
theorem m_444 : (Cond.constant "RingHerd" (272 : Nat) (36000 : Int32)) ∈ aw := aw_i 479 (by decide +kernel) (by decide +kernel)
theorem m_445 : (Cond.methodLink "RingHerd" (284 : Nat) ({ cls := "RingHerd$Herd", name := "goRound", desc := "()V" } : Jvm.MethodName)) ∈ aw := aw_i 480 (by decide +kernel) (by decide +kernel)
theorem m_446 : (Cond.instanceMethod ({ cls := "RingHerd$Herd", name := "goRound", desc := "()V" } : Jvm.MethodName)) ∈ aw := aw_i 481 (by decide +kernel) (by decide +kernel)
theorem m_447 : (Cond.selects "RingHerd$Herd" ({ cls := "RingHerd$Herd", name := "goRound", desc := "()V" } : Jvm.MethodName) ({ cls := "RingHerd$Herd", name := "goRound", desc := "()V" } : Jvm.MethodName)) ∈ aw := aw_i 482 (by decide +kernel) (by decide +kernel)
theorem m_448 : (Cond.code ({ cls := "RingHerd$Herd", name := "goRound", desc := "()V" } : Jvm.MethodName) prog_5_method_7_code (5 : Nat) (Option.none : Option Jvm.ClassFile.FieldType)) ∈ aw := aw_i 483 (by decide +kernel) (by decide +kernel)
theorem m_449 : (Cond.methodLink "RingHerd$Herd" (72 : Nat) ({ cls := "RingHerd$Planet", name := "speedIn", desc := "(I)I" } : Jvm.MethodName)) ∈ aw := aw_i 484 (by decide +kernel) (by decide +kernel)
theorem m_451 : (Cond.methodLink "RingHerd" (287 : Nat) ({ cls := "RingHerd$Herd", name := "yieldTo", desc := "(LRingHerd$Moon;)V" } : Jvm.MethodName)) ∈ aw := aw_i 486 (by decide +kernel) (by decide +kernel)
theorem m_452 : (Cond.instanceMethod ({ cls := "RingHerd$Herd", name := "yieldTo", desc := "(LRingHerd$Moon;)V" } : Jvm.MethodName)) ∈ aw := aw_i 487 (by decide +kernel) (by decide +kernel)
theorem m_453 : (Cond.selects "RingHerd$Herd" ({ cls := "RingHerd$Herd", name := "yieldTo", desc := "(LRingHerd$Moon;)V" } : Jvm.MethodName) ({ cls := "RingHerd$Herd", name := "yieldTo", desc := "(LRingHerd$Moon;)V" } : Jvm.MethodName)) ∈ aw := aw_i 488 (by decide +kernel) (by decide +kernel)
theorem m_454 : (Cond.code ({ cls := "RingHerd$Herd", name := "yieldTo", desc := "(LRingHerd$Moon;)V" } : Jvm.MethodName) prog_5_method_8_code (8 : Nat) (Option.none : Option Jvm.ClassFile.FieldType)) ∈ aw := aw_i 489 (by decide +kernel) (by decide +kernel)
theorem m_455 : (Cond.methodLink "RingHerd$Herd" (87 : Nat) ({ cls := "RingHerd$Grain", name := "isNear", desc := "(IIII)Z" } : Jvm.MethodName)) ∈ aw := aw_i 490 (by decide +kernel) (by decide +kernel)
theorem m_456 : (Cond.instanceMethod ({ cls := "RingHerd$Grain", name := "isNear", desc := "(IIII)Z" } : Jvm.MethodName)) ∈ aw := aw_i 491 (by decide +kernel) (by decide +kernel)
theorem m_457 : (Cond.selects "RingHerd$Grain" ({ cls := "RingHerd$Grain", name := "isNear", desc := "(IIII)Z" } : Jvm.MethodName) ({ cls := "RingHerd$Grain", name := "isNear", desc := "(IIII)Z" } : Jvm.MethodName)) ∈ aw := aw_i 492 (by decide +kernel) (by decide +kernel)
theorem m_458 : (Cond.code ({ cls := "RingHerd$Grain", name := "isNear", desc := "(IIII)Z" } : Jvm.MethodName) prog_4_method_3_code (5 : Nat) (Option.some Jvm.ClassFile.FieldType.boolean)) ∈ aw := aw_i 493 (by decide +kernel) (by decide +kernel)
theorem m_459 : (Cond.methodLink "RingHerd$Grain" (18 : Nat) ({ cls := "java/lang/Math", name := "abs", desc := "(I)I" } : Jvm.MethodName)) ∈ aw := aw_i 494 (by decide +kernel) (by decide +kernel)
theorem m_460 : (Cond.static ({ cls := "java/lang/Math", name := "abs", desc := "(I)I" } : Jvm.MethodName)) ∈ aw := aw_i 495 (by decide +kernel) (by decide +kernel)
theorem m_461 : (Cond.code ({ cls := "java/lang/Math", name := "abs", desc := "(I)I" } : Jvm.MethodName) prog_15_method_59_code (1 : Nat) (Option.some Jvm.ClassFile.FieldType.int)) ∈ aw := aw_i 496 (by decide +kernel) (by decide +kernel)
theorem m_463 : (Cond.static ({ cls := "RingHerd", name := "anglesApart", desc := "(II)I" } : Jvm.MethodName)) ∈ aw := aw_i 498 (by decide +kernel) (by decide +kernel)
theorem m_464 : (Cond.code ({ cls := "RingHerd", name := "anglesApart", desc := "(II)I" } : Jvm.MethodName) prog_1_method_30_code (3 : Nat) (Option.some Jvm.ClassFile.FieldType.int)) ∈ aw := aw_i 499 (by decide +kernel) (by decide +kernel)
theorem m_465 : (Cond.methodLink "RingHerd" (273 : Nat) ({ cls := "java/lang/Math", name := "abs", desc := "(I)I" } : Jvm.MethodName)) ∈ aw := aw_i 500 (by decide +kernel) (by decide +kernel)
theorem m_466 : (Cond.methodLink "RingHerd" (278 : Nat) ({ cls := "java/lang/Math", name := "min", desc := "(II)I" } : Jvm.MethodName)) ∈ aw := aw_i 501 (by decide +kernel) (by decide +kernel)
theorem m_467 : (Cond.static ({ cls := "java/lang/Math", name := "min", desc := "(II)I" } : Jvm.MethodName)) ∈ aw := aw_i 502 (by decide +kernel) (by decide +kernel)
theorem m_468 : (Cond.code ({ cls := "java/lang/Math", name := "min", desc := "(II)I" } : Jvm.MethodName) prog_15_method_69_code (2 : Nat) (Option.some Jvm.ClassFile.FieldType.int)) ∈ aw := aw_i 503 (by decide +kernel) (by decide +kernel)
theorem m_469 : (Cond.methodLink "RingHerd$Herd" (91 : Nat) ({ cls := "RingHerd$Herd", name := "shift", desc := "(LRingHerd$Grain;I)V" } : Jvm.MethodName)) ∈ aw := aw_i 504 (by decide +kernel) (by decide +kernel)
theorem m_471 : (Cond.instanceMethod ({ cls := "RingHerd$Herd", name := "shift", desc := "(LRingHerd$Grain;I)V" } : Jvm.MethodName)) ∈ aw := aw_i 506 (by decide +kernel) (by decide +kernel)
theorem m_472 : (Cond.code ({ cls := "RingHerd$Herd", name := "shift", desc := "(LRingHerd$Grain;I)V" } : Jvm.MethodName) prog_5_method_17_code (3 : Nat) (Option.none : Option Jvm.ClassFile.FieldType)) ∈ aw := aw_i 507 (by decide +kernel) (by decide +kernel)
theorem m_473 : (Cond.methodLink "RingHerd$Herd" (95 : Nat) ({ cls := "java/lang/Math", name := "min", desc := "(II)I" } : Jvm.MethodName)) ∈ aw := aw_i 508 (by decide +kernel) (by decide +kernel)
theorem m_474 : (Cond.methodLink "RingHerd" (291 : Nat) ({ cls := "RingHerd$Herd", name := "meetAll", desc := "()V" } : Jvm.MethodName)) ∈ aw := aw_i 509 (by decide +kernel) (by decide +kernel)
theorem m_475 : (Cond.instanceMethod ({ cls := "RingHerd$Herd", name := "meetAll", desc := "()V" } : Jvm.MethodName)) ∈ aw := aw_i 510 (by decide +kernel) (by decide +kernel)
theorem m_476 : (Cond.selects "RingHerd$Herd" ({ cls := "RingHerd$Herd", name := "meetAll", desc := "()V" } : Jvm.MethodName) ({ cls := "RingHerd$Herd", name := "meetAll", desc := "()V" } : Jvm.MethodName)) ∈ aw := aw_i 511 (by decide +kernel) (by decide +kernel)
theorem m_477 : (Cond.code ({ cls := "RingHerd$Herd", name := "meetAll", desc := "()V" } : Jvm.MethodName) prog_5_method_9_code (5 : Nat) (Option.none : Option Jvm.ClassFile.FieldType)) ∈ aw := aw_i 512 (by decide +kernel) (by decide +kernel)
theorem m_478 : (Cond.methodLink "RingHerd$Herd" (106 : Nat) ({ cls := "RingHerd$Grain", name := "mayMeet", desc := "()Z" } : Jvm.MethodName)) ∈ aw := aw_i 513 (by decide +kernel) (by decide +kernel)
theorem m_479 : (Cond.instanceMethod ({ cls := "RingHerd$Grain", name := "mayMeet", desc := "()Z" } : Jvm.MethodName)) ∈ aw := aw_i 514 (by decide +kernel) (by decide +kernel)
theorem m_480 : (Cond.selects "RingHerd$Grain" ({ cls := "RingHerd$Grain", name := "mayMeet", desc := "()Z" } : Jvm.MethodName) ({ cls := "RingHerd$Grain", name := "mayMeet", desc := "()Z" } : Jvm.MethodName)) ∈ aw := aw_i 515 (by decide +kernel) (by decide +kernel)
theorem m_481 : (Cond.code ({ cls := "RingHerd$Grain", name := "mayMeet", desc := "()Z" } : Jvm.MethodName) prog_4_method_4_code (1 : Nat) (Option.some Jvm.ClassFile.FieldType.boolean)) ∈ aw := aw_i 516 (by decide +kernel) (by decide +kernel)
theorem m_482 : (Cond.methodLink "RingHerd$Herd" (110 : Nat) ({ cls := "RingHerd$Herd", name := "partnerOf", desc := "(II)I" } : Jvm.MethodName)) ∈ aw := aw_i 517 (by decide +kernel) (by decide +kernel)
theorem m_484 : (Cond.instanceMethod ({ cls := "RingHerd$Herd", name := "partnerOf", desc := "(II)I" } : Jvm.MethodName)) ∈ aw := aw_i 519 (by decide +kernel) (by decide +kernel)
theorem m_485 : (Cond.code ({ cls := "RingHerd$Herd", name := "partnerOf", desc := "(II)I" } : Jvm.MethodName) prog_5_method_11_code (6 : Nat) (Option.some Jvm.ClassFile.FieldType.int)) ∈ aw := aw_i 520 (by decide +kernel) (by decide +kernel)
theorem m_486 : (Cond.methodLink "RingHerd$Herd" (113 : Nat) ({ cls := "RingHerd$Herd", name := "meet", desc := "(LRingHerd$Grain;LRingHerd$Grain;)V" } : Jvm.MethodName)) ∈ aw := aw_i 521 (by decide +kernel) (by decide +kernel)
theorem m_488 : (Cond.instanceMethod ({ cls := "RingHerd$Herd", name := "meet", desc := "(LRingHerd$Grain;LRingHerd$Grain;)V" } : Jvm.MethodName)) ∈ aw := aw_i 523 (by decide +kernel) (by decide +kernel)
theorem m_489 : (Cond.code ({ cls := "RingHerd$Herd", name := "meet", desc := "(LRingHerd$Grain;LRingHerd$Grain;)V" } : Jvm.MethodName) prog_5_method_12_code (5 : Nat) (Option.none : Option Jvm.ClassFile.FieldType)) ∈ aw := aw_i 524 (by decide +kernel) (by decide +kernel)
theorem m_490 : (Cond.methodLink "RingHerd$Herd" (120 : Nat) ({ cls := "java/lang/Math", name := "abs", desc := "(I)I" } : Jvm.MethodName)) ∈ aw := aw_i 525 (by decide +kernel) (by decide +kernel)
theorem m_491 : (Cond.methodLink "RingHerd$Herd" (123 : Nat) ({ cls := "RingHerd$Herd", name := "stick", desc := "(LRingHerd$Grain;LRingHerd$Grain;)V" } : Jvm.MethodName)) ∈ aw := aw_i 526 (by decide +kernel) (by decide +kernel)
theorem m_493 : (Cond.instanceMethod ({ cls := "RingHerd$Herd", name := "stick", desc := "(LRingHerd$Grain;LRingHerd$Grain;)V" } : Jvm.MethodName)) ∈ aw := aw_i 528 (by decide +kernel) (by decide +kernel)
theorem m_494 : (Cond.code ({ cls := "RingHerd$Herd", name := "stick", desc := "(LRingHerd$Grain;LRingHerd$Grain;)V" } : Jvm.MethodName) prog_5_method_13_code (7 : Nat) (Option.none : Option Jvm.ClassFile.FieldType)) ∈ aw := aw_i 529 (by decide +kernel) (by decide +kernel)
theorem m_495 : (Cond.methodLink "RingHerd$Herd" (133 : Nat) ({ cls := "RingHerd$Herd", name := "blend", desc := "(LRingHerd$Grain;ILRingHerd$Grain;I)I" } : Jvm.MethodName)) ∈ aw := aw_i 530 (by decide +kernel) (by decide +kernel)
theorem m_496 : (Cond.static ({ cls := "RingHerd$Herd", name := "blend", desc := "(LRingHerd$Grain;ILRingHerd$Grain;I)I" } : Jvm.MethodName)) ∈ aw := aw_i 531 (by decide +kernel) (by decide +kernel)
theorem m_497 : (Cond.code ({ cls := "RingHerd$Herd", name := "blend", desc := "(LRingHerd$Grain;ILRingHerd$Grain;I)I" } : Jvm.MethodName) prog_5_method_14_code (6 : Nat) (Option.some Jvm.ClassFile.FieldType.int)) ∈ aw := aw_i 532 (by decide +kernel) (by decide +kernel)
theorem m_498 : (Cond.methodLink "RingHerd$Herd" (126 : Nat) ({ cls := "RingHerd$Herd", name := "breakUp", desc := "(LRingHerd$Grain;)V" } : Jvm.MethodName)) ∈ aw := aw_i 533 (by decide +kernel) (by decide +kernel)
theorem m_500 : (Cond.instanceMethod ({ cls := "RingHerd$Herd", name := "breakUp", desc := "(LRingHerd$Grain;)V" } : Jvm.MethodName)) ∈ aw := aw_i 535 (by decide +kernel) (by decide +kernel)
theorem m_501 : (Cond.code ({ cls := "RingHerd$Herd", name := "breakUp", desc := "(LRingHerd$Grain;)V" } : Jvm.MethodName) prog_5_method_15_code (5 : Nat) (Option.none : Option Jvm.ClassFile.FieldType)) ∈ aw := aw_i 536 (by decide +kernel) (by decide +kernel)
theorem m_502 : (Cond.methodLink "RingHerd$Herd" (130 : Nat) ({ cls := "RingHerd$Herd", name := "bump", desc := "(LRingHerd$Grain;LRingHerd$Grain;)V" } : Jvm.MethodName)) ∈ aw := aw_i 537 (by decide +kernel) (by decide +kernel)
theorem m_504 : (Cond.instanceMethod ({ cls := "RingHerd$Herd", name := "bump", desc := "(LRingHerd$Grain;LRingHerd$Grain;)V" } : Jvm.MethodName)) ∈ aw := aw_i 539 (by decide +kernel) (by decide +kernel)
theorem m_505 : (Cond.code ({ cls := "RingHerd$Herd", name := "bump", desc := "(LRingHerd$Grain;LRingHerd$Grain;)V" } : Jvm.MethodName) prog_5_method_16_code (6 : Nat) (Option.none : Option Jvm.ClassFile.FieldType)) ∈ aw := aw_i 540 (by decide +kernel) (by decide +kernel)
theorem m_506 : (Cond.methodLink "RingHerd" (294 : Nat) ({ cls := "RingHerd$Herd", name := "darken", desc := "()V" } : Jvm.MethodName)) ∈ aw := aw_i 541 (by decide +kernel) (by decide +kernel)
theorem m_507 : (Cond.instanceMethod ({ cls := "RingHerd$Herd", name := "darken", desc := "()V" } : Jvm.MethodName)) ∈ aw := aw_i 542 (by decide +kernel) (by decide +kernel)
theorem m_508 : (Cond.selects "RingHerd$Herd" ({ cls := "RingHerd$Herd", name := "darken", desc := "()V" } : Jvm.MethodName) ({ cls := "RingHerd$Herd", name := "darken", desc := "()V" } : Jvm.MethodName)) ∈ aw := aw_i 543 (by decide +kernel) (by decide +kernel)
theorem m_509 : (Cond.code ({ cls := "RingHerd$Herd", name := "darken", desc := "()V" } : Jvm.MethodName) prog_5_method_10_code (5 : Nat) (Option.none : Option Jvm.ClassFile.FieldType)) ∈ aw := aw_i 544 (by decide +kernel) (by decide +kernel)
theorem m_510 : (Cond.methodLink "RingHerdLaw" (108 : Nat) ({ cls := "RingHerdLaw", name := "frame", desc := "(LRingHerd;[J)I" } : Jvm.MethodName)) ∈ aw := aw_i 545 (by decide +kernel) (by decide +kernel)
theorem m_511 : (Cond.static ({ cls := "RingHerdLaw", name := "frame", desc := "(LRingHerd;[J)I" } : Jvm.MethodName)) ∈ aw := aw_i 546 (by decide +kernel) (by decide +kernel)
theorem m_512 : (Cond.codeWith ({ cls := "RingHerdLaw", name := "frame", desc := "(LRingHerd;[J)I" } : Jvm.MethodName) method_8_code (3 : Nat) (Option.some Jvm.ClassFile.FieldType.int) [((0 : Nat), (8 : Nat), (11 : Nat), (15 : Nat))]) ∈ aw := aw_i 547 (by decide +kernel) (by decide +kernel)
theorem m_513 : (Cond.methodLink "RingHerdLaw" (32 : Nat) ({ cls := "RingHerd", name := "frame", desc := "()I" } : Jvm.MethodName)) ∈ aw := aw_i 548 (by decide +kernel) (by decide +kernel)
theorem m_514 : (Cond.instanceMethod ({ cls := "RingHerd", name := "frame", desc := "()I" } : Jvm.MethodName)) ∈ aw := aw_i 549 (by decide +kernel) (by decide +kernel)
theorem m_515 : (Cond.selects "RingHerd" ({ cls := "RingHerd", name := "frame", desc := "()I" } : Jvm.MethodName) ({ cls := "RingHerd", name := "frame", desc := "()I" } : Jvm.MethodName)) ∈ aw := aw_i 550 (by decide +kernel) (by decide +kernel)
theorem m_516 : (Cond.code ({ cls := "RingHerd", name := "frame", desc := "()I" } : Jvm.MethodName) prog_1_method_7_code (2 : Nat) (Option.some Jvm.ClassFile.FieldType.int)) ∈ aw := aw_i 551 (by decide +kernel) (by decide +kernel)
theorem m_518 : (Cond.methodLink "RingHerdLaw" (112 : Nat) ({ cls := "RingHerdLaw", name := "claim", desc := "(LRingHerd;IIII[J)I" } : Jvm.MethodName)) ∈ aw := aw_i 553 (by decide +kernel) (by decide +kernel)
theorem m_519 : (Cond.static ({ cls := "RingHerdLaw", name := "claim", desc := "(LRingHerd;IIII[J)I" } : Jvm.MethodName)) ∈ aw := aw_i 554 (by decide +kernel) (by decide +kernel)
theorem m_520 : (Cond.codeWith ({ cls := "RingHerdLaw", name := "claim", desc := "(LRingHerd;IIII[J)I" } : Jvm.MethodName) method_9_code (7 : Nat) (Option.some Jvm.ClassFile.FieldType.int) [((0 : Nat), (14 : Nat), (17 : Nat), (39 : Nat)), ((0 : Nat), (14 : Nat), (21 : Nat), (13 : Nat)), ((0 : Nat), (14 : Nat), (25 : Nat), (15 : Nat))]) ∈ aw := aw_i 555 (by decide +kernel) (by decide +kernel)
theorem m_521 : (Cond.classLink "RingHerdLaw" (39 : Nat) "java/lang/IndexOutOfBoundsException") ∈ aw := aw_i 556 (by decide +kernel) (by decide +kernel)
theorem m_522 : (Cond.methodLink "RingHerdLaw" (36 : Nat) ({ cls := "RingHerd", name := "claim", desc := "(IIII)I" } : Jvm.MethodName)) ∈ aw := aw_i 557 (by decide +kernel) (by decide +kernel)
theorem m_523 : (Cond.instanceMethod ({ cls := "RingHerd", name := "claim", desc := "(IIII)I" } : Jvm.MethodName)) ∈ aw := aw_i 558 (by decide +kernel) (by decide +kernel)
theorem m_524 : (Cond.selects "RingHerd" ({ cls := "RingHerd", name := "claim", desc := "(IIII)I" } : Jvm.MethodName) ({ cls := "RingHerd", name := "claim", desc := "(IIII)I" } : Jvm.MethodName)) ∈ aw := aw_i 559 (by decide +kernel) (by decide +kernel)
theorem m_525 : (Cond.code ({ cls := "RingHerd", name := "claim", desc := "(IIII)I" } : Jvm.MethodName) prog_1_method_8_code (6 : Nat) (Option.some Jvm.ClassFile.FieldType.int)) ∈ aw := aw_i 560 (by decide +kernel) (by decide +kernel)
theorem m_526 : (Cond.methodLink "RingHerd" (128 : Nat) ({ cls := "RingHerd", name := "requireNumber", desc := "(II)V" } : Jvm.MethodName)) ∈ aw := aw_i 561 (by decide +kernel) (by decide +kernel)
theorem m_527 : (Cond.static ({ cls := "RingHerd", name := "requireNumber", desc := "(II)V" } : Jvm.MethodName)) ∈ aw := aw_i 562 (by decide +kernel) (by decide +kernel)
theorem m_528 : (Cond.code ({ cls := "RingHerd", name := "requireNumber", desc := "(II)V" } : Jvm.MethodName) prog_1_method_27_code (2 : Nat) (Option.none : Option Jvm.ClassFile.FieldType)) ∈ aw := aw_i 563 (by decide +kernel) (by decide +kernel)
theorem m_529 : (Cond.classLink "RingHerd" (267 : Nat) "java/lang/IndexOutOfBoundsException") ∈ aw := aw_i 564 (by decide +kernel) (by decide +kernel)
theorem m_530 : (Cond.instantiable "java/lang/IndexOutOfBoundsException" (6 : Nat)) ∈ aw := aw_i 565 (by decide +kernel) (by decide +kernel)
theorem m_532 : (Cond.selects "java/lang/IndexOutOfBoundsException" ({ cls := "java/lang/Throwable", name := "fillInStackTrace", desc := "(I)Ljava/lang/Throwable;" } : Jvm.MethodName) ({ cls := "java/lang/Throwable", name := "fillInStackTrace", desc := "(I)Ljava/lang/Throwable;" } : Jvm.MethodName)) ∈ aw := aw_i 567 (by decide +kernel) (by decide +kernel)
theorem m_533 : (Cond.lays "java/lang/IndexOutOfBoundsException" "java/lang/Throwable" "cause" "Ljava/lang/Throwable;") ∈ aw := aw_i 568 (by decide +kernel) (by decide +kernel)
theorem m_534 : (Cond.lays "java/lang/IndexOutOfBoundsException" "java/lang/Throwable" "stackTrace" "[Ljava/lang/StackTraceElement;") ∈ aw := aw_i 569 (by decide +kernel) (by decide +kernel)
theorem m_535 : (Cond.lays "java/lang/IndexOutOfBoundsException" "java/lang/Throwable" "suppressedExceptions" "Ljava/util/List;") ∈ aw := aw_i 570 (by decide +kernel) (by decide +kernel)
theorem m_536 : (Cond.lays "java/lang/IndexOutOfBoundsException" "java/lang/Throwable" "detailMessage" "Ljava/lang/String;") ∈ aw := aw_i 571 (by decide +kernel) (by decide +kernel)
theorem m_537 : (Cond.lays "java/lang/IndexOutOfBoundsException" "java/lang/Throwable" "backtrace" "Ljava/lang/Object;") ∈ aw := aw_i 572 (by decide +kernel) (by decide +kernel)
theorem m_539 : (Cond.methodLink "RingHerd" (271 : Nat) ({ cls := "java/lang/IndexOutOfBoundsException", name := "<init>", desc := "(Ljava/lang/String;)V" } : Jvm.MethodName)) ∈ aw := aw_i 574 (by decide +kernel) (by decide +kernel)
theorem m_540 : (Cond.instanceMethod ({ cls := "java/lang/IndexOutOfBoundsException", name := "<init>", desc := "(Ljava/lang/String;)V" } : Jvm.MethodName)) ∈ aw := aw_i 575 (by decide +kernel) (by decide +kernel)
theorem m_541 : (Cond.code ({ cls := "java/lang/IndexOutOfBoundsException", name := "<init>", desc := "(Ljava/lang/String;)V" } : Jvm.MethodName) prog_14_method_2_code (2 : Nat) (Option.none : Option Jvm.ClassFile.FieldType)) ∈ aw := aw_i 576 (by decide +kernel) (by decide +kernel)
theorem m_542 : (Cond.methodLink "java/lang/IndexOutOfBoundsException" (7 : Nat) ({ cls := "java/lang/RuntimeException", name := "<init>", desc := "(Ljava/lang/String;)V" } : Jvm.MethodName)) ∈ aw := aw_i 577 (by decide +kernel) (by decide +kernel)
theorem m_543 : (Cond.lays "java/lang/IndexOutOfBoundsException" "java/lang/Throwable" "depth" "I") ∈ aw := aw_i 578 (by decide +kernel) (by decide +kernel)
theorem m_545 : (Cond.constant "RingHerd" (136 : Nat) (1000000 : Int32)) ∈ aw := aw_i 580 (by decide +kernel) (by decide +kernel)
theorem m_547 : (Cond.methodLink "RingHerdLaw" (119 : Nat) ({ cls := "RingHerdLaw", name := "told", desc := "(LRingHerd;II[J)I" } : Jvm.MethodName)) ∈ aw := aw_i 582 (by decide +kernel) (by decide +kernel)
theorem m_548 : (Cond.static ({ cls := "RingHerdLaw", name := "told", desc := "(LRingHerd;II[J)I" } : Jvm.MethodName)) ∈ aw := aw_i 583 (by decide +kernel) (by decide +kernel)
theorem m_549 : (Cond.codeWith ({ cls := "RingHerdLaw", name := "told", desc := "(LRingHerd;II[J)I" } : Jvm.MethodName) method_10_code (5 : Nat) (Option.some Jvm.ClassFile.FieldType.int) [((0 : Nat), (10 : Nat), (13 : Nat), (39 : Nat)), ((0 : Nat), (10 : Nat), (17 : Nat), (13 : Nat))]) ∈ aw := aw_i 584 (by decide +kernel) (by decide +kernel)
theorem m_550 : (Cond.methodLink "RingHerdLaw" (41 : Nat) ({ cls := "RingHerd", name := "told", desc := "(II)I" } : Jvm.MethodName)) ∈ aw := aw_i 585 (by decide +kernel) (by decide +kernel)
theorem m_551 : (Cond.instanceMethod ({ cls := "RingHerd", name := "told", desc := "(II)I" } : Jvm.MethodName)) ∈ aw := aw_i 586 (by decide +kernel) (by decide +kernel)
theorem m_552 : (Cond.selects "RingHerd" ({ cls := "RingHerd", name := "told", desc := "(II)I" } : Jvm.MethodName) ({ cls := "RingHerd", name := "told", desc := "(II)I" } : Jvm.MethodName)) ∈ aw := aw_i 587 (by decide +kernel) (by decide +kernel)
theorem m_553 : (Cond.code ({ cls := "RingHerd", name := "told", desc := "(II)I" } : Jvm.MethodName) prog_1_method_10_code (4 : Nat) (Option.some Jvm.ClassFile.FieldType.int)) ∈ aw := aw_i 588 (by decide +kernel) (by decide +kernel)
theorem m_555 : (Cond.methodLink "RingHerdLaw" (123 : Nat) ({ cls := "RingHerdLaw", name := "angle", desc := "(LRingHerd;I[J)I" } : Jvm.MethodName)) ∈ aw := aw_i 590 (by decide +kernel) (by decide +kernel)
theorem m_556 : (Cond.static ({ cls := "RingHerdLaw", name := "angle", desc := "(LRingHerd;I[J)I" } : Jvm.MethodName)) ∈ aw := aw_i 591 (by decide +kernel) (by decide +kernel)
theorem m_557 : (Cond.codeWith ({ cls := "RingHerdLaw", name := "angle", desc := "(LRingHerd;I[J)I" } : Jvm.MethodName) method_11_code (4 : Nat) (Option.some Jvm.ClassFile.FieldType.int) [((0 : Nat), (9 : Nat), (12 : Nat), (39 : Nat))]) ∈ aw := aw_i 592 (by decide +kernel) (by decide +kernel)
theorem m_558 : (Cond.methodLink "RingHerdLaw" (45 : Nat) ({ cls := "RingHerd", name := "angle", desc := "(I)I" } : Jvm.MethodName)) ∈ aw := aw_i 593 (by decide +kernel) (by decide +kernel)
theorem m_559 : (Cond.instanceMethod ({ cls := "RingHerd", name := "angle", desc := "(I)I" } : Jvm.MethodName)) ∈ aw := aw_i 594 (by decide +kernel) (by decide +kernel)
theorem m_560 : (Cond.selects "RingHerd" ({ cls := "RingHerd", name := "angle", desc := "(I)I" } : Jvm.MethodName) ({ cls := "RingHerd", name := "angle", desc := "(I)I" } : Jvm.MethodName)) ∈ aw := aw_i 595 (by decide +kernel) (by decide +kernel)
theorem m_561 : (Cond.code ({ cls := "RingHerd", name := "angle", desc := "(I)I" } : Jvm.MethodName) prog_1_method_11_code (2 : Nat) (Option.some Jvm.ClassFile.FieldType.int)) ∈ aw := aw_i 596 (by decide +kernel) (by decide +kernel)
theorem m_562 : (Cond.methodLink "RingHerdLaw" (126 : Nat) ({ cls := "RingHerdLaw", name := "speed", desc := "(LRingHerd;I[J)I" } : Jvm.MethodName)) ∈ aw := aw_i 597 (by decide +kernel) (by decide +kernel)
theorem m_563 : (Cond.static ({ cls := "RingHerdLaw", name := "speed", desc := "(LRingHerd;I[J)I" } : Jvm.MethodName)) ∈ aw := aw_i 598 (by decide +kernel) (by decide +kernel)
theorem m_564 : (Cond.codeWith ({ cls := "RingHerdLaw", name := "speed", desc := "(LRingHerd;I[J)I" } : Jvm.MethodName) method_12_code (4 : Nat) (Option.some Jvm.ClassFile.FieldType.int) [((0 : Nat), (9 : Nat), (12 : Nat), (13 : Nat))]) ∈ aw := aw_i 599 (by decide +kernel) (by decide +kernel)
theorem m_565 : (Cond.methodLink "RingHerdLaw" (48 : Nat) ({ cls := "RingHerd", name := "speed", desc := "(I)I" } : Jvm.MethodName)) ∈ aw := aw_i 600 (by decide +kernel) (by decide +kernel)
theorem m_566 : (Cond.instanceMethod ({ cls := "RingHerd", name := "speed", desc := "(I)I" } : Jvm.MethodName)) ∈ aw := aw_i 601 (by decide +kernel) (by decide +kernel)
theorem m_567 : (Cond.selects "RingHerd" ({ cls := "RingHerd", name := "speed", desc := "(I)I" } : Jvm.MethodName) ({ cls := "RingHerd", name := "speed", desc := "(I)I" } : Jvm.MethodName)) ∈ aw := aw_i 602 (by decide +kernel) (by decide +kernel)
theorem m_568 : (Cond.code ({ cls := "RingHerd", name := "speed", desc := "(I)I" } : Jvm.MethodName) prog_1_method_12_code (2 : Nat) (Option.some Jvm.ClassFile.FieldType.int)) ∈ aw := aw_i 603 (by decide +kernel) (by decide +kernel)
theorem m_569 : (Cond.methodLink "RingHerdLaw" (129 : Nat) ({ cls := "RingHerdLaw", name := "count", desc := "(LRingHerd;I[J)I" } : Jvm.MethodName)) ∈ aw := aw_i 604 (by decide +kernel) (by decide +kernel)
theorem m_570 : (Cond.static ({ cls := "RingHerdLaw", name := "count", desc := "(LRingHerd;I[J)I" } : Jvm.MethodName)) ∈ aw := aw_i 605 (by decide +kernel) (by decide +kernel)
theorem m_571 : (Cond.codeWith ({ cls := "RingHerdLaw", name := "count", desc := "(LRingHerd;I[J)I" } : Jvm.MethodName) method_13_code (4 : Nat) (Option.some Jvm.ClassFile.FieldType.int) [((0 : Nat), (9 : Nat), (12 : Nat), (13 : Nat))]) ∈ aw := aw_i 606 (by decide +kernel) (by decide +kernel)
theorem m_572 : (Cond.methodLink "RingHerdLaw" (51 : Nat) ({ cls := "RingHerd", name := "count", desc := "(I)I" } : Jvm.MethodName)) ∈ aw := aw_i 607 (by decide +kernel) (by decide +kernel)
theorem m_573 : (Cond.instanceMethod ({ cls := "RingHerd", name := "count", desc := "(I)I" } : Jvm.MethodName)) ∈ aw := aw_i 608 (by decide +kernel) (by decide +kernel)
theorem m_574 : (Cond.selects "RingHerd" ({ cls := "RingHerd", name := "count", desc := "(I)I" } : Jvm.MethodName) ({ cls := "RingHerd", name := "count", desc := "(I)I" } : Jvm.MethodName)) ∈ aw := aw_i 609 (by decide +kernel) (by decide +kernel)
theorem m_575 : (Cond.code ({ cls := "RingHerd", name := "count", desc := "(I)I" } : Jvm.MethodName) prog_1_method_13_code (2 : Nat) (Option.some Jvm.ClassFile.FieldType.int)) ∈ aw := aw_i 610 (by decide +kernel) (by decide +kernel)
theorem m_576 : (Cond.methodLink "RingHerd" (183 : Nat) ({ cls := "RingHerd$Herd", name := "countThere", desc := "()I" } : Jvm.MethodName)) ∈ aw := aw_i 611 (by decide +kernel) (by decide +kernel)
theorem m_577 : (Cond.instanceMethod ({ cls := "RingHerd$Herd", name := "countThere", desc := "()I" } : Jvm.MethodName)) ∈ aw := aw_i 612 (by decide +kernel) (by decide +kernel)
theorem m_578 : (Cond.selects "RingHerd$Herd" ({ cls := "RingHerd$Herd", name := "countThere", desc := "()I" } : Jvm.MethodName) ({ cls := "RingHerd$Herd", name := "countThere", desc := "()I" } : Jvm.MethodName)) ∈ aw := aw_i 613 (by decide +kernel) (by decide +kernel)
theorem m_579 : (Cond.code ({ cls := "RingHerd$Herd", name := "countThere", desc := "()I" } : Jvm.MethodName) prog_5_method_3_code (6 : Nat) (Option.some Jvm.ClassFile.FieldType.int)) ∈ aw := aw_i 614 (by decide +kernel) (by decide +kernel)
theorem m_581 : (Cond.methodLink "RingHerdLaw" (132 : Nat) ({ cls := "RingHerdLaw", name := "mass", desc := "(LRingHerd;I[J)I" } : Jvm.MethodName)) ∈ aw := aw_i 616 (by decide +kernel) (by decide +kernel)
theorem m_582 : (Cond.static ({ cls := "RingHerdLaw", name := "mass", desc := "(LRingHerd;I[J)I" } : Jvm.MethodName)) ∈ aw := aw_i 617 (by decide +kernel) (by decide +kernel)
theorem m_583 : (Cond.codeWith ({ cls := "RingHerdLaw", name := "mass", desc := "(LRingHerd;I[J)I" } : Jvm.MethodName) method_14_code (4 : Nat) (Option.some Jvm.ClassFile.FieldType.int) [((0 : Nat), (9 : Nat), (12 : Nat), (13 : Nat))]) ∈ aw := aw_i 618 (by decide +kernel) (by decide +kernel)
theorem m_584 : (Cond.methodLink "RingHerdLaw" (54 : Nat) ({ cls := "RingHerd", name := "mass", desc := "(I)I" } : Jvm.MethodName)) ∈ aw := aw_i 619 (by decide +kernel) (by decide +kernel)
theorem m_585 : (Cond.instanceMethod ({ cls := "RingHerd", name := "mass", desc := "(I)I" } : Jvm.MethodName)) ∈ aw := aw_i 620 (by decide +kernel) (by decide +kernel)
theorem m_586 : (Cond.selects "RingHerd" ({ cls := "RingHerd", name := "mass", desc := "(I)I" } : Jvm.MethodName) ({ cls := "RingHerd", name := "mass", desc := "(I)I" } : Jvm.MethodName)) ∈ aw := aw_i 621 (by decide +kernel) (by decide +kernel)
theorem m_587 : (Cond.code ({ cls := "RingHerd", name := "mass", desc := "(I)I" } : Jvm.MethodName) prog_1_method_14_code (2 : Nat) (Option.some Jvm.ClassFile.FieldType.int)) ∈ aw := aw_i 622 (by decide +kernel) (by decide +kernel)
theorem m_588 : (Cond.methodLink "RingHerdLaw" (135 : Nat) ({ cls := "RingHerdLaw", name := "sum", desc := "(LRingHerd;I[J)I" } : Jvm.MethodName)) ∈ aw := aw_i 623 (by decide +kernel) (by decide +kernel)
theorem m_589 : (Cond.static ({ cls := "RingHerdLaw", name := "sum", desc := "(LRingHerd;I[J)I" } : Jvm.MethodName)) ∈ aw := aw_i 624 (by decide +kernel) (by decide +kernel)
theorem m_590 : (Cond.codeWith ({ cls := "RingHerdLaw", name := "sum", desc := "(LRingHerd;I[J)I" } : Jvm.MethodName) method_15_code (4 : Nat) (Option.some Jvm.ClassFile.FieldType.int) [((0 : Nat), (9 : Nat), (12 : Nat), (13 : Nat))]) ∈ aw := aw_i 625 (by decide +kernel) (by decide +kernel)
theorem m_591 : (Cond.methodLink "RingHerdLaw" (57 : Nat) ({ cls := "RingHerd", name := "sum", desc := "(I)I" } : Jvm.MethodName)) ∈ aw := aw_i 626 (by decide +kernel) (by decide +kernel)
theorem m_592 : (Cond.instanceMethod ({ cls := "RingHerd", name := "sum", desc := "(I)I" } : Jvm.MethodName)) ∈ aw := aw_i 627 (by decide +kernel) (by decide +kernel)
theorem m_593 : (Cond.selects "RingHerd" ({ cls := "RingHerd", name := "sum", desc := "(I)I" } : Jvm.MethodName) ({ cls := "RingHerd", name := "sum", desc := "(I)I" } : Jvm.MethodName)) ∈ aw := aw_i 628 (by decide +kernel) (by decide +kernel)
theorem m_594 : (Cond.code ({ cls := "RingHerd", name := "sum", desc := "(I)I" } : Jvm.MethodName) prog_1_method_15_code (2 : Nat) (Option.some Jvm.ClassFile.FieldType.int)) ∈ aw := aw_i 629 (by decide +kernel) (by decide +kernel)
theorem m_595 : (Cond.methodLink "RingHerd" (210 : Nat) ({ cls := "RingHerd$Herd", name := "massThere", desc := "()I" } : Jvm.MethodName)) ∈ aw := aw_i 630 (by decide +kernel) (by decide +kernel)
theorem m_596 : (Cond.instanceMethod ({ cls := "RingHerd$Herd", name := "massThere", desc := "()I" } : Jvm.MethodName)) ∈ aw := aw_i 631 (by decide +kernel) (by decide +kernel)
theorem m_597 : (Cond.selects "RingHerd$Herd" ({ cls := "RingHerd$Herd", name := "massThere", desc := "()I" } : Jvm.MethodName) ({ cls := "RingHerd$Herd", name := "massThere", desc := "()I" } : Jvm.MethodName)) ∈ aw := aw_i 632 (by decide +kernel) (by decide +kernel)
theorem m_598 : (Cond.code ({ cls := "RingHerd$Herd", name := "massThere", desc := "()I" } : Jvm.MethodName) prog_5_method_4_code (6 : Nat) (Option.some Jvm.ClassFile.FieldType.int)) ∈ aw := aw_i 633 (by decide +kernel) (by decide +kernel)
theorem m_600 : (Cond.methodLink "RingHerdLaw" (138 : Nat) ({ cls := "RingHerdLaw", name := "momentum", desc := "(LRingHerd;I[J)I" } : Jvm.MethodName)) ∈ aw := aw_i 635 (by decide +kernel) (by decide +kernel)
theorem m_601 : (Cond.static ({ cls := "RingHerdLaw", name := "momentum", desc := "(LRingHerd;I[J)I" } : Jvm.MethodName)) ∈ aw := aw_i 636 (by decide +kernel) (by decide +kernel)
theorem m_602 : (Cond.codeWith ({ cls := "RingHerdLaw", name := "momentum", desc := "(LRingHerd;I[J)I" } : Jvm.MethodName) method_16_code (4 : Nat) (Option.some Jvm.ClassFile.FieldType.int) [((0 : Nat), (8 : Nat), (11 : Nat), (13 : Nat))]) ∈ aw := aw_i 637 (by decide +kernel) (by decide +kernel)
theorem m_603 : (Cond.methodLink "RingHerdLaw" (60 : Nat) ({ cls := "RingHerd", name := "momentum", desc := "(I)J" } : Jvm.MethodName)) ∈ aw := aw_i 638 (by decide +kernel) (by decide +kernel)
theorem m_604 : (Cond.instanceMethod ({ cls := "RingHerd", name := "momentum", desc := "(I)J" } : Jvm.MethodName)) ∈ aw := aw_i 639 (by decide +kernel) (by decide +kernel)
theorem m_605 : (Cond.selects "RingHerd" ({ cls := "RingHerd", name := "momentum", desc := "(I)J" } : Jvm.MethodName) ({ cls := "RingHerd", name := "momentum", desc := "(I)J" } : Jvm.MethodName)) ∈ aw := aw_i 640 (by decide +kernel) (by decide +kernel)
theorem m_606 : (Cond.code ({ cls := "RingHerd", name := "momentum", desc := "(I)J" } : Jvm.MethodName) prog_1_method_16_code (2 : Nat) (Option.some Jvm.ClassFile.FieldType.long)) ∈ aw := aw_i 641 (by decide +kernel) (by decide +kernel)
theorem m_607 : (Cond.methodLink "RingHerd" (224 : Nat) ({ cls := "RingHerd$Herd", name := "momentumThere", desc := "()J" } : Jvm.MethodName)) ∈ aw := aw_i 642 (by decide +kernel) (by decide +kernel)
theorem m_608 : (Cond.instanceMethod ({ cls := "RingHerd$Herd", name := "momentumThere", desc := "()J" } : Jvm.MethodName)) ∈ aw := aw_i 643 (by decide +kernel) (by decide +kernel)
theorem m_609 : (Cond.selects "RingHerd$Herd" ({ cls := "RingHerd$Herd", name := "momentumThere", desc := "()J" } : Jvm.MethodName) ({ cls := "RingHerd$Herd", name := "momentumThere", desc := "()J" } : Jvm.MethodName)) ∈ aw := aw_i 644 (by decide +kernel) (by decide +kernel)
theorem m_610 : (Cond.code ({ cls := "RingHerd$Herd", name := "momentumThere", desc := "()J" } : Jvm.MethodName) prog_5_method_5_code (7 : Nat) (Option.some Jvm.ClassFile.FieldType.long)) ∈ aw := aw_i 645 (by decide +kernel) (by decide +kernel)
theorem m_611 : (Cond.methodLink "RingHerdLaw" (146 : Nat) ({ cls := "RingHerdLaw", name := "resonance", desc := "(LRingHerd;II[J)I" } : Jvm.MethodName)) ∈ aw := aw_i 646 (by decide +kernel) (by decide +kernel)
theorem m_612 : (Cond.static ({ cls := "RingHerdLaw", name := "resonance", desc := "(LRingHerd;II[J)I" } : Jvm.MethodName)) ∈ aw := aw_i 647 (by decide +kernel) (by decide +kernel)
theorem m_613 : (Cond.codeWith ({ cls := "RingHerdLaw", name := "resonance", desc := "(LRingHerd;II[J)I" } : Jvm.MethodName) method_17_code (5 : Nat) (Option.some Jvm.ClassFile.FieldType.int) [((0 : Nat), (10 : Nat), (13 : Nat), (39 : Nat)), ((0 : Nat), (10 : Nat), (17 : Nat), (13 : Nat))]) ∈ aw := aw_i 648 (by decide +kernel) (by decide +kernel)
theorem m_614 : (Cond.methodLink "RingHerdLaw" (64 : Nat) ({ cls := "RingHerd", name := "resonance", desc := "(II)I" } : Jvm.MethodName)) ∈ aw := aw_i 649 (by decide +kernel) (by decide +kernel)
theorem m_615 : (Cond.instanceMethod ({ cls := "RingHerd", name := "resonance", desc := "(II)I" } : Jvm.MethodName)) ∈ aw := aw_i 650 (by decide +kernel) (by decide +kernel)
theorem m_616 : (Cond.selects "RingHerd" ({ cls := "RingHerd", name := "resonance", desc := "(II)I" } : Jvm.MethodName) ({ cls := "RingHerd", name := "resonance", desc := "(II)I" } : Jvm.MethodName)) ∈ aw := aw_i 651 (by decide +kernel) (by decide +kernel)
theorem m_617 : (Cond.code ({ cls := "RingHerd", name := "resonance", desc := "(II)I" } : Jvm.MethodName) prog_1_method_18_code (3 : Nat) (Option.some Jvm.ClassFile.FieldType.int)) ∈ aw := aw_i 652 (by decide +kernel) (by decide +kernel)
theorem m_618 : (Cond.methodLink "RingHerd" (247 : Nat) ({ cls := "RingHerd", name := "ratioOf", desc := "(LRingHerd$Moon;II)I" } : Jvm.MethodName)) ∈ aw := aw_i 653 (by decide +kernel) (by decide +kernel)
theorem m_620 : (Cond.instanceMethod ({ cls := "RingHerd", name := "ratioOf", desc := "(LRingHerd$Moon;II)I" } : Jvm.MethodName)) ∈ aw := aw_i 655 (by decide +kernel) (by decide +kernel)
theorem m_621 : (Cond.code ({ cls := "RingHerd", name := "ratioOf", desc := "(LRingHerd$Moon;II)I" } : Jvm.MethodName) prog_1_method_33_code (10 : Nat) (Option.some Jvm.ClassFile.FieldType.int)) ∈ aw := aw_i 656 (by decide +kernel) (by decide +kernel)
theorem m_622 : (Cond.methodLink "RingHerd" (297 : Nat) ({ cls := "RingHerd", name := "inTune", desc := "(II)Z" } : Jvm.MethodName)) ∈ aw := aw_i 657 (by decide +kernel) (by decide +kernel)
theorem m_623 : (Cond.static ({ cls := "RingHerd", name := "inTune", desc := "(II)Z" } : Jvm.MethodName)) ∈ aw := aw_i 658 (by decide +kernel) (by decide +kernel)
theorem m_624 : (Cond.code ({ cls := "RingHerd", name := "inTune", desc := "(II)Z" } : Jvm.MethodName) prog_1_method_34_code (2 : Nat) (Option.some Jvm.ClassFile.FieldType.boolean)) ∈ aw := aw_i 659 (by decide +kernel) (by decide +kernel)
theorem m_625 : (Cond.methodLink "RingHerdLaw" (149 : Nat) ({ cls := "RingHerdLaw", name := "gap", desc := "(LRingHerd;II[J)I" } : Jvm.MethodName)) ∈ aw := aw_i 660 (by decide +kernel) (by decide +kernel)
theorem m_626 : (Cond.static ({ cls := "RingHerdLaw", name := "gap", desc := "(LRingHerd;II[J)I" } : Jvm.MethodName)) ∈ aw := aw_i 661 (by decide +kernel) (by decide +kernel)
theorem m_627 : (Cond.codeWith ({ cls := "RingHerdLaw", name := "gap", desc := "(LRingHerd;II[J)I" } : Jvm.MethodName) method_18_code (5 : Nat) (Option.some Jvm.ClassFile.FieldType.int) [((0 : Nat), (10 : Nat), (13 : Nat), (39 : Nat)), ((0 : Nat), (10 : Nat), (17 : Nat), (13 : Nat))]) ∈ aw := aw_i 662 (by decide +kernel) (by decide +kernel)
theorem m_628 : (Cond.methodLink "RingHerdLaw" (67 : Nat) ({ cls := "RingHerd", name := "gap", desc := "(II)I" } : Jvm.MethodName)) ∈ aw := aw_i 663 (by decide +kernel) (by decide +kernel)
theorem m_629 : (Cond.instanceMethod ({ cls := "RingHerd", name := "gap", desc := "(II)I" } : Jvm.MethodName)) ∈ aw := aw_i 664 (by decide +kernel) (by decide +kernel)
theorem m_630 : (Cond.selects "RingHerd" ({ cls := "RingHerd", name := "gap", desc := "(II)I" } : Jvm.MethodName) ({ cls := "RingHerd", name := "gap", desc := "(II)I" } : Jvm.MethodName)) ∈ aw := aw_i 665 (by decide +kernel) (by decide +kernel)
theorem m_631 : (Cond.code ({ cls := "RingHerd", name := "gap", desc := "(II)I" } : Jvm.MethodName) prog_1_method_19_code (3 : Nat) (Option.some Jvm.ClassFile.FieldType.int)) ∈ aw := aw_i 666 (by decide +kernel) (by decide +kernel)
theorem m_632 : (Cond.methodLink "RingHerd" (254 : Nat) ({ cls := "RingHerd", name := "keeperOf", desc := "(II)I" } : Jvm.MethodName)) ∈ aw := aw_i 667 (by decide +kernel) (by decide +kernel)
theorem m_634 : (Cond.instanceMethod ({ cls := "RingHerd", name := "keeperOf", desc := "(II)I" } : Jvm.MethodName)) ∈ aw := aw_i 669 (by decide +kernel) (by decide +kernel)
theorem m_635 : (Cond.code ({ cls := "RingHerd", name := "keeperOf", desc := "(II)I" } : Jvm.MethodName) prog_1_method_36_code (4 : Nat) (Option.some Jvm.ClassFile.FieldType.int)) ∈ aw := aw_i 670 (by decide +kernel) (by decide +kernel)
theorem m_637 : (Cond.methodLink "RingHerdLaw" (156 : Nat) ({ cls := "RingHerdLaw", name := "framed", desc := "(LRingHerd;II[J)I" } : Jvm.MethodName)) ∈ aw := aw_i 672 (by decide +kernel) (by decide +kernel)
theorem m_638 : (Cond.static ({ cls := "RingHerdLaw", name := "framed", desc := "(LRingHerd;II[J)I" } : Jvm.MethodName)) ∈ aw := aw_i 673 (by decide +kernel) (by decide +kernel)
theorem m_639 : (Cond.codeWith ({ cls := "RingHerdLaw", name := "framed", desc := "(LRingHerd;II[J)I" } : Jvm.MethodName) method_19_code (5 : Nat) (Option.some Jvm.ClassFile.FieldType.int) [((0 : Nat), (10 : Nat), (13 : Nat), (39 : Nat)), ((0 : Nat), (10 : Nat), (17 : Nat), (13 : Nat))]) ∈ aw := aw_i 674 (by decide +kernel) (by decide +kernel)
theorem m_640 : (Cond.methodLink "RingHerdLaw" (70 : Nat) ({ cls := "RingHerd", name := "framed", desc := "(II)I" } : Jvm.MethodName)) ∈ aw := aw_i 675 (by decide +kernel) (by decide +kernel)
theorem m_641 : (Cond.instanceMethod ({ cls := "RingHerd", name := "framed", desc := "(II)I" } : Jvm.MethodName)) ∈ aw := aw_i 676 (by decide +kernel) (by decide +kernel)
theorem m_642 : (Cond.selects "RingHerd" ({ cls := "RingHerd", name := "framed", desc := "(II)I" } : Jvm.MethodName) ({ cls := "RingHerd", name := "framed", desc := "(II)I" } : Jvm.MethodName)) ∈ aw := aw_i 677 (by decide +kernel) (by decide +kernel)
theorem m_643 : (Cond.code ({ cls := "RingHerd", name := "framed", desc := "(II)I" } : Jvm.MethodName) prog_1_method_21_code (3 : Nat) (Option.some Jvm.ClassFile.FieldType.int)) ∈ aw := aw_i 678 (by decide +kernel) (by decide +kernel)
theorem m_644 : (Cond.methodLink "RingHerdLaw" (159 : Nat) ({ cls := "RingHerdLaw", name := "holds", desc := "(LRingHerd;II[J)I" } : Jvm.MethodName)) ∈ aw := aw_i 679 (by decide +kernel) (by decide +kernel)
theorem m_645 : (Cond.static ({ cls := "RingHerdLaw", name := "holds", desc := "(LRingHerd;II[J)I" } : Jvm.MethodName)) ∈ aw := aw_i 680 (by decide +kernel) (by decide +kernel)
theorem m_646 : (Cond.codeWith ({ cls := "RingHerdLaw", name := "holds", desc := "(LRingHerd;II[J)I" } : Jvm.MethodName) method_20_code (5 : Nat) (Option.some Jvm.ClassFile.FieldType.int) [((0 : Nat), (17 : Nat), (20 : Nat), (39 : Nat))]) ∈ aw := aw_i 681 (by decide +kernel) (by decide +kernel)
theorem m_647 : (Cond.methodLink "RingHerdLaw" (73 : Nat) ({ cls := "RingHerd", name := "holds", desc := "(II)Z" } : Jvm.MethodName)) ∈ aw := aw_i 682 (by decide +kernel) (by decide +kernel)
theorem m_648 : (Cond.instanceMethod ({ cls := "RingHerd", name := "holds", desc := "(II)Z" } : Jvm.MethodName)) ∈ aw := aw_i 683 (by decide +kernel) (by decide +kernel)
theorem m_649 : (Cond.selects "RingHerd" ({ cls := "RingHerd", name := "holds", desc := "(II)Z" } : Jvm.MethodName) ({ cls := "RingHerd", name := "holds", desc := "(II)Z" } : Jvm.MethodName)) ∈ aw := aw_i 684 (by decide +kernel) (by decide +kernel)
theorem m_650 : (Cond.code ({ cls := "RingHerd", name := "holds", desc := "(II)Z" } : Jvm.MethodName) prog_1_method_22_code (5 : Nat) (Option.some Jvm.ClassFile.FieldType.boolean)) ∈ aw := aw_i 685 (by decide +kernel) (by decide +kernel)
theorem m_651 : (Cond.methodLink "RingHerd" (260 : Nat) ({ cls := "RingHerd$Claim", name := "holdsBy", desc := "(LRingHerd$Frame;)Z" } : Jvm.MethodName)) ∈ aw := aw_i 686 (by decide +kernel) (by decide +kernel)
theorem m_652 : (Cond.instanceMethod ({ cls := "RingHerd$Claim", name := "holdsBy", desc := "(LRingHerd$Frame;)Z" } : Jvm.MethodName)) ∈ aw := aw_i 687 (by decide +kernel) (by decide +kernel)
theorem m_653 : (Cond.selects "RingHerd$Claim" ({ cls := "RingHerd$Claim", name := "holdsBy", desc := "(LRingHerd$Frame;)Z" } : Jvm.MethodName) ({ cls := "RingHerd$Claim", name := "holdsBy", desc := "(LRingHerd$Frame;)Z" } : Jvm.MethodName)) ∈ aw := aw_i 688 (by decide +kernel) (by decide +kernel)
theorem m_654 : (Cond.code ({ cls := "RingHerd$Claim", name := "holdsBy", desc := "(LRingHerd$Frame;)Z" } : Jvm.MethodName) prog_2_method_2_code (3 : Nat) (Option.some Jvm.ClassFile.FieldType.boolean)) ∈ aw := aw_i 689 (by decide +kernel) (by decide +kernel)
theorem m_655 : (Cond.methodLink "RingHerdLaw" (162 : Nat) ({ cls := "RingHerdLaw", name := "disputes", desc := "(LRingHerd;I[J)I" } : Jvm.MethodName)) ∈ aw := aw_i 690 (by decide +kernel) (by decide +kernel)
theorem m_656 : (Cond.static ({ cls := "RingHerdLaw", name := "disputes", desc := "(LRingHerd;I[J)I" } : Jvm.MethodName)) ∈ aw := aw_i 691 (by decide +kernel) (by decide +kernel)
theorem m_657 : (Cond.codeWith ({ cls := "RingHerdLaw", name := "disputes", desc := "(LRingHerd;I[J)I" } : Jvm.MethodName) method_21_code (4 : Nat) (Option.some Jvm.ClassFile.FieldType.int) [((0 : Nat), (9 : Nat), (12 : Nat), (39 : Nat))]) ∈ aw := aw_i 692 (by decide +kernel) (by decide +kernel)
theorem m_658 : (Cond.methodLink "RingHerdLaw" (77 : Nat) ({ cls := "RingHerd", name := "disputes", desc := "(I)I" } : Jvm.MethodName)) ∈ aw := aw_i 693 (by decide +kernel) (by decide +kernel)
theorem m_659 : (Cond.instanceMethod ({ cls := "RingHerd", name := "disputes", desc := "(I)I" } : Jvm.MethodName)) ∈ aw := aw_i 694 (by decide +kernel) (by decide +kernel)
theorem m_660 : (Cond.selects "RingHerd" ({ cls := "RingHerd", name := "disputes", desc := "(I)I" } : Jvm.MethodName) ({ cls := "RingHerd", name := "disputes", desc := "(I)I" } : Jvm.MethodName)) ∈ aw := aw_i 695 (by decide +kernel) (by decide +kernel)
theorem m_661 : (Cond.code ({ cls := "RingHerd", name := "disputes", desc := "(I)I" } : Jvm.MethodName) prog_1_method_23_code (6 : Nat) (Option.some Jvm.ClassFile.FieldType.int)) ∈ aw := aw_i 696 (by decide +kernel) (by decide +kernel)
theorem m_662 : (Cond.classLink "RingHerdLaw" (81 : Nat) "RingHerdModel") ∈ aw := aw_i 697 (by decide +kernel) (by decide +kernel)
theorem m_663 : (Cond.instantiable "RingHerdModel" (37 : Nat)) ∈ aw := aw_i 698 (by decide +kernel) (by decide +kernel)
theorem m_664 : (Cond.methodLink "RingHerdLaw" (83 : Nat) ({ cls := "RingHerdModel", name := "<init>", desc := "()V" } : Jvm.MethodName)) ∈ aw := aw_i 699 (by decide +kernel) (by decide +kernel)
theorem m_665 : (Cond.instanceMethod ({ cls := "RingHerdModel", name := "<init>", desc := "()V" } : Jvm.MethodName)) ∈ aw := aw_i 700 (by decide +kernel) (by decide +kernel)
theorem m_666 : (Cond.code ({ cls := "RingHerdModel", name := "<init>", desc := "()V" } : Jvm.MethodName) prog_10_method_1_code (1 : Nat) (Option.none : Option Jvm.ClassFile.FieldType)) ∈ aw := aw_i 701 (by decide +kernel) (by decide +kernel)
theorem m_667 : (Cond.methodLink "RingHerdModel" (1 : Nat) ({ cls := "java/lang/Object", name := "<init>", desc := "()V" } : Jvm.MethodName)) ∈ aw := aw_i 702 (by decide +kernel) (by decide +kernel)
theorem m_668 : (Cond.fieldLink "RingHerdModel" (69 : Nat) "RingHerdModel" "thrown" "I") ∈ aw := aw_i 703 (by decide +kernel) (by decide +kernel)
theorem m_669 : (Cond.fieldLink "RingHerdModel" (171 : Nat) "RingHerdModel" "now" "I") ∈ aw := aw_i 704 (by decide +kernel) (by decide +kernel)
theorem m_670 : (Cond.fieldLink "RingHerdModel" (98 : Nat) "RingHerdModel" "flatness" "I") ∈ aw := aw_i 705 (by decide +kernel) (by decide +kernel)
theorem m_671 : (Cond.fieldLink "RingHerdModel" (7 : Nat) "RingHerdModel" "first" "I") ∈ aw := aw_i 706 (by decide +kernel) (by decide +kernel)
theorem m_672 : (Cond.fieldLink "RingHerdModel" (13 : Nat) "RingHerdModel" "second" "I") ∈ aw := aw_i 707 (by decide +kernel) (by decide +kernel)
theorem m_673 : (Cond.fieldLink "RingHerdModel" (16 : Nat) "RingHerdModel" "spring" "I") ∈ aw := aw_i 708 (by decide +kernel) (by decide +kernel)
theorem m_674 : (Cond.fieldLink "RingHerdModel" (81 : Nat) "RingHerdModel" "grains" "I") ∈ aw := aw_i 709 (by decide +kernel) (by decide +kernel)
theorem m_675 : (Cond.fieldLink "RingHerdModel" (19 : Nat) "RingHerdModel" "lanes" "[I") ∈ aw := aw_i 710 (by decide +kernel) (by decide +kernel)
theorem m_676 : (Cond.fieldLink "RingHerdModel" (23 : Nat) "RingHerdModel" "angles" "[I") ∈ aw := aw_i 711 (by decide +kernel) (by decide +kernel)
theorem m_677 : (Cond.fieldLink "RingHerdModel" (26 : Nat) "RingHerdModel" "masses" "[I") ∈ aw := aw_i 712 (by decide +kernel) (by decide +kernel)
theorem m_678 : (Cond.fieldLink "RingHerdModel" (29 : Nat) "RingHerdModel" "unrests" "[I") ∈ aw := aw_i 713 (by decide +kernel) (by decide +kernel)
theorem m_679 : (Cond.fieldLink "RingHerdModel" (32 : Nat) "RingHerdModel" "darks" "[I") ∈ aw := aw_i 714 (by decide +kernel) (by decide +kernel)
theorem m_680 : (Cond.fieldLink "RingHerdModel" (35 : Nat) "RingHerdModel" "areThere" "[Z") ∈ aw := aw_i 715 (by decide +kernel) (by decide +kernel)
theorem m_681 : (Cond.fieldLink "RingHerdModel" (39 : Nat) "RingHerdModel" "haveMet" "[Z") ∈ aw := aw_i 716 (by decide +kernel) (by decide +kernel)
theorem m_682 : (Cond.fieldLink "RingHerdModel" (95 : Nat) "RingHerdModel" "moons" "I") ∈ aw := aw_i 717 (by decide +kernel) (by decide +kernel)
theorem m_683 : (Cond.fieldLink "RingHerdModel" (42 : Nat) "RingHerdModel" "moonLanes" "[I") ∈ aw := aw_i 718 (by decide +kernel) (by decide +kernel)
theorem m_684 : (Cond.fieldLink "RingHerdModel" (45 : Nat) "RingHerdModel" "moonAngles" "[I") ∈ aw := aw_i 719 (by decide +kernel) (by decide +kernel)
theorem m_685 : (Cond.fieldLink "RingHerdModel" (48 : Nat) "RingHerdModel" "moonMasses" "[I") ∈ aw := aw_i 720 (by decide +kernel) (by decide +kernel)
theorem m_686 : (Cond.fieldLink "RingHerdModel" (136 : Nat) "RingHerdModel" "stuck" "I") ∈ aw := aw_i 721 (by decide +kernel) (by decide +kernel)
theorem m_687 : (Cond.fieldLink "RingHerdModel" (139 : Nat) "RingHerdModel" "broke" "I") ∈ aw := aw_i 722 (by decide +kernel) (by decide +kernel)
theorem m_688 : (Cond.fieldLink "RingHerdModel" (142 : Nat) "RingHerdModel" "bumps" "I") ∈ aw := aw_i 723 (by decide +kernel) (by decide +kernel)
theorem m_689 : (Cond.fieldLink "RingHerdModel" (106 : Nat) "RingHerdModel" "rained" "I") ∈ aw := aw_i 724 (by decide +kernel) (by decide +kernel)
theorem m_690 : (Cond.fieldLink "RingHerdModel" (112 : Nat) "RingHerdModel" "escaped" "I") ∈ aw := aw_i 725 (by decide +kernel) (by decide +kernel)
theorem m_691 : (Cond.fieldLink "RingHerdModel" (109 : Nat) "RingHerdModel" "rainedMass" "I") ∈ aw := aw_i 726 (by decide +kernel) (by decide +kernel)
theorem m_692 : (Cond.fieldLink "RingHerdModel" (115 : Nat) "RingHerdModel" "escapedMass" "I") ∈ aw := aw_i 727 (by decide +kernel) (by decide +kernel)
theorem m_693 : (Cond.fieldLink "RingHerdModel" (84 : Nat) "RingHerdModel" "putMass" "I") ∈ aw := aw_i 728 (by decide +kernel) (by decide +kernel)
theorem m_694 : (Cond.fieldLink "RingHerdModel" (87 : Nat) "RingHerdModel" "putMomentum" "J") ∈ aw := aw_i 729 (by decide +kernel) (by decide +kernel)
theorem m_695 : (Cond.fieldLink "RingHerdModel" (133 : Nat) "RingHerdModel" "given" "J") ∈ aw := aw_i 730 (by decide +kernel) (by decide +kernel)
theorem m_696 : (Cond.fieldLink "RingHerdModel" (151 : Nat) "RingHerdModel" "heat" "J") ∈ aw := aw_i 731 (by decide +kernel) (by decide +kernel)
theorem m_697 : (Cond.fieldLink "RingHerdModel" (177 : Nat) "RingHerdModel" "frames" "I") ∈ aw := aw_i 732 (by decide +kernel) (by decide +kernel)
theorem m_698 : (Cond.fieldLink "RingHerdModel" (51 : Nat) "RingHerdModel" "framed" "[I") ∈ aw := aw_i 733 (by decide +kernel) (by decide +kernel)
theorem m_699 : (Cond.fieldLink "RingHerdModel" (54 : Nat) "RingHerdModel" "frameTicks" "[I") ∈ aw := aw_i 734 (by decide +kernel) (by decide +kernel)
theorem m_700 : (Cond.fieldLink "RingHerdModel" (187 : Nat) "RingHerdModel" "claims" "I") ∈ aw := aw_i 735 (by decide +kernel) (by decide +kernel)
theorem m_701 : (Cond.fieldLink "RingHerdModel" (57 : Nat) "RingHerdModel" "claimFrames" "[I") ∈ aw := aw_i 736 (by decide +kernel) (by decide +kernel)
theorem m_702 : (Cond.fieldLink "RingHerdModel" (60 : Nat) "RingHerdModel" "claimFrom" "[I") ∈ aw := aw_i 737 (by decide +kernel) (by decide +kernel)
theorem m_703 : (Cond.fieldLink "RingHerdModel" (63 : Nat) "RingHerdModel" "claimTo" "[I") ∈ aw := aw_i 738 (by decide +kernel) (by decide +kernel)
theorem m_704 : (Cond.fieldLink "RingHerdModel" (66 : Nat) "RingHerdModel" "claimMost" "[I") ∈ aw := aw_i 739 (by decide +kernel) (by decide +kernel)
theorem m_705 : (Cond.lays "RingHerdModel" "RingHerdModel" "thrown" "I") ∈ aw := aw_i 740 (by decide +kernel) (by decide +kernel)
theorem m_707 : (Cond.lays "RingHerdModel" "RingHerdModel" "now" "I") ∈ aw := aw_i 742 (by decide +kernel) (by decide +kernel)
theorem m_709 : (Cond.lays "RingHerdModel" "RingHerdModel" "flatness" "I") ∈ aw := aw_i 744 (by decide +kernel) (by decide +kernel)
theorem m_711 : (Cond.lays "RingHerdModel" "RingHerdModel" "first" "I") ∈ aw := aw_i 746 (by decide +kernel) (by decide +kernel)
theorem m_713 : (Cond.lays "RingHerdModel" "RingHerdModel" "second" "I") ∈ aw := aw_i 748 (by decide +kernel) (by decide +kernel)
theorem m_715 : (Cond.lays "RingHerdModel" "RingHerdModel" "spring" "I") ∈ aw := aw_i 750 (by decide +kernel) (by decide +kernel)
theorem m_717 : (Cond.lays "RingHerdModel" "RingHerdModel" "grains" "I") ∈ aw := aw_i 752 (by decide +kernel) (by decide +kernel)
theorem m_719 : (Cond.laysFinal "RingHerdModel" "RingHerdModel" "lanes" "[I") ∈ aw := aw_i 754 (by decide +kernel) (by decide +kernel)
theorem m_721 : (Cond.laysFinal "RingHerdModel" "RingHerdModel" "angles" "[I") ∈ aw := aw_i 756 (by decide +kernel) (by decide +kernel)
theorem m_723 : (Cond.laysFinal "RingHerdModel" "RingHerdModel" "masses" "[I") ∈ aw := aw_i 758 (by decide +kernel) (by decide +kernel)
theorem m_725 : (Cond.laysFinal "RingHerdModel" "RingHerdModel" "unrests" "[I") ∈ aw := aw_i 760 (by decide +kernel) (by decide +kernel)
theorem m_727 : (Cond.laysFinal "RingHerdModel" "RingHerdModel" "darks" "[I") ∈ aw := aw_i 762 (by decide +kernel) (by decide +kernel)
theorem m_729 : (Cond.laysFinal "RingHerdModel" "RingHerdModel" "areThere" "[Z") ∈ aw := aw_i 764 (by decide +kernel) (by decide +kernel)
theorem m_731 : (Cond.laysFinal "RingHerdModel" "RingHerdModel" "haveMet" "[Z") ∈ aw := aw_i 766 (by decide +kernel) (by decide +kernel)
theorem m_733 : (Cond.lays "RingHerdModel" "RingHerdModel" "moons" "I") ∈ aw := aw_i 768 (by decide +kernel) (by decide +kernel)
theorem m_735 : (Cond.laysFinal "RingHerdModel" "RingHerdModel" "moonLanes" "[I") ∈ aw := aw_i 770 (by decide +kernel) (by decide +kernel)
theorem m_737 : (Cond.laysFinal "RingHerdModel" "RingHerdModel" "moonAngles" "[I") ∈ aw := aw_i 772 (by decide +kernel) (by decide +kernel)
theorem m_739 : (Cond.laysFinal "RingHerdModel" "RingHerdModel" "moonMasses" "[I") ∈ aw := aw_i 774 (by decide +kernel) (by decide +kernel)
theorem m_741 : (Cond.lays "RingHerdModel" "RingHerdModel" "stuck" "I") ∈ aw := aw_i 776 (by decide +kernel) (by decide +kernel)
theorem m_743 : (Cond.lays "RingHerdModel" "RingHerdModel" "broke" "I") ∈ aw := aw_i 778 (by decide +kernel) (by decide +kernel)
theorem m_745 : (Cond.lays "RingHerdModel" "RingHerdModel" "bumps" "I") ∈ aw := aw_i 780 (by decide +kernel) (by decide +kernel)
theorem m_747 : (Cond.lays "RingHerdModel" "RingHerdModel" "rained" "I") ∈ aw := aw_i 782 (by decide +kernel) (by decide +kernel)
theorem m_749 : (Cond.lays "RingHerdModel" "RingHerdModel" "escaped" "I") ∈ aw := aw_i 784 (by decide +kernel) (by decide +kernel)
theorem m_751 : (Cond.lays "RingHerdModel" "RingHerdModel" "rainedMass" "I") ∈ aw := aw_i 786 (by decide +kernel) (by decide +kernel)
theorem m_753 : (Cond.lays "RingHerdModel" "RingHerdModel" "escapedMass" "I") ∈ aw := aw_i 788 (by decide +kernel) (by decide +kernel)
theorem m_755 : (Cond.lays "RingHerdModel" "RingHerdModel" "putMass" "I") ∈ aw := aw_i 790 (by decide +kernel) (by decide +kernel)
theorem m_757 : (Cond.lays "RingHerdModel" "RingHerdModel" "putMomentum" "J") ∈ aw := aw_i 792 (by decide +kernel) (by decide +kernel)
theorem m_759 : (Cond.lays "RingHerdModel" "RingHerdModel" "given" "J") ∈ aw := aw_i 794 (by decide +kernel) (by decide +kernel)
theorem m_761 : (Cond.lays "RingHerdModel" "RingHerdModel" "heat" "J") ∈ aw := aw_i 796 (by decide +kernel) (by decide +kernel)
theorem m_763 : (Cond.lays "RingHerdModel" "RingHerdModel" "frames" "I") ∈ aw := aw_i 798 (by decide +kernel) (by decide +kernel)
theorem m_765 : (Cond.laysFinal "RingHerdModel" "RingHerdModel" "framed" "[I") ∈ aw := aw_i 800 (by decide +kernel) (by decide +kernel)
theorem m_767 : (Cond.laysFinal "RingHerdModel" "RingHerdModel" "frameTicks" "[I") ∈ aw := aw_i 802 (by decide +kernel) (by decide +kernel)
theorem m_769 : (Cond.lays "RingHerdModel" "RingHerdModel" "claims" "I") ∈ aw := aw_i 804 (by decide +kernel) (by decide +kernel)
theorem m_771 : (Cond.laysFinal "RingHerdModel" "RingHerdModel" "claimFrames" "[I") ∈ aw := aw_i 806 (by decide +kernel) (by decide +kernel)
theorem m_773 : (Cond.laysFinal "RingHerdModel" "RingHerdModel" "claimFrom" "[I") ∈ aw := aw_i 808 (by decide +kernel) (by decide +kernel)
theorem m_775 : (Cond.laysFinal "RingHerdModel" "RingHerdModel" "claimTo" "[I") ∈ aw := aw_i 810 (by decide +kernel) (by decide +kernel)
theorem m_777 : (Cond.laysFinal "RingHerdModel" "RingHerdModel" "claimMost" "[I") ∈ aw := aw_i 812 (by decide +kernel) (by decide +kernel)
theorem m_780 : (Cond.arrayClass Jvm.ClassFile.FieldType.boolean) ∈ aw := aw_i 815 (by decide +kernel) (by decide +kernel)
theorem m_781 : (Cond.methodLink "RingHerdLaw" (90 : Nat) ({ cls := "RingHerdModel", name := "thrown", desc := "()I" } : Jvm.MethodName)) ∈ aw := aw_i 816 (by decide +kernel) (by decide +kernel)
theorem m_782 : (Cond.instanceMethod ({ cls := "RingHerdModel", name := "thrown", desc := "()I" } : Jvm.MethodName)) ∈ aw := aw_i 817 (by decide +kernel) (by decide +kernel)
theorem m_783 : (Cond.selects "RingHerdModel" ({ cls := "RingHerdModel", name := "thrown", desc := "()I" } : Jvm.MethodName) ({ cls := "RingHerdModel", name := "thrown", desc := "()I" } : Jvm.MethodName)) ∈ aw := aw_i 818 (by decide +kernel) (by decide +kernel)
theorem m_784 : (Cond.code ({ cls := "RingHerdModel", name := "thrown", desc := "()I" } : Jvm.MethodName) prog_10_method_2_code (1 : Nat) (Option.some Jvm.ClassFile.FieldType.int)) ∈ aw := aw_i 819 (by decide +kernel) (by decide +kernel)
theorem m_785 : (Cond.methodLink "RingHerdLaw" (89 : Nat) ({ cls := "RingHerdModel", name := "grain", desc := "(IIII)I" } : Jvm.MethodName)) ∈ aw := aw_i 820 (by decide +kernel) (by decide +kernel)
theorem m_786 : (Cond.instanceMethod ({ cls := "RingHerdModel", name := "grain", desc := "(IIII)I" } : Jvm.MethodName)) ∈ aw := aw_i 821 (by decide +kernel) (by decide +kernel)
theorem m_787 : (Cond.selects "RingHerdModel" ({ cls := "RingHerdModel", name := "grain", desc := "(IIII)I" } : Jvm.MethodName) ({ cls := "RingHerdModel", name := "grain", desc := "(IIII)I" } : Jvm.MethodName)) ∈ aw := aw_i 822 (by decide +kernel) (by decide +kernel)
theorem m_788 : (Cond.code ({ cls := "RingHerdModel", name := "grain", desc := "(IIII)I" } : Jvm.MethodName) prog_10_method_5_code (6 : Nat) (Option.some Jvm.ClassFile.FieldType.int)) ∈ aw := aw_i 823 (by decide +kernel) (by decide +kernel)
theorem m_789 : (Cond.methodLink "RingHerdModel" (76 : Nat) ({ cls := "RingHerdModel", name := "isLane", desc := "(I)Z" } : Jvm.MethodName)) ∈ aw := aw_i 824 (by decide +kernel) (by decide +kernel)
theorem m_790 : (Cond.static ({ cls := "RingHerdModel", name := "isLane", desc := "(I)Z" } : Jvm.MethodName)) ∈ aw := aw_i 825 (by decide +kernel) (by decide +kernel)
theorem m_791 : (Cond.code ({ cls := "RingHerdModel", name := "isLane", desc := "(I)Z" } : Jvm.MethodName) prog_10_method_4_code (1 : Nat) (Option.some Jvm.ClassFile.FieldType.boolean)) ∈ aw := aw_i 826 (by decide +kernel) (by decide +kernel)
theorem m_792 : (Cond.methodLink "RingHerdModel" (72 : Nat) ({ cls := "RingHerdModel", name := "isIn", desc := "(III)Z" } : Jvm.MethodName)) ∈ aw := aw_i 827 (by decide +kernel) (by decide +kernel)
theorem m_793 : (Cond.static ({ cls := "RingHerdModel", name := "isIn", desc := "(III)Z" } : Jvm.MethodName)) ∈ aw := aw_i 828 (by decide +kernel) (by decide +kernel)
theorem m_794 : (Cond.code ({ cls := "RingHerdModel", name := "isIn", desc := "(III)Z" } : Jvm.MethodName) prog_10_method_3_code (3 : Nat) (Option.some Jvm.ClassFile.FieldType.boolean)) ∈ aw := aw_i 829 (by decide +kernel) (by decide +kernel)
theorem m_795 : (Cond.constant "RingHerdModel" (80 : Nat) (35999 : Int32)) ∈ aw := aw_i 830 (by decide +kernel) (by decide +kernel)
theorem m_796 : (Cond.methodLink "RingHerdModel" (91 : Nat) ({ cls := "RingHerdModel", name := "adds", desc := "(IIIII)I" } : Jvm.MethodName)) ∈ aw := aw_i 831 (by decide +kernel) (by decide +kernel)
theorem m_798 : (Cond.instanceMethod ({ cls := "RingHerdModel", name := "adds", desc := "(IIIII)I" } : Jvm.MethodName)) ∈ aw := aw_i 833 (by decide +kernel) (by decide +kernel)
theorem m_799 : (Cond.code ({ cls := "RingHerdModel", name := "adds", desc := "(IIIII)I" } : Jvm.MethodName) prog_10_method_6_code (6 : Nat) (Option.some Jvm.ClassFile.FieldType.int)) ∈ aw := aw_i 834 (by decide +kernel) (by decide +kernel)
theorem m_800 : (Cond.methodLink "RingHerdLaw" (96 : Nat) ({ cls := "RingHerdModel", name := "moon", desc := "(III)I" } : Jvm.MethodName)) ∈ aw := aw_i 835 (by decide +kernel) (by decide +kernel)
theorem m_801 : (Cond.instanceMethod ({ cls := "RingHerdModel", name := "moon", desc := "(III)I" } : Jvm.MethodName)) ∈ aw := aw_i 836 (by decide +kernel) (by decide +kernel)
theorem m_802 : (Cond.selects "RingHerdModel" ({ cls := "RingHerdModel", name := "moon", desc := "(III)I" } : Jvm.MethodName) ({ cls := "RingHerdModel", name := "moon", desc := "(III)I" } : Jvm.MethodName)) ∈ aw := aw_i 837 (by decide +kernel) (by decide +kernel)
theorem m_803 : (Cond.code ({ cls := "RingHerdModel", name := "moon", desc := "(III)I" } : Jvm.MethodName) prog_10_method_7_code (5 : Nat) (Option.some Jvm.ClassFile.FieldType.int)) ∈ aw := aw_i 838 (by decide +kernel) (by decide +kernel)
theorem m_804 : (Cond.methodLink "RingHerdLaw" (100 : Nat) ({ cls := "RingHerdModel", name := "flatness", desc := "(I)I" } : Jvm.MethodName)) ∈ aw := aw_i 839 (by decide +kernel) (by decide +kernel)
theorem m_805 : (Cond.instanceMethod ({ cls := "RingHerdModel", name := "flatness", desc := "(I)I" } : Jvm.MethodName)) ∈ aw := aw_i 840 (by decide +kernel) (by decide +kernel)
theorem m_806 : (Cond.selects "RingHerdModel" ({ cls := "RingHerdModel", name := "flatness", desc := "(I)I" } : Jvm.MethodName) ({ cls := "RingHerdModel", name := "flatness", desc := "(I)I" } : Jvm.MethodName)) ∈ aw := aw_i 841 (by decide +kernel) (by decide +kernel)
theorem m_807 : (Cond.code ({ cls := "RingHerdModel", name := "flatness", desc := "(I)I" } : Jvm.MethodName) prog_10_method_8_code (3 : Nat) (Option.some Jvm.ClassFile.FieldType.int)) ∈ aw := aw_i 842 (by decide +kernel) (by decide +kernel)
theorem m_808 : (Cond.methodLink "RingHerdLaw" (104 : Nat) ({ cls := "RingHerdModel", name := "bounds", desc := "(III)V" } : Jvm.MethodName)) ∈ aw := aw_i 843 (by decide +kernel) (by decide +kernel)
theorem m_809 : (Cond.instanceMethod ({ cls := "RingHerdModel", name := "bounds", desc := "(III)V" } : Jvm.MethodName)) ∈ aw := aw_i 844 (by decide +kernel) (by decide +kernel)
theorem m_810 : (Cond.selects "RingHerdModel" ({ cls := "RingHerdModel", name := "bounds", desc := "(III)V" } : Jvm.MethodName) ({ cls := "RingHerdModel", name := "bounds", desc := "(III)V" } : Jvm.MethodName)) ∈ aw := aw_i 845 (by decide +kernel) (by decide +kernel)
theorem m_811 : (Cond.code ({ cls := "RingHerdModel", name := "bounds", desc := "(III)V" } : Jvm.MethodName) prog_10_method_9_code (4 : Nat) (Option.none : Option Jvm.ClassFile.FieldType)) ∈ aw := aw_i 846 (by decide +kernel) (by decide +kernel)
theorem m_812 : (Cond.methodLink "RingHerdLaw" (107 : Nat) ({ cls := "RingHerdModel", name := "tick", desc := "(I)I" } : Jvm.MethodName)) ∈ aw := aw_i 847 (by decide +kernel) (by decide +kernel)
theorem m_813 : (Cond.instanceMethod ({ cls := "RingHerdModel", name := "tick", desc := "(I)I" } : Jvm.MethodName)) ∈ aw := aw_i 848 (by decide +kernel) (by decide +kernel)
theorem m_814 : (Cond.selects "RingHerdModel" ({ cls := "RingHerdModel", name := "tick", desc := "(I)I" } : Jvm.MethodName) ({ cls := "RingHerdModel", name := "tick", desc := "(I)I" } : Jvm.MethodName)) ∈ aw := aw_i 849 (by decide +kernel) (by decide +kernel)
theorem m_815 : (Cond.code ({ cls := "RingHerdModel", name := "tick", desc := "(I)I" } : Jvm.MethodName) prog_10_method_23_code (3 : Nat) (Option.some Jvm.ClassFile.FieldType.int)) ∈ aw := aw_i 850 (by decide +kernel) (by decide +kernel)
theorem m_816 : (Cond.methodLink "RingHerdModel" (174 : Nat) ({ cls := "RingHerdModel", name := "goOn", desc := "()V" } : Jvm.MethodName)) ∈ aw := aw_i 851 (by decide +kernel) (by decide +kernel)
theorem m_818 : (Cond.instanceMethod ({ cls := "RingHerdModel", name := "goOn", desc := "()V" } : Jvm.MethodName)) ∈ aw := aw_i 853 (by decide +kernel) (by decide +kernel)
theorem m_819 : (Cond.code ({ cls := "RingHerdModel", name := "goOn", desc := "()V" } : Jvm.MethodName) prog_10_method_22_code (3 : Nat) (Option.none : Option Jvm.ClassFile.FieldType)) ∈ aw := aw_i 854 (by decide +kernel) (by decide +kernel)
theorem m_820 : (Cond.methodLink "RingHerdModel" (145 : Nat) ({ cls := "RingHerdModel", name := "speedOf", desc := "(I)I" } : Jvm.MethodName)) ∈ aw := aw_i 855 (by decide +kernel) (by decide +kernel)
theorem m_822 : (Cond.instanceMethod ({ cls := "RingHerdModel", name := "speedOf", desc := "(I)I" } : Jvm.MethodName)) ∈ aw := aw_i 857 (by decide +kernel) (by decide +kernel)
theorem m_823 : (Cond.code ({ cls := "RingHerdModel", name := "speedOf", desc := "(I)I" } : Jvm.MethodName) prog_10_method_10_code (3 : Nat) (Option.some Jvm.ClassFile.FieldType.int)) ∈ aw := aw_i 858 (by decide +kernel) (by decide +kernel)
theorem m_824 : (Cond.constant "RingHerdModel" (101 : Nat) (36000 : Int32)) ∈ aw := aw_i 859 (by decide +kernel) (by decide +kernel)
theorem m_825 : (Cond.methodLink "RingHerdModel" (161 : Nat) ({ cls := "RingHerdModel", name := "pushes", desc := "(I)V" } : Jvm.MethodName)) ∈ aw := aw_i 860 (by decide +kernel) (by decide +kernel)
theorem m_827 : (Cond.instanceMethod ({ cls := "RingHerdModel", name := "pushes", desc := "(I)V" } : Jvm.MethodName)) ∈ aw := aw_i 862 (by decide +kernel) (by decide +kernel)
theorem m_828 : (Cond.code ({ cls := "RingHerdModel", name := "pushes", desc := "(I)V" } : Jvm.MethodName) prog_10_method_16_code (7 : Nat) (Option.none : Option Jvm.ClassFile.FieldType)) ∈ aw := aw_i 863 (by decide +kernel) (by decide +kernel)
theorem m_829 : (Cond.methodLink "RingHerdModel" (118 : Nat) ({ cls := "RingHerdModel", name := "widthOf", desc := "(I)I" } : Jvm.MethodName)) ∈ aw := aw_i 864 (by decide +kernel) (by decide +kernel)
theorem m_830 : (Cond.static ({ cls := "RingHerdModel", name := "widthOf", desc := "(I)I" } : Jvm.MethodName)) ∈ aw := aw_i 865 (by decide +kernel) (by decide +kernel)
theorem m_831 : (Cond.code ({ cls := "RingHerdModel", name := "widthOf", desc := "(I)I" } : Jvm.MethodName) prog_10_method_15_code (2 : Nat) (Option.some Jvm.ClassFile.FieldType.int)) ∈ aw := aw_i 866 (by decide +kernel) (by decide +kernel)
theorem m_832 : (Cond.methodLink "RingHerdModel" (102 : Nat) ({ cls := "RingHerdModel", name := "size", desc := "(I)I" } : Jvm.MethodName)) ∈ aw := aw_i 867 (by decide +kernel) (by decide +kernel)
theorem m_833 : (Cond.static ({ cls := "RingHerdModel", name := "size", desc := "(I)I" } : Jvm.MethodName)) ∈ aw := aw_i 868 (by decide +kernel) (by decide +kernel)
theorem m_834 : (Cond.code ({ cls := "RingHerdModel", name := "size", desc := "(I)I" } : Jvm.MethodName) prog_10_method_11_code (1 : Nat) (Option.some Jvm.ClassFile.FieldType.int)) ∈ aw := aw_i 869 (by decide +kernel) (by decide +kernel)
theorem m_835 : (Cond.methodLink "RingHerdModel" (121 : Nat) ({ cls := "RingHerdModel", name := "apart", desc := "(II)I" } : Jvm.MethodName)) ∈ aw := aw_i 870 (by decide +kernel) (by decide +kernel)
theorem m_836 : (Cond.static ({ cls := "RingHerdModel", name := "apart", desc := "(II)I" } : Jvm.MethodName)) ∈ aw := aw_i 871 (by decide +kernel) (by decide +kernel)
theorem m_837 : (Cond.code ({ cls := "RingHerdModel", name := "apart", desc := "(II)I" } : Jvm.MethodName) prog_10_method_12_code (3 : Nat) (Option.some Jvm.ClassFile.FieldType.int)) ∈ aw := aw_i 872 (by decide +kernel) (by decide +kernel)
theorem m_838 : (Cond.methodLink "RingHerdModel" (125 : Nat) ({ cls := "RingHerdModel", name := "momentumOf", desc := "(I)J" } : Jvm.MethodName)) ∈ aw := aw_i 873 (by decide +kernel) (by decide +kernel)
theorem m_840 : (Cond.instanceMethod ({ cls := "RingHerdModel", name := "momentumOf", desc := "(I)J" } : Jvm.MethodName)) ∈ aw := aw_i 875 (by decide +kernel) (by decide +kernel)
theorem m_841 : (Cond.code ({ cls := "RingHerdModel", name := "momentumOf", desc := "(I)J" } : Jvm.MethodName) prog_10_method_13_code (2 : Nat) (Option.some Jvm.ClassFile.FieldType.long)) ∈ aw := aw_i 876 (by decide +kernel) (by decide +kernel)
theorem m_842 : (Cond.methodLink "RingHerdModel" (129 : Nat) ({ cls := "RingHerdModel", name := "goes", desc := "(II)V" } : Jvm.MethodName)) ∈ aw := aw_i 877 (by decide +kernel) (by decide +kernel)
theorem m_844 : (Cond.instanceMethod ({ cls := "RingHerdModel", name := "goes", desc := "(II)V" } : Jvm.MethodName)) ∈ aw := aw_i 879 (by decide +kernel) (by decide +kernel)
theorem m_845 : (Cond.code ({ cls := "RingHerdModel", name := "goes", desc := "(II)V" } : Jvm.MethodName) prog_10_method_14_code (3 : Nat) (Option.none : Option Jvm.ClassFile.FieldType)) ∈ aw := aw_i 880 (by decide +kernel) (by decide +kernel)
theorem m_846 : (Cond.methodLink "RingHerdModel" (164 : Nat) ({ cls := "RingHerdModel", name := "canMeet", desc := "(II)Z" } : Jvm.MethodName)) ∈ aw := aw_i 881 (by decide +kernel) (by decide +kernel)
theorem m_848 : (Cond.instanceMethod ({ cls := "RingHerdModel", name := "canMeet", desc := "(II)Z" } : Jvm.MethodName)) ∈ aw := aw_i 883 (by decide +kernel) (by decide +kernel)
theorem m_849 : (Cond.code ({ cls := "RingHerdModel", name := "canMeet", desc := "(II)Z" } : Jvm.MethodName) prog_10_method_21_code (4 : Nat) (Option.some Jvm.ClassFile.FieldType.boolean)) ∈ aw := aw_i 884 (by decide +kernel) (by decide +kernel)
theorem m_850 : (Cond.methodLink "RingHerdModel" (168 : Nat) ({ cls := "RingHerdModel", name := "meets", desc := "(II)V" } : Jvm.MethodName)) ∈ aw := aw_i 885 (by decide +kernel) (by decide +kernel)
theorem m_852 : (Cond.instanceMethod ({ cls := "RingHerdModel", name := "meets", desc := "(II)V" } : Jvm.MethodName)) ∈ aw := aw_i 887 (by decide +kernel) (by decide +kernel)
theorem m_853 : (Cond.code ({ cls := "RingHerdModel", name := "meets", desc := "(II)V" } : Jvm.MethodName) prog_10_method_20_code (8 : Nat) (Option.none : Option Jvm.ClassFile.FieldType)) ∈ aw := aw_i 888 (by decide +kernel) (by decide +kernel)
theorem m_854 : (Cond.methodLink "RingHerdModel" (148 : Nat) ({ cls := "RingHerdModel", name := "sticks", desc := "(II)V" } : Jvm.MethodName)) ∈ aw := aw_i 889 (by decide +kernel) (by decide +kernel)
theorem m_856 : (Cond.instanceMethod ({ cls := "RingHerdModel", name := "sticks", desc := "(II)V" } : Jvm.MethodName)) ∈ aw := aw_i 891 (by decide +kernel) (by decide +kernel)
theorem m_857 : (Cond.code ({ cls := "RingHerdModel", name := "sticks", desc := "(II)V" } : Jvm.MethodName) prog_10_method_17_code (4 : Nat) (Option.none : Option Jvm.ClassFile.FieldType)) ∈ aw := aw_i 892 (by decide +kernel) (by decide +kernel)
theorem m_858 : (Cond.methodLink "RingHerdModel" (154 : Nat) ({ cls := "RingHerdModel", name := "breaks", desc := "(I)V" } : Jvm.MethodName)) ∈ aw := aw_i 893 (by decide +kernel) (by decide +kernel)
theorem m_860 : (Cond.instanceMethod ({ cls := "RingHerdModel", name := "breaks", desc := "(I)V" } : Jvm.MethodName)) ∈ aw := aw_i 895 (by decide +kernel) (by decide +kernel)
theorem m_861 : (Cond.code ({ cls := "RingHerdModel", name := "breaks", desc := "(I)V" } : Jvm.MethodName) prog_10_method_18_code (5 : Nat) (Option.none : Option Jvm.ClassFile.FieldType)) ∈ aw := aw_i 896 (by decide +kernel) (by decide +kernel)
theorem m_862 : (Cond.methodLink "RingHerdModel" (158 : Nat) ({ cls := "RingHerdModel", name := "parts", desc := "(II)V" } : Jvm.MethodName)) ∈ aw := aw_i 897 (by decide +kernel) (by decide +kernel)
theorem m_864 : (Cond.instanceMethod ({ cls := "RingHerdModel", name := "parts", desc := "(II)V" } : Jvm.MethodName)) ∈ aw := aw_i 899 (by decide +kernel) (by decide +kernel)
theorem m_865 : (Cond.code ({ cls := "RingHerdModel", name := "parts", desc := "(II)V" } : Jvm.MethodName) prog_10_method_19_code (5 : Nat) (Option.none : Option Jvm.ClassFile.FieldType)) ∈ aw := aw_i 900 (by decide +kernel) (by decide +kernel)
theorem m_866 : (Cond.methodLink "RingHerdLaw" (111 : Nat) ({ cls := "RingHerdModel", name := "frame", desc := "()I" } : Jvm.MethodName)) ∈ aw := aw_i 901 (by decide +kernel) (by decide +kernel)
theorem m_867 : (Cond.instanceMethod ({ cls := "RingHerdModel", name := "frame", desc := "()I" } : Jvm.MethodName)) ∈ aw := aw_i 902 (by decide +kernel) (by decide +kernel)
theorem m_868 : (Cond.selects "RingHerdModel" ({ cls := "RingHerdModel", name := "frame", desc := "()I" } : Jvm.MethodName) ({ cls := "RingHerdModel", name := "frame", desc := "()I" } : Jvm.MethodName)) ∈ aw := aw_i 903 (by decide +kernel) (by decide +kernel)
theorem m_869 : (Cond.code ({ cls := "RingHerdModel", name := "frame", desc := "()I" } : Jvm.MethodName) prog_10_method_25_code (2 : Nat) (Option.some Jvm.ClassFile.FieldType.int)) ∈ aw := aw_i 904 (by decide +kernel) (by decide +kernel)
theorem m_870 : (Cond.methodLink "RingHerdModel" (180 : Nat) ({ cls := "RingHerdModel", name := "massOf", desc := "(I)I" } : Jvm.MethodName)) ∈ aw := aw_i 905 (by decide +kernel) (by decide +kernel)
theorem m_872 : (Cond.instanceMethod ({ cls := "RingHerdModel", name := "massOf", desc := "(I)I" } : Jvm.MethodName)) ∈ aw := aw_i 907 (by decide +kernel) (by decide +kernel)
theorem m_873 : (Cond.code ({ cls := "RingHerdModel", name := "massOf", desc := "(I)I" } : Jvm.MethodName) prog_10_method_24_code (4 : Nat) (Option.some Jvm.ClassFile.FieldType.int)) ∈ aw := aw_i 908 (by decide +kernel) (by decide +kernel)
theorem m_874 : (Cond.methodLink "RingHerdLaw" (114 : Nat) ({ cls := "RingHerdModel", name := "claim", desc := "(IIII)I" } : Jvm.MethodName)) ∈ aw := aw_i 909 (by decide +kernel) (by decide +kernel)
theorem m_875 : (Cond.instanceMethod ({ cls := "RingHerdModel", name := "claim", desc := "(IIII)I" } : Jvm.MethodName)) ∈ aw := aw_i 910 (by decide +kernel) (by decide +kernel)
theorem m_876 : (Cond.selects "RingHerdModel" ({ cls := "RingHerdModel", name := "claim", desc := "(IIII)I" } : Jvm.MethodName) ({ cls := "RingHerdModel", name := "claim", desc := "(IIII)I" } : Jvm.MethodName)) ∈ aw := aw_i 911 (by decide +kernel) (by decide +kernel)
theorem m_877 : (Cond.code ({ cls := "RingHerdModel", name := "claim", desc := "(IIII)I" } : Jvm.MethodName) prog_10_method_27_code (6 : Nat) (Option.some Jvm.ClassFile.FieldType.int)) ∈ aw := aw_i 912 (by decide +kernel) (by decide +kernel)
theorem m_878 : (Cond.constant "RingHerdModel" (183 : Nat) (1000000 : Int32)) ∈ aw := aw_i 913 (by decide +kernel) (by decide +kernel)
theorem m_879 : (Cond.methodLink "RingHerdModel" (184 : Nat) ({ cls := "RingHerdModel", name := "isFrame", desc := "(I)Z" } : Jvm.MethodName)) ∈ aw := aw_i 914 (by decide +kernel) (by decide +kernel)
theorem m_881 : (Cond.instanceMethod ({ cls := "RingHerdModel", name := "isFrame", desc := "(I)Z" } : Jvm.MethodName)) ∈ aw := aw_i 916 (by decide +kernel) (by decide +kernel)
theorem m_882 : (Cond.code ({ cls := "RingHerdModel", name := "isFrame", desc := "(I)Z" } : Jvm.MethodName) prog_10_method_26_code (2 : Nat) (Option.some Jvm.ClassFile.FieldType.boolean)) ∈ aw := aw_i 917 (by decide +kernel) (by decide +kernel)
theorem m_883 : (Cond.methodLink "RingHerdLaw" (118 : Nat) ({ cls := "RingHerdModel", name := "now", desc := "()I" } : Jvm.MethodName)) ∈ aw := aw_i 918 (by decide +kernel) (by decide +kernel)
theorem m_884 : (Cond.instanceMethod ({ cls := "RingHerdModel", name := "now", desc := "()I" } : Jvm.MethodName)) ∈ aw := aw_i 919 (by decide +kernel) (by decide +kernel)
theorem m_885 : (Cond.selects "RingHerdModel" ({ cls := "RingHerdModel", name := "now", desc := "()I" } : Jvm.MethodName) ({ cls := "RingHerdModel", name := "now", desc := "()I" } : Jvm.MethodName)) ∈ aw := aw_i 920 (by decide +kernel) (by decide +kernel)
theorem m_886 : (Cond.code ({ cls := "RingHerdModel", name := "now", desc := "()I" } : Jvm.MethodName) prog_10_method_28_code (1 : Nat) (Option.some Jvm.ClassFile.FieldType.int)) ∈ aw := aw_i 921 (by decide +kernel) (by decide +kernel)
theorem m_887 : (Cond.methodLink "RingHerdLaw" (122 : Nat) ({ cls := "RingHerdModel", name := "told", desc := "(II)I" } : Jvm.MethodName)) ∈ aw := aw_i 922 (by decide +kernel) (by decide +kernel)
theorem m_888 : (Cond.instanceMethod ({ cls := "RingHerdModel", name := "told", desc := "(II)I" } : Jvm.MethodName)) ∈ aw := aw_i 923 (by decide +kernel) (by decide +kernel)
theorem m_889 : (Cond.selects "RingHerdModel" ({ cls := "RingHerdModel", name := "told", desc := "(II)I" } : Jvm.MethodName) ({ cls := "RingHerdModel", name := "told", desc := "(II)I" } : Jvm.MethodName)) ∈ aw := aw_i 924 (by decide +kernel) (by decide +kernel)
theorem m_890 : (Cond.code ({ cls := "RingHerdModel", name := "told", desc := "(II)I" } : Jvm.MethodName) prog_10_method_29_code (3 : Nat) (Option.some Jvm.ClassFile.FieldType.int)) ∈ aw := aw_i 925 (by decide +kernel) (by decide +kernel)
theorem m_891 : (Cond.methodLink "RingHerdLaw" (125 : Nat) ({ cls := "RingHerdModel", name := "angle", desc := "(I)I" } : Jvm.MethodName)) ∈ aw := aw_i 926 (by decide +kernel) (by decide +kernel)
theorem m_892 : (Cond.instanceMethod ({ cls := "RingHerdModel", name := "angle", desc := "(I)I" } : Jvm.MethodName)) ∈ aw := aw_i 927 (by decide +kernel) (by decide +kernel)
theorem m_893 : (Cond.selects "RingHerdModel" ({ cls := "RingHerdModel", name := "angle", desc := "(I)I" } : Jvm.MethodName) ({ cls := "RingHerdModel", name := "angle", desc := "(I)I" } : Jvm.MethodName)) ∈ aw := aw_i 928 (by decide +kernel) (by decide +kernel)
theorem m_894 : (Cond.code ({ cls := "RingHerdModel", name := "angle", desc := "(I)I" } : Jvm.MethodName) prog_10_method_30_code (2 : Nat) (Option.some Jvm.ClassFile.FieldType.int)) ∈ aw := aw_i 929 (by decide +kernel) (by decide +kernel)
theorem m_895 : (Cond.methodLink "RingHerdLaw" (128 : Nat) ({ cls := "RingHerdModel", name := "speed", desc := "(I)I" } : Jvm.MethodName)) ∈ aw := aw_i 930 (by decide +kernel) (by decide +kernel)
theorem m_896 : (Cond.instanceMethod ({ cls := "RingHerdModel", name := "speed", desc := "(I)I" } : Jvm.MethodName)) ∈ aw := aw_i 931 (by decide +kernel) (by decide +kernel)
theorem m_897 : (Cond.selects "RingHerdModel" ({ cls := "RingHerdModel", name := "speed", desc := "(I)I" } : Jvm.MethodName) ({ cls := "RingHerdModel", name := "speed", desc := "(I)I" } : Jvm.MethodName)) ∈ aw := aw_i 932 (by decide +kernel) (by decide +kernel)
theorem m_898 : (Cond.code ({ cls := "RingHerdModel", name := "speed", desc := "(I)I" } : Jvm.MethodName) prog_10_method_31_code (2 : Nat) (Option.some Jvm.ClassFile.FieldType.int)) ∈ aw := aw_i 933 (by decide +kernel) (by decide +kernel)
theorem m_899 : (Cond.methodLink "RingHerdLaw" (131 : Nat) ({ cls := "RingHerdModel", name := "count", desc := "(I)I" } : Jvm.MethodName)) ∈ aw := aw_i 934 (by decide +kernel) (by decide +kernel)
theorem m_900 : (Cond.instanceMethod ({ cls := "RingHerdModel", name := "count", desc := "(I)I" } : Jvm.MethodName)) ∈ aw := aw_i 935 (by decide +kernel) (by decide +kernel)
theorem m_901 : (Cond.selects "RingHerdModel" ({ cls := "RingHerdModel", name := "count", desc := "(I)I" } : Jvm.MethodName) ({ cls := "RingHerdModel", name := "count", desc := "(I)I" } : Jvm.MethodName)) ∈ aw := aw_i 936 (by decide +kernel) (by decide +kernel)
theorem m_902 : (Cond.code ({ cls := "RingHerdModel", name := "count", desc := "(I)I" } : Jvm.MethodName) prog_10_method_33_code (2 : Nat) (Option.some Jvm.ClassFile.FieldType.int)) ∈ aw := aw_i 937 (by decide +kernel) (by decide +kernel)
theorem m_903 : (Cond.methodLink "RingHerdModel" (190 : Nat) ({ cls := "RingHerdModel", name := "there", desc := "()I" } : Jvm.MethodName)) ∈ aw := aw_i 938 (by decide +kernel) (by decide +kernel)
theorem m_905 : (Cond.instanceMethod ({ cls := "RingHerdModel", name := "there", desc := "()I" } : Jvm.MethodName)) ∈ aw := aw_i 940 (by decide +kernel) (by decide +kernel)
theorem m_906 : (Cond.code ({ cls := "RingHerdModel", name := "there", desc := "()I" } : Jvm.MethodName) prog_10_method_32_code (3 : Nat) (Option.some Jvm.ClassFile.FieldType.int)) ∈ aw := aw_i 941 (by decide +kernel) (by decide +kernel)
theorem m_907 : (Cond.methodLink "RingHerdLaw" (134 : Nat) ({ cls := "RingHerdModel", name := "mass", desc := "(I)I" } : Jvm.MethodName)) ∈ aw := aw_i 942 (by decide +kernel) (by decide +kernel)
theorem m_908 : (Cond.instanceMethod ({ cls := "RingHerdModel", name := "mass", desc := "(I)I" } : Jvm.MethodName)) ∈ aw := aw_i 943 (by decide +kernel) (by decide +kernel)
theorem m_909 : (Cond.selects "RingHerdModel" ({ cls := "RingHerdModel", name := "mass", desc := "(I)I" } : Jvm.MethodName) ({ cls := "RingHerdModel", name := "mass", desc := "(I)I" } : Jvm.MethodName)) ∈ aw := aw_i 944 (by decide +kernel) (by decide +kernel)
theorem m_910 : (Cond.code ({ cls := "RingHerdModel", name := "mass", desc := "(I)I" } : Jvm.MethodName) prog_10_method_34_code (2 : Nat) (Option.some Jvm.ClassFile.FieldType.int)) ∈ aw := aw_i 945 (by decide +kernel) (by decide +kernel)
theorem m_911 : (Cond.methodLink "RingHerdLaw" (137 : Nat) ({ cls := "RingHerdModel", name := "sum", desc := "(I)I" } : Jvm.MethodName)) ∈ aw := aw_i 946 (by decide +kernel) (by decide +kernel)
theorem m_912 : (Cond.instanceMethod ({ cls := "RingHerdModel", name := "sum", desc := "(I)I" } : Jvm.MethodName)) ∈ aw := aw_i 947 (by decide +kernel) (by decide +kernel)
theorem m_913 : (Cond.selects "RingHerdModel" ({ cls := "RingHerdModel", name := "sum", desc := "(I)I" } : Jvm.MethodName) ({ cls := "RingHerdModel", name := "sum", desc := "(I)I" } : Jvm.MethodName)) ∈ aw := aw_i 948 (by decide +kernel) (by decide +kernel)
theorem m_914 : (Cond.code ({ cls := "RingHerdModel", name := "sum", desc := "(I)I" } : Jvm.MethodName) prog_10_method_35_code (4 : Nat) (Option.some Jvm.ClassFile.FieldType.int)) ∈ aw := aw_i 949 (by decide +kernel) (by decide +kernel)
theorem m_915 : (Cond.methodLink "RingHerdLaw" (140 : Nat) ({ cls := "RingHerdModel", name := "momentum", desc := "(I)J" } : Jvm.MethodName)) ∈ aw := aw_i 950 (by decide +kernel) (by decide +kernel)
theorem m_916 : (Cond.instanceMethod ({ cls := "RingHerdModel", name := "momentum", desc := "(I)J" } : Jvm.MethodName)) ∈ aw := aw_i 951 (by decide +kernel) (by decide +kernel)
theorem m_917 : (Cond.selects "RingHerdModel" ({ cls := "RingHerdModel", name := "momentum", desc := "(I)J" } : Jvm.MethodName) ({ cls := "RingHerdModel", name := "momentum", desc := "(I)J" } : Jvm.MethodName)) ∈ aw := aw_i 952 (by decide +kernel) (by decide +kernel)
theorem m_918 : (Cond.code ({ cls := "RingHerdModel", name := "momentum", desc := "(I)J" } : Jvm.MethodName) prog_10_method_37_code (2 : Nat) (Option.some Jvm.ClassFile.FieldType.long)) ∈ aw := aw_i 953 (by decide +kernel) (by decide +kernel)
theorem m_919 : (Cond.methodLink "RingHerdModel" (194 : Nat) ({ cls := "RingHerdModel", name := "momentumNow", desc := "()J" } : Jvm.MethodName)) ∈ aw := aw_i 954 (by decide +kernel) (by decide +kernel)
theorem m_921 : (Cond.instanceMethod ({ cls := "RingHerdModel", name := "momentumNow", desc := "()J" } : Jvm.MethodName)) ∈ aw := aw_i 956 (by decide +kernel) (by decide +kernel)
theorem m_922 : (Cond.code ({ cls := "RingHerdModel", name := "momentumNow", desc := "()J" } : Jvm.MethodName) prog_10_method_36_code (4 : Nat) (Option.some Jvm.ClassFile.FieldType.long)) ∈ aw := aw_i 957 (by decide +kernel) (by decide +kernel)
theorem m_923 : (Cond.constantLong "RingHerdModel" (198 : Nat) (19 : Int64)) ∈ aw := aw_i 958 (by decide +kernel) (by decide +kernel)
theorem m_924 : (Cond.constantLong "RingHerdModel" (200 : Nat) (84 : Int64)) ∈ aw := aw_i 959 (by decide +kernel) (by decide +kernel)
theorem m_925 : (Cond.methodLink "RingHerdLaw" (145 : Nat) ({ cls := "RingHerdModel", name := "momentumByLanes", desc := "()J" } : Jvm.MethodName)) ∈ aw := aw_i 960 (by decide +kernel) (by decide +kernel)
theorem m_926 : (Cond.instanceMethod ({ cls := "RingHerdModel", name := "momentumByLanes", desc := "()J" } : Jvm.MethodName)) ∈ aw := aw_i 961 (by decide +kernel) (by decide +kernel)
theorem m_927 : (Cond.selects "RingHerdModel" ({ cls := "RingHerdModel", name := "momentumByLanes", desc := "()J" } : Jvm.MethodName) ({ cls := "RingHerdModel", name := "momentumByLanes", desc := "()J" } : Jvm.MethodName)) ∈ aw := aw_i 962 (by decide +kernel) (by decide +kernel)
theorem m_928 : (Cond.code ({ cls := "RingHerdModel", name := "momentumByLanes", desc := "()J" } : Jvm.MethodName) prog_10_method_38_code (1 : Nat) (Option.some Jvm.ClassFile.FieldType.long)) ∈ aw := aw_i 963 (by decide +kernel) (by decide +kernel)
theorem m_929 : (Cond.methodLink "RingHerdLaw" (148 : Nat) ({ cls := "RingHerdModel", name := "resonance", desc := "(II)I" } : Jvm.MethodName)) ∈ aw := aw_i 964 (by decide +kernel) (by decide +kernel)
theorem m_930 : (Cond.instanceMethod ({ cls := "RingHerdModel", name := "resonance", desc := "(II)I" } : Jvm.MethodName)) ∈ aw := aw_i 965 (by decide +kernel) (by decide +kernel)
theorem m_931 : (Cond.selects "RingHerdModel" ({ cls := "RingHerdModel", name := "resonance", desc := "(II)I" } : Jvm.MethodName) ({ cls := "RingHerdModel", name := "resonance", desc := "(II)I" } : Jvm.MethodName)) ∈ aw := aw_i 966 (by decide +kernel) (by decide +kernel)
theorem m_932 : (Cond.code ({ cls := "RingHerdModel", name := "resonance", desc := "(II)I" } : Jvm.MethodName) prog_10_method_40_code (3 : Nat) (Option.some Jvm.ClassFile.FieldType.int)) ∈ aw := aw_i 967 (by decide +kernel) (by decide +kernel)
theorem m_933 : (Cond.methodLink "RingHerdModel" (202 : Nat) ({ cls := "RingHerdModel", name := "resonanceOf", desc := "(II)I" } : Jvm.MethodName)) ∈ aw := aw_i 968 (by decide +kernel) (by decide +kernel)
theorem m_935 : (Cond.instanceMethod ({ cls := "RingHerdModel", name := "resonanceOf", desc := "(II)I" } : Jvm.MethodName)) ∈ aw := aw_i 970 (by decide +kernel) (by decide +kernel)
theorem m_936 : (Cond.code ({ cls := "RingHerdModel", name := "resonanceOf", desc := "(II)I" } : Jvm.MethodName) prog_10_method_39_code (8 : Nat) (Option.some Jvm.ClassFile.FieldType.int)) ∈ aw := aw_i 971 (by decide +kernel) (by decide +kernel)
theorem m_937 : (Cond.methodLink "RingHerdLaw" (151 : Nat) ({ cls := "RingHerdModel", name := "gap", desc := "(II)I" } : Jvm.MethodName)) ∈ aw := aw_i 972 (by decide +kernel) (by decide +kernel)
theorem m_938 : (Cond.instanceMethod ({ cls := "RingHerdModel", name := "gap", desc := "(II)I" } : Jvm.MethodName)) ∈ aw := aw_i 973 (by decide +kernel) (by decide +kernel)
theorem m_939 : (Cond.selects "RingHerdModel" ({ cls := "RingHerdModel", name := "gap", desc := "(II)I" } : Jvm.MethodName) ({ cls := "RingHerdModel", name := "gap", desc := "(II)I" } : Jvm.MethodName)) ∈ aw := aw_i 974 (by decide +kernel) (by decide +kernel)
theorem m_940 : (Cond.code ({ cls := "RingHerdModel", name := "gap", desc := "(II)I" } : Jvm.MethodName) prog_10_method_47_code (5 : Nat) (Option.some Jvm.ClassFile.FieldType.int)) ∈ aw := aw_i 975 (by decide +kernel) (by decide +kernel)
theorem m_941 : (Cond.methodLink "RingHerdModel" (217 : Nat) ({ cls := "RingHerdModel", name := "gapAt", desc := "(I)I" } : Jvm.MethodName)) ∈ aw := aw_i 976 (by decide +kernel) (by decide +kernel)
theorem m_943 : (Cond.instanceMethod ({ cls := "RingHerdModel", name := "gapAt", desc := "(I)I" } : Jvm.MethodName)) ∈ aw := aw_i 978 (by decide +kernel) (by decide +kernel)
theorem m_944 : (Cond.code ({ cls := "RingHerdModel", name := "gapAt", desc := "(I)I" } : Jvm.MethodName) prog_10_method_44_code (4 : Nat) (Option.some Jvm.ClassFile.FieldType.int)) ∈ aw := aw_i 979 (by decide +kernel) (by decide +kernel)
theorem m_945 : (Cond.methodLink "RingHerdModel" (208 : Nat) ({ cls := "RingHerdModel", name := "gapFrom", desc := "(I)I" } : Jvm.MethodName)) ∈ aw := aw_i 980 (by decide +kernel) (by decide +kernel)
theorem m_947 : (Cond.instanceMethod ({ cls := "RingHerdModel", name := "gapFrom", desc := "(I)I" } : Jvm.MethodName)) ∈ aw := aw_i 982 (by decide +kernel) (by decide +kernel)
theorem m_948 : (Cond.code ({ cls := "RingHerdModel", name := "gapFrom", desc := "(I)I" } : Jvm.MethodName) prog_10_method_42_code (5 : Nat) (Option.some Jvm.ClassFile.FieldType.int)) ∈ aw := aw_i 983 (by decide +kernel) (by decide +kernel)
theorem m_949 : (Cond.methodLink "RingHerdModel" (205 : Nat) ({ cls := "RingHerdModel", name := "isEmpty", desc := "(I)Z" } : Jvm.MethodName)) ∈ aw := aw_i 984 (by decide +kernel) (by decide +kernel)
theorem m_951 : (Cond.instanceMethod ({ cls := "RingHerdModel", name := "isEmpty", desc := "(I)Z" } : Jvm.MethodName)) ∈ aw := aw_i 986 (by decide +kernel) (by decide +kernel)
theorem m_952 : (Cond.code ({ cls := "RingHerdModel", name := "isEmpty", desc := "(I)Z" } : Jvm.MethodName) prog_10_method_41_code (4 : Nat) (Option.some Jvm.ClassFile.FieldType.boolean)) ∈ aw := aw_i 987 (by decide +kernel) (by decide +kernel)
theorem m_953 : (Cond.methodLink "RingHerdModel" (211 : Nat) ({ cls := "RingHerdModel", name := "endOf", desc := "(I)I" } : Jvm.MethodName)) ∈ aw := aw_i 988 (by decide +kernel) (by decide +kernel)
theorem m_955 : (Cond.instanceMethod ({ cls := "RingHerdModel", name := "endOf", desc := "(I)I" } : Jvm.MethodName)) ∈ aw := aw_i 990 (by decide +kernel) (by decide +kernel)
theorem m_956 : (Cond.code ({ cls := "RingHerdModel", name := "endOf", desc := "(I)I" } : Jvm.MethodName) prog_10_method_43_code (3 : Nat) (Option.some Jvm.ClassFile.FieldType.int)) ∈ aw := aw_i 991 (by decide +kernel) (by decide +kernel)
theorem m_957 : (Cond.methodLink "RingHerdModel" (220 : Nat) ({ cls := "RingHerdModel", name := "keeper", desc := "(II)I" } : Jvm.MethodName)) ∈ aw := aw_i 992 (by decide +kernel) (by decide +kernel)
theorem m_959 : (Cond.instanceMethod ({ cls := "RingHerdModel", name := "keeper", desc := "(II)I" } : Jvm.MethodName)) ∈ aw := aw_i 994 (by decide +kernel) (by decide +kernel)
theorem m_960 : (Cond.code ({ cls := "RingHerdModel", name := "keeper", desc := "(II)I" } : Jvm.MethodName) prog_10_method_46_code (6 : Nat) (Option.some Jvm.ClassFile.FieldType.int)) ∈ aw := aw_i 995 (by decide +kernel) (by decide +kernel)
theorem m_961 : (Cond.methodLink "RingHerdModel" (214 : Nat) ({ cls := "RingHerdModel", name := "isNear", desc := "(II)Z" } : Jvm.MethodName)) ∈ aw := aw_i 996 (by decide +kernel) (by decide +kernel)
theorem m_963 : (Cond.instanceMethod ({ cls := "RingHerdModel", name := "isNear", desc := "(II)Z" } : Jvm.MethodName)) ∈ aw := aw_i 998 (by decide +kernel) (by decide +kernel)
theorem m_964 : (Cond.code ({ cls := "RingHerdModel", name := "isNear", desc := "(II)Z" } : Jvm.MethodName) prog_10_method_45_code (4 : Nat) (Option.some Jvm.ClassFile.FieldType.boolean)) ∈ aw := aw_i 999 (by decide +kernel) (by decide +kernel)
theorem m_965 : (Cond.methodLink "RingHerdLaw" (155 : Nat) ({ cls := "RingHerdModel", name := "gaps", desc := "()I" } : Jvm.MethodName)) ∈ aw := aw_i 1000 (by decide +kernel) (by decide +kernel)
theorem m_966 : (Cond.instanceMethod ({ cls := "RingHerdModel", name := "gaps", desc := "()I" } : Jvm.MethodName)) ∈ aw := aw_i 1001 (by decide +kernel) (by decide +kernel)
theorem m_967 : (Cond.selects "RingHerdModel" ({ cls := "RingHerdModel", name := "gaps", desc := "()I" } : Jvm.MethodName) ({ cls := "RingHerdModel", name := "gaps", desc := "()I" } : Jvm.MethodName)) ∈ aw := aw_i 1002 (by decide +kernel) (by decide +kernel)
theorem m_968 : (Cond.code ({ cls := "RingHerdModel", name := "gaps", desc := "()I" } : Jvm.MethodName) prog_10_method_48_code (3 : Nat) (Option.some Jvm.ClassFile.FieldType.int)) ∈ aw := aw_i 1003 (by decide +kernel) (by decide +kernel)
theorem m_969 : (Cond.methodLink "RingHerdLaw" (158 : Nat) ({ cls := "RingHerdModel", name := "framed", desc := "(II)I" } : Jvm.MethodName)) ∈ aw := aw_i 1004 (by decide +kernel) (by decide +kernel)
theorem m_970 : (Cond.instanceMethod ({ cls := "RingHerdModel", name := "framed", desc := "(II)I" } : Jvm.MethodName)) ∈ aw := aw_i 1005 (by decide +kernel) (by decide +kernel)
theorem m_971 : (Cond.selects "RingHerdModel" ({ cls := "RingHerdModel", name := "framed", desc := "(II)I" } : Jvm.MethodName) ({ cls := "RingHerdModel", name := "framed", desc := "(II)I" } : Jvm.MethodName)) ∈ aw := aw_i 1006 (by decide +kernel) (by decide +kernel)
theorem m_972 : (Cond.code ({ cls := "RingHerdModel", name := "framed", desc := "(II)I" } : Jvm.MethodName) prog_10_method_49_code (3 : Nat) (Option.some Jvm.ClassFile.FieldType.int)) ∈ aw := aw_i 1007 (by decide +kernel) (by decide +kernel)
theorem m_973 : (Cond.methodLink "RingHerdLaw" (161 : Nat) ({ cls := "RingHerdModel", name := "holds", desc := "(II)Z" } : Jvm.MethodName)) ∈ aw := aw_i 1008 (by decide +kernel) (by decide +kernel)
theorem m_974 : (Cond.instanceMethod ({ cls := "RingHerdModel", name := "holds", desc := "(II)Z" } : Jvm.MethodName)) ∈ aw := aw_i 1009 (by decide +kernel) (by decide +kernel)
theorem m_975 : (Cond.selects "RingHerdModel" ({ cls := "RingHerdModel", name := "holds", desc := "(II)Z" } : Jvm.MethodName) ({ cls := "RingHerdModel", name := "holds", desc := "(II)Z" } : Jvm.MethodName)) ∈ aw := aw_i 1010 (by decide +kernel) (by decide +kernel)
theorem m_976 : (Cond.code ({ cls := "RingHerdModel", name := "holds", desc := "(II)Z" } : Jvm.MethodName) prog_10_method_52_code (3 : Nat) (Option.some Jvm.ClassFile.FieldType.boolean)) ∈ aw := aw_i 1011 (by decide +kernel) (by decide +kernel)
theorem m_977 : (Cond.methodLink "RingHerdModel" (223 : Nat) ({ cls := "RingHerdModel", name := "isClaim", desc := "(I)Z" } : Jvm.MethodName)) ∈ aw := aw_i 1012 (by decide +kernel) (by decide +kernel)
theorem m_979 : (Cond.instanceMethod ({ cls := "RingHerdModel", name := "isClaim", desc := "(I)Z" } : Jvm.MethodName)) ∈ aw := aw_i 1014 (by decide +kernel) (by decide +kernel)
theorem m_980 : (Cond.code ({ cls := "RingHerdModel", name := "isClaim", desc := "(I)Z" } : Jvm.MethodName) prog_10_method_51_code (2 : Nat) (Option.some Jvm.ClassFile.FieldType.boolean)) ∈ aw := aw_i 1015 (by decide +kernel) (by decide +kernel)
theorem m_981 : (Cond.methodLink "RingHerdModel" (226 : Nat) ({ cls := "RingHerdModel", name := "holdsBy", desc := "(II)Z" } : Jvm.MethodName)) ∈ aw := aw_i 1016 (by decide +kernel) (by decide +kernel)
theorem m_983 : (Cond.instanceMethod ({ cls := "RingHerdModel", name := "holdsBy", desc := "(II)Z" } : Jvm.MethodName)) ∈ aw := aw_i 1018 (by decide +kernel) (by decide +kernel)
theorem m_984 : (Cond.code ({ cls := "RingHerdModel", name := "holdsBy", desc := "(II)Z" } : Jvm.MethodName) prog_10_method_50_code (5 : Nat) (Option.some Jvm.ClassFile.FieldType.boolean)) ∈ aw := aw_i 1019 (by decide +kernel) (by decide +kernel)
theorem m_985 : (Cond.methodLink "RingHerdLaw" (164 : Nat) ({ cls := "RingHerdModel", name := "disputes", desc := "(I)I" } : Jvm.MethodName)) ∈ aw := aw_i 1020 (by decide +kernel) (by decide +kernel)
theorem m_986 : (Cond.instanceMethod ({ cls := "RingHerdModel", name := "disputes", desc := "(I)I" } : Jvm.MethodName)) ∈ aw := aw_i 1021 (by decide +kernel) (by decide +kernel)
theorem m_987 : (Cond.selects "RingHerdModel" ({ cls := "RingHerdModel", name := "disputes", desc := "(I)I" } : Jvm.MethodName) ({ cls := "RingHerdModel", name := "disputes", desc := "(I)I" } : Jvm.MethodName)) ∈ aw := aw_i 1022 (by decide +kernel) (by decide +kernel)
theorem m_988 : (Cond.code ({ cls := "RingHerdModel", name := "disputes", desc := "(I)I" } : Jvm.MethodName) prog_10_method_53_code (4 : Nat) (Option.some Jvm.ClassFile.FieldType.int)) ∈ aw := aw_i 1023 (by decide +kernel) (by decide +kernel)
theorem m_989 : (Cond.arrayClass Jvm.ClassFile.FieldType.long) ∈ aw := aw_i 1024 (by decide +kernel) (by decide +kernel)
theorem m_990 : (Cond.sameMethod "java/lang/Throwable" "java/lang/Throwable" "fillInStackTrace" "(I)Ljava/lang/Throwable;") ∈ aw := aw_i 1025 (by decide +kernel) (by decide +kernel)
end
section
theorem dX0_init_0 : decode cX0_init 0 = .ok (.aload_n 0, 1) := by decide +kernel
theorem dX0_init_1 : decode cX0_init 1 = .ok (.invokespecial 3, 3) := by decide +kernel
theorem dX0_init_4 : decode cX0_init 4 = .ok (.return_, 1) := by decide +kernel
theorem dX0_holdsBy_0 : decode cX0_holdsBy 0 = .ok (.aload_n 0, 1) := by decide +kernel
theorem dX0_holdsBy_1 : decode cX0_holdsBy 1 = .ok (.getfield 9, 3) := by decide +kernel
theorem dX0_holdsBy_4 : decode cX0_holdsBy 4 = .ok (.istore_n 2, 1) := by decide +kernel
theorem dX0_holdsBy_5 : decode cX0_holdsBy 5 = .ok (.iload_n 2, 1) := by decide +kernel
theorem dX0_holdsBy_6 : decode cX0_holdsBy 6 = .ok (.aload_n 0, 1) := by decide +kernel
theorem dX0_holdsBy_7 : decode cX0_holdsBy 7 = .ok (.getfield 15, 3) := by decide +kernel
theorem dX0_holdsBy_10 : decode cX0_holdsBy 10 = .ok (.if_icmp .gt 30, 3) := by decide +kernel
theorem dX0_holdsBy_13 : decode cX0_holdsBy 13 = .ok (.iload_n 2, 1) := by decide +kernel
theorem dX0_holdsBy_14 : decode cX0_holdsBy 14 = .ok (.bipush 64, 2) := by decide +kernel
theorem dX0_holdsBy_16 : decode cX0_holdsBy 16 = .ok (.if_icmp .ge 24, 3) := by decide +kernel
theorem dX0_holdsBy_19 : decode cX0_holdsBy 19 = .ok (.aload_n 1, 1) := by decide +kernel
theorem dX0_holdsBy_20 : decode cX0_holdsBy 20 = .ok (.getfield 18, 3) := by decide +kernel
theorem dX0_holdsBy_23 : decode cX0_holdsBy 23 = .ok (.iload_n 2, 1) := by decide +kernel
theorem dX0_holdsBy_24 : decode cX0_holdsBy 24 = .ok (.iaload, 1) := by decide +kernel
theorem dX0_holdsBy_25 : decode cX0_holdsBy 25 = .ok (.aload_n 0, 1) := by decide +kernel
theorem dX0_holdsBy_26 : decode cX0_holdsBy 26 = .ok (.getfield 24, 3) := by decide +kernel
theorem dX0_holdsBy_29 : decode cX0_holdsBy 29 = .ok (.if_icmp .le 5, 3) := by decide +kernel
theorem dX0_holdsBy_32 : decode cX0_holdsBy 32 = .ok (.iconst 0, 1) := by decide +kernel
theorem dX0_holdsBy_33 : decode cX0_holdsBy 33 = .ok (.ireturn, 1) := by decide +kernel
theorem dX0_holdsBy_34 : decode cX0_holdsBy 34 = .ok (.iinc 2 1, 3) := by decide +kernel
theorem dX0_holdsBy_37 : decode cX0_holdsBy 37 = .ok (.goto (-32), 3) := by decide +kernel
theorem dX0_holdsBy_40 : decode cX0_holdsBy 40 = .ok (.iconst 1, 1) := by decide +kernel
theorem dX0_holdsBy_41 : decode cX0_holdsBy 41 = .ok (.ireturn, 1) := by decide +kernel
theorem dX1_init_0 : decode cX1_init 0 = .ok (.aload_n 0, 1) := by decide +kernel
theorem dX1_init_1 : decode cX1_init 1 = .ok (.invokespecial 3, 3) := by decide +kernel
theorem dX1_init_4 : decode cX1_init 4 = .ok (.aload_n 0, 1) := by decide +kernel
theorem dX1_init_5 : decode cX1_init 5 = .ok (.bipush 64, 2) := by decide +kernel
theorem dX1_init_7 : decode cX1_init 7 = .ok (.newarray .int, 2) := by decide +kernel
theorem dX1_init_9 : decode cX1_init 9 = .ok (.putfield 9, 3) := by decide +kernel
theorem dX1_init_12 : decode cX1_init 12 = .ok (.return_, 1) := by decide +kernel
theorem dX2_init_0 : decode cX2_init 0 = .ok (.aload_n 0, 1) := by decide +kernel
theorem dX2_init_1 : decode cX2_init 1 = .ok (.invokespecial 3, 3) := by decide +kernel
theorem dX2_init_4 : decode cX2_init 4 = .ok (.return_, 1) := by decide +kernel
theorem dX2_carried_0 : decode cX2_carried 0 = .ok (.aload_n 0, 1) := by decide +kernel
theorem dX2_carried_1 : decode cX2_carried 1 = .ok (.getfield 9, 3) := by decide +kernel
theorem dX2_carried_4 : decode cX2_carried 4 = .ok (.i2l, 1) := by decide +kernel
theorem dX2_carried_5 : decode cX2_carried 5 = .ok (.aload_n 0, 1) := by decide +kernel
theorem dX2_carried_6 : decode cX2_carried 6 = .ok (.getfield 15, 3) := by decide +kernel
theorem dX2_carried_9 : decode cX2_carried 9 = .ok (.bipush 20, 2) := by decide +kernel
theorem dX2_carried_11 : decode cX2_carried 11 = .ok (.iadd, 1) := by decide +kernel
theorem dX2_carried_12 : decode cX2_carried 12 = .ok (.i2l, 1) := by decide +kernel
theorem dX2_carried_13 : decode cX2_carried 13 = .ok (.lmul, 1) := by decide +kernel
theorem dX2_carried_14 : decode cX2_carried 14 = .ok (.lreturn, 1) := by decide +kernel
theorem dX2_isNear_0 : decode cX2_isNear 0 = .ok (.aload_n 0, 1) := by decide +kernel
theorem dX2_isNear_1 : decode cX2_isNear 1 = .ok (.getfield 15, 3) := by decide +kernel
theorem dX2_isNear_4 : decode cX2_isNear 4 = .ok (.iload_n 1, 1) := by decide +kernel
theorem dX2_isNear_5 : decode cX2_isNear 5 = .ok (.isub, 1) := by decide +kernel
theorem dX2_isNear_6 : decode cX2_isNear 6 = .ok (.invokestatic 18, 3) := by decide +kernel
theorem dX2_isNear_9 : decode cX2_isNear 9 = .ok (.iload_n 3, 1) := by decide +kernel
theorem dX2_isNear_10 : decode cX2_isNear 10 = .ok (.if_icmp .gt 20, 3) := by decide +kernel
theorem dX2_isNear_13 : decode cX2_isNear 13 = .ok (.aload_n 0, 1) := by decide +kernel
theorem dX2_isNear_14 : decode cX2_isNear 14 = .ok (.getfield 24, 3) := by decide +kernel
theorem dX2_isNear_17 : decode cX2_isNear 17 = .ok (.iload_n 2, 1) := by decide +kernel
theorem dX2_isNear_18 : decode cX2_isNear 18 = .ok (.invokestatic 27, 3) := by decide +kernel
theorem dX2_isNear_21 : decode cX2_isNear 21 = .ok (.iload 4, 2) := by decide +kernel
theorem dX2_isNear_23 : decode cX2_isNear 23 = .ok (.if_icmp .gt 7, 3) := by decide +kernel
theorem dX2_isNear_26 : decode cX2_isNear 26 = .ok (.iconst 1, 1) := by decide +kernel
theorem dX2_isNear_27 : decode cX2_isNear 27 = .ok (.goto 4, 3) := by decide +kernel
theorem dX2_isNear_30 : decode cX2_isNear 30 = .ok (.iconst 0, 1) := by decide +kernel
theorem dX2_isNear_31 : decode cX2_isNear 31 = .ok (.ireturn, 1) := by decide +kernel
theorem dX2_mayMeet_0 : decode cX2_mayMeet 0 = .ok (.aload_n 0, 1) := by decide +kernel
theorem dX2_mayMeet_1 : decode cX2_mayMeet 1 = .ok (.getfield 31, 3) := by decide +kernel
theorem dX2_mayMeet_4 : decode cX2_mayMeet 4 = .ok (.ifCond .eq 14, 3) := by decide +kernel
theorem dX2_mayMeet_7 : decode cX2_mayMeet 7 = .ok (.aload_n 0, 1) := by decide +kernel
theorem dX2_mayMeet_8 : decode cX2_mayMeet 8 = .ok (.getfield 35, 3) := by decide +kernel
theorem dX2_mayMeet_11 : decode cX2_mayMeet 11 = .ok (.ifCond .ne 7, 3) := by decide +kernel
theorem dX2_mayMeet_14 : decode cX2_mayMeet 14 = .ok (.iconst 1, 1) := by decide +kernel
theorem dX2_mayMeet_15 : decode cX2_mayMeet 15 = .ok (.goto 4, 3) := by decide +kernel
theorem dX2_mayMeet_18 : decode cX2_mayMeet 18 = .ok (.iconst 0, 1) := by decide +kernel
theorem dX2_mayMeet_19 : decode cX2_mayMeet 19 = .ok (.ireturn, 1) := by decide +kernel
theorem dX3_init_0 : decode cX3_init 0 = .ok (.aload_n 0, 1) := by decide +kernel
theorem dX3_init_1 : decode cX3_init 1 = .ok (.invokespecial 3, 3) := by decide +kernel
theorem dX3_init_4 : decode cX3_init 4 = .ok (.aload_n 0, 1) := by decide +kernel
theorem dX3_init_5 : decode cX3_init 5 = .ok (.new 9, 3) := by decide +kernel
theorem dX3_init_8 : decode cX3_init 8 = .ok (.dup, 1) := by decide +kernel
theorem dX3_init_9 : decode cX3_init 9 = .ok (.invokespecial 11, 3) := by decide +kernel
theorem dX3_init_12 : decode cX3_init 12 = .ok (.putfield 12, 3) := by decide +kernel
theorem dX3_init_15 : decode cX3_init 15 = .ok (.aload_n 0, 1) := by decide +kernel
theorem dX3_init_16 : decode cX3_init 16 = .ok (.new 18, 3) := by decide +kernel
theorem dX3_init_19 : decode cX3_init 19 = .ok (.dup, 1) := by decide +kernel
theorem dX3_init_20 : decode cX3_init 20 = .ok (.invokespecial 20, 3) := by decide +kernel
theorem dX3_init_23 : decode cX3_init 23 = .ok (.putfield 21, 3) := by decide +kernel
theorem dX3_init_26 : decode cX3_init 26 = .ok (.aload_n 0, 1) := by decide +kernel
theorem dX3_init_27 : decode cX3_init 27 = .ok (.bipush 80, 2) := by decide +kernel
theorem dX3_init_29 : decode cX3_init 29 = .ok (.anewarray 25, 3) := by decide +kernel
theorem dX3_init_32 : decode cX3_init 32 = .ok (.putfield 27, 3) := by decide +kernel
theorem dX3_init_35 : decode cX3_init 35 = .ok (.iconst 0, 1) := by decide +kernel
theorem dX3_init_36 : decode cX3_init 36 = .ok (.istore_n 1, 1) := by decide +kernel
theorem dX3_init_37 : decode cX3_init 37 = .ok (.iload_n 1, 1) := by decide +kernel
theorem dX3_init_38 : decode cX3_init 38 = .ok (.bipush 80, 2) := by decide +kernel
theorem dX3_init_40 : decode cX3_init 40 = .ok (.if_icmp .ge 22, 3) := by decide +kernel
theorem dX3_init_43 : decode cX3_init 43 = .ok (.aload_n 0, 1) := by decide +kernel
theorem dX3_init_44 : decode cX3_init 44 = .ok (.getfield 27, 3) := by decide +kernel
theorem dX3_init_47 : decode cX3_init 47 = .ok (.iload_n 1, 1) := by decide +kernel
theorem dX3_init_48 : decode cX3_init 48 = .ok (.new 25, 3) := by decide +kernel
theorem dX3_init_51 : decode cX3_init 51 = .ok (.dup, 1) := by decide +kernel
theorem dX3_init_52 : decode cX3_init 52 = .ok (.invokespecial 31, 3) := by decide +kernel
theorem dX3_init_55 : decode cX3_init 55 = .ok (.aastore, 1) := by decide +kernel
theorem dX3_init_56 : decode cX3_init 56 = .ok (.iinc 1 1, 3) := by decide +kernel
theorem dX3_init_59 : decode cX3_init 59 = .ok (.goto (-22), 3) := by decide +kernel
theorem dX3_init_62 : decode cX3_init 62 = .ok (.aload_n 0, 1) := by decide +kernel
theorem dX3_init_63 : decode cX3_init 63 = .ok (.bipush 20, 2) := by decide +kernel
theorem dX3_init_65 : decode cX3_init 65 = .ok (.putfield 32, 3) := by decide +kernel
theorem dX3_init_68 : decode cX3_init 68 = .ok (.aload_n 0, 1) := by decide +kernel
theorem dX3_init_69 : decode cX3_init 69 = .ok (.bipush 80, 2) := by decide +kernel
theorem dX3_init_71 : decode cX3_init 71 = .ok (.putfield 36, 3) := by decide +kernel
theorem dX3_init_74 : decode cX3_init 74 = .ok (.aload_n 0, 1) := by decide +kernel
theorem dX3_init_75 : decode cX3_init 75 = .ok (.bipush 50, 2) := by decide +kernel
theorem dX3_init_77 : decode cX3_init 77 = .ok (.putfield 39, 3) := by decide +kernel
theorem dX3_init_80 : decode cX3_init 80 = .ok (.return_, 1) := by decide +kernel
theorem dX3_put_0 : decode cX3_put 0 = .ok (.aload_n 0, 1) := by decide +kernel
theorem dX3_put_1 : decode cX3_put 1 = .ok (.getfield 27, 3) := by decide +kernel
theorem dX3_put_4 : decode cX3_put 4 = .ok (.aload_n 0, 1) := by decide +kernel
theorem dX3_put_5 : decode cX3_put 5 = .ok (.getfield 42, 3) := by decide +kernel
theorem dX3_put_8 : decode cX3_put 8 = .ok (.aaload, 1) := by decide +kernel
theorem dX3_put_9 : decode cX3_put 9 = .ok (.astore 5, 2) := by decide +kernel
theorem dX3_put_11 : decode cX3_put 11 = .ok (.aload 5, 2) := by decide +kernel
theorem dX3_put_13 : decode cX3_put 13 = .ok (.iload_n 1, 1) := by decide +kernel
theorem dX3_put_14 : decode cX3_put 14 = .ok (.putfield 45, 3) := by decide +kernel
theorem dX3_put_17 : decode cX3_put 17 = .ok (.aload 5, 2) := by decide +kernel
theorem dX3_put_19 : decode cX3_put 19 = .ok (.iload_n 2, 1) := by decide +kernel
theorem dX3_put_20 : decode cX3_put 20 = .ok (.putfield 48, 3) := by decide +kernel
theorem dX3_put_23 : decode cX3_put 23 = .ok (.aload 5, 2) := by decide +kernel
theorem dX3_put_25 : decode cX3_put 25 = .ok (.iload_n 3, 1) := by decide +kernel
theorem dX3_put_26 : decode cX3_put 26 = .ok (.putfield 51, 3) := by decide +kernel
theorem dX3_put_29 : decode cX3_put 29 = .ok (.aload 5, 2) := by decide +kernel
theorem dX3_put_31 : decode cX3_put 31 = .ok (.iload 4, 2) := by decide +kernel
theorem dX3_put_33 : decode cX3_put 33 = .ok (.putfield 54, 3) := by decide +kernel
theorem dX3_put_36 : decode cX3_put 36 = .ok (.aload 5, 2) := by decide +kernel
theorem dX3_put_38 : decode cX3_put 38 = .ok (.iconst 1, 1) := by decide +kernel
theorem dX3_put_39 : decode cX3_put 39 = .ok (.putfield 57, 3) := by decide +kernel
theorem dX3_put_42 : decode cX3_put 42 = .ok (.aload_n 0, 1) := by decide +kernel
theorem dX3_put_43 : decode cX3_put 43 = .ok (.getfield 21, 3) := by decide +kernel
theorem dX3_put_46 : decode cX3_put 46 = .ok (.dup, 1) := by decide +kernel
theorem dX3_put_47 : decode cX3_put 47 = .ok (.getfield 61, 3) := by decide +kernel
theorem dX3_put_50 : decode cX3_put 50 = .ok (.iload_n 3, 1) := by decide +kernel
theorem dX3_put_51 : decode cX3_put 51 = .ok (.iadd, 1) := by decide +kernel
theorem dX3_put_52 : decode cX3_put 52 = .ok (.putfield 61, 3) := by decide +kernel
theorem dX3_put_55 : decode cX3_put 55 = .ok (.aload_n 0, 1) := by decide +kernel
theorem dX3_put_56 : decode cX3_put 56 = .ok (.getfield 21, 3) := by decide +kernel
theorem dX3_put_59 : decode cX3_put 59 = .ok (.dup, 1) := by decide +kernel
theorem dX3_put_60 : decode cX3_put 60 = .ok (.getfield 64, 3) := by decide +kernel
theorem dX3_put_63 : decode cX3_put 63 = .ok (.aload 5, 2) := by decide +kernel
theorem dX3_put_65 : decode cX3_put 65 = .ok (.invokevirtual 68, 3) := by decide +kernel
theorem dX3_put_68 : decode cX3_put 68 = .ok (.ladd, 1) := by decide +kernel
theorem dX3_put_69 : decode cX3_put 69 = .ok (.putfield 64, 3) := by decide +kernel
theorem dX3_put_72 : decode cX3_put 72 = .ok (.aload_n 0, 1) := by decide +kernel
theorem dX3_put_73 : decode cX3_put 73 = .ok (.dup, 1) := by decide +kernel
theorem dX3_put_74 : decode cX3_put 74 = .ok (.getfield 42, 3) := by decide +kernel
theorem dX3_put_77 : decode cX3_put 77 = .ok (.iconst 1, 1) := by decide +kernel
theorem dX3_put_78 : decode cX3_put 78 = .ok (.iadd, 1) := by decide +kernel
theorem dX3_put_79 : decode cX3_put 79 = .ok (.putfield 42, 3) := by decide +kernel
theorem dX3_put_82 : decode cX3_put 82 = .ok (.aload_n 0, 1) := by decide +kernel
theorem dX3_put_83 : decode cX3_put 83 = .ok (.getfield 42, 3) := by decide +kernel
theorem dX3_put_86 : decode cX3_put 86 = .ok (.iconst 1, 1) := by decide +kernel
theorem dX3_put_87 : decode cX3_put 87 = .ok (.isub, 1) := by decide +kernel
theorem dX3_put_88 : decode cX3_put 88 = .ok (.ireturn, 1) := by decide +kernel
theorem dX3_countThere_0 : decode cX3_countThere 0 = .ok (.iconst 0, 1) := by decide +kernel
theorem dX3_countThere_1 : decode cX3_countThere 1 = .ok (.istore_n 1, 1) := by decide +kernel
theorem dX3_countThere_2 : decode cX3_countThere 2 = .ok (.aload_n 0, 1) := by decide +kernel
theorem dX3_countThere_3 : decode cX3_countThere 3 = .ok (.getfield 27, 3) := by decide +kernel
theorem dX3_countThere_6 : decode cX3_countThere 6 = .ok (.astore_n 2, 1) := by decide +kernel
theorem dX3_countThere_7 : decode cX3_countThere 7 = .ok (.aload_n 2, 1) := by decide +kernel
theorem dX3_countThere_8 : decode cX3_countThere 8 = .ok (.arraylength, 1) := by decide +kernel
theorem dX3_countThere_9 : decode cX3_countThere 9 = .ok (.istore_n 3, 1) := by decide +kernel
theorem dX3_countThere_10 : decode cX3_countThere 10 = .ok (.iconst 0, 1) := by decide +kernel
theorem dX3_countThere_11 : decode cX3_countThere 11 = .ok (.istore 4, 2) := by decide +kernel
theorem dX3_countThere_13 : decode cX3_countThere 13 = .ok (.iload 4, 2) := by decide +kernel
theorem dX3_countThere_15 : decode cX3_countThere 15 = .ok (.iload_n 3, 1) := by decide +kernel
theorem dX3_countThere_16 : decode cX3_countThere 16 = .ok (.if_icmp .ge 26, 3) := by decide +kernel
theorem dX3_countThere_19 : decode cX3_countThere 19 = .ok (.aload_n 2, 1) := by decide +kernel
theorem dX3_countThere_20 : decode cX3_countThere 20 = .ok (.iload 4, 2) := by decide +kernel
theorem dX3_countThere_22 : decode cX3_countThere 22 = .ok (.aaload, 1) := by decide +kernel
theorem dX3_countThere_23 : decode cX3_countThere 23 = .ok (.astore 5, 2) := by decide +kernel
theorem dX3_countThere_25 : decode cX3_countThere 25 = .ok (.aload 5, 2) := by decide +kernel
theorem dX3_countThere_27 : decode cX3_countThere 27 = .ok (.getfield 57, 3) := by decide +kernel
theorem dX3_countThere_30 : decode cX3_countThere 30 = .ok (.ifCond .eq 6, 3) := by decide +kernel
theorem dX3_countThere_33 : decode cX3_countThere 33 = .ok (.iinc 1 1, 3) := by decide +kernel
theorem dX3_countThere_36 : decode cX3_countThere 36 = .ok (.iinc 4 1, 3) := by decide +kernel
theorem dX3_countThere_39 : decode cX3_countThere 39 = .ok (.goto (-26), 3) := by decide +kernel
theorem dX3_countThere_42 : decode cX3_countThere 42 = .ok (.iload_n 1, 1) := by decide +kernel
theorem dX3_countThere_43 : decode cX3_countThere 43 = .ok (.ireturn, 1) := by decide +kernel
theorem dX3_massThere_0 : decode cX3_massThere 0 = .ok (.iconst 0, 1) := by decide +kernel
theorem dX3_massThere_1 : decode cX3_massThere 1 = .ok (.istore_n 1, 1) := by decide +kernel
theorem dX3_massThere_2 : decode cX3_massThere 2 = .ok (.aload_n 0, 1) := by decide +kernel
theorem dX3_massThere_3 : decode cX3_massThere 3 = .ok (.getfield 27, 3) := by decide +kernel
theorem dX3_massThere_6 : decode cX3_massThere 6 = .ok (.astore_n 2, 1) := by decide +kernel
theorem dX3_massThere_7 : decode cX3_massThere 7 = .ok (.aload_n 2, 1) := by decide +kernel
theorem dX3_massThere_8 : decode cX3_massThere 8 = .ok (.arraylength, 1) := by decide +kernel
theorem dX3_massThere_9 : decode cX3_massThere 9 = .ok (.istore_n 3, 1) := by decide +kernel
theorem dX3_massThere_10 : decode cX3_massThere 10 = .ok (.iconst 0, 1) := by decide +kernel
theorem dX3_massThere_11 : decode cX3_massThere 11 = .ok (.istore 4, 2) := by decide +kernel
theorem dX3_massThere_13 : decode cX3_massThere 13 = .ok (.iload 4, 2) := by decide +kernel
theorem dX3_massThere_15 : decode cX3_massThere 15 = .ok (.iload_n 3, 1) := by decide +kernel
theorem dX3_massThere_16 : decode cX3_massThere 16 = .ok (.if_icmp .ge 31, 3) := by decide +kernel
theorem dX3_massThere_19 : decode cX3_massThere 19 = .ok (.aload_n 2, 1) := by decide +kernel
theorem dX3_massThere_20 : decode cX3_massThere 20 = .ok (.iload 4, 2) := by decide +kernel
theorem dX3_massThere_22 : decode cX3_massThere 22 = .ok (.aaload, 1) := by decide +kernel
theorem dX3_massThere_23 : decode cX3_massThere 23 = .ok (.astore 5, 2) := by decide +kernel
theorem dX3_massThere_25 : decode cX3_massThere 25 = .ok (.aload 5, 2) := by decide +kernel
theorem dX3_massThere_27 : decode cX3_massThere 27 = .ok (.getfield 57, 3) := by decide +kernel
theorem dX3_massThere_30 : decode cX3_massThere 30 = .ok (.ifCond .eq 11, 3) := by decide +kernel
theorem dX3_massThere_33 : decode cX3_massThere 33 = .ok (.iload_n 1, 1) := by decide +kernel
theorem dX3_massThere_34 : decode cX3_massThere 34 = .ok (.aload 5, 2) := by decide +kernel
theorem dX3_massThere_36 : decode cX3_massThere 36 = .ok (.getfield 51, 3) := by decide +kernel
theorem dX3_massThere_39 : decode cX3_massThere 39 = .ok (.iadd, 1) := by decide +kernel
theorem dX3_massThere_40 : decode cX3_massThere 40 = .ok (.istore_n 1, 1) := by decide +kernel
theorem dX3_massThere_41 : decode cX3_massThere 41 = .ok (.iinc 4 1, 3) := by decide +kernel
theorem dX3_massThere_44 : decode cX3_massThere 44 = .ok (.goto (-31), 3) := by decide +kernel
theorem dX3_massThere_47 : decode cX3_massThere 47 = .ok (.iload_n 1, 1) := by decide +kernel
theorem dX3_massThere_48 : decode cX3_massThere 48 = .ok (.ireturn, 1) := by decide +kernel
theorem dX3_momentumThere_0 : decode cX3_momentumThere 0 = .ok (.lconst 0, 1) := by decide +kernel
theorem dX3_momentumThere_1 : decode cX3_momentumThere 1 = .ok (.lstore_n 1, 1) := by decide +kernel
theorem dX3_momentumThere_2 : decode cX3_momentumThere 2 = .ok (.aload_n 0, 1) := by decide +kernel
theorem dX3_momentumThere_3 : decode cX3_momentumThere 3 = .ok (.getfield 27, 3) := by decide +kernel
theorem dX3_momentumThere_6 : decode cX3_momentumThere 6 = .ok (.astore_n 3, 1) := by decide +kernel
theorem dX3_momentumThere_7 : decode cX3_momentumThere 7 = .ok (.aload_n 3, 1) := by decide +kernel
theorem dX3_momentumThere_8 : decode cX3_momentumThere 8 = .ok (.arraylength, 1) := by decide +kernel
theorem dX3_momentumThere_9 : decode cX3_momentumThere 9 = .ok (.istore 4, 2) := by decide +kernel
theorem dX3_momentumThere_11 : decode cX3_momentumThere 11 = .ok (.iconst 0, 1) := by decide +kernel
theorem dX3_momentumThere_12 : decode cX3_momentumThere 12 = .ok (.istore 5, 2) := by decide +kernel
theorem dX3_momentumThere_14 : decode cX3_momentumThere 14 = .ok (.iload 5, 2) := by decide +kernel
theorem dX3_momentumThere_16 : decode cX3_momentumThere 16 = .ok (.iload 4, 2) := by decide +kernel
theorem dX3_momentumThere_18 : decode cX3_momentumThere 18 = .ok (.if_icmp .ge 31, 3) := by decide +kernel
theorem dX3_momentumThere_21 : decode cX3_momentumThere 21 = .ok (.aload_n 3, 1) := by decide +kernel
theorem dX3_momentumThere_22 : decode cX3_momentumThere 22 = .ok (.iload 5, 2) := by decide +kernel
theorem dX3_momentumThere_24 : decode cX3_momentumThere 24 = .ok (.aaload, 1) := by decide +kernel
theorem dX3_momentumThere_25 : decode cX3_momentumThere 25 = .ok (.astore 6, 2) := by decide +kernel
theorem dX3_momentumThere_27 : decode cX3_momentumThere 27 = .ok (.aload 6, 2) := by decide +kernel
theorem dX3_momentumThere_29 : decode cX3_momentumThere 29 = .ok (.getfield 57, 3) := by decide +kernel
theorem dX3_momentumThere_32 : decode cX3_momentumThere 32 = .ok (.ifCond .eq 11, 3) := by decide +kernel
theorem dX3_momentumThere_35 : decode cX3_momentumThere 35 = .ok (.lload_n 1, 1) := by decide +kernel
theorem dX3_momentumThere_36 : decode cX3_momentumThere 36 = .ok (.aload 6, 2) := by decide +kernel
theorem dX3_momentumThere_38 : decode cX3_momentumThere 38 = .ok (.invokevirtual 68, 3) := by decide +kernel
theorem dX3_momentumThere_41 : decode cX3_momentumThere 41 = .ok (.ladd, 1) := by decide +kernel
theorem dX3_momentumThere_42 : decode cX3_momentumThere 42 = .ok (.lstore_n 1, 1) := by decide +kernel
theorem dX3_momentumThere_43 : decode cX3_momentumThere 43 = .ok (.iinc 5 1, 3) := by decide +kernel
theorem dX3_momentumThere_46 : decode cX3_momentumThere 46 = .ok (.goto (-32), 3) := by decide +kernel
theorem dX3_momentumThere_49 : decode cX3_momentumThere 49 = .ok (.lload_n 1, 1) := by decide +kernel
theorem dX3_momentumThere_50 : decode cX3_momentumThere 50 = .ok (.lreturn, 1) := by decide +kernel
theorem dX3_weighLanes_0 : decode cX3_weighLanes 0 = .ok (.iconst 0, 1) := by decide +kernel
theorem dX3_weighLanes_1 : decode cX3_weighLanes 1 = .ok (.istore_n 2, 1) := by decide +kernel
theorem dX3_weighLanes_2 : decode cX3_weighLanes 2 = .ok (.iload_n 2, 1) := by decide +kernel
theorem dX3_weighLanes_3 : decode cX3_weighLanes 3 = .ok (.aload_n 1, 1) := by decide +kernel
theorem dX3_weighLanes_4 : decode cX3_weighLanes 4 = .ok (.arraylength, 1) := by decide +kernel
theorem dX3_weighLanes_5 : decode cX3_weighLanes 5 = .ok (.if_icmp .ge 13, 3) := by decide +kernel
theorem dX3_weighLanes_8 : decode cX3_weighLanes 8 = .ok (.aload_n 1, 1) := by decide +kernel
theorem dX3_weighLanes_9 : decode cX3_weighLanes 9 = .ok (.iload_n 2, 1) := by decide +kernel
theorem dX3_weighLanes_10 : decode cX3_weighLanes 10 = .ok (.iconst 0, 1) := by decide +kernel
theorem dX3_weighLanes_11 : decode cX3_weighLanes 11 = .ok (.iastore, 1) := by decide +kernel
theorem dX3_weighLanes_12 : decode cX3_weighLanes 12 = .ok (.iinc 2 1, 3) := by decide +kernel
theorem dX3_weighLanes_15 : decode cX3_weighLanes 15 = .ok (.goto (-13), 3) := by decide +kernel
theorem dX3_weighLanes_18 : decode cX3_weighLanes 18 = .ok (.aload_n 0, 1) := by decide +kernel
theorem dX3_weighLanes_19 : decode cX3_weighLanes 19 = .ok (.getfield 27, 3) := by decide +kernel
theorem dX3_weighLanes_22 : decode cX3_weighLanes 22 = .ok (.astore_n 2, 1) := by decide +kernel
theorem dX3_weighLanes_23 : decode cX3_weighLanes 23 = .ok (.aload_n 2, 1) := by decide +kernel
theorem dX3_weighLanes_24 : decode cX3_weighLanes 24 = .ok (.arraylength, 1) := by decide +kernel
theorem dX3_weighLanes_25 : decode cX3_weighLanes 25 = .ok (.istore_n 3, 1) := by decide +kernel
theorem dX3_weighLanes_26 : decode cX3_weighLanes 26 = .ok (.iconst 0, 1) := by decide +kernel
theorem dX3_weighLanes_27 : decode cX3_weighLanes 27 = .ok (.istore 4, 2) := by decide +kernel
theorem dX3_weighLanes_29 : decode cX3_weighLanes 29 = .ok (.iload 4, 2) := by decide +kernel
theorem dX3_weighLanes_31 : decode cX3_weighLanes 31 = .ok (.iload_n 3, 1) := by decide +kernel
theorem dX3_weighLanes_32 : decode cX3_weighLanes 32 = .ok (.if_icmp .ge 56, 3) := by decide +kernel
theorem dX3_weighLanes_35 : decode cX3_weighLanes 35 = .ok (.aload_n 2, 1) := by decide +kernel
theorem dX3_weighLanes_36 : decode cX3_weighLanes 36 = .ok (.iload 4, 2) := by decide +kernel
theorem dX3_weighLanes_38 : decode cX3_weighLanes 38 = .ok (.aaload, 1) := by decide +kernel
theorem dX3_weighLanes_39 : decode cX3_weighLanes 39 = .ok (.astore 5, 2) := by decide +kernel
theorem dX3_weighLanes_41 : decode cX3_weighLanes 41 = .ok (.aload 5, 2) := by decide +kernel
theorem dX3_weighLanes_43 : decode cX3_weighLanes 43 = .ok (.getfield 57, 3) := by decide +kernel
theorem dX3_weighLanes_46 : decode cX3_weighLanes 46 = .ok (.ifCond .eq 36, 3) := by decide +kernel
theorem dX3_weighLanes_49 : decode cX3_weighLanes 49 = .ok (.aload 5, 2) := by decide +kernel
theorem dX3_weighLanes_51 : decode cX3_weighLanes 51 = .ok (.getfield 45, 3) := by decide +kernel
theorem dX3_weighLanes_54 : decode cX3_weighLanes 54 = .ok (.ifCond .lt 28, 3) := by decide +kernel
theorem dX3_weighLanes_57 : decode cX3_weighLanes 57 = .ok (.aload 5, 2) := by decide +kernel
theorem dX3_weighLanes_59 : decode cX3_weighLanes 59 = .ok (.getfield 45, 3) := by decide +kernel
theorem dX3_weighLanes_62 : decode cX3_weighLanes 62 = .ok (.aload_n 1, 1) := by decide +kernel
theorem dX3_weighLanes_63 : decode cX3_weighLanes 63 = .ok (.arraylength, 1) := by decide +kernel
theorem dX3_weighLanes_64 : decode cX3_weighLanes 64 = .ok (.if_icmp .ge 18, 3) := by decide +kernel
theorem dX3_weighLanes_67 : decode cX3_weighLanes 67 = .ok (.aload_n 1, 1) := by decide +kernel
theorem dX3_weighLanes_68 : decode cX3_weighLanes 68 = .ok (.aload 5, 2) := by decide +kernel
theorem dX3_weighLanes_70 : decode cX3_weighLanes 70 = .ok (.getfield 45, 3) := by decide +kernel
theorem dX3_weighLanes_73 : decode cX3_weighLanes 73 = .ok (.dup2, 1) := by decide +kernel
theorem dX3_weighLanes_74 : decode cX3_weighLanes 74 = .ok (.iaload, 1) := by decide +kernel
theorem dX3_weighLanes_75 : decode cX3_weighLanes 75 = .ok (.aload 5, 2) := by decide +kernel
theorem dX3_weighLanes_77 : decode cX3_weighLanes 77 = .ok (.getfield 51, 3) := by decide +kernel
theorem dX3_weighLanes_80 : decode cX3_weighLanes 80 = .ok (.iadd, 1) := by decide +kernel
theorem dX3_weighLanes_81 : decode cX3_weighLanes 81 = .ok (.iastore, 1) := by decide +kernel
theorem dX3_weighLanes_82 : decode cX3_weighLanes 82 = .ok (.iinc 4 1, 3) := by decide +kernel
theorem dX3_weighLanes_85 : decode cX3_weighLanes 85 = .ok (.goto (-56), 3) := by decide +kernel
theorem dX3_weighLanes_88 : decode cX3_weighLanes 88 = .ok (.return_, 1) := by decide +kernel
theorem dX3_goRound_0 : decode cX3_goRound 0 = .ok (.aload_n 0, 1) := by decide +kernel
theorem dX3_goRound_1 : decode cX3_goRound 1 = .ok (.getfield 27, 3) := by decide +kernel
theorem dX3_goRound_4 : decode cX3_goRound 4 = .ok (.astore_n 1, 1) := by decide +kernel
theorem dX3_goRound_5 : decode cX3_goRound 5 = .ok (.aload_n 1, 1) := by decide +kernel
theorem dX3_goRound_6 : decode cX3_goRound 6 = .ok (.arraylength, 1) := by decide +kernel
theorem dX3_goRound_7 : decode cX3_goRound 7 = .ok (.istore_n 2, 1) := by decide +kernel
theorem dX3_goRound_8 : decode cX3_goRound 8 = .ok (.iconst 0, 1) := by decide +kernel
theorem dX3_goRound_9 : decode cX3_goRound 9 = .ok (.istore_n 3, 1) := by decide +kernel
theorem dX3_goRound_10 : decode cX3_goRound 10 = .ok (.iload_n 3, 1) := by decide +kernel
theorem dX3_goRound_11 : decode cX3_goRound 11 = .ok (.iload_n 2, 1) := by decide +kernel
theorem dX3_goRound_12 : decode cX3_goRound 12 = .ok (.if_icmp .ge 47, 3) := by decide +kernel
theorem dX3_goRound_15 : decode cX3_goRound 15 = .ok (.aload_n 1, 1) := by decide +kernel
theorem dX3_goRound_16 : decode cX3_goRound 16 = .ok (.iload_n 3, 1) := by decide +kernel
theorem dX3_goRound_17 : decode cX3_goRound 17 = .ok (.aaload, 1) := by decide +kernel
theorem dX3_goRound_18 : decode cX3_goRound 18 = .ok (.astore 4, 2) := by decide +kernel
theorem dX3_goRound_20 : decode cX3_goRound 20 = .ok (.aload 4, 2) := by decide +kernel
theorem dX3_goRound_22 : decode cX3_goRound 22 = .ok (.getfield 57, 3) := by decide +kernel
theorem dX3_goRound_25 : decode cX3_goRound 25 = .ok (.ifCond .eq 28, 3) := by decide +kernel
theorem dX3_goRound_28 : decode cX3_goRound 28 = .ok (.aload 4, 2) := by decide +kernel
theorem dX3_goRound_30 : decode cX3_goRound 30 = .ok (.aload 4, 2) := by decide +kernel
theorem dX3_goRound_32 : decode cX3_goRound 32 = .ok (.getfield 48, 3) := by decide +kernel
theorem dX3_goRound_35 : decode cX3_goRound 35 = .ok (.aload_n 0, 1) := by decide +kernel
theorem dX3_goRound_36 : decode cX3_goRound 36 = .ok (.getfield 12, 3) := by decide +kernel
theorem dX3_goRound_39 : decode cX3_goRound 39 = .ok (.aload 4, 2) := by decide +kernel
theorem dX3_goRound_41 : decode cX3_goRound 41 = .ok (.getfield 45, 3) := by decide +kernel
theorem dX3_goRound_44 : decode cX3_goRound 44 = .ok (.invokevirtual 72, 3) := by decide +kernel
theorem dX3_goRound_47 : decode cX3_goRound 47 = .ok (.invokestatic 76, 3) := by decide +kernel
theorem dX3_goRound_50 : decode cX3_goRound 50 = .ok (.putfield 48, 3) := by decide +kernel
theorem dX3_goRound_53 : decode cX3_goRound 53 = .ok (.iinc 3 1, 3) := by decide +kernel
theorem dX3_goRound_56 : decode cX3_goRound 56 = .ok (.goto (-46), 3) := by decide +kernel
theorem dX3_goRound_59 : decode cX3_goRound 59 = .ok (.return_, 1) := by decide +kernel
theorem dX3_yieldTo_0 : decode cX3_yieldTo 0 = .ok (.aload_n 0, 1) := by decide +kernel
theorem dX3_yieldTo_1 : decode cX3_yieldTo 1 = .ok (.getfield 27, 3) := by decide +kernel
theorem dX3_yieldTo_4 : decode cX3_yieldTo 4 = .ok (.astore_n 2, 1) := by decide +kernel
theorem dX3_yieldTo_5 : decode cX3_yieldTo 5 = .ok (.aload_n 2, 1) := by decide +kernel
theorem dX3_yieldTo_6 : decode cX3_yieldTo 6 = .ok (.arraylength, 1) := by decide +kernel
theorem dX3_yieldTo_7 : decode cX3_yieldTo 7 = .ok (.istore_n 3, 1) := by decide +kernel
theorem dX3_yieldTo_8 : decode cX3_yieldTo 8 = .ok (.iconst 0, 1) := by decide +kernel
theorem dX3_yieldTo_9 : decode cX3_yieldTo 9 = .ok (.istore 4, 2) := by decide +kernel
theorem dX3_yieldTo_11 : decode cX3_yieldTo 11 = .ok (.iload 4, 2) := by decide +kernel
theorem dX3_yieldTo_13 : decode cX3_yieldTo 13 = .ok (.iload_n 3, 1) := by decide +kernel
theorem dX3_yieldTo_14 : decode cX3_yieldTo 14 = .ok (.if_icmp .ge 113, 3) := by decide +kernel
theorem dX3_yieldTo_17 : decode cX3_yieldTo 17 = .ok (.aload_n 2, 1) := by decide +kernel
theorem dX3_yieldTo_18 : decode cX3_yieldTo 18 = .ok (.iload 4, 2) := by decide +kernel
theorem dX3_yieldTo_20 : decode cX3_yieldTo 20 = .ok (.aaload, 1) := by decide +kernel
theorem dX3_yieldTo_21 : decode cX3_yieldTo 21 = .ok (.astore 5, 2) := by decide +kernel
theorem dX3_yieldTo_23 : decode cX3_yieldTo 23 = .ok (.aload 5, 2) := by decide +kernel
theorem dX3_yieldTo_25 : decode cX3_yieldTo 25 = .ok (.getfield 57, 3) := by decide +kernel
theorem dX3_yieldTo_28 : decode cX3_yieldTo 28 = .ok (.ifCond .eq 93, 3) := by decide +kernel
theorem dX3_yieldTo_31 : decode cX3_yieldTo 31 = .ok (.aload 5, 2) := by decide +kernel
theorem dX3_yieldTo_33 : decode cX3_yieldTo 33 = .ok (.aload_n 1, 1) := by decide +kernel
theorem dX3_yieldTo_34 : decode cX3_yieldTo 34 = .ok (.getfield 80, 3) := by decide +kernel
theorem dX3_yieldTo_37 : decode cX3_yieldTo 37 = .ok (.aload_n 1, 1) := by decide +kernel
theorem dX3_yieldTo_38 : decode cX3_yieldTo 38 = .ok (.getfield 83, 3) := by decide +kernel
theorem dX3_yieldTo_41 : decode cX3_yieldTo 41 = .ok (.aload_n 1, 1) := by decide +kernel
theorem dX3_yieldTo_42 : decode cX3_yieldTo 42 = .ok (.getfield 84, 3) := by decide +kernel
theorem dX3_yieldTo_45 : decode cX3_yieldTo 45 = .ok (.sipush 1000, 3) := by decide +kernel
theorem dX3_yieldTo_48 : decode cX3_yieldTo 48 = .ok (.invokevirtual 87, 3) := by decide +kernel
theorem dX3_yieldTo_51 : decode cX3_yieldTo 51 = .ok (.ifCond .eq 70, 3) := by decide +kernel
theorem dX3_yieldTo_54 : decode cX3_yieldTo 54 = .ok (.aload 5, 2) := by decide +kernel
theorem dX3_yieldTo_56 : decode cX3_yieldTo 56 = .ok (.invokevirtual 68, 3) := by decide +kernel
theorem dX3_yieldTo_59 : decode cX3_yieldTo 59 = .ok (.lstore 6, 2) := by decide +kernel
theorem dX3_yieldTo_61 : decode cX3_yieldTo 61 = .ok (.aload_n 0, 1) := by decide +kernel
theorem dX3_yieldTo_62 : decode cX3_yieldTo 62 = .ok (.aload 5, 2) := by decide +kernel
theorem dX3_yieldTo_64 : decode cX3_yieldTo 64 = .ok (.aload 5, 2) := by decide +kernel
theorem dX3_yieldTo_66 : decode cX3_yieldTo 66 = .ok (.getfield 45, 3) := by decide +kernel
theorem dX3_yieldTo_69 : decode cX3_yieldTo 69 = .ok (.aload_n 1, 1) := by decide +kernel
theorem dX3_yieldTo_70 : decode cX3_yieldTo 70 = .ok (.getfield 80, 3) := by decide +kernel
theorem dX3_yieldTo_73 : decode cX3_yieldTo 73 = .ok (.if_icmp .ge 7, 3) := by decide +kernel
theorem dX3_yieldTo_76 : decode cX3_yieldTo 76 = .ok (.iconst (-1), 1) := by decide +kernel
theorem dX3_yieldTo_77 : decode cX3_yieldTo 77 = .ok (.goto 4, 3) := by decide +kernel
theorem dX3_yieldTo_80 : decode cX3_yieldTo 80 = .ok (.iconst 1, 1) := by decide +kernel
theorem dX3_yieldTo_81 : decode cX3_yieldTo 81 = .ok (.invokevirtual 91, 3) := by decide +kernel
theorem dX3_yieldTo_84 : decode cX3_yieldTo 84 = .ok (.aload 5, 2) := by decide +kernel
theorem dX3_yieldTo_86 : decode cX3_yieldTo 86 = .ok (.aload 5, 2) := by decide +kernel
theorem dX3_yieldTo_88 : decode cX3_yieldTo 88 = .ok (.getfield 54, 3) := by decide +kernel
theorem dX3_yieldTo_91 : decode cX3_yieldTo 91 = .ok (.iconst 5, 1) := by decide +kernel
theorem dX3_yieldTo_92 : decode cX3_yieldTo 92 = .ok (.iadd, 1) := by decide +kernel
theorem dX3_yieldTo_93 : decode cX3_yieldTo 93 = .ok (.bipush 99, 2) := by decide +kernel
theorem dX3_yieldTo_95 : decode cX3_yieldTo 95 = .ok (.invokestatic 95, 3) := by decide +kernel
theorem dX3_yieldTo_98 : decode cX3_yieldTo 98 = .ok (.putfield 54, 3) := by decide +kernel
theorem dX3_yieldTo_101 : decode cX3_yieldTo 101 = .ok (.aload_n 0, 1) := by decide +kernel
theorem dX3_yieldTo_102 : decode cX3_yieldTo 102 = .ok (.getfield 21, 3) := by decide +kernel
theorem dX3_yieldTo_105 : decode cX3_yieldTo 105 = .ok (.dup, 1) := by decide +kernel
theorem dX3_yieldTo_106 : decode cX3_yieldTo 106 = .ok (.getfield 100, 3) := by decide +kernel
theorem dX3_yieldTo_109 : decode cX3_yieldTo 109 = .ok (.aload 5, 2) := by decide +kernel
theorem dX3_yieldTo_111 : decode cX3_yieldTo 111 = .ok (.invokevirtual 68, 3) := by decide +kernel
theorem dX3_yieldTo_114 : decode cX3_yieldTo 114 = .ok (.lload 6, 2) := by decide +kernel
theorem dX3_yieldTo_116 : decode cX3_yieldTo 116 = .ok (.lsub, 1) := by decide +kernel
theorem dX3_yieldTo_117 : decode cX3_yieldTo 117 = .ok (.ladd, 1) := by decide +kernel
theorem dX3_yieldTo_118 : decode cX3_yieldTo 118 = .ok (.putfield 100, 3) := by decide +kernel
theorem dX3_yieldTo_121 : decode cX3_yieldTo 121 = .ok (.iinc 4 1, 3) := by decide +kernel
theorem dX3_yieldTo_124 : decode cX3_yieldTo 124 = .ok (.goto (-113), 3) := by decide +kernel
theorem dX3_yieldTo_127 : decode cX3_yieldTo 127 = .ok (.return_, 1) := by decide +kernel
theorem dX3_meetAll_0 : decode cX3_meetAll 0 = .ok (.aload_n 0, 1) := by decide +kernel
theorem dX3_meetAll_1 : decode cX3_meetAll 1 = .ok (.getfield 27, 3) := by decide +kernel
theorem dX3_meetAll_4 : decode cX3_meetAll 4 = .ok (.astore_n 1, 1) := by decide +kernel
theorem dX3_meetAll_5 : decode cX3_meetAll 5 = .ok (.aload_n 1, 1) := by decide +kernel
theorem dX3_meetAll_6 : decode cX3_meetAll 6 = .ok (.arraylength, 1) := by decide +kernel
theorem dX3_meetAll_7 : decode cX3_meetAll 7 = .ok (.istore_n 2, 1) := by decide +kernel
theorem dX3_meetAll_8 : decode cX3_meetAll 8 = .ok (.iconst 0, 1) := by decide +kernel
theorem dX3_meetAll_9 : decode cX3_meetAll 9 = .ok (.istore_n 3, 1) := by decide +kernel
theorem dX3_meetAll_10 : decode cX3_meetAll 10 = .ok (.iload_n 3, 1) := by decide +kernel
theorem dX3_meetAll_11 : decode cX3_meetAll 11 = .ok (.iload_n 2, 1) := by decide +kernel
theorem dX3_meetAll_12 : decode cX3_meetAll 12 = .ok (.if_icmp .ge 20, 3) := by decide +kernel
theorem dX3_meetAll_15 : decode cX3_meetAll 15 = .ok (.aload_n 1, 1) := by decide +kernel
theorem dX3_meetAll_16 : decode cX3_meetAll 16 = .ok (.iload_n 3, 1) := by decide +kernel
theorem dX3_meetAll_17 : decode cX3_meetAll 17 = .ok (.aaload, 1) := by decide +kernel
theorem dX3_meetAll_18 : decode cX3_meetAll 18 = .ok (.astore 4, 2) := by decide +kernel
theorem dX3_meetAll_20 : decode cX3_meetAll 20 = .ok (.aload 4, 2) := by decide +kernel
theorem dX3_meetAll_22 : decode cX3_meetAll 22 = .ok (.iconst 0, 1) := by decide +kernel
theorem dX3_meetAll_23 : decode cX3_meetAll 23 = .ok (.putfield 103, 3) := by decide +kernel
theorem dX3_meetAll_26 : decode cX3_meetAll 26 = .ok (.iinc 3 1, 3) := by decide +kernel
theorem dX3_meetAll_29 : decode cX3_meetAll 29 = .ok (.goto (-19), 3) := by decide +kernel
theorem dX3_meetAll_32 : decode cX3_meetAll 32 = .ok (.aload_n 0, 1) := by decide +kernel
theorem dX3_meetAll_33 : decode cX3_meetAll 33 = .ok (.getfield 42, 3) := by decide +kernel
theorem dX3_meetAll_36 : decode cX3_meetAll 36 = .ok (.istore_n 1, 1) := by decide +kernel
theorem dX3_meetAll_37 : decode cX3_meetAll 37 = .ok (.iconst 0, 1) := by decide +kernel
theorem dX3_meetAll_38 : decode cX3_meetAll 38 = .ok (.istore_n 2, 1) := by decide +kernel
theorem dX3_meetAll_39 : decode cX3_meetAll 39 = .ok (.iload_n 2, 1) := by decide +kernel
theorem dX3_meetAll_40 : decode cX3_meetAll 40 = .ok (.iload_n 1, 1) := by decide +kernel
theorem dX3_meetAll_41 : decode cX3_meetAll 41 = .ok (.if_icmp .ge 49, 3) := by decide +kernel
theorem dX3_meetAll_44 : decode cX3_meetAll 44 = .ok (.aload_n 0, 1) := by decide +kernel
theorem dX3_meetAll_45 : decode cX3_meetAll 45 = .ok (.getfield 27, 3) := by decide +kernel
theorem dX3_meetAll_48 : decode cX3_meetAll 48 = .ok (.iload_n 2, 1) := by decide +kernel
theorem dX3_meetAll_49 : decode cX3_meetAll 49 = .ok (.aaload, 1) := by decide +kernel
theorem dX3_meetAll_50 : decode cX3_meetAll 50 = .ok (.invokevirtual 106, 3) := by decide +kernel
theorem dX3_meetAll_53 : decode cX3_meetAll 53 = .ok (.ifCond .eq 31, 3) := by decide +kernel
theorem dX3_meetAll_56 : decode cX3_meetAll 56 = .ok (.aload_n 0, 1) := by decide +kernel
theorem dX3_meetAll_57 : decode cX3_meetAll 57 = .ok (.iload_n 2, 1) := by decide +kernel
theorem dX3_meetAll_58 : decode cX3_meetAll 58 = .ok (.iload_n 1, 1) := by decide +kernel
theorem dX3_meetAll_59 : decode cX3_meetAll 59 = .ok (.invokevirtual 110, 3) := by decide +kernel
theorem dX3_meetAll_62 : decode cX3_meetAll 62 = .ok (.istore_n 3, 1) := by decide +kernel
theorem dX3_meetAll_63 : decode cX3_meetAll 63 = .ok (.iload_n 3, 1) := by decide +kernel
theorem dX3_meetAll_64 : decode cX3_meetAll 64 = .ok (.iconst (-1), 1) := by decide +kernel
theorem dX3_meetAll_65 : decode cX3_meetAll 65 = .ok (.if_icmp .eq 19, 3) := by decide +kernel
theorem dX3_meetAll_68 : decode cX3_meetAll 68 = .ok (.aload_n 0, 1) := by decide +kernel
theorem dX3_meetAll_69 : decode cX3_meetAll 69 = .ok (.aload_n 0, 1) := by decide +kernel
theorem dX3_meetAll_70 : decode cX3_meetAll 70 = .ok (.getfield 27, 3) := by decide +kernel
theorem dX3_meetAll_73 : decode cX3_meetAll 73 = .ok (.iload_n 2, 1) := by decide +kernel
theorem dX3_meetAll_74 : decode cX3_meetAll 74 = .ok (.aaload, 1) := by decide +kernel
theorem dX3_meetAll_75 : decode cX3_meetAll 75 = .ok (.aload_n 0, 1) := by decide +kernel
theorem dX3_meetAll_76 : decode cX3_meetAll 76 = .ok (.getfield 27, 3) := by decide +kernel
theorem dX3_meetAll_79 : decode cX3_meetAll 79 = .ok (.iload_n 3, 1) := by decide +kernel
theorem dX3_meetAll_80 : decode cX3_meetAll 80 = .ok (.aaload, 1) := by decide +kernel
theorem dX3_meetAll_81 : decode cX3_meetAll 81 = .ok (.invokevirtual 113, 3) := by decide +kernel
theorem dX3_meetAll_84 : decode cX3_meetAll 84 = .ok (.iinc 2 1, 3) := by decide +kernel
theorem dX3_meetAll_87 : decode cX3_meetAll 87 = .ok (.goto (-48), 3) := by decide +kernel
theorem dX3_meetAll_90 : decode cX3_meetAll 90 = .ok (.return_, 1) := by decide +kernel
theorem dX3_darken_0 : decode cX3_darken 0 = .ok (.aload_n 0, 1) := by decide +kernel
theorem dX3_darken_1 : decode cX3_darken 1 = .ok (.getfield 27, 3) := by decide +kernel
theorem dX3_darken_4 : decode cX3_darken 4 = .ok (.astore_n 1, 1) := by decide +kernel
theorem dX3_darken_5 : decode cX3_darken 5 = .ok (.aload_n 1, 1) := by decide +kernel
theorem dX3_darken_6 : decode cX3_darken 6 = .ok (.arraylength, 1) := by decide +kernel
theorem dX3_darken_7 : decode cX3_darken 7 = .ok (.istore_n 2, 1) := by decide +kernel
theorem dX3_darken_8 : decode cX3_darken 8 = .ok (.iconst 0, 1) := by decide +kernel
theorem dX3_darken_9 : decode cX3_darken 9 = .ok (.istore_n 3, 1) := by decide +kernel
theorem dX3_darken_10 : decode cX3_darken 10 = .ok (.iload_n 3, 1) := by decide +kernel
theorem dX3_darken_11 : decode cX3_darken 11 = .ok (.iload_n 2, 1) := by decide +kernel
theorem dX3_darken_12 : decode cX3_darken 12 = .ok (.if_icmp .ge 40, 3) := by decide +kernel
theorem dX3_darken_15 : decode cX3_darken 15 = .ok (.aload_n 1, 1) := by decide +kernel
theorem dX3_darken_16 : decode cX3_darken 16 = .ok (.iload_n 3, 1) := by decide +kernel
theorem dX3_darken_17 : decode cX3_darken 17 = .ok (.aaload, 1) := by decide +kernel
theorem dX3_darken_18 : decode cX3_darken 18 = .ok (.astore 4, 2) := by decide +kernel
theorem dX3_darken_20 : decode cX3_darken 20 = .ok (.aload 4, 2) := by decide +kernel
theorem dX3_darken_22 : decode cX3_darken 22 = .ok (.getfield 57, 3) := by decide +kernel
theorem dX3_darken_25 : decode cX3_darken 25 = .ok (.ifCond .eq 21, 3) := by decide +kernel
theorem dX3_darken_28 : decode cX3_darken 28 = .ok (.aload 4, 2) := by decide +kernel
theorem dX3_darken_30 : decode cX3_darken 30 = .ok (.aload 4, 2) := by decide +kernel
theorem dX3_darken_32 : decode cX3_darken 32 = .ok (.getfield 117, 3) := by decide +kernel
theorem dX3_darken_35 : decode cX3_darken 35 = .ok (.iconst 1, 1) := by decide +kernel
theorem dX3_darken_36 : decode cX3_darken 36 = .ok (.iadd, 1) := by decide +kernel
theorem dX3_darken_37 : decode cX3_darken 37 = .ok (.sipush 1000, 3) := by decide +kernel
theorem dX3_darken_40 : decode cX3_darken 40 = .ok (.invokestatic 95, 3) := by decide +kernel
theorem dX3_darken_43 : decode cX3_darken 43 = .ok (.putfield 117, 3) := by decide +kernel
theorem dX3_darken_46 : decode cX3_darken 46 = .ok (.iinc 3 1, 3) := by decide +kernel
theorem dX3_darken_49 : decode cX3_darken 49 = .ok (.goto (-39), 3) := by decide +kernel
theorem dX3_darken_52 : decode cX3_darken 52 = .ok (.return_, 1) := by decide +kernel
theorem dX3_partnerOf_0 : decode cX3_partnerOf 0 = .ok (.aload_n 0, 1) := by decide +kernel
theorem dX3_partnerOf_1 : decode cX3_partnerOf 1 = .ok (.getfield 27, 3) := by decide +kernel
theorem dX3_partnerOf_4 : decode cX3_partnerOf 4 = .ok (.iload_n 1, 1) := by decide +kernel
theorem dX3_partnerOf_5 : decode cX3_partnerOf 5 = .ok (.aaload, 1) := by decide +kernel
theorem dX3_partnerOf_6 : decode cX3_partnerOf 6 = .ok (.astore_n 3, 1) := by decide +kernel
theorem dX3_partnerOf_7 : decode cX3_partnerOf 7 = .ok (.iload_n 1, 1) := by decide +kernel
theorem dX3_partnerOf_8 : decode cX3_partnerOf 8 = .ok (.iconst 1, 1) := by decide +kernel
theorem dX3_partnerOf_9 : decode cX3_partnerOf 9 = .ok (.iadd, 1) := by decide +kernel
theorem dX3_partnerOf_10 : decode cX3_partnerOf 10 = .ok (.istore 4, 2) := by decide +kernel
theorem dX3_partnerOf_12 : decode cX3_partnerOf 12 = .ok (.iload 4, 2) := by decide +kernel
theorem dX3_partnerOf_14 : decode cX3_partnerOf 14 = .ok (.iload_n 2, 1) := by decide +kernel
theorem dX3_partnerOf_15 : decode cX3_partnerOf 15 = .ok (.if_icmp .ge 49, 3) := by decide +kernel
theorem dX3_partnerOf_18 : decode cX3_partnerOf 18 = .ok (.aload_n 0, 1) := by decide +kernel
theorem dX3_partnerOf_19 : decode cX3_partnerOf 19 = .ok (.getfield 27, 3) := by decide +kernel
theorem dX3_partnerOf_22 : decode cX3_partnerOf 22 = .ok (.iload 4, 2) := by decide +kernel
theorem dX3_partnerOf_24 : decode cX3_partnerOf 24 = .ok (.aaload, 1) := by decide +kernel
theorem dX3_partnerOf_25 : decode cX3_partnerOf 25 = .ok (.astore 5, 2) := by decide +kernel
theorem dX3_partnerOf_27 : decode cX3_partnerOf 27 = .ok (.aload 5, 2) := by decide +kernel
theorem dX3_partnerOf_29 : decode cX3_partnerOf 29 = .ok (.invokevirtual 106, 3) := by decide +kernel
theorem dX3_partnerOf_32 : decode cX3_partnerOf 32 = .ok (.ifCond .eq 26, 3) := by decide +kernel
theorem dX3_partnerOf_35 : decode cX3_partnerOf 35 = .ok (.aload_n 3, 1) := by decide +kernel
theorem dX3_partnerOf_36 : decode cX3_partnerOf 36 = .ok (.aload 5, 2) := by decide +kernel
theorem dX3_partnerOf_38 : decode cX3_partnerOf 38 = .ok (.getfield 45, 3) := by decide +kernel
theorem dX3_partnerOf_41 : decode cX3_partnerOf 41 = .ok (.aload 5, 2) := by decide +kernel
theorem dX3_partnerOf_43 : decode cX3_partnerOf 43 = .ok (.getfield 48, 3) := by decide +kernel
theorem dX3_partnerOf_46 : decode cX3_partnerOf 46 = .ok (.iconst 1, 1) := by decide +kernel
theorem dX3_partnerOf_47 : decode cX3_partnerOf 47 = .ok (.bipush 100, 2) := by decide +kernel
theorem dX3_partnerOf_49 : decode cX3_partnerOf 49 = .ok (.invokevirtual 87, 3) := by decide +kernel
theorem dX3_partnerOf_52 : decode cX3_partnerOf 52 = .ok (.ifCond .eq 6, 3) := by decide +kernel
theorem dX3_partnerOf_55 : decode cX3_partnerOf 55 = .ok (.iload 4, 2) := by decide +kernel
theorem dX3_partnerOf_57 : decode cX3_partnerOf 57 = .ok (.ireturn, 1) := by decide +kernel
theorem dX3_partnerOf_58 : decode cX3_partnerOf 58 = .ok (.iinc 4 1, 3) := by decide +kernel
theorem dX3_partnerOf_61 : decode cX3_partnerOf 61 = .ok (.goto (-49), 3) := by decide +kernel
theorem dX3_partnerOf_64 : decode cX3_partnerOf 64 = .ok (.iconst (-1), 1) := by decide +kernel
theorem dX3_partnerOf_65 : decode cX3_partnerOf 65 = .ok (.ireturn, 1) := by decide +kernel
theorem dX3_meet_0 : decode cX3_meet 0 = .ok (.aload_n 1, 1) := by decide +kernel
theorem dX3_meet_1 : decode cX3_meet 1 = .ok (.iconst 1, 1) := by decide +kernel
theorem dX3_meet_2 : decode cX3_meet 2 = .ok (.putfield 103, 3) := by decide +kernel
theorem dX3_meet_5 : decode cX3_meet 5 = .ok (.aload_n 2, 1) := by decide +kernel
theorem dX3_meet_6 : decode cX3_meet 6 = .ok (.iconst 1, 1) := by decide +kernel
theorem dX3_meet_7 : decode cX3_meet 7 = .ok (.putfield 103, 3) := by decide +kernel
theorem dX3_meet_10 : decode cX3_meet 10 = .ok (.aload_n 1, 1) := by decide +kernel
theorem dX3_meet_11 : decode cX3_meet 11 = .ok (.getfield 54, 3) := by decide +kernel
theorem dX3_meet_14 : decode cX3_meet 14 = .ok (.aload_n 2, 1) := by decide +kernel
theorem dX3_meet_15 : decode cX3_meet 15 = .ok (.getfield 54, 3) := by decide +kernel
theorem dX3_meet_18 : decode cX3_meet 18 = .ok (.iadd, 1) := by decide +kernel
theorem dX3_meet_19 : decode cX3_meet 19 = .ok (.aload_n 0, 1) := by decide +kernel
theorem dX3_meet_20 : decode cX3_meet 20 = .ok (.getfield 12, 3) := by decide +kernel
theorem dX3_meet_23 : decode cX3_meet 23 = .ok (.aload_n 1, 1) := by decide +kernel
theorem dX3_meet_24 : decode cX3_meet 24 = .ok (.getfield 45, 3) := by decide +kernel
theorem dX3_meet_27 : decode cX3_meet 27 = .ok (.invokevirtual 72, 3) := by decide +kernel
theorem dX3_meet_30 : decode cX3_meet 30 = .ok (.aload_n 0, 1) := by decide +kernel
theorem dX3_meet_31 : decode cX3_meet 31 = .ok (.getfield 12, 3) := by decide +kernel
theorem dX3_meet_34 : decode cX3_meet 34 = .ok (.aload_n 2, 1) := by decide +kernel
theorem dX3_meet_35 : decode cX3_meet 35 = .ok (.getfield 45, 3) := by decide +kernel
theorem dX3_meet_38 : decode cX3_meet 38 = .ok (.invokevirtual 72, 3) := by decide +kernel
theorem dX3_meet_41 : decode cX3_meet 41 = .ok (.isub, 1) := by decide +kernel
theorem dX3_meet_42 : decode cX3_meet 42 = .ok (.invokestatic 120, 3) := by decide +kernel
theorem dX3_meet_45 : decode cX3_meet 45 = .ok (.iadd, 1) := by decide +kernel
theorem dX3_meet_46 : decode cX3_meet 46 = .ok (.istore_n 3, 1) := by decide +kernel
theorem dX3_meet_47 : decode cX3_meet 47 = .ok (.aload_n 1, 1) := by decide +kernel
theorem dX3_meet_48 : decode cX3_meet 48 = .ok (.getfield 51, 3) := by decide +kernel
theorem dX3_meet_51 : decode cX3_meet 51 = .ok (.aload_n 2, 1) := by decide +kernel
theorem dX3_meet_52 : decode cX3_meet 52 = .ok (.getfield 51, 3) := by decide +kernel
theorem dX3_meet_55 : decode cX3_meet 55 = .ok (.if_icmp .ge 7, 3) := by decide +kernel
theorem dX3_meet_58 : decode cX3_meet 58 = .ok (.aload_n 1, 1) := by decide +kernel
theorem dX3_meet_59 : decode cX3_meet 59 = .ok (.goto 4, 3) := by decide +kernel
theorem dX3_meet_62 : decode cX3_meet 62 = .ok (.aload_n 2, 1) := by decide +kernel
theorem dX3_meet_63 : decode cX3_meet 63 = .ok (.astore 4, 2) := by decide +kernel
theorem dX3_meet_65 : decode cX3_meet 65 = .ok (.iload_n 3, 1) := by decide +kernel
theorem dX3_meet_66 : decode cX3_meet 66 = .ok (.aload_n 0, 1) := by decide +kernel
theorem dX3_meet_67 : decode cX3_meet 67 = .ok (.getfield 32, 3) := by decide +kernel
theorem dX3_meet_70 : decode cX3_meet 70 = .ok (.if_icmp .gt 12, 3) := by decide +kernel
theorem dX3_meet_73 : decode cX3_meet 73 = .ok (.aload_n 0, 1) := by decide +kernel
theorem dX3_meet_74 : decode cX3_meet 74 = .ok (.aload_n 1, 1) := by decide +kernel
theorem dX3_meet_75 : decode cX3_meet 75 = .ok (.aload_n 2, 1) := by decide +kernel
theorem dX3_meet_76 : decode cX3_meet 76 = .ok (.invokevirtual 123, 3) := by decide +kernel
theorem dX3_meet_79 : decode cX3_meet 79 = .ok (.goto 44, 3) := by decide +kernel
theorem dX3_meet_82 : decode cX3_meet 82 = .ok (.iload_n 3, 1) := by decide +kernel
theorem dX3_meet_83 : decode cX3_meet 83 = .ok (.aload_n 0, 1) := by decide +kernel
theorem dX3_meet_84 : decode cX3_meet 84 = .ok (.getfield 36, 3) := by decide +kernel
theorem dX3_meet_87 : decode cX3_meet 87 = .ok (.if_icmp .le 30, 3) := by decide +kernel
theorem dX3_meet_90 : decode cX3_meet 90 = .ok (.aload 4, 2) := by decide +kernel
theorem dX3_meet_92 : decode cX3_meet 92 = .ok (.getfield 51, 3) := by decide +kernel
theorem dX3_meet_95 : decode cX3_meet 95 = .ok (.iconst 2, 1) := by decide +kernel
theorem dX3_meet_96 : decode cX3_meet 96 = .ok (.if_icmp .lt 21, 3) := by decide +kernel
theorem dX3_meet_99 : decode cX3_meet 99 = .ok (.aload_n 0, 1) := by decide +kernel
theorem dX3_meet_100 : decode cX3_meet 100 = .ok (.getfield 42, 3) := by decide +kernel
theorem dX3_meet_103 : decode cX3_meet 103 = .ok (.bipush 80, 2) := by decide +kernel
theorem dX3_meet_105 : decode cX3_meet 105 = .ok (.if_icmp .ge 12, 3) := by decide +kernel
theorem dX3_meet_108 : decode cX3_meet 108 = .ok (.aload_n 0, 1) := by decide +kernel
theorem dX3_meet_109 : decode cX3_meet 109 = .ok (.aload 4, 2) := by decide +kernel
theorem dX3_meet_111 : decode cX3_meet 111 = .ok (.invokevirtual 126, 3) := by decide +kernel
theorem dX3_meet_114 : decode cX3_meet 114 = .ok (.goto 9, 3) := by decide +kernel
theorem dX3_meet_117 : decode cX3_meet 117 = .ok (.aload_n 0, 1) := by decide +kernel
theorem dX3_meet_118 : decode cX3_meet 118 = .ok (.aload_n 1, 1) := by decide +kernel
theorem dX3_meet_119 : decode cX3_meet 119 = .ok (.aload_n 2, 1) := by decide +kernel
theorem dX3_meet_120 : decode cX3_meet 120 = .ok (.invokevirtual 130, 3) := by decide +kernel
theorem dX3_meet_123 : decode cX3_meet 123 = .ok (.return_, 1) := by decide +kernel
theorem dX3_stick_0 : decode cX3_stick 0 = .ok (.aload_n 1, 1) := by decide +kernel
theorem dX3_stick_1 : decode cX3_stick 1 = .ok (.invokevirtual 68, 3) := by decide +kernel
theorem dX3_stick_4 : decode cX3_stick 4 = .ok (.aload_n 2, 1) := by decide +kernel
theorem dX3_stick_5 : decode cX3_stick 5 = .ok (.invokevirtual 68, 3) := by decide +kernel
theorem dX3_stick_8 : decode cX3_stick 8 = .ok (.ladd, 1) := by decide +kernel
theorem dX3_stick_9 : decode cX3_stick 9 = .ok (.lstore_n 3, 1) := by decide +kernel
theorem dX3_stick_10 : decode cX3_stick 10 = .ok (.aload_n 1, 1) := by decide +kernel
theorem dX3_stick_11 : decode cX3_stick 11 = .ok (.aload_n 1, 1) := by decide +kernel
theorem dX3_stick_12 : decode cX3_stick 12 = .ok (.getfield 45, 3) := by decide +kernel
theorem dX3_stick_15 : decode cX3_stick 15 = .ok (.aload_n 2, 1) := by decide +kernel
theorem dX3_stick_16 : decode cX3_stick 16 = .ok (.aload_n 2, 1) := by decide +kernel
theorem dX3_stick_17 : decode cX3_stick 17 = .ok (.getfield 45, 3) := by decide +kernel
theorem dX3_stick_20 : decode cX3_stick 20 = .ok (.invokestatic 133, 3) := by decide +kernel
theorem dX3_stick_23 : decode cX3_stick 23 = .ok (.istore 5, 2) := by decide +kernel
theorem dX3_stick_25 : decode cX3_stick 25 = .ok (.aload_n 1, 1) := by decide +kernel
theorem dX3_stick_26 : decode cX3_stick 26 = .ok (.aload_n 1, 1) := by decide +kernel
theorem dX3_stick_27 : decode cX3_stick 27 = .ok (.getfield 117, 3) := by decide +kernel
theorem dX3_stick_30 : decode cX3_stick 30 = .ok (.aload_n 2, 1) := by decide +kernel
theorem dX3_stick_31 : decode cX3_stick 31 = .ok (.aload_n 2, 1) := by decide +kernel
theorem dX3_stick_32 : decode cX3_stick 32 = .ok (.getfield 117, 3) := by decide +kernel
theorem dX3_stick_35 : decode cX3_stick 35 = .ok (.invokestatic 133, 3) := by decide +kernel
theorem dX3_stick_38 : decode cX3_stick 38 = .ok (.istore 6, 2) := by decide +kernel
theorem dX3_stick_40 : decode cX3_stick 40 = .ok (.aload_n 1, 1) := by decide +kernel
theorem dX3_stick_41 : decode cX3_stick 41 = .ok (.iload 5, 2) := by decide +kernel
theorem dX3_stick_43 : decode cX3_stick 43 = .ok (.putfield 45, 3) := by decide +kernel
theorem dX3_stick_46 : decode cX3_stick 46 = .ok (.aload_n 1, 1) := by decide +kernel
theorem dX3_stick_47 : decode cX3_stick 47 = .ok (.iload 6, 2) := by decide +kernel
theorem dX3_stick_49 : decode cX3_stick 49 = .ok (.putfield 117, 3) := by decide +kernel
theorem dX3_stick_52 : decode cX3_stick 52 = .ok (.aload_n 1, 1) := by decide +kernel
theorem dX3_stick_53 : decode cX3_stick 53 = .ok (.aload_n 1, 1) := by decide +kernel
theorem dX3_stick_54 : decode cX3_stick 54 = .ok (.getfield 54, 3) := by decide +kernel
theorem dX3_stick_57 : decode cX3_stick 57 = .ok (.aload_n 2, 1) := by decide +kernel
theorem dX3_stick_58 : decode cX3_stick 58 = .ok (.getfield 54, 3) := by decide +kernel
theorem dX3_stick_61 : decode cX3_stick 61 = .ok (.invokestatic 95, 3) := by decide +kernel
theorem dX3_stick_64 : decode cX3_stick 64 = .ok (.putfield 54, 3) := by decide +kernel
theorem dX3_stick_67 : decode cX3_stick 67 = .ok (.aload_n 1, 1) := by decide +kernel
theorem dX3_stick_68 : decode cX3_stick 68 = .ok (.dup, 1) := by decide +kernel
theorem dX3_stick_69 : decode cX3_stick 69 = .ok (.getfield 51, 3) := by decide +kernel
theorem dX3_stick_72 : decode cX3_stick 72 = .ok (.aload_n 2, 1) := by decide +kernel
theorem dX3_stick_73 : decode cX3_stick 73 = .ok (.getfield 51, 3) := by decide +kernel
theorem dX3_stick_76 : decode cX3_stick 76 = .ok (.iadd, 1) := by decide +kernel
theorem dX3_stick_77 : decode cX3_stick 77 = .ok (.putfield 51, 3) := by decide +kernel
theorem dX3_stick_80 : decode cX3_stick 80 = .ok (.aload_n 2, 1) := by decide +kernel
theorem dX3_stick_81 : decode cX3_stick 81 = .ok (.iconst 0, 1) := by decide +kernel
theorem dX3_stick_82 : decode cX3_stick 82 = .ok (.putfield 57, 3) := by decide +kernel
theorem dX3_stick_85 : decode cX3_stick 85 = .ok (.aload_n 0, 1) := by decide +kernel
theorem dX3_stick_86 : decode cX3_stick 86 = .ok (.getfield 21, 3) := by decide +kernel
theorem dX3_stick_89 : decode cX3_stick 89 = .ok (.dup, 1) := by decide +kernel
theorem dX3_stick_90 : decode cX3_stick 90 = .ok (.getfield 137, 3) := by decide +kernel
theorem dX3_stick_93 : decode cX3_stick 93 = .ok (.iconst 1, 1) := by decide +kernel
theorem dX3_stick_94 : decode cX3_stick 94 = .ok (.iadd, 1) := by decide +kernel
theorem dX3_stick_95 : decode cX3_stick 95 = .ok (.putfield 137, 3) := by decide +kernel
theorem dX3_stick_98 : decode cX3_stick 98 = .ok (.aload_n 0, 1) := by decide +kernel
theorem dX3_stick_99 : decode cX3_stick 99 = .ok (.getfield 21, 3) := by decide +kernel
theorem dX3_stick_102 : decode cX3_stick 102 = .ok (.dup, 1) := by decide +kernel
theorem dX3_stick_103 : decode cX3_stick 103 = .ok (.getfield 140, 3) := by decide +kernel
theorem dX3_stick_106 : decode cX3_stick 106 = .ok (.lload_n 3, 1) := by decide +kernel
theorem dX3_stick_107 : decode cX3_stick 107 = .ok (.aload_n 1, 1) := by decide +kernel
theorem dX3_stick_108 : decode cX3_stick 108 = .ok (.invokevirtual 68, 3) := by decide +kernel
theorem dX3_stick_111 : decode cX3_stick 111 = .ok (.lsub, 1) := by decide +kernel
theorem dX3_stick_112 : decode cX3_stick 112 = .ok (.ladd, 1) := by decide +kernel
theorem dX3_stick_113 : decode cX3_stick 113 = .ok (.putfield 140, 3) := by decide +kernel
theorem dX3_stick_116 : decode cX3_stick 116 = .ok (.return_, 1) := by decide +kernel
theorem dX3_blend_0 : decode cX3_blend 0 = .ok (.aload_n 0, 1) := by decide +kernel
theorem dX3_blend_1 : decode cX3_blend 1 = .ok (.getfield 51, 3) := by decide +kernel
theorem dX3_blend_4 : decode cX3_blend 4 = .ok (.i2l, 1) := by decide +kernel
theorem dX3_blend_5 : decode cX3_blend 5 = .ok (.aload_n 2, 1) := by decide +kernel
theorem dX3_blend_6 : decode cX3_blend 6 = .ok (.getfield 51, 3) := by decide +kernel
theorem dX3_blend_9 : decode cX3_blend 9 = .ok (.i2l, 1) := by decide +kernel
theorem dX3_blend_10 : decode cX3_blend 10 = .ok (.ladd, 1) := by decide +kernel
theorem dX3_blend_11 : decode cX3_blend 11 = .ok (.lstore 4, 2) := by decide +kernel
theorem dX3_blend_13 : decode cX3_blend 13 = .ok (.lload 4, 2) := by decide +kernel
theorem dX3_blend_15 : decode cX3_blend 15 = .ok (.lconst 1, 1) := by decide +kernel
theorem dX3_blend_16 : decode cX3_blend 16 = .ok (.lcmp, 1) := by decide +kernel
theorem dX3_blend_17 : decode cX3_blend 17 = .ok (.ifCond .ge 5, 3) := by decide +kernel
theorem dX3_blend_20 : decode cX3_blend 20 = .ok (.iload_n 1, 1) := by decide +kernel
theorem dX3_blend_21 : decode cX3_blend 21 = .ok (.ireturn, 1) := by decide +kernel
theorem dX3_blend_22 : decode cX3_blend 22 = .ok (.aload_n 0, 1) := by decide +kernel
theorem dX3_blend_23 : decode cX3_blend 23 = .ok (.getfield 51, 3) := by decide +kernel
theorem dX3_blend_26 : decode cX3_blend 26 = .ok (.i2l, 1) := by decide +kernel
theorem dX3_blend_27 : decode cX3_blend 27 = .ok (.iload_n 1, 1) := by decide +kernel
theorem dX3_blend_28 : decode cX3_blend 28 = .ok (.i2l, 1) := by decide +kernel
theorem dX3_blend_29 : decode cX3_blend 29 = .ok (.lmul, 1) := by decide +kernel
theorem dX3_blend_30 : decode cX3_blend 30 = .ok (.aload_n 2, 1) := by decide +kernel
theorem dX3_blend_31 : decode cX3_blend 31 = .ok (.getfield 51, 3) := by decide +kernel
theorem dX3_blend_34 : decode cX3_blend 34 = .ok (.i2l, 1) := by decide +kernel
theorem dX3_blend_35 : decode cX3_blend 35 = .ok (.iload_n 3, 1) := by decide +kernel
theorem dX3_blend_36 : decode cX3_blend 36 = .ok (.i2l, 1) := by decide +kernel
theorem dX3_blend_37 : decode cX3_blend 37 = .ok (.lmul, 1) := by decide +kernel
theorem dX3_blend_38 : decode cX3_blend 38 = .ok (.ladd, 1) := by decide +kernel
theorem dX3_blend_39 : decode cX3_blend 39 = .ok (.lload 4, 2) := by decide +kernel
theorem dX3_blend_41 : decode cX3_blend 41 = .ok (.ldiv, 1) := by decide +kernel
theorem dX3_blend_42 : decode cX3_blend 42 = .ok (.l2i, 1) := by decide +kernel
theorem dX3_blend_43 : decode cX3_blend 43 = .ok (.ireturn, 1) := by decide +kernel
theorem dX3_breakUp_0 : decode cX3_breakUp 0 = .ok (.aload_n 0, 1) := by decide +kernel
theorem dX3_breakUp_1 : decode cX3_breakUp 1 = .ok (.getfield 42, 3) := by decide +kernel
theorem dX3_breakUp_4 : decode cX3_breakUp 4 = .ok (.bipush 80, 2) := by decide +kernel
theorem dX3_breakUp_6 : decode cX3_breakUp 6 = .ok (.if_icmp .lt 4, 3) := by decide +kernel
theorem dX3_breakUp_9 : decode cX3_breakUp 9 = .ok (.return_, 1) := by decide +kernel
theorem dX3_breakUp_10 : decode cX3_breakUp 10 = .ok (.aload_n 1, 1) := by decide +kernel
theorem dX3_breakUp_11 : decode cX3_breakUp 11 = .ok (.invokevirtual 68, 3) := by decide +kernel
theorem dX3_breakUp_14 : decode cX3_breakUp 14 = .ok (.lstore_n 2, 1) := by decide +kernel
theorem dX3_breakUp_15 : decode cX3_breakUp 15 = .ok (.aload_n 0, 1) := by decide +kernel
theorem dX3_breakUp_16 : decode cX3_breakUp 16 = .ok (.getfield 27, 3) := by decide +kernel
theorem dX3_breakUp_19 : decode cX3_breakUp 19 = .ok (.aload_n 0, 1) := by decide +kernel
theorem dX3_breakUp_20 : decode cX3_breakUp 20 = .ok (.getfield 42, 3) := by decide +kernel
theorem dX3_breakUp_23 : decode cX3_breakUp 23 = .ok (.aaload, 1) := by decide +kernel
theorem dX3_breakUp_24 : decode cX3_breakUp 24 = .ok (.astore 4, 2) := by decide +kernel
theorem dX3_breakUp_26 : decode cX3_breakUp 26 = .ok (.aload_n 0, 1) := by decide +kernel
theorem dX3_breakUp_27 : decode cX3_breakUp 27 = .ok (.dup, 1) := by decide +kernel
theorem dX3_breakUp_28 : decode cX3_breakUp 28 = .ok (.getfield 42, 3) := by decide +kernel
theorem dX3_breakUp_31 : decode cX3_breakUp 31 = .ok (.iconst 1, 1) := by decide +kernel
theorem dX3_breakUp_32 : decode cX3_breakUp 32 = .ok (.iadd, 1) := by decide +kernel
theorem dX3_breakUp_33 : decode cX3_breakUp 33 = .ok (.putfield 42, 3) := by decide +kernel
theorem dX3_breakUp_36 : decode cX3_breakUp 36 = .ok (.aload 4, 2) := by decide +kernel
theorem dX3_breakUp_38 : decode cX3_breakUp 38 = .ok (.aload_n 1, 1) := by decide +kernel
theorem dX3_breakUp_39 : decode cX3_breakUp 39 = .ok (.getfield 45, 3) := by decide +kernel
theorem dX3_breakUp_42 : decode cX3_breakUp 42 = .ok (.putfield 45, 3) := by decide +kernel
theorem dX3_breakUp_45 : decode cX3_breakUp 45 = .ok (.aload 4, 2) := by decide +kernel
theorem dX3_breakUp_47 : decode cX3_breakUp 47 = .ok (.aload_n 1, 1) := by decide +kernel
theorem dX3_breakUp_48 : decode cX3_breakUp 48 = .ok (.getfield 48, 3) := by decide +kernel
theorem dX3_breakUp_51 : decode cX3_breakUp 51 = .ok (.putfield 48, 3) := by decide +kernel
theorem dX3_breakUp_54 : decode cX3_breakUp 54 = .ok (.aload 4, 2) := by decide +kernel
theorem dX3_breakUp_56 : decode cX3_breakUp 56 = .ok (.aload_n 1, 1) := by decide +kernel
theorem dX3_breakUp_57 : decode cX3_breakUp 57 = .ok (.getfield 117, 3) := by decide +kernel
theorem dX3_breakUp_60 : decode cX3_breakUp 60 = .ok (.putfield 117, 3) := by decide +kernel
theorem dX3_breakUp_63 : decode cX3_breakUp 63 = .ok (.aload 4, 2) := by decide +kernel
theorem dX3_breakUp_65 : decode cX3_breakUp 65 = .ok (.iconst 0, 1) := by decide +kernel
theorem dX3_breakUp_66 : decode cX3_breakUp 66 = .ok (.putfield 54, 3) := by decide +kernel
theorem dX3_breakUp_69 : decode cX3_breakUp 69 = .ok (.aload 4, 2) := by decide +kernel
theorem dX3_breakUp_71 : decode cX3_breakUp 71 = .ok (.iconst 1, 1) := by decide +kernel
theorem dX3_breakUp_72 : decode cX3_breakUp 72 = .ok (.putfield 57, 3) := by decide +kernel
theorem dX3_breakUp_75 : decode cX3_breakUp 75 = .ok (.aload 4, 2) := by decide +kernel
theorem dX3_breakUp_77 : decode cX3_breakUp 77 = .ok (.aload_n 1, 1) := by decide +kernel
theorem dX3_breakUp_78 : decode cX3_breakUp 78 = .ok (.getfield 51, 3) := by decide +kernel
theorem dX3_breakUp_81 : decode cX3_breakUp 81 = .ok (.aload_n 1, 1) := by decide +kernel
theorem dX3_breakUp_82 : decode cX3_breakUp 82 = .ok (.getfield 51, 3) := by decide +kernel
theorem dX3_breakUp_85 : decode cX3_breakUp 85 = .ok (.iconst 2, 1) := by decide +kernel
theorem dX3_breakUp_86 : decode cX3_breakUp 86 = .ok (.idiv, 1) := by decide +kernel
theorem dX3_breakUp_87 : decode cX3_breakUp 87 = .ok (.isub, 1) := by decide +kernel
theorem dX3_breakUp_88 : decode cX3_breakUp 88 = .ok (.putfield 51, 3) := by decide +kernel
theorem dX3_breakUp_91 : decode cX3_breakUp 91 = .ok (.aload_n 1, 1) := by decide +kernel
theorem dX3_breakUp_92 : decode cX3_breakUp 92 = .ok (.aload_n 1, 1) := by decide +kernel
theorem dX3_breakUp_93 : decode cX3_breakUp 93 = .ok (.getfield 51, 3) := by decide +kernel
theorem dX3_breakUp_96 : decode cX3_breakUp 96 = .ok (.iconst 2, 1) := by decide +kernel
theorem dX3_breakUp_97 : decode cX3_breakUp 97 = .ok (.idiv, 1) := by decide +kernel
theorem dX3_breakUp_98 : decode cX3_breakUp 98 = .ok (.putfield 51, 3) := by decide +kernel
theorem dX3_breakUp_101 : decode cX3_breakUp 101 = .ok (.aload_n 1, 1) := by decide +kernel
theorem dX3_breakUp_102 : decode cX3_breakUp 102 = .ok (.iconst 0, 1) := by decide +kernel
theorem dX3_breakUp_103 : decode cX3_breakUp 103 = .ok (.putfield 54, 3) := by decide +kernel
theorem dX3_breakUp_106 : decode cX3_breakUp 106 = .ok (.aload_n 0, 1) := by decide +kernel
theorem dX3_breakUp_107 : decode cX3_breakUp 107 = .ok (.aload_n 1, 1) := by decide +kernel
theorem dX3_breakUp_108 : decode cX3_breakUp 108 = .ok (.iconst (-1), 1) := by decide +kernel
theorem dX3_breakUp_109 : decode cX3_breakUp 109 = .ok (.invokevirtual 91, 3) := by decide +kernel
theorem dX3_breakUp_112 : decode cX3_breakUp 112 = .ok (.aload_n 0, 1) := by decide +kernel
theorem dX3_breakUp_113 : decode cX3_breakUp 113 = .ok (.aload 4, 2) := by decide +kernel
theorem dX3_breakUp_115 : decode cX3_breakUp 115 = .ok (.iconst 1, 1) := by decide +kernel
theorem dX3_breakUp_116 : decode cX3_breakUp 116 = .ok (.invokevirtual 91, 3) := by decide +kernel
theorem dX3_breakUp_119 : decode cX3_breakUp 119 = .ok (.aload_n 0, 1) := by decide +kernel
theorem dX3_breakUp_120 : decode cX3_breakUp 120 = .ok (.getfield 21, 3) := by decide +kernel
theorem dX3_breakUp_123 : decode cX3_breakUp 123 = .ok (.dup, 1) := by decide +kernel
theorem dX3_breakUp_124 : decode cX3_breakUp 124 = .ok (.getfield 143, 3) := by decide +kernel
theorem dX3_breakUp_127 : decode cX3_breakUp 127 = .ok (.iconst 1, 1) := by decide +kernel
theorem dX3_breakUp_128 : decode cX3_breakUp 128 = .ok (.iadd, 1) := by decide +kernel
theorem dX3_breakUp_129 : decode cX3_breakUp 129 = .ok (.putfield 143, 3) := by decide +kernel
theorem dX3_breakUp_132 : decode cX3_breakUp 132 = .ok (.aload_n 0, 1) := by decide +kernel
theorem dX3_breakUp_133 : decode cX3_breakUp 133 = .ok (.getfield 21, 3) := by decide +kernel
theorem dX3_breakUp_136 : decode cX3_breakUp 136 = .ok (.dup, 1) := by decide +kernel
theorem dX3_breakUp_137 : decode cX3_breakUp 137 = .ok (.getfield 140, 3) := by decide +kernel
theorem dX3_breakUp_140 : decode cX3_breakUp 140 = .ok (.lload_n 2, 1) := by decide +kernel
theorem dX3_breakUp_141 : decode cX3_breakUp 141 = .ok (.aload_n 1, 1) := by decide +kernel
theorem dX3_breakUp_142 : decode cX3_breakUp 142 = .ok (.invokevirtual 68, 3) := by decide +kernel
theorem dX3_breakUp_145 : decode cX3_breakUp 145 = .ok (.lsub, 1) := by decide +kernel
theorem dX3_breakUp_146 : decode cX3_breakUp 146 = .ok (.aload 4, 2) := by decide +kernel
theorem dX3_breakUp_148 : decode cX3_breakUp 148 = .ok (.invokevirtual 68, 3) := by decide +kernel
theorem dX3_breakUp_151 : decode cX3_breakUp 151 = .ok (.lsub, 1) := by decide +kernel
theorem dX3_breakUp_152 : decode cX3_breakUp 152 = .ok (.ladd, 1) := by decide +kernel
theorem dX3_breakUp_153 : decode cX3_breakUp 153 = .ok (.putfield 140, 3) := by decide +kernel
theorem dX3_breakUp_156 : decode cX3_breakUp 156 = .ok (.return_, 1) := by decide +kernel
theorem dX3_bump_0 : decode cX3_bump 0 = .ok (.aload_n 1, 1) := by decide +kernel
theorem dX3_bump_1 : decode cX3_bump 1 = .ok (.invokevirtual 68, 3) := by decide +kernel
theorem dX3_bump_4 : decode cX3_bump 4 = .ok (.aload_n 2, 1) := by decide +kernel
theorem dX3_bump_5 : decode cX3_bump 5 = .ok (.invokevirtual 68, 3) := by decide +kernel
theorem dX3_bump_8 : decode cX3_bump 8 = .ok (.ladd, 1) := by decide +kernel
theorem dX3_bump_9 : decode cX3_bump 9 = .ok (.lstore_n 3, 1) := by decide +kernel
theorem dX3_bump_10 : decode cX3_bump 10 = .ok (.aload_n 1, 1) := by decide +kernel
theorem dX3_bump_11 : decode cX3_bump 11 = .ok (.getfield 45, 3) := by decide +kernel
theorem dX3_bump_14 : decode cX3_bump 14 = .ok (.aload_n 2, 1) := by decide +kernel
theorem dX3_bump_15 : decode cX3_bump 15 = .ok (.getfield 45, 3) := by decide +kernel
theorem dX3_bump_18 : decode cX3_bump 18 = .ok (.if_icmp .gt 7, 3) := by decide +kernel
theorem dX3_bump_21 : decode cX3_bump 21 = .ok (.iconst (-1), 1) := by decide +kernel
theorem dX3_bump_22 : decode cX3_bump 22 = .ok (.goto 4, 3) := by decide +kernel
theorem dX3_bump_25 : decode cX3_bump 25 = .ok (.iconst 1, 1) := by decide +kernel
theorem dX3_bump_26 : decode cX3_bump 26 = .ok (.istore 5, 2) := by decide +kernel
theorem dX3_bump_28 : decode cX3_bump 28 = .ok (.aload_n 0, 1) := by decide +kernel
theorem dX3_bump_29 : decode cX3_bump 29 = .ok (.aload_n 1, 1) := by decide +kernel
theorem dX3_bump_30 : decode cX3_bump 30 = .ok (.iload 5, 2) := by decide +kernel
theorem dX3_bump_32 : decode cX3_bump 32 = .ok (.invokevirtual 91, 3) := by decide +kernel
theorem dX3_bump_35 : decode cX3_bump 35 = .ok (.aload_n 0, 1) := by decide +kernel
theorem dX3_bump_36 : decode cX3_bump 36 = .ok (.aload_n 2, 1) := by decide +kernel
theorem dX3_bump_37 : decode cX3_bump 37 = .ok (.iload 5, 2) := by decide +kernel
theorem dX3_bump_39 : decode cX3_bump 39 = .ok (.ineg, 1) := by decide +kernel
theorem dX3_bump_40 : decode cX3_bump 40 = .ok (.invokevirtual 91, 3) := by decide +kernel
theorem dX3_bump_43 : decode cX3_bump 43 = .ok (.aload_n 1, 1) := by decide +kernel
theorem dX3_bump_44 : decode cX3_bump 44 = .ok (.aload_n 1, 1) := by decide +kernel
theorem dX3_bump_45 : decode cX3_bump 45 = .ok (.getfield 54, 3) := by decide +kernel
theorem dX3_bump_48 : decode cX3_bump 48 = .ok (.aload_n 0, 1) := by decide +kernel
theorem dX3_bump_49 : decode cX3_bump 49 = .ok (.getfield 39, 3) := by decide +kernel
theorem dX3_bump_52 : decode cX3_bump 52 = .ok (.imul, 1) := by decide +kernel
theorem dX3_bump_53 : decode cX3_bump 53 = .ok (.bipush 100, 2) := by decide +kernel
theorem dX3_bump_55 : decode cX3_bump 55 = .ok (.idiv, 1) := by decide +kernel
theorem dX3_bump_56 : decode cX3_bump 56 = .ok (.putfield 54, 3) := by decide +kernel
theorem dX3_bump_59 : decode cX3_bump 59 = .ok (.aload_n 2, 1) := by decide +kernel
theorem dX3_bump_60 : decode cX3_bump 60 = .ok (.aload_n 2, 1) := by decide +kernel
theorem dX3_bump_61 : decode cX3_bump 61 = .ok (.getfield 54, 3) := by decide +kernel
theorem dX3_bump_64 : decode cX3_bump 64 = .ok (.aload_n 0, 1) := by decide +kernel
theorem dX3_bump_65 : decode cX3_bump 65 = .ok (.getfield 39, 3) := by decide +kernel
theorem dX3_bump_68 : decode cX3_bump 68 = .ok (.imul, 1) := by decide +kernel
theorem dX3_bump_69 : decode cX3_bump 69 = .ok (.bipush 100, 2) := by decide +kernel
theorem dX3_bump_71 : decode cX3_bump 71 = .ok (.idiv, 1) := by decide +kernel
theorem dX3_bump_72 : decode cX3_bump 72 = .ok (.putfield 54, 3) := by decide +kernel
theorem dX3_bump_75 : decode cX3_bump 75 = .ok (.aload_n 0, 1) := by decide +kernel
theorem dX3_bump_76 : decode cX3_bump 76 = .ok (.getfield 21, 3) := by decide +kernel
theorem dX3_bump_79 : decode cX3_bump 79 = .ok (.dup, 1) := by decide +kernel
theorem dX3_bump_80 : decode cX3_bump 80 = .ok (.getfield 146, 3) := by decide +kernel
theorem dX3_bump_83 : decode cX3_bump 83 = .ok (.iconst 1, 1) := by decide +kernel
theorem dX3_bump_84 : decode cX3_bump 84 = .ok (.iadd, 1) := by decide +kernel
theorem dX3_bump_85 : decode cX3_bump 85 = .ok (.putfield 146, 3) := by decide +kernel
theorem dX3_bump_88 : decode cX3_bump 88 = .ok (.aload_n 0, 1) := by decide +kernel
theorem dX3_bump_89 : decode cX3_bump 89 = .ok (.getfield 21, 3) := by decide +kernel
theorem dX3_bump_92 : decode cX3_bump 92 = .ok (.dup, 1) := by decide +kernel
theorem dX3_bump_93 : decode cX3_bump 93 = .ok (.getfield 140, 3) := by decide +kernel
theorem dX3_bump_96 : decode cX3_bump 96 = .ok (.lload_n 3, 1) := by decide +kernel
theorem dX3_bump_97 : decode cX3_bump 97 = .ok (.aload_n 1, 1) := by decide +kernel
theorem dX3_bump_98 : decode cX3_bump 98 = .ok (.invokevirtual 68, 3) := by decide +kernel
theorem dX3_bump_101 : decode cX3_bump 101 = .ok (.lsub, 1) := by decide +kernel
theorem dX3_bump_102 : decode cX3_bump 102 = .ok (.aload_n 2, 1) := by decide +kernel
theorem dX3_bump_103 : decode cX3_bump 103 = .ok (.invokevirtual 68, 3) := by decide +kernel
theorem dX3_bump_106 : decode cX3_bump 106 = .ok (.lsub, 1) := by decide +kernel
theorem dX3_bump_107 : decode cX3_bump 107 = .ok (.ladd, 1) := by decide +kernel
theorem dX3_bump_108 : decode cX3_bump 108 = .ok (.putfield 140, 3) := by decide +kernel
theorem dX3_bump_111 : decode cX3_bump 111 = .ok (.return_, 1) := by decide +kernel
theorem dX3_shift_0 : decode cX3_shift 0 = .ok (.aload_n 1, 1) := by decide +kernel
theorem dX3_shift_1 : decode cX3_shift 1 = .ok (.dup, 1) := by decide +kernel
theorem dX3_shift_2 : decode cX3_shift 2 = .ok (.getfield 45, 3) := by decide +kernel
theorem dX3_shift_5 : decode cX3_shift 5 = .ok (.iload_n 2, 1) := by decide +kernel
theorem dX3_shift_6 : decode cX3_shift 6 = .ok (.iadd, 1) := by decide +kernel
theorem dX3_shift_7 : decode cX3_shift 7 = .ok (.putfield 45, 3) := by decide +kernel
theorem dX3_shift_10 : decode cX3_shift 10 = .ok (.aload_n 1, 1) := by decide +kernel
theorem dX3_shift_11 : decode cX3_shift 11 = .ok (.getfield 45, 3) := by decide +kernel
theorem dX3_shift_14 : decode cX3_shift 14 = .ok (.ifCond .ge 56, 3) := by decide +kernel
theorem dX3_shift_17 : decode cX3_shift 17 = .ok (.aload_n 1, 1) := by decide +kernel
theorem dX3_shift_18 : decode cX3_shift 18 = .ok (.iconst 0, 1) := by decide +kernel
theorem dX3_shift_19 : decode cX3_shift 19 = .ok (.putfield 57, 3) := by decide +kernel
theorem dX3_shift_22 : decode cX3_shift 22 = .ok (.aload_n 0, 1) := by decide +kernel
theorem dX3_shift_23 : decode cX3_shift 23 = .ok (.getfield 21, 3) := by decide +kernel
theorem dX3_shift_26 : decode cX3_shift 26 = .ok (.dup, 1) := by decide +kernel
theorem dX3_shift_27 : decode cX3_shift 27 = .ok (.getfield 149, 3) := by decide +kernel
theorem dX3_shift_30 : decode cX3_shift 30 = .ok (.iconst 1, 1) := by decide +kernel
theorem dX3_shift_31 : decode cX3_shift 31 = .ok (.iadd, 1) := by decide +kernel
theorem dX3_shift_32 : decode cX3_shift 32 = .ok (.putfield 149, 3) := by decide +kernel
theorem dX3_shift_35 : decode cX3_shift 35 = .ok (.aload_n 0, 1) := by decide +kernel
theorem dX3_shift_36 : decode cX3_shift 36 = .ok (.getfield 21, 3) := by decide +kernel
theorem dX3_shift_39 : decode cX3_shift 39 = .ok (.dup, 1) := by decide +kernel
theorem dX3_shift_40 : decode cX3_shift 40 = .ok (.getfield 152, 3) := by decide +kernel
theorem dX3_shift_43 : decode cX3_shift 43 = .ok (.aload_n 1, 1) := by decide +kernel
theorem dX3_shift_44 : decode cX3_shift 44 = .ok (.getfield 51, 3) := by decide +kernel
theorem dX3_shift_47 : decode cX3_shift 47 = .ok (.iadd, 1) := by decide +kernel
theorem dX3_shift_48 : decode cX3_shift 48 = .ok (.putfield 152, 3) := by decide +kernel
theorem dX3_shift_51 : decode cX3_shift 51 = .ok (.aload_n 0, 1) := by decide +kernel
theorem dX3_shift_52 : decode cX3_shift 52 = .ok (.getfield 21, 3) := by decide +kernel
theorem dX3_shift_55 : decode cX3_shift 55 = .ok (.dup, 1) := by decide +kernel
theorem dX3_shift_56 : decode cX3_shift 56 = .ok (.getfield 155, 3) := by decide +kernel
theorem dX3_shift_59 : decode cX3_shift 59 = .ok (.aload_n 1, 1) := by decide +kernel
theorem dX3_shift_60 : decode cX3_shift 60 = .ok (.invokevirtual 68, 3) := by decide +kernel
theorem dX3_shift_63 : decode cX3_shift 63 = .ok (.ladd, 1) := by decide +kernel
theorem dX3_shift_64 : decode cX3_shift 64 = .ok (.putfield 155, 3) := by decide +kernel
theorem dX3_shift_67 : decode cX3_shift 67 = .ok (.goto 62, 3) := by decide +kernel
theorem dX3_shift_70 : decode cX3_shift 70 = .ok (.aload_n 1, 1) := by decide +kernel
theorem dX3_shift_71 : decode cX3_shift 71 = .ok (.getfield 45, 3) := by decide +kernel
theorem dX3_shift_74 : decode cX3_shift 74 = .ok (.bipush 64, 2) := by decide +kernel
theorem dX3_shift_76 : decode cX3_shift 76 = .ok (.if_icmp .lt 53, 3) := by decide +kernel
theorem dX3_shift_79 : decode cX3_shift 79 = .ok (.aload_n 1, 1) := by decide +kernel
theorem dX3_shift_80 : decode cX3_shift 80 = .ok (.iconst 0, 1) := by decide +kernel
theorem dX3_shift_81 : decode cX3_shift 81 = .ok (.putfield 57, 3) := by decide +kernel
theorem dX3_shift_84 : decode cX3_shift 84 = .ok (.aload_n 0, 1) := by decide +kernel
theorem dX3_shift_85 : decode cX3_shift 85 = .ok (.getfield 21, 3) := by decide +kernel
end
section
theorem dX3_shift_88 : decode cX3_shift 88 = .ok (.dup, 1) := by decide +kernel
theorem dX3_shift_89 : decode cX3_shift 89 = .ok (.getfield 158, 3) := by decide +kernel
theorem dX3_shift_92 : decode cX3_shift 92 = .ok (.iconst 1, 1) := by decide +kernel
theorem dX3_shift_93 : decode cX3_shift 93 = .ok (.iadd, 1) := by decide +kernel
theorem dX3_shift_94 : decode cX3_shift 94 = .ok (.putfield 158, 3) := by decide +kernel
theorem dX3_shift_97 : decode cX3_shift 97 = .ok (.aload_n 0, 1) := by decide +kernel
theorem dX3_shift_98 : decode cX3_shift 98 = .ok (.getfield 21, 3) := by decide +kernel
theorem dX3_shift_101 : decode cX3_shift 101 = .ok (.dup, 1) := by decide +kernel
theorem dX3_shift_102 : decode cX3_shift 102 = .ok (.getfield 161, 3) := by decide +kernel
theorem dX3_shift_105 : decode cX3_shift 105 = .ok (.aload_n 1, 1) := by decide +kernel
theorem dX3_shift_106 : decode cX3_shift 106 = .ok (.getfield 51, 3) := by decide +kernel
theorem dX3_shift_109 : decode cX3_shift 109 = .ok (.iadd, 1) := by decide +kernel
theorem dX3_shift_110 : decode cX3_shift 110 = .ok (.putfield 161, 3) := by decide +kernel
theorem dX3_shift_113 : decode cX3_shift 113 = .ok (.aload_n 0, 1) := by decide +kernel
theorem dX3_shift_114 : decode cX3_shift 114 = .ok (.getfield 21, 3) := by decide +kernel
theorem dX3_shift_117 : decode cX3_shift 117 = .ok (.dup, 1) := by decide +kernel
theorem dX3_shift_118 : decode cX3_shift 118 = .ok (.getfield 164, 3) := by decide +kernel
theorem dX3_shift_121 : decode cX3_shift 121 = .ok (.aload_n 1, 1) := by decide +kernel
theorem dX3_shift_122 : decode cX3_shift 122 = .ok (.invokevirtual 68, 3) := by decide +kernel
theorem dX3_shift_125 : decode cX3_shift 125 = .ok (.ladd, 1) := by decide +kernel
theorem dX3_shift_126 : decode cX3_shift 126 = .ok (.putfield 164, 3) := by decide +kernel
theorem dX3_shift_129 : decode cX3_shift 129 = .ok (.return_, 1) := by decide +kernel
theorem dX4_init_0 : decode cX4_init 0 = .ok (.aload_n 0, 1) := by decide +kernel
theorem dX4_init_1 : decode cX4_init 1 = .ok (.invokespecial 1, 3) := by decide +kernel
theorem dX4_init_4 : decode cX4_init 4 = .ok (.return_, 1) := by decide +kernel
theorem dX5_init_0 : decode cX5_init 0 = .ok (.aload_n 0, 1) := by decide +kernel
theorem dX5_init_1 : decode cX5_init 1 = .ok (.invokespecial 1, 3) := by decide +kernel
theorem dX5_init_4 : decode cX5_init 4 = .ok (.return_, 1) := by decide +kernel
theorem dX6_init_0 : decode cX6_init 0 = .ok (.aload_n 0, 1) := by decide +kernel
theorem dX6_init_1 : decode cX6_init 1 = .ok (.invokespecial 3, 3) := by decide +kernel
theorem dX6_init_4 : decode cX6_init 4 = .ok (.return_, 1) := by decide +kernel
theorem dX6_speedIn_0 : decode cX6_speedIn 0 = .ok (.iload_n 1, 1) := by decide +kernel
theorem dX6_speedIn_1 : decode cX6_speedIn 1 = .ok (.invokestatic 9, 3) := by decide +kernel
theorem dX6_speedIn_4 : decode cX6_speedIn 4 = .ok (.istore_n 2, 1) := by decide +kernel
theorem dX6_speedIn_5 : decode cX6_speedIn 5 = .ok (.iload_n 2, 1) := by decide +kernel
theorem dX6_speedIn_6 : decode cX6_speedIn 6 = .ok (.iconst 1, 1) := by decide +kernel
theorem dX6_speedIn_7 : decode cX6_speedIn 7 = .ok (.if_icmp .ge 5, 3) := by decide +kernel
theorem dX6_speedIn_10 : decode cX6_speedIn 10 = .ok (.iconst 0, 1) := by decide +kernel
theorem dX6_speedIn_11 : decode cX6_speedIn 11 = .ok (.ireturn, 1) := by decide +kernel
theorem dX6_speedIn_12 : decode cX6_speedIn 12 = .ok (.ldc 13, 2) := by decide +kernel
theorem dX6_speedIn_14 : decode cX6_speedIn 14 = .ok (.iload_n 2, 1) := by decide +kernel
theorem dX6_speedIn_15 : decode cX6_speedIn 15 = .ok (.idiv, 1) := by decide +kernel
theorem dX6_speedIn_16 : decode cX6_speedIn 16 = .ok (.bipush 100, 2) := by decide +kernel
theorem dX6_speedIn_18 : decode cX6_speedIn 18 = .ok (.aload_n 0, 1) := by decide +kernel
theorem dX6_speedIn_19 : decode cX6_speedIn 19 = .ok (.getfield 14, 3) := by decide +kernel
theorem dX6_speedIn_22 : decode cX6_speedIn 22 = .ok (.imul, 1) := by decide +kernel
theorem dX6_speedIn_23 : decode cX6_speedIn 23 = .ok (.iload_n 2, 1) := by decide +kernel
theorem dX6_speedIn_24 : decode cX6_speedIn 24 = .ok (.iload_n 2, 1) := by decide +kernel
theorem dX6_speedIn_25 : decode cX6_speedIn 25 = .ok (.imul, 1) := by decide +kernel
theorem dX6_speedIn_26 : decode cX6_speedIn 26 = .ok (.idiv, 1) := by decide +kernel
theorem dX6_speedIn_27 : decode cX6_speedIn 27 = .ok (.iadd, 1) := by decide +kernel
theorem dX6_speedIn_28 : decode cX6_speedIn 28 = .ok (.ireturn, 1) := by decide +kernel
theorem dX7_init_0 : decode cX7_init 0 = .ok (.aload_n 0, 1) := by decide +kernel
theorem dX7_init_1 : decode cX7_init 1 = .ok (.invokespecial 3, 3) := by decide +kernel
theorem dX7_init_4 : decode cX7_init 4 = .ok (.aload_n 0, 1) := by decide +kernel
theorem dX7_init_5 : decode cX7_init 5 = .ok (.new 9, 3) := by decide +kernel
theorem dX7_init_8 : decode cX7_init 8 = .ok (.dup, 1) := by decide +kernel
theorem dX7_init_9 : decode cX7_init 9 = .ok (.invokespecial 11, 3) := by decide +kernel
theorem dX7_init_12 : decode cX7_init 12 = .ok (.putfield 12, 3) := by decide +kernel
theorem dX7_init_15 : decode cX7_init 15 = .ok (.aload_n 0, 1) := by decide +kernel
theorem dX7_init_16 : decode cX7_init 16 = .ok (.bipush 6, 2) := by decide +kernel
theorem dX7_init_18 : decode cX7_init 18 = .ok (.anewarray 16, 3) := by decide +kernel
theorem dX7_init_21 : decode cX7_init 21 = .ok (.putfield 18, 3) := by decide +kernel
theorem dX7_init_24 : decode cX7_init 24 = .ok (.iconst 0, 1) := by decide +kernel
theorem dX7_init_25 : decode cX7_init 25 = .ok (.istore_n 1, 1) := by decide +kernel
theorem dX7_init_26 : decode cX7_init 26 = .ok (.iload_n 1, 1) := by decide +kernel
theorem dX7_init_27 : decode cX7_init 27 = .ok (.bipush 6, 2) := by decide +kernel
theorem dX7_init_29 : decode cX7_init 29 = .ok (.if_icmp .ge 22, 3) := by decide +kernel
theorem dX7_init_32 : decode cX7_init 32 = .ok (.aload_n 0, 1) := by decide +kernel
theorem dX7_init_33 : decode cX7_init 33 = .ok (.getfield 18, 3) := by decide +kernel
theorem dX7_init_36 : decode cX7_init 36 = .ok (.iload_n 1, 1) := by decide +kernel
theorem dX7_init_37 : decode cX7_init 37 = .ok (.new 16, 3) := by decide +kernel
theorem dX7_init_40 : decode cX7_init 40 = .ok (.dup, 1) := by decide +kernel
theorem dX7_init_41 : decode cX7_init 41 = .ok (.invokespecial 22, 3) := by decide +kernel
theorem dX7_init_44 : decode cX7_init 44 = .ok (.aastore, 1) := by decide +kernel
theorem dX7_init_45 : decode cX7_init 45 = .ok (.iinc 1 1, 3) := by decide +kernel
theorem dX7_init_48 : decode cX7_init 48 = .ok (.goto (-22), 3) := by decide +kernel
theorem dX7_init_51 : decode cX7_init 51 = .ok (.aload_n 0, 1) := by decide +kernel
theorem dX7_init_52 : decode cX7_init 52 = .ok (.bipush 20, 2) := by decide +kernel
theorem dX7_init_54 : decode cX7_init 54 = .ok (.anewarray 23, 3) := by decide +kernel
theorem dX7_init_57 : decode cX7_init 57 = .ok (.putfield 25, 3) := by decide +kernel
theorem dX7_init_60 : decode cX7_init 60 = .ok (.iconst 0, 1) := by decide +kernel
theorem dX7_init_61 : decode cX7_init 61 = .ok (.istore_n 1, 1) := by decide +kernel
theorem dX7_init_62 : decode cX7_init 62 = .ok (.iload_n 1, 1) := by decide +kernel
theorem dX7_init_63 : decode cX7_init 63 = .ok (.bipush 20, 2) := by decide +kernel
theorem dX7_init_65 : decode cX7_init 65 = .ok (.if_icmp .ge 22, 3) := by decide +kernel
theorem dX7_init_68 : decode cX7_init 68 = .ok (.aload_n 0, 1) := by decide +kernel
theorem dX7_init_69 : decode cX7_init 69 = .ok (.getfield 25, 3) := by decide +kernel
theorem dX7_init_72 : decode cX7_init 72 = .ok (.iload_n 1, 1) := by decide +kernel
theorem dX7_init_73 : decode cX7_init 73 = .ok (.new 23, 3) := by decide +kernel
theorem dX7_init_76 : decode cX7_init 76 = .ok (.dup, 1) := by decide +kernel
theorem dX7_init_77 : decode cX7_init 77 = .ok (.invokespecial 29, 3) := by decide +kernel
theorem dX7_init_80 : decode cX7_init 80 = .ok (.aastore, 1) := by decide +kernel
theorem dX7_init_81 : decode cX7_init 81 = .ok (.iinc 1 1, 3) := by decide +kernel
theorem dX7_init_84 : decode cX7_init 84 = .ok (.goto (-22), 3) := by decide +kernel
theorem dX7_init_87 : decode cX7_init 87 = .ok (.aload_n 0, 1) := by decide +kernel
theorem dX7_init_88 : decode cX7_init 88 = .ok (.bipush 40, 2) := by decide +kernel
theorem dX7_init_90 : decode cX7_init 90 = .ok (.anewarray 30, 3) := by decide +kernel
theorem dX7_init_93 : decode cX7_init 93 = .ok (.putfield 32, 3) := by decide +kernel
theorem dX7_init_96 : decode cX7_init 96 = .ok (.iconst 0, 1) := by decide +kernel
theorem dX7_init_97 : decode cX7_init 97 = .ok (.istore_n 1, 1) := by decide +kernel
theorem dX7_init_98 : decode cX7_init 98 = .ok (.iload_n 1, 1) := by decide +kernel
theorem dX7_init_99 : decode cX7_init 99 = .ok (.bipush 40, 2) := by decide +kernel
theorem dX7_init_101 : decode cX7_init 101 = .ok (.if_icmp .ge 22, 3) := by decide +kernel
theorem dX7_init_104 : decode cX7_init 104 = .ok (.aload_n 0, 1) := by decide +kernel
theorem dX7_init_105 : decode cX7_init 105 = .ok (.getfield 32, 3) := by decide +kernel
theorem dX7_init_108 : decode cX7_init 108 = .ok (.iload_n 1, 1) := by decide +kernel
theorem dX7_init_109 : decode cX7_init 109 = .ok (.new 30, 3) := by decide +kernel
theorem dX7_init_112 : decode cX7_init 112 = .ok (.dup, 1) := by decide +kernel
theorem dX7_init_113 : decode cX7_init 113 = .ok (.invokespecial 36, 3) := by decide +kernel
theorem dX7_init_116 : decode cX7_init 116 = .ok (.aastore, 1) := by decide +kernel
theorem dX7_init_117 : decode cX7_init 117 = .ok (.iinc 1 1, 3) := by decide +kernel
theorem dX7_init_120 : decode cX7_init 120 = .ok (.goto (-22), 3) := by decide +kernel
theorem dX7_init_123 : decode cX7_init 123 = .ok (.aload_n 0, 1) := by decide +kernel
theorem dX7_init_124 : decode cX7_init 124 = .ok (.bipush 64, 2) := by decide +kernel
theorem dX7_init_126 : decode cX7_init 126 = .ok (.newarray .int, 2) := by decide +kernel
theorem dX7_init_128 : decode cX7_init 128 = .ok (.putfield 37, 3) := by decide +kernel
theorem dX7_init_131 : decode cX7_init 131 = .ok (.aload_n 0, 1) := by decide +kernel
theorem dX7_init_132 : decode cX7_init 132 = .ok (.bipush 21, 2) := by decide +kernel
theorem dX7_init_134 : decode cX7_init 134 = .ok (.newarray .int, 2) := by decide +kernel
theorem dX7_init_136 : decode cX7_init 136 = .ok (.putfield 41, 3) := by decide +kernel
theorem dX7_init_139 : decode cX7_init 139 = .ok (.aload_n 0, 1) := by decide +kernel
theorem dX7_init_140 : decode cX7_init 140 = .ok (.bipush 21, 2) := by decide +kernel
theorem dX7_init_142 : decode cX7_init 142 = .ok (.newarray .int, 2) := by decide +kernel
theorem dX7_init_144 : decode cX7_init 144 = .ok (.putfield 44, 3) := by decide +kernel
theorem dX7_init_147 : decode cX7_init 147 = .ok (.return_, 1) := by decide +kernel
theorem dX7_grain_0 : decode cX7_grain 0 = .ok (.iload_n 1, 1) := by decide +kernel
theorem dX7_grain_1 : decode cX7_grain 1 = .ok (.iload_n 2, 1) := by decide +kernel
theorem dX7_grain_2 : decode cX7_grain 2 = .ok (.iload_n 3, 1) := by decide +kernel
theorem dX7_grain_3 : decode cX7_grain 3 = .ok (.invokestatic 47, 3) := by decide +kernel
theorem dX7_grain_6 : decode cX7_grain 6 = .ok (.iload 4, 2) := by decide +kernel
theorem dX7_grain_8 : decode cX7_grain 8 = .ok (.iconst 0, 1) := by decide +kernel
theorem dX7_grain_9 : decode cX7_grain 9 = .ok (.bipush 99, 2) := by decide +kernel
theorem dX7_grain_11 : decode cX7_grain 11 = .ok (.invokestatic 51, 3) := by decide +kernel
theorem dX7_grain_14 : decode cX7_grain 14 = .ok (.aload_n 0, 1) := by decide +kernel
theorem dX7_grain_15 : decode cX7_grain 15 = .ok (.getfield 12, 3) := by decide +kernel
theorem dX7_grain_18 : decode cX7_grain 18 = .ok (.getfield 54, 3) := by decide +kernel
theorem dX7_grain_21 : decode cX7_grain 21 = .ok (.bipush 80, 2) := by decide +kernel
theorem dX7_grain_23 : decode cX7_grain 23 = .ok (.if_icmp .lt 13, 3) := by decide +kernel
theorem dX7_grain_26 : decode cX7_grain 26 = .ok (.new 58, 3) := by decide +kernel
theorem dX7_grain_29 : decode cX7_grain 29 = .ok (.dup, 1) := by decide +kernel
theorem dX7_grain_30 : decode cX7_grain 30 = .ok (.ldc 60, 2) := by decide +kernel
theorem dX7_grain_32 : decode cX7_grain 32 = .ok (.invokespecial 62, 3) := by decide +kernel
theorem dX7_grain_35 : decode cX7_grain 35 = .ok (.athrow, 1) := by decide +kernel
theorem dX7_grain_36 : decode cX7_grain 36 = .ok (.aload_n 0, 1) := by decide +kernel
theorem dX7_grain_37 : decode cX7_grain 37 = .ok (.getfield 12, 3) := by decide +kernel
theorem dX7_grain_40 : decode cX7_grain 40 = .ok (.iload_n 1, 1) := by decide +kernel
theorem dX7_grain_41 : decode cX7_grain 41 = .ok (.iload_n 2, 1) := by decide +kernel
theorem dX7_grain_42 : decode cX7_grain 42 = .ok (.iload_n 3, 1) := by decide +kernel
theorem dX7_grain_43 : decode cX7_grain 43 = .ok (.iload 4, 2) := by decide +kernel
theorem dX7_grain_45 : decode cX7_grain 45 = .ok (.invokevirtual 65, 3) := by decide +kernel
theorem dX7_grain_48 : decode cX7_grain 48 = .ok (.ireturn, 1) := by decide +kernel
theorem dX7_moon_0 : decode cX7_moon 0 = .ok (.iload_n 1, 1) := by decide +kernel
theorem dX7_moon_1 : decode cX7_moon 1 = .ok (.iload_n 2, 1) := by decide +kernel
theorem dX7_moon_2 : decode cX7_moon 2 = .ok (.iload_n 3, 1) := by decide +kernel
theorem dX7_moon_3 : decode cX7_moon 3 = .ok (.invokestatic 47, 3) := by decide +kernel
theorem dX7_moon_6 : decode cX7_moon 6 = .ok (.aload_n 0, 1) := by decide +kernel
theorem dX7_moon_7 : decode cX7_moon 7 = .ok (.getfield 69, 3) := by decide +kernel
theorem dX7_moon_10 : decode cX7_moon 10 = .ok (.bipush 6, 2) := by decide +kernel
theorem dX7_moon_12 : decode cX7_moon 12 = .ok (.if_icmp .lt 13, 3) := by decide +kernel
theorem dX7_moon_15 : decode cX7_moon 15 = .ok (.new 58, 3) := by decide +kernel
theorem dX7_moon_18 : decode cX7_moon 18 = .ok (.dup, 1) := by decide +kernel
theorem dX7_moon_19 : decode cX7_moon 19 = .ok (.ldc 72, 2) := by decide +kernel
theorem dX7_moon_21 : decode cX7_moon 21 = .ok (.invokespecial 62, 3) := by decide +kernel
theorem dX7_moon_24 : decode cX7_moon 24 = .ok (.athrow, 1) := by decide +kernel
theorem dX7_moon_25 : decode cX7_moon 25 = .ok (.aload_n 0, 1) := by decide +kernel
theorem dX7_moon_26 : decode cX7_moon 26 = .ok (.getfield 18, 3) := by decide +kernel
theorem dX7_moon_29 : decode cX7_moon 29 = .ok (.aload_n 0, 1) := by decide +kernel
theorem dX7_moon_30 : decode cX7_moon 30 = .ok (.getfield 69, 3) := by decide +kernel
theorem dX7_moon_33 : decode cX7_moon 33 = .ok (.aaload, 1) := by decide +kernel
theorem dX7_moon_34 : decode cX7_moon 34 = .ok (.astore 4, 2) := by decide +kernel
theorem dX7_moon_36 : decode cX7_moon 36 = .ok (.aload 4, 2) := by decide +kernel
theorem dX7_moon_38 : decode cX7_moon 38 = .ok (.iload_n 1, 1) := by decide +kernel
theorem dX7_moon_39 : decode cX7_moon 39 = .ok (.putfield 74, 3) := by decide +kernel
theorem dX7_moon_42 : decode cX7_moon 42 = .ok (.aload 4, 2) := by decide +kernel
theorem dX7_moon_44 : decode cX7_moon 44 = .ok (.iload_n 2, 1) := by decide +kernel
theorem dX7_moon_45 : decode cX7_moon 45 = .ok (.putfield 77, 3) := by decide +kernel
theorem dX7_moon_48 : decode cX7_moon 48 = .ok (.aload 4, 2) := by decide +kernel
theorem dX7_moon_50 : decode cX7_moon 50 = .ok (.iload_n 3, 1) := by decide +kernel
theorem dX7_moon_51 : decode cX7_moon 51 = .ok (.invokestatic 80, 3) := by decide +kernel
theorem dX7_moon_54 : decode cX7_moon 54 = .ok (.putfield 84, 3) := by decide +kernel
theorem dX7_moon_57 : decode cX7_moon 57 = .ok (.aload_n 0, 1) := by decide +kernel
theorem dX7_moon_58 : decode cX7_moon 58 = .ok (.dup, 1) := by decide +kernel
theorem dX7_moon_59 : decode cX7_moon 59 = .ok (.getfield 69, 3) := by decide +kernel
theorem dX7_moon_62 : decode cX7_moon 62 = .ok (.iconst 1, 1) := by decide +kernel
theorem dX7_moon_63 : decode cX7_moon 63 = .ok (.iadd, 1) := by decide +kernel
theorem dX7_moon_64 : decode cX7_moon 64 = .ok (.putfield 69, 3) := by decide +kernel
theorem dX7_moon_67 : decode cX7_moon 67 = .ok (.aload_n 0, 1) := by decide +kernel
theorem dX7_moon_68 : decode cX7_moon 68 = .ok (.getfield 69, 3) := by decide +kernel
theorem dX7_moon_71 : decode cX7_moon 71 = .ok (.iconst 1, 1) := by decide +kernel
theorem dX7_moon_72 : decode cX7_moon 72 = .ok (.isub, 1) := by decide +kernel
theorem dX7_moon_73 : decode cX7_moon 73 = .ok (.ireturn, 1) := by decide +kernel
theorem dX7_flatness_0 : decode cX7_flatness 0 = .ok (.iload_n 1, 1) := by decide +kernel
theorem dX7_flatness_1 : decode cX7_flatness 1 = .ok (.iconst 0, 1) := by decide +kernel
theorem dX7_flatness_2 : decode cX7_flatness 2 = .ok (.sipush 1000, 3) := by decide +kernel
theorem dX7_flatness_5 : decode cX7_flatness 5 = .ok (.invokestatic 51, 3) := by decide +kernel
theorem dX7_flatness_8 : decode cX7_flatness 8 = .ok (.aload_n 0, 1) := by decide +kernel
theorem dX7_flatness_9 : decode cX7_flatness 9 = .ok (.getfield 12, 3) := by decide +kernel
theorem dX7_flatness_12 : decode cX7_flatness 12 = .ok (.getfield 87, 3) := by decide +kernel
theorem dX7_flatness_15 : decode cX7_flatness 15 = .ok (.getfield 91, 3) := by decide +kernel
theorem dX7_flatness_18 : decode cX7_flatness 18 = .ok (.istore_n 2, 1) := by decide +kernel
theorem dX7_flatness_19 : decode cX7_flatness 19 = .ok (.aload_n 0, 1) := by decide +kernel
theorem dX7_flatness_20 : decode cX7_flatness 20 = .ok (.getfield 12, 3) := by decide +kernel
theorem dX7_flatness_23 : decode cX7_flatness 23 = .ok (.getfield 87, 3) := by decide +kernel
theorem dX7_flatness_26 : decode cX7_flatness 26 = .ok (.iload_n 1, 1) := by decide +kernel
theorem dX7_flatness_27 : decode cX7_flatness 27 = .ok (.putfield 91, 3) := by decide +kernel
theorem dX7_flatness_30 : decode cX7_flatness 30 = .ok (.iload_n 2, 1) := by decide +kernel
theorem dX7_flatness_31 : decode cX7_flatness 31 = .ok (.ireturn, 1) := by decide +kernel
theorem dX7_bounds_0 : decode cX7_bounds 0 = .ok (.iload_n 1, 1) := by decide +kernel
theorem dX7_bounds_1 : decode cX7_bounds 1 = .ok (.iconst 0, 1) := by decide +kernel
theorem dX7_bounds_2 : decode cX7_bounds 2 = .ok (.sipush 1000, 3) := by decide +kernel
theorem dX7_bounds_5 : decode cX7_bounds 5 = .ok (.invokestatic 51, 3) := by decide +kernel
theorem dX7_bounds_8 : decode cX7_bounds 8 = .ok (.iload_n 2, 1) := by decide +kernel
theorem dX7_bounds_9 : decode cX7_bounds 9 = .ok (.iload_n 1, 1) := by decide +kernel
theorem dX7_bounds_10 : decode cX7_bounds 10 = .ok (.sipush 5000, 3) := by decide +kernel
theorem dX7_bounds_13 : decode cX7_bounds 13 = .ok (.invokestatic 51, 3) := by decide +kernel
theorem dX7_bounds_16 : decode cX7_bounds 16 = .ok (.iload_n 3, 1) := by decide +kernel
theorem dX7_bounds_17 : decode cX7_bounds 17 = .ok (.iconst 0, 1) := by decide +kernel
theorem dX7_bounds_18 : decode cX7_bounds 18 = .ok (.bipush 100, 2) := by decide +kernel
theorem dX7_bounds_20 : decode cX7_bounds 20 = .ok (.invokestatic 51, 3) := by decide +kernel
theorem dX7_bounds_23 : decode cX7_bounds 23 = .ok (.aload_n 0, 1) := by decide +kernel
theorem dX7_bounds_24 : decode cX7_bounds 24 = .ok (.getfield 12, 3) := by decide +kernel
theorem dX7_bounds_27 : decode cX7_bounds 27 = .ok (.iload_n 1, 1) := by decide +kernel
theorem dX7_bounds_28 : decode cX7_bounds 28 = .ok (.putfield 96, 3) := by decide +kernel
theorem dX7_bounds_31 : decode cX7_bounds 31 = .ok (.aload_n 0, 1) := by decide +kernel
theorem dX7_bounds_32 : decode cX7_bounds 32 = .ok (.getfield 12, 3) := by decide +kernel
theorem dX7_bounds_35 : decode cX7_bounds 35 = .ok (.iload_n 2, 1) := by decide +kernel
theorem dX7_bounds_36 : decode cX7_bounds 36 = .ok (.putfield 99, 3) := by decide +kernel
theorem dX7_bounds_39 : decode cX7_bounds 39 = .ok (.aload_n 0, 1) := by decide +kernel
theorem dX7_bounds_40 : decode cX7_bounds 40 = .ok (.getfield 12, 3) := by decide +kernel
theorem dX7_bounds_43 : decode cX7_bounds 43 = .ok (.iload_n 3, 1) := by decide +kernel
theorem dX7_bounds_44 : decode cX7_bounds 44 = .ok (.putfield 102, 3) := by decide +kernel
theorem dX7_bounds_47 : decode cX7_bounds 47 = .ok (.return_, 1) := by decide +kernel
theorem dX7_tick_0 : decode cX7_tick 0 = .ok (.iload_n 1, 1) := by decide +kernel
theorem dX7_tick_1 : decode cX7_tick 1 = .ok (.iconst 1, 1) := by decide +kernel
theorem dX7_tick_2 : decode cX7_tick 2 = .ok (.bipush 50, 2) := by decide +kernel
theorem dX7_tick_4 : decode cX7_tick 4 = .ok (.invokestatic 51, 3) := by decide +kernel
theorem dX7_tick_7 : decode cX7_tick 7 = .ok (.aload_n 0, 1) := by decide +kernel
theorem dX7_tick_8 : decode cX7_tick 8 = .ok (.getfield 105, 3) := by decide +kernel
theorem dX7_tick_11 : decode cX7_tick 11 = .ok (.iload_n 1, 1) := by decide +kernel
theorem dX7_tick_12 : decode cX7_tick 12 = .ok (.iadd, 1) := by decide +kernel
theorem dX7_tick_13 : decode cX7_tick 13 = .ok (.sipush 2000, 3) := by decide +kernel
theorem dX7_tick_16 : decode cX7_tick 16 = .ok (.if_icmp .le 13, 3) := by decide +kernel
theorem dX7_tick_19 : decode cX7_tick 19 = .ok (.new 58, 3) := by decide +kernel
theorem dX7_tick_22 : decode cX7_tick 22 = .ok (.dup, 1) := by decide +kernel
theorem dX7_tick_23 : decode cX7_tick 23 = .ok (.ldc 108, 2) := by decide +kernel
theorem dX7_tick_25 : decode cX7_tick 25 = .ok (.invokespecial 62, 3) := by decide +kernel
theorem dX7_tick_28 : decode cX7_tick 28 = .ok (.athrow, 1) := by decide +kernel
theorem dX7_tick_29 : decode cX7_tick 29 = .ok (.iconst 0, 1) := by decide +kernel
theorem dX7_tick_30 : decode cX7_tick 30 = .ok (.istore_n 2, 1) := by decide +kernel
theorem dX7_tick_31 : decode cX7_tick 31 = .ok (.iload_n 2, 1) := by decide +kernel
theorem dX7_tick_32 : decode cX7_tick 32 = .ok (.iload_n 1, 1) := by decide +kernel
theorem dX7_tick_33 : decode cX7_tick 33 = .ok (.if_icmp .ge 13, 3) := by decide +kernel
theorem dX7_tick_36 : decode cX7_tick 36 = .ok (.aload_n 0, 1) := by decide +kernel
theorem dX7_tick_37 : decode cX7_tick 37 = .ok (.invokevirtual 110, 3) := by decide +kernel
theorem dX7_tick_40 : decode cX7_tick 40 = .ok (.iinc 2 1, 3) := by decide +kernel
theorem dX7_tick_43 : decode cX7_tick 43 = .ok (.goto (-12), 3) := by decide +kernel
theorem dX7_tick_46 : decode cX7_tick 46 = .ok (.aload_n 0, 1) := by decide +kernel
theorem dX7_tick_47 : decode cX7_tick 47 = .ok (.getfield 105, 3) := by decide +kernel
theorem dX7_tick_50 : decode cX7_tick 50 = .ok (.ireturn, 1) := by decide +kernel
theorem dX7_frame_0 : decode cX7_frame 0 = .ok (.aload_n 0, 1) := by decide +kernel
theorem dX7_frame_1 : decode cX7_frame 1 = .ok (.getfield 113, 3) := by decide +kernel
theorem dX7_frame_4 : decode cX7_frame 4 = .ok (.bipush 20, 2) := by decide +kernel
theorem dX7_frame_6 : decode cX7_frame 6 = .ok (.if_icmp .lt 13, 3) := by decide +kernel
theorem dX7_frame_9 : decode cX7_frame 9 = .ok (.new 58, 3) := by decide +kernel
theorem dX7_frame_12 : decode cX7_frame 12 = .ok (.dup, 1) := by decide +kernel
theorem dX7_frame_13 : decode cX7_frame 13 = .ok (.ldc 116, 2) := by decide +kernel
theorem dX7_frame_15 : decode cX7_frame 15 = .ok (.invokespecial 62, 3) := by decide +kernel
theorem dX7_frame_18 : decode cX7_frame 18 = .ok (.athrow, 1) := by decide +kernel
theorem dX7_frame_19 : decode cX7_frame 19 = .ok (.aload_n 0, 1) := by decide +kernel
theorem dX7_frame_20 : decode cX7_frame 20 = .ok (.getfield 25, 3) := by decide +kernel
theorem dX7_frame_23 : decode cX7_frame 23 = .ok (.aload_n 0, 1) := by decide +kernel
theorem dX7_frame_24 : decode cX7_frame 24 = .ok (.getfield 113, 3) := by decide +kernel
theorem dX7_frame_27 : decode cX7_frame 27 = .ok (.aaload, 1) := by decide +kernel
theorem dX7_frame_28 : decode cX7_frame 28 = .ok (.astore_n 1, 1) := by decide +kernel
theorem dX7_frame_29 : decode cX7_frame 29 = .ok (.aload_n 1, 1) := by decide +kernel
theorem dX7_frame_30 : decode cX7_frame 30 = .ok (.aload_n 0, 1) := by decide +kernel
theorem dX7_frame_31 : decode cX7_frame 31 = .ok (.getfield 105, 3) := by decide +kernel
theorem dX7_frame_34 : decode cX7_frame 34 = .ok (.putfield 118, 3) := by decide +kernel
theorem dX7_frame_37 : decode cX7_frame 37 = .ok (.aload_n 0, 1) := by decide +kernel
theorem dX7_frame_38 : decode cX7_frame 38 = .ok (.getfield 12, 3) := by decide +kernel
theorem dX7_frame_41 : decode cX7_frame 41 = .ok (.aload_n 1, 1) := by decide +kernel
theorem dX7_frame_42 : decode cX7_frame 42 = .ok (.getfield 121, 3) := by decide +kernel
theorem dX7_frame_45 : decode cX7_frame 45 = .ok (.invokevirtual 124, 3) := by decide +kernel
theorem dX7_frame_48 : decode cX7_frame 48 = .ok (.aload_n 0, 1) := by decide +kernel
theorem dX7_frame_49 : decode cX7_frame 49 = .ok (.dup, 1) := by decide +kernel
theorem dX7_frame_50 : decode cX7_frame 50 = .ok (.getfield 113, 3) := by decide +kernel
theorem dX7_frame_53 : decode cX7_frame 53 = .ok (.iconst 1, 1) := by decide +kernel
theorem dX7_frame_54 : decode cX7_frame 54 = .ok (.iadd, 1) := by decide +kernel
theorem dX7_frame_55 : decode cX7_frame 55 = .ok (.putfield 113, 3) := by decide +kernel
theorem dX7_frame_58 : decode cX7_frame 58 = .ok (.aload_n 0, 1) := by decide +kernel
theorem dX7_frame_59 : decode cX7_frame 59 = .ok (.getfield 113, 3) := by decide +kernel
theorem dX7_frame_62 : decode cX7_frame 62 = .ok (.iconst 1, 1) := by decide +kernel
theorem dX7_frame_63 : decode cX7_frame 63 = .ok (.isub, 1) := by decide +kernel
theorem dX7_frame_64 : decode cX7_frame 64 = .ok (.ireturn, 1) := by decide +kernel
theorem dX7_claim_0 : decode cX7_claim 0 = .ok (.iload_n 1, 1) := by decide +kernel
theorem dX7_claim_1 : decode cX7_claim 1 = .ok (.aload_n 0, 1) := by decide +kernel
theorem dX7_claim_2 : decode cX7_claim 2 = .ok (.getfield 113, 3) := by decide +kernel
theorem dX7_claim_5 : decode cX7_claim 5 = .ok (.invokestatic 128, 3) := by decide +kernel
theorem dX7_claim_8 : decode cX7_claim 8 = .ok (.iload_n 2, 1) := by decide +kernel
theorem dX7_claim_9 : decode cX7_claim 9 = .ok (.invokestatic 132, 3) := by decide +kernel
theorem dX7_claim_12 : decode cX7_claim 12 = .ok (.iload_n 3, 1) := by decide +kernel
theorem dX7_claim_13 : decode cX7_claim 13 = .ok (.iload_n 2, 1) := by decide +kernel
theorem dX7_claim_14 : decode cX7_claim 14 = .ok (.bipush 63, 2) := by decide +kernel
theorem dX7_claim_16 : decode cX7_claim 16 = .ok (.invokestatic 51, 3) := by decide +kernel
theorem dX7_claim_19 : decode cX7_claim 19 = .ok (.iload 4, 2) := by decide +kernel
theorem dX7_claim_21 : decode cX7_claim 21 = .ok (.iconst 0, 1) := by decide +kernel
theorem dX7_claim_22 : decode cX7_claim 22 = .ok (.ldc 136, 2) := by decide +kernel
theorem dX7_claim_24 : decode cX7_claim 24 = .ok (.invokestatic 51, 3) := by decide +kernel
theorem dX7_claim_27 : decode cX7_claim 27 = .ok (.aload_n 0, 1) := by decide +kernel
theorem dX7_claim_28 : decode cX7_claim 28 = .ok (.getfield 137, 3) := by decide +kernel
theorem dX7_claim_31 : decode cX7_claim 31 = .ok (.bipush 40, 2) := by decide +kernel
theorem dX7_claim_33 : decode cX7_claim 33 = .ok (.if_icmp .lt 13, 3) := by decide +kernel
theorem dX7_claim_36 : decode cX7_claim 36 = .ok (.new 58, 3) := by decide +kernel
theorem dX7_claim_39 : decode cX7_claim 39 = .ok (.dup, 1) := by decide +kernel
theorem dX7_claim_40 : decode cX7_claim 40 = .ok (.ldc 140, 2) := by decide +kernel
theorem dX7_claim_42 : decode cX7_claim 42 = .ok (.invokespecial 62, 3) := by decide +kernel
theorem dX7_claim_45 : decode cX7_claim 45 = .ok (.athrow, 1) := by decide +kernel
theorem dX7_claim_46 : decode cX7_claim 46 = .ok (.aload_n 0, 1) := by decide +kernel
theorem dX7_claim_47 : decode cX7_claim 47 = .ok (.getfield 32, 3) := by decide +kernel
theorem dX7_claim_50 : decode cX7_claim 50 = .ok (.aload_n 0, 1) := by decide +kernel
theorem dX7_claim_51 : decode cX7_claim 51 = .ok (.getfield 137, 3) := by decide +kernel
theorem dX7_claim_54 : decode cX7_claim 54 = .ok (.aaload, 1) := by decide +kernel
theorem dX7_claim_55 : decode cX7_claim 55 = .ok (.astore 5, 2) := by decide +kernel
theorem dX7_claim_57 : decode cX7_claim 57 = .ok (.aload 5, 2) := by decide +kernel
theorem dX7_claim_59 : decode cX7_claim 59 = .ok (.iload_n 1, 1) := by decide +kernel
theorem dX7_claim_60 : decode cX7_claim 60 = .ok (.putfield 142, 3) := by decide +kernel
theorem dX7_claim_63 : decode cX7_claim 63 = .ok (.aload 5, 2) := by decide +kernel
theorem dX7_claim_65 : decode cX7_claim 65 = .ok (.iload_n 2, 1) := by decide +kernel
theorem dX7_claim_66 : decode cX7_claim 66 = .ok (.putfield 145, 3) := by decide +kernel
theorem dX7_claim_69 : decode cX7_claim 69 = .ok (.aload 5, 2) := by decide +kernel
theorem dX7_claim_71 : decode cX7_claim 71 = .ok (.iload_n 3, 1) := by decide +kernel
theorem dX7_claim_72 : decode cX7_claim 72 = .ok (.putfield 148, 3) := by decide +kernel
theorem dX7_claim_75 : decode cX7_claim 75 = .ok (.aload 5, 2) := by decide +kernel
theorem dX7_claim_77 : decode cX7_claim 77 = .ok (.iload 4, 2) := by decide +kernel
theorem dX7_claim_79 : decode cX7_claim 79 = .ok (.putfield 151, 3) := by decide +kernel
theorem dX7_claim_82 : decode cX7_claim 82 = .ok (.aload_n 0, 1) := by decide +kernel
theorem dX7_claim_83 : decode cX7_claim 83 = .ok (.dup, 1) := by decide +kernel
theorem dX7_claim_84 : decode cX7_claim 84 = .ok (.getfield 137, 3) := by decide +kernel
theorem dX7_claim_87 : decode cX7_claim 87 = .ok (.iconst 1, 1) := by decide +kernel
theorem dX7_claim_88 : decode cX7_claim 88 = .ok (.iadd, 1) := by decide +kernel
theorem dX7_claim_89 : decode cX7_claim 89 = .ok (.putfield 137, 3) := by decide +kernel
theorem dX7_claim_92 : decode cX7_claim 92 = .ok (.aload_n 0, 1) := by decide +kernel
theorem dX7_claim_93 : decode cX7_claim 93 = .ok (.getfield 137, 3) := by decide +kernel
theorem dX7_claim_96 : decode cX7_claim 96 = .ok (.iconst 1, 1) := by decide +kernel
theorem dX7_claim_97 : decode cX7_claim 97 = .ok (.isub, 1) := by decide +kernel
theorem dX7_claim_98 : decode cX7_claim 98 = .ok (.ireturn, 1) := by decide +kernel
theorem dX7_now_0 : decode cX7_now 0 = .ok (.aload_n 0, 1) := by decide +kernel
theorem dX7_now_1 : decode cX7_now 1 = .ok (.getfield 105, 3) := by decide +kernel
theorem dX7_now_4 : decode cX7_now 4 = .ok (.ireturn, 1) := by decide +kernel
theorem dX7_told_0 : decode cX7_told 0 = .ok (.iload_n 1, 1) := by decide +kernel
theorem dX7_told_1 : decode cX7_told 1 = .ok (.aload_n 0, 1) := by decide +kernel
theorem dX7_told_2 : decode cX7_told 2 = .ok (.getfield 12, 3) := by decide +kernel
theorem dX7_told_5 : decode cX7_told 5 = .ok (.getfield 54, 3) := by decide +kernel
theorem dX7_told_8 : decode cX7_told 8 = .ok (.invokestatic 128, 3) := by decide +kernel
theorem dX7_told_11 : decode cX7_told 11 = .ok (.aload_n 0, 1) := by decide +kernel
theorem dX7_told_12 : decode cX7_told 12 = .ok (.getfield 12, 3) := by decide +kernel
theorem dX7_told_15 : decode cX7_told 15 = .ok (.getfield 154, 3) := by decide +kernel
theorem dX7_told_18 : decode cX7_told 18 = .ok (.iload_n 1, 1) := by decide +kernel
theorem dX7_told_19 : decode cX7_told 19 = .ok (.aaload, 1) := by decide +kernel
theorem dX7_told_20 : decode cX7_told 20 = .ok (.astore_n 3, 1) := by decide +kernel
theorem dX7_told_21 : decode cX7_told 21 = .ok (.iload_n 2, 1) := by decide +kernel
theorem dX7_told_22 : decode cX7_told 22 = .ok (.tableswitch 76 0 5 #[38, 43, 48, 53, 58, 63], 38) := by decide +kernel
theorem dX7_told_60 : decode cX7_told 60 = .ok (.aload_n 3, 1) := by decide +kernel
theorem dX7_told_61 : decode cX7_told 61 = .ok (.getfield 158, 3) := by decide +kernel
theorem dX7_told_64 : decode cX7_told 64 = .ok (.ireturn, 1) := by decide +kernel
theorem dX7_told_65 : decode cX7_told 65 = .ok (.aload_n 3, 1) := by decide +kernel
theorem dX7_told_66 : decode cX7_told 66 = .ok (.getfield 161, 3) := by decide +kernel
theorem dX7_told_69 : decode cX7_told 69 = .ok (.ireturn, 1) := by decide +kernel
theorem dX7_told_70 : decode cX7_told 70 = .ok (.aload_n 3, 1) := by decide +kernel
theorem dX7_told_71 : decode cX7_told 71 = .ok (.getfield 162, 3) := by decide +kernel
theorem dX7_told_74 : decode cX7_told 74 = .ok (.ireturn, 1) := by decide +kernel
theorem dX7_told_75 : decode cX7_told 75 = .ok (.aload_n 3, 1) := by decide +kernel
theorem dX7_told_76 : decode cX7_told 76 = .ok (.getfield 165, 3) := by decide +kernel
theorem dX7_told_79 : decode cX7_told 79 = .ok (.ireturn, 1) := by decide +kernel
theorem dX7_told_80 : decode cX7_told 80 = .ok (.aload_n 3, 1) := by decide +kernel
theorem dX7_told_81 : decode cX7_told 81 = .ok (.getfield 168, 3) := by decide +kernel
theorem dX7_told_84 : decode cX7_told 84 = .ok (.ireturn, 1) := by decide +kernel
theorem dX7_told_85 : decode cX7_told 85 = .ok (.aload_n 3, 1) := by decide +kernel
theorem dX7_told_86 : decode cX7_told 86 = .ok (.getfield 171, 3) := by decide +kernel
theorem dX7_told_89 : decode cX7_told 89 = .ok (.ifCond .eq 7, 3) := by decide +kernel
theorem dX7_told_92 : decode cX7_told 92 = .ok (.iconst 1, 1) := by decide +kernel
theorem dX7_told_93 : decode cX7_told 93 = .ok (.goto 4, 3) := by decide +kernel
theorem dX7_told_96 : decode cX7_told 96 = .ok (.iconst 0, 1) := by decide +kernel
theorem dX7_told_97 : decode cX7_told 97 = .ok (.ireturn, 1) := by decide +kernel
theorem dX7_told_98 : decode cX7_told 98 = .ok (.new 175, 3) := by decide +kernel
theorem dX7_told_101 : decode cX7_told 101 = .ok (.dup, 1) := by decide +kernel
theorem dX7_told_102 : decode cX7_told 102 = .ok (.ldc 177, 2) := by decide +kernel
theorem dX7_told_104 : decode cX7_told 104 = .ok (.invokespecial 179, 3) := by decide +kernel
theorem dX7_told_107 : decode cX7_told 107 = .ok (.athrow, 1) := by decide +kernel
theorem dX7_angle_0 : decode cX7_angle 0 = .ok (.iload_n 1, 1) := by decide +kernel
theorem dX7_angle_1 : decode cX7_angle 1 = .ok (.aload_n 0, 1) := by decide +kernel
theorem dX7_angle_2 : decode cX7_angle 2 = .ok (.getfield 69, 3) := by decide +kernel
theorem dX7_angle_5 : decode cX7_angle 5 = .ok (.invokestatic 128, 3) := by decide +kernel
theorem dX7_angle_8 : decode cX7_angle 8 = .ok (.aload_n 0, 1) := by decide +kernel
theorem dX7_angle_9 : decode cX7_angle 9 = .ok (.getfield 18, 3) := by decide +kernel
theorem dX7_angle_12 : decode cX7_angle 12 = .ok (.iload_n 1, 1) := by decide +kernel
theorem dX7_angle_13 : decode cX7_angle 13 = .ok (.aaload, 1) := by decide +kernel
theorem dX7_angle_14 : decode cX7_angle 14 = .ok (.getfield 77, 3) := by decide +kernel
theorem dX7_angle_17 : decode cX7_angle 17 = .ok (.ireturn, 1) := by decide +kernel
theorem dX7_speed_0 : decode cX7_speed 0 = .ok (.iload_n 1, 1) := by decide +kernel
theorem dX7_speed_1 : decode cX7_speed 1 = .ok (.invokestatic 132, 3) := by decide +kernel
theorem dX7_speed_4 : decode cX7_speed 4 = .ok (.aload_n 0, 1) := by decide +kernel
theorem dX7_speed_5 : decode cX7_speed 5 = .ok (.getfield 12, 3) := by decide +kernel
theorem dX7_speed_8 : decode cX7_speed 8 = .ok (.getfield 87, 3) := by decide +kernel
theorem dX7_speed_11 : decode cX7_speed 11 = .ok (.iload_n 1, 1) := by decide +kernel
theorem dX7_speed_12 : decode cX7_speed 12 = .ok (.invokevirtual 180, 3) := by decide +kernel
theorem dX7_speed_15 : decode cX7_speed 15 = .ok (.ireturn, 1) := by decide +kernel
theorem dX7_count_0 : decode cX7_count 0 = .ok (.iload_n 1, 1) := by decide +kernel
theorem dX7_count_1 : decode cX7_count 1 = .ok (.tableswitch 114 0 6 #[43, 51, 59, 70, 81, 92, 103], 43) := by decide +kernel
theorem dX7_count_44 : decode cX7_count 44 = .ok (.aload_n 0, 1) := by decide +kernel
theorem dX7_count_45 : decode cX7_count 45 = .ok (.getfield 12, 3) := by decide +kernel
theorem dX7_count_48 : decode cX7_count 48 = .ok (.getfield 54, 3) := by decide +kernel
theorem dX7_count_51 : decode cX7_count 51 = .ok (.ireturn, 1) := by decide +kernel
theorem dX7_count_52 : decode cX7_count 52 = .ok (.aload_n 0, 1) := by decide +kernel
theorem dX7_count_53 : decode cX7_count 53 = .ok (.getfield 12, 3) := by decide +kernel
theorem dX7_count_56 : decode cX7_count 56 = .ok (.invokevirtual 183, 3) := by decide +kernel
theorem dX7_count_59 : decode cX7_count 59 = .ok (.ireturn, 1) := by decide +kernel
theorem dX7_count_60 : decode cX7_count 60 = .ok (.aload_n 0, 1) := by decide +kernel
theorem dX7_count_61 : decode cX7_count 61 = .ok (.getfield 12, 3) := by decide +kernel
theorem dX7_count_64 : decode cX7_count 64 = .ok (.getfield 187, 3) := by decide +kernel
theorem dX7_count_67 : decode cX7_count 67 = .ok (.getfield 191, 3) := by decide +kernel
theorem dX7_count_70 : decode cX7_count 70 = .ok (.ireturn, 1) := by decide +kernel
theorem dX7_count_71 : decode cX7_count 71 = .ok (.aload_n 0, 1) := by decide +kernel
theorem dX7_count_72 : decode cX7_count 72 = .ok (.getfield 12, 3) := by decide +kernel
theorem dX7_count_75 : decode cX7_count 75 = .ok (.getfield 187, 3) := by decide +kernel
theorem dX7_count_78 : decode cX7_count 78 = .ok (.getfield 196, 3) := by decide +kernel
theorem dX7_count_81 : decode cX7_count 81 = .ok (.ireturn, 1) := by decide +kernel
theorem dX7_count_82 : decode cX7_count 82 = .ok (.aload_n 0, 1) := by decide +kernel
theorem dX7_count_83 : decode cX7_count 83 = .ok (.getfield 12, 3) := by decide +kernel
theorem dX7_count_86 : decode cX7_count 86 = .ok (.getfield 187, 3) := by decide +kernel
theorem dX7_count_89 : decode cX7_count 89 = .ok (.getfield 199, 3) := by decide +kernel
theorem dX7_count_92 : decode cX7_count 92 = .ok (.ireturn, 1) := by decide +kernel
theorem dX7_count_93 : decode cX7_count 93 = .ok (.aload_n 0, 1) := by decide +kernel
theorem dX7_count_94 : decode cX7_count 94 = .ok (.getfield 12, 3) := by decide +kernel
theorem dX7_count_97 : decode cX7_count 97 = .ok (.getfield 187, 3) := by decide +kernel
theorem dX7_count_100 : decode cX7_count 100 = .ok (.getfield 202, 3) := by decide +kernel
theorem dX7_count_103 : decode cX7_count 103 = .ok (.ireturn, 1) := by decide +kernel
theorem dX7_count_104 : decode cX7_count 104 = .ok (.aload_n 0, 1) := by decide +kernel
theorem dX7_count_105 : decode cX7_count 105 = .ok (.getfield 12, 3) := by decide +kernel
theorem dX7_count_108 : decode cX7_count 108 = .ok (.getfield 187, 3) := by decide +kernel
theorem dX7_count_111 : decode cX7_count 111 = .ok (.getfield 205, 3) := by decide +kernel
theorem dX7_count_114 : decode cX7_count 114 = .ok (.ireturn, 1) := by decide +kernel
theorem dX7_count_115 : decode cX7_count 115 = .ok (.new 175, 3) := by decide +kernel
theorem dX7_count_118 : decode cX7_count 118 = .ok (.dup, 1) := by decide +kernel
theorem dX7_count_119 : decode cX7_count 119 = .ok (.ldc 208, 2) := by decide +kernel
theorem dX7_count_121 : decode cX7_count 121 = .ok (.invokespecial 179, 3) := by decide +kernel
theorem dX7_count_124 : decode cX7_count 124 = .ok (.athrow, 1) := by decide +kernel
theorem dX7_mass_0 : decode cX7_mass 0 = .ok (.iload_n 1, 1) := by decide +kernel
theorem dX7_mass_1 : decode cX7_mass 1 = .ok (.invokestatic 132, 3) := by decide +kernel
theorem dX7_mass_4 : decode cX7_mass 4 = .ok (.aload_n 0, 1) := by decide +kernel
theorem dX7_mass_5 : decode cX7_mass 5 = .ok (.getfield 12, 3) := by decide +kernel
theorem dX7_mass_8 : decode cX7_mass 8 = .ok (.aload_n 0, 1) := by decide +kernel
theorem dX7_mass_9 : decode cX7_mass 9 = .ok (.getfield 37, 3) := by decide +kernel
theorem dX7_mass_12 : decode cX7_mass 12 = .ok (.invokevirtual 124, 3) := by decide +kernel
theorem dX7_mass_15 : decode cX7_mass 15 = .ok (.aload_n 0, 1) := by decide +kernel
theorem dX7_mass_16 : decode cX7_mass 16 = .ok (.getfield 37, 3) := by decide +kernel
theorem dX7_mass_19 : decode cX7_mass 19 = .ok (.iload_n 1, 1) := by decide +kernel
theorem dX7_mass_20 : decode cX7_mass 20 = .ok (.iaload, 1) := by decide +kernel
theorem dX7_mass_21 : decode cX7_mass 21 = .ok (.ireturn, 1) := by decide +kernel
theorem dX7_sum_0 : decode cX7_sum 0 = .ok (.iload_n 1, 1) := by decide +kernel
theorem dX7_sum_1 : decode cX7_sum 1 = .ok (.tableswitch 72 0 3 #[31, 39, 50, 61], 31) := by decide +kernel
theorem dX7_sum_32 : decode cX7_sum 32 = .ok (.aload_n 0, 1) := by decide +kernel
theorem dX7_sum_33 : decode cX7_sum 33 = .ok (.getfield 12, 3) := by decide +kernel
theorem dX7_sum_36 : decode cX7_sum 36 = .ok (.invokevirtual 210, 3) := by decide +kernel
theorem dX7_sum_39 : decode cX7_sum 39 = .ok (.ireturn, 1) := by decide +kernel
theorem dX7_sum_40 : decode cX7_sum 40 = .ok (.aload_n 0, 1) := by decide +kernel
theorem dX7_sum_41 : decode cX7_sum 41 = .ok (.getfield 12, 3) := by decide +kernel
theorem dX7_sum_44 : decode cX7_sum 44 = .ok (.getfield 187, 3) := by decide +kernel
theorem dX7_sum_47 : decode cX7_sum 47 = .ok (.getfield 213, 3) := by decide +kernel
theorem dX7_sum_50 : decode cX7_sum 50 = .ok (.ireturn, 1) := by decide +kernel
theorem dX7_sum_51 : decode cX7_sum 51 = .ok (.aload_n 0, 1) := by decide +kernel
theorem dX7_sum_52 : decode cX7_sum 52 = .ok (.getfield 12, 3) := by decide +kernel
theorem dX7_sum_55 : decode cX7_sum 55 = .ok (.getfield 187, 3) := by decide +kernel
theorem dX7_sum_58 : decode cX7_sum 58 = .ok (.getfield 216, 3) := by decide +kernel
theorem dX7_sum_61 : decode cX7_sum 61 = .ok (.ireturn, 1) := by decide +kernel
theorem dX7_sum_62 : decode cX7_sum 62 = .ok (.aload_n 0, 1) := by decide +kernel
theorem dX7_sum_63 : decode cX7_sum 63 = .ok (.getfield 12, 3) := by decide +kernel
theorem dX7_sum_66 : decode cX7_sum 66 = .ok (.getfield 187, 3) := by decide +kernel
theorem dX7_sum_69 : decode cX7_sum 69 = .ok (.getfield 219, 3) := by decide +kernel
theorem dX7_sum_72 : decode cX7_sum 72 = .ok (.ireturn, 1) := by decide +kernel
theorem dX7_sum_73 : decode cX7_sum 73 = .ok (.new 175, 3) := by decide +kernel
theorem dX7_sum_76 : decode cX7_sum 76 = .ok (.dup, 1) := by decide +kernel
theorem dX7_sum_77 : decode cX7_sum 77 = .ok (.ldc 222, 2) := by decide +kernel
theorem dX7_sum_79 : decode cX7_sum 79 = .ok (.invokespecial 179, 3) := by decide +kernel
theorem dX7_sum_82 : decode cX7_sum 82 = .ok (.athrow, 1) := by decide +kernel
theorem dX7_momentum_0 : decode cX7_momentum 0 = .ok (.iload_n 1, 1) := by decide +kernel
theorem dX7_momentum_1 : decode cX7_momentum 1 = .ok (.tableswitch 102 0 5 #[39, 47, 58, 69, 80, 91], 39) := by decide +kernel
theorem dX7_momentum_40 : decode cX7_momentum 40 = .ok (.aload_n 0, 1) := by decide +kernel
theorem dX7_momentum_41 : decode cX7_momentum 41 = .ok (.getfield 12, 3) := by decide +kernel
theorem dX7_momentum_44 : decode cX7_momentum 44 = .ok (.invokevirtual 224, 3) := by decide +kernel
theorem dX7_momentum_47 : decode cX7_momentum 47 = .ok (.lreturn, 1) := by decide +kernel
theorem dX7_momentum_48 : decode cX7_momentum 48 = .ok (.aload_n 0, 1) := by decide +kernel
theorem dX7_momentum_49 : decode cX7_momentum 49 = .ok (.getfield 12, 3) := by decide +kernel
theorem dX7_momentum_52 : decode cX7_momentum 52 = .ok (.getfield 187, 3) := by decide +kernel
theorem dX7_momentum_55 : decode cX7_momentum 55 = .ok (.getfield 228, 3) := by decide +kernel
theorem dX7_momentum_58 : decode cX7_momentum 58 = .ok (.lreturn, 1) := by decide +kernel
theorem dX7_momentum_59 : decode cX7_momentum 59 = .ok (.aload_n 0, 1) := by decide +kernel
theorem dX7_momentum_60 : decode cX7_momentum 60 = .ok (.getfield 12, 3) := by decide +kernel
theorem dX7_momentum_63 : decode cX7_momentum 63 = .ok (.getfield 187, 3) := by decide +kernel
theorem dX7_momentum_66 : decode cX7_momentum 66 = .ok (.getfield 232, 3) := by decide +kernel
theorem dX7_momentum_69 : decode cX7_momentum 69 = .ok (.lreturn, 1) := by decide +kernel
theorem dX7_momentum_70 : decode cX7_momentum 70 = .ok (.aload_n 0, 1) := by decide +kernel
theorem dX7_momentum_71 : decode cX7_momentum 71 = .ok (.getfield 12, 3) := by decide +kernel
theorem dX7_momentum_74 : decode cX7_momentum 74 = .ok (.getfield 187, 3) := by decide +kernel
theorem dX7_momentum_77 : decode cX7_momentum 77 = .ok (.getfield 235, 3) := by decide +kernel
theorem dX7_momentum_80 : decode cX7_momentum 80 = .ok (.lreturn, 1) := by decide +kernel
theorem dX7_momentum_81 : decode cX7_momentum 81 = .ok (.aload_n 0, 1) := by decide +kernel
theorem dX7_momentum_82 : decode cX7_momentum 82 = .ok (.getfield 12, 3) := by decide +kernel
theorem dX7_momentum_85 : decode cX7_momentum 85 = .ok (.getfield 187, 3) := by decide +kernel
theorem dX7_momentum_88 : decode cX7_momentum 88 = .ok (.getfield 238, 3) := by decide +kernel
theorem dX7_momentum_91 : decode cX7_momentum 91 = .ok (.lreturn, 1) := by decide +kernel
theorem dX7_momentum_92 : decode cX7_momentum 92 = .ok (.aload_n 0, 1) := by decide +kernel
theorem dX7_momentum_93 : decode cX7_momentum 93 = .ok (.getfield 12, 3) := by decide +kernel
theorem dX7_momentum_96 : decode cX7_momentum 96 = .ok (.getfield 187, 3) := by decide +kernel
theorem dX7_momentum_99 : decode cX7_momentum 99 = .ok (.getfield 241, 3) := by decide +kernel
theorem dX7_momentum_102 : decode cX7_momentum 102 = .ok (.lreturn, 1) := by decide +kernel
theorem dX7_momentum_103 : decode cX7_momentum 103 = .ok (.new 175, 3) := by decide +kernel
theorem dX7_momentum_106 : decode cX7_momentum 106 = .ok (.dup, 1) := by decide +kernel
theorem dX7_momentum_107 : decode cX7_momentum 107 = .ok (.ldc 177, 2) := by decide +kernel
theorem dX7_momentum_109 : decode cX7_momentum 109 = .ok (.invokespecial 179, 3) := by decide +kernel
theorem dX7_momentum_112 : decode cX7_momentum 112 = .ok (.athrow, 1) := by decide +kernel
theorem dX7_momentumByLanes_0 : decode cX7_momentumByLanes 0 = .ok (.aload_n 0, 1) := by decide +kernel
theorem dX7_momentumByLanes_1 : decode cX7_momentumByLanes 1 = .ok (.getfield 12, 3) := by decide +kernel
theorem dX7_momentumByLanes_4 : decode cX7_momentumByLanes 4 = .ok (.aload_n 0, 1) := by decide +kernel
theorem dX7_momentumByLanes_5 : decode cX7_momentumByLanes 5 = .ok (.getfield 37, 3) := by decide +kernel
theorem dX7_momentumByLanes_8 : decode cX7_momentumByLanes 8 = .ok (.invokevirtual 124, 3) := by decide +kernel
theorem dX7_momentumByLanes_11 : decode cX7_momentumByLanes 11 = .ok (.lconst 0, 1) := by decide +kernel
theorem dX7_momentumByLanes_12 : decode cX7_momentumByLanes 12 = .ok (.lstore_n 1, 1) := by decide +kernel
theorem dX7_momentumByLanes_13 : decode cX7_momentumByLanes 13 = .ok (.iconst 0, 1) := by decide +kernel
theorem dX7_momentumByLanes_14 : decode cX7_momentumByLanes 14 = .ok (.istore_n 3, 1) := by decide +kernel
theorem dX7_momentumByLanes_15 : decode cX7_momentumByLanes 15 = .ok (.iload_n 3, 1) := by decide +kernel
theorem dX7_momentumByLanes_16 : decode cX7_momentumByLanes 16 = .ok (.bipush 64, 2) := by decide +kernel
theorem dX7_momentumByLanes_18 : decode cX7_momentumByLanes 18 = .ok (.if_icmp .ge 25, 3) := by decide +kernel
theorem dX7_momentumByLanes_21 : decode cX7_momentumByLanes 21 = .ok (.lload_n 1, 1) := by decide +kernel
theorem dX7_momentumByLanes_22 : decode cX7_momentumByLanes 22 = .ok (.aload_n 0, 1) := by decide +kernel
theorem dX7_momentumByLanes_23 : decode cX7_momentumByLanes 23 = .ok (.getfield 37, 3) := by decide +kernel
theorem dX7_momentumByLanes_26 : decode cX7_momentumByLanes 26 = .ok (.iload_n 3, 1) := by decide +kernel
theorem dX7_momentumByLanes_27 : decode cX7_momentumByLanes 27 = .ok (.iaload, 1) := by decide +kernel
theorem dX7_momentumByLanes_28 : decode cX7_momentumByLanes 28 = .ok (.i2l, 1) := by decide +kernel
theorem dX7_momentumByLanes_29 : decode cX7_momentumByLanes 29 = .ok (.iload_n 3, 1) := by decide +kernel
theorem dX7_momentumByLanes_30 : decode cX7_momentumByLanes 30 = .ok (.invokestatic 244, 3) := by decide +kernel
theorem dX7_momentumByLanes_33 : decode cX7_momentumByLanes 33 = .ok (.i2l, 1) := by decide +kernel
theorem dX7_momentumByLanes_34 : decode cX7_momentumByLanes 34 = .ok (.lmul, 1) := by decide +kernel
theorem dX7_momentumByLanes_35 : decode cX7_momentumByLanes 35 = .ok (.ladd, 1) := by decide +kernel
theorem dX7_momentumByLanes_36 : decode cX7_momentumByLanes 36 = .ok (.lstore_n 1, 1) := by decide +kernel
theorem dX7_momentumByLanes_37 : decode cX7_momentumByLanes 37 = .ok (.iinc 3 1, 3) := by decide +kernel
theorem dX7_momentumByLanes_40 : decode cX7_momentumByLanes 40 = .ok (.goto (-25), 3) := by decide +kernel
theorem dX7_momentumByLanes_43 : decode cX7_momentumByLanes 43 = .ok (.lload_n 1, 1) := by decide +kernel
theorem dX7_momentumByLanes_44 : decode cX7_momentumByLanes 44 = .ok (.lreturn, 1) := by decide +kernel
theorem dX7_resonance_0 : decode cX7_resonance 0 = .ok (.iload_n 1, 1) := by decide +kernel
theorem dX7_resonance_1 : decode cX7_resonance 1 = .ok (.aload_n 0, 1) := by decide +kernel
theorem dX7_resonance_2 : decode cX7_resonance 2 = .ok (.getfield 69, 3) := by decide +kernel
theorem dX7_resonance_5 : decode cX7_resonance 5 = .ok (.invokestatic 128, 3) := by decide +kernel
theorem dX7_resonance_8 : decode cX7_resonance 8 = .ok (.iload_n 2, 1) := by decide +kernel
theorem dX7_resonance_9 : decode cX7_resonance 9 = .ok (.invokestatic 132, 3) := by decide +kernel
theorem dX7_resonance_12 : decode cX7_resonance 12 = .ok (.aload_n 0, 1) := by decide +kernel
theorem dX7_resonance_13 : decode cX7_resonance 13 = .ok (.aload_n 0, 1) := by decide +kernel
theorem dX7_resonance_14 : decode cX7_resonance 14 = .ok (.getfield 18, 3) := by decide +kernel
theorem dX7_resonance_17 : decode cX7_resonance 17 = .ok (.iload_n 1, 1) := by decide +kernel
theorem dX7_resonance_18 : decode cX7_resonance 18 = .ok (.aaload, 1) := by decide +kernel
theorem dX7_resonance_19 : decode cX7_resonance 19 = .ok (.iload_n 2, 1) := by decide +kernel
theorem dX7_resonance_20 : decode cX7_resonance 20 = .ok (.bipush 8, 2) := by decide +kernel
theorem dX7_resonance_22 : decode cX7_resonance 22 = .ok (.invokevirtual 247, 3) := by decide +kernel
theorem dX7_resonance_25 : decode cX7_resonance 25 = .ok (.ireturn, 1) := by decide +kernel
theorem dX7_gap_0 : decode cX7_gap 0 = .ok (.iload_n 1, 1) := by decide +kernel
theorem dX7_gap_1 : decode cX7_gap 1 = .ok (.aload_n 0, 1) := by decide +kernel
theorem dX7_gap_2 : decode cX7_gap 2 = .ok (.invokevirtual 251, 3) := by decide +kernel
theorem dX7_gap_5 : decode cX7_gap 5 = .ok (.invokestatic 128, 3) := by decide +kernel
theorem dX7_gap_8 : decode cX7_gap 8 = .ok (.iload_n 2, 1) := by decide +kernel
theorem dX7_gap_9 : decode cX7_gap 9 = .ok (.tableswitch 58 0 2 #[27, 34, 41], 27) := by decide +kernel
theorem dX7_gap_36 : decode cX7_gap 36 = .ok (.aload_n 0, 1) := by decide +kernel
theorem dX7_gap_37 : decode cX7_gap 37 = .ok (.getfield 41, 3) := by decide +kernel
theorem dX7_gap_40 : decode cX7_gap 40 = .ok (.iload_n 1, 1) := by decide +kernel
theorem dX7_gap_41 : decode cX7_gap 41 = .ok (.iaload, 1) := by decide +kernel
theorem dX7_gap_42 : decode cX7_gap 42 = .ok (.ireturn, 1) := by decide +kernel
theorem dX7_gap_43 : decode cX7_gap 43 = .ok (.aload_n 0, 1) := by decide +kernel
theorem dX7_gap_44 : decode cX7_gap 44 = .ok (.getfield 44, 3) := by decide +kernel
theorem dX7_gap_47 : decode cX7_gap 47 = .ok (.iload_n 1, 1) := by decide +kernel
theorem dX7_gap_48 : decode cX7_gap 48 = .ok (.iaload, 1) := by decide +kernel
theorem dX7_gap_49 : decode cX7_gap 49 = .ok (.ireturn, 1) := by decide +kernel
theorem dX7_gap_50 : decode cX7_gap 50 = .ok (.aload_n 0, 1) := by decide +kernel
theorem dX7_gap_51 : decode cX7_gap 51 = .ok (.aload_n 0, 1) := by decide +kernel
theorem dX7_gap_52 : decode cX7_gap 52 = .ok (.getfield 41, 3) := by decide +kernel
theorem dX7_gap_55 : decode cX7_gap 55 = .ok (.iload_n 1, 1) := by decide +kernel
theorem dX7_gap_56 : decode cX7_gap 56 = .ok (.iaload, 1) := by decide +kernel
theorem dX7_gap_57 : decode cX7_gap 57 = .ok (.aload_n 0, 1) := by decide +kernel
theorem dX7_gap_58 : decode cX7_gap 58 = .ok (.getfield 44, 3) := by decide +kernel
theorem dX7_gap_61 : decode cX7_gap 61 = .ok (.iload_n 1, 1) := by decide +kernel
theorem dX7_gap_62 : decode cX7_gap 62 = .ok (.iaload, 1) := by decide +kernel
theorem dX7_gap_63 : decode cX7_gap 63 = .ok (.invokevirtual 254, 3) := by decide +kernel
theorem dX7_gap_66 : decode cX7_gap 66 = .ok (.ireturn, 1) := by decide +kernel
theorem dX7_gap_67 : decode cX7_gap 67 = .ok (.new 175, 3) := by decide +kernel
theorem dX7_gap_70 : decode cX7_gap 70 = .ok (.dup, 1) := by decide +kernel
theorem dX7_gap_71 : decode cX7_gap 71 = .ok (.ldc_w 258, 3) := by decide +kernel
theorem dX7_gap_74 : decode cX7_gap 74 = .ok (.invokespecial 179, 3) := by decide +kernel
theorem dX7_gap_77 : decode cX7_gap 77 = .ok (.athrow, 1) := by decide +kernel
theorem dX7_gaps_0 : decode cX7_gaps 0 = .ok (.aload_n 0, 1) := by decide +kernel
theorem dX7_gaps_1 : decode cX7_gaps 1 = .ok (.invokevirtual 251, 3) := by decide +kernel
theorem dX7_gaps_4 : decode cX7_gaps 4 = .ok (.ireturn, 1) := by decide +kernel
theorem dX7_framed_0 : decode cX7_framed 0 = .ok (.iload_n 1, 1) := by decide +kernel
theorem dX7_framed_1 : decode cX7_framed 1 = .ok (.aload_n 0, 1) := by decide +kernel
theorem dX7_framed_2 : decode cX7_framed 2 = .ok (.getfield 113, 3) := by decide +kernel
theorem dX7_framed_5 : decode cX7_framed 5 = .ok (.invokestatic 128, 3) := by decide +kernel
theorem dX7_framed_8 : decode cX7_framed 8 = .ok (.iload_n 2, 1) := by decide +kernel
theorem dX7_framed_9 : decode cX7_framed 9 = .ok (.invokestatic 132, 3) := by decide +kernel
theorem dX7_framed_12 : decode cX7_framed 12 = .ok (.aload_n 0, 1) := by decide +kernel
theorem dX7_framed_13 : decode cX7_framed 13 = .ok (.getfield 25, 3) := by decide +kernel
theorem dX7_framed_16 : decode cX7_framed 16 = .ok (.iload_n 1, 1) := by decide +kernel
theorem dX7_framed_17 : decode cX7_framed 17 = .ok (.aaload, 1) := by decide +kernel
theorem dX7_framed_18 : decode cX7_framed 18 = .ok (.getfield 121, 3) := by decide +kernel
theorem dX7_framed_21 : decode cX7_framed 21 = .ok (.iload_n 2, 1) := by decide +kernel
theorem dX7_framed_22 : decode cX7_framed 22 = .ok (.iaload, 1) := by decide +kernel
theorem dX7_framed_23 : decode cX7_framed 23 = .ok (.ireturn, 1) := by decide +kernel
theorem dX7_holds_0 : decode cX7_holds 0 = .ok (.iload_n 1, 1) := by decide +kernel
theorem dX7_holds_1 : decode cX7_holds 1 = .ok (.aload_n 0, 1) := by decide +kernel
theorem dX7_holds_2 : decode cX7_holds 2 = .ok (.getfield 137, 3) := by decide +kernel
theorem dX7_holds_5 : decode cX7_holds 5 = .ok (.invokestatic 128, 3) := by decide +kernel
theorem dX7_holds_8 : decode cX7_holds 8 = .ok (.aload_n 0, 1) := by decide +kernel
theorem dX7_holds_9 : decode cX7_holds 9 = .ok (.getfield 32, 3) := by decide +kernel
theorem dX7_holds_12 : decode cX7_holds 12 = .ok (.iload_n 1, 1) := by decide +kernel
theorem dX7_holds_13 : decode cX7_holds 13 = .ok (.aaload, 1) := by decide +kernel
theorem dX7_holds_14 : decode cX7_holds 14 = .ok (.astore_n 3, 1) := by decide +kernel
theorem dX7_holds_15 : decode cX7_holds 15 = .ok (.iload_n 2, 1) := by decide +kernel
theorem dX7_holds_16 : decode cX7_holds 16 = .ok (.iconst (-1), 1) := by decide +kernel
theorem dX7_holds_17 : decode cX7_holds 17 = .ok (.if_icmp .ne 10, 3) := by decide +kernel
theorem dX7_holds_20 : decode cX7_holds 20 = .ok (.aload_n 3, 1) := by decide +kernel
theorem dX7_holds_21 : decode cX7_holds 21 = .ok (.getfield 142, 3) := by decide +kernel
theorem dX7_holds_24 : decode cX7_holds 24 = .ok (.goto 4, 3) := by decide +kernel
theorem dX7_holds_27 : decode cX7_holds 27 = .ok (.iload_n 2, 1) := by decide +kernel
theorem dX7_holds_28 : decode cX7_holds 28 = .ok (.istore 4, 2) := by decide +kernel
theorem dX7_holds_30 : decode cX7_holds 30 = .ok (.iload 4, 2) := by decide +kernel
theorem dX7_holds_32 : decode cX7_holds 32 = .ok (.aload_n 0, 1) := by decide +kernel
theorem dX7_holds_33 : decode cX7_holds 33 = .ok (.getfield 113, 3) := by decide +kernel
theorem dX7_holds_36 : decode cX7_holds 36 = .ok (.invokestatic 128, 3) := by decide +kernel
theorem dX7_holds_39 : decode cX7_holds 39 = .ok (.aload_n 3, 1) := by decide +kernel
theorem dX7_holds_40 : decode cX7_holds 40 = .ok (.aload_n 0, 1) := by decide +kernel
theorem dX7_holds_41 : decode cX7_holds 41 = .ok (.getfield 25, 3) := by decide +kernel
theorem dX7_holds_44 : decode cX7_holds 44 = .ok (.iload 4, 2) := by decide +kernel
theorem dX7_holds_46 : decode cX7_holds 46 = .ok (.aaload, 1) := by decide +kernel
theorem dX7_holds_47 : decode cX7_holds 47 = .ok (.invokevirtual 260, 3) := by decide +kernel
theorem dX7_holds_50 : decode cX7_holds 50 = .ok (.ireturn, 1) := by decide +kernel
theorem dX7_disputes_0 : decode cX7_disputes 0 = .ok (.iload_n 1, 1) := by decide +kernel
theorem dX7_disputes_1 : decode cX7_disputes 1 = .ok (.aload_n 0, 1) := by decide +kernel
theorem dX7_disputes_2 : decode cX7_disputes 2 = .ok (.getfield 137, 3) := by decide +kernel
theorem dX7_disputes_5 : decode cX7_disputes 5 = .ok (.invokestatic 128, 3) := by decide +kernel
theorem dX7_disputes_8 : decode cX7_disputes 8 = .ok (.aload_n 0, 1) := by decide +kernel
theorem dX7_disputes_9 : decode cX7_disputes 9 = .ok (.getfield 32, 3) := by decide +kernel
theorem dX7_disputes_12 : decode cX7_disputes 12 = .ok (.iload_n 1, 1) := by decide +kernel
theorem dX7_disputes_13 : decode cX7_disputes 13 = .ok (.aaload, 1) := by decide +kernel
theorem dX7_disputes_14 : decode cX7_disputes 14 = .ok (.astore_n 2, 1) := by decide +kernel
theorem dX7_disputes_15 : decode cX7_disputes 15 = .ok (.aload_n 0, 1) := by decide +kernel
theorem dX7_disputes_16 : decode cX7_disputes 16 = .ok (.getfield 25, 3) := by decide +kernel
theorem dX7_disputes_19 : decode cX7_disputes 19 = .ok (.aload_n 2, 1) := by decide +kernel
theorem dX7_disputes_20 : decode cX7_disputes 20 = .ok (.getfield 142, 3) := by decide +kernel
theorem dX7_disputes_23 : decode cX7_disputes 23 = .ok (.aaload, 1) := by decide +kernel
theorem dX7_disputes_24 : decode cX7_disputes 24 = .ok (.getfield 118, 3) := by decide +kernel
theorem dX7_disputes_27 : decode cX7_disputes 27 = .ok (.istore_n 3, 1) := by decide +kernel
theorem dX7_disputes_28 : decode cX7_disputes 28 = .ok (.iconst 0, 1) := by decide +kernel
theorem dX7_disputes_29 : decode cX7_disputes 29 = .ok (.istore 4, 2) := by decide +kernel
theorem dX7_disputes_31 : decode cX7_disputes 31 = .ok (.iconst 0, 1) := by decide +kernel
theorem dX7_disputes_32 : decode cX7_disputes 32 = .ok (.istore 5, 2) := by decide +kernel
theorem dX7_disputes_34 : decode cX7_disputes 34 = .ok (.iload 5, 2) := by decide +kernel
theorem dX7_disputes_36 : decode cX7_disputes 36 = .ok (.aload_n 0, 1) := by decide +kernel
theorem dX7_disputes_37 : decode cX7_disputes 37 = .ok (.getfield 113, 3) := by decide +kernel
theorem dX7_disputes_40 : decode cX7_disputes 40 = .ok (.if_icmp .ge 40, 3) := by decide +kernel
theorem dX7_disputes_43 : decode cX7_disputes 43 = .ok (.aload_n 0, 1) := by decide +kernel
theorem dX7_disputes_44 : decode cX7_disputes 44 = .ok (.getfield 25, 3) := by decide +kernel
theorem dX7_disputes_47 : decode cX7_disputes 47 = .ok (.iload 5, 2) := by decide +kernel
theorem dX7_disputes_49 : decode cX7_disputes 49 = .ok (.aaload, 1) := by decide +kernel
theorem dX7_disputes_50 : decode cX7_disputes 50 = .ok (.getfield 118, 3) := by decide +kernel
theorem dX7_disputes_53 : decode cX7_disputes 53 = .ok (.iload_n 3, 1) := by decide +kernel
theorem dX7_disputes_54 : decode cX7_disputes 54 = .ok (.if_icmp .lt 20, 3) := by decide +kernel
theorem dX7_disputes_57 : decode cX7_disputes 57 = .ok (.aload_n 2, 1) := by decide +kernel
theorem dX7_disputes_58 : decode cX7_disputes 58 = .ok (.aload_n 0, 1) := by decide +kernel
theorem dX7_disputes_59 : decode cX7_disputes 59 = .ok (.getfield 25, 3) := by decide +kernel
theorem dX7_disputes_62 : decode cX7_disputes 62 = .ok (.iload 5, 2) := by decide +kernel
theorem dX7_disputes_64 : decode cX7_disputes 64 = .ok (.aaload, 1) := by decide +kernel
theorem dX7_disputes_65 : decode cX7_disputes 65 = .ok (.invokevirtual 260, 3) := by decide +kernel
theorem dX7_disputes_68 : decode cX7_disputes 68 = .ok (.ifCond .ne 6, 3) := by decide +kernel
theorem dX7_disputes_71 : decode cX7_disputes 71 = .ok (.iinc 4 1, 3) := by decide +kernel
theorem dX7_disputes_74 : decode cX7_disputes 74 = .ok (.iinc 5 1, 3) := by decide +kernel
theorem dX7_disputes_77 : decode cX7_disputes 77 = .ok (.goto (-43), 3) := by decide +kernel
theorem dX7_disputes_80 : decode cX7_disputes 80 = .ok (.iload 4, 2) := by decide +kernel
theorem dX7_disputes_82 : decode cX7_disputes 82 = .ok (.ireturn, 1) := by decide +kernel
theorem dX7_requireRange_0 : decode cX7_requireRange 0 = .ok (.iload_n 0, 1) := by decide +kernel
theorem dX7_requireRange_1 : decode cX7_requireRange 1 = .ok (.iload_n 1, 1) := by decide +kernel
theorem dX7_requireRange_2 : decode cX7_requireRange 2 = .ok (.if_icmp .lt 8, 3) := by decide +kernel
theorem dX7_requireRange_5 : decode cX7_requireRange 5 = .ok (.iload_n 0, 1) := by decide +kernel
theorem dX7_requireRange_6 : decode cX7_requireRange 6 = .ok (.iload_n 2, 1) := by decide +kernel
theorem dX7_requireRange_7 : decode cX7_requireRange 7 = .ok (.if_icmp .le 14, 3) := by decide +kernel
theorem dX7_requireRange_10 : decode cX7_requireRange 10 = .ok (.new 175, 3) := by decide +kernel
theorem dX7_requireRange_13 : decode cX7_requireRange 13 = .ok (.dup, 1) := by decide +kernel
theorem dX7_requireRange_14 : decode cX7_requireRange 14 = .ok (.ldc_w 264, 3) := by decide +kernel
theorem dX7_requireRange_17 : decode cX7_requireRange 17 = .ok (.invokespecial 179, 3) := by decide +kernel
theorem dX7_requireRange_20 : decode cX7_requireRange 20 = .ok (.athrow, 1) := by decide +kernel
theorem dX7_requireRange_21 : decode cX7_requireRange 21 = .ok (.return_, 1) := by decide +kernel
theorem dX7_requireLane_0 : decode cX7_requireLane 0 = .ok (.iload_n 0, 1) := by decide +kernel
theorem dX7_requireLane_1 : decode cX7_requireLane 1 = .ok (.iconst 0, 1) := by decide +kernel
theorem dX7_requireLane_2 : decode cX7_requireLane 2 = .ok (.bipush 63, 2) := by decide +kernel
theorem dX7_requireLane_4 : decode cX7_requireLane 4 = .ok (.invokestatic 51, 3) := by decide +kernel
theorem dX7_requireLane_7 : decode cX7_requireLane 7 = .ok (.return_, 1) := by decide +kernel
theorem dX7_requirePlace_0 : decode cX7_requirePlace 0 = .ok (.iload_n 0, 1) := by decide +kernel
theorem dX7_requirePlace_1 : decode cX7_requirePlace 1 = .ok (.invokestatic 132, 3) := by decide +kernel
theorem dX7_requirePlace_4 : decode cX7_requirePlace 4 = .ok (.iload_n 1, 1) := by decide +kernel
theorem dX7_requirePlace_5 : decode cX7_requirePlace 5 = .ok (.iconst 0, 1) := by decide +kernel
theorem dX7_requirePlace_6 : decode cX7_requirePlace 6 = .ok (.ldc_w 266, 3) := by decide +kernel
theorem dX7_requirePlace_9 : decode cX7_requirePlace 9 = .ok (.invokestatic 51, 3) := by decide +kernel
theorem dX7_requirePlace_12 : decode cX7_requirePlace 12 = .ok (.iload_n 2, 1) := by decide +kernel
theorem dX7_requirePlace_13 : decode cX7_requirePlace 13 = .ok (.iconst 1, 1) := by decide +kernel
theorem dX7_requirePlace_14 : decode cX7_requirePlace 14 = .ok (.sipush 10000, 3) := by decide +kernel
theorem dX7_requirePlace_17 : decode cX7_requirePlace 17 = .ok (.invokestatic 51, 3) := by decide +kernel
theorem dX7_requirePlace_20 : decode cX7_requirePlace 20 = .ok (.return_, 1) := by decide +kernel
theorem dX7_requireNumber_0 : decode cX7_requireNumber 0 = .ok (.iload_n 0, 1) := by decide +kernel
theorem dX7_requireNumber_1 : decode cX7_requireNumber 1 = .ok (.ifCond .lt 8, 3) := by decide +kernel
theorem dX7_requireNumber_4 : decode cX7_requireNumber 4 = .ok (.iload_n 0, 1) := by decide +kernel
theorem dX7_requireNumber_5 : decode cX7_requireNumber 5 = .ok (.iload_n 1, 1) := by decide +kernel
theorem dX7_requireNumber_6 : decode cX7_requireNumber 6 = .ok (.if_icmp .lt 14, 3) := by decide +kernel
theorem dX7_requireNumber_9 : decode cX7_requireNumber 9 = .ok (.new 267, 3) := by decide +kernel
theorem dX7_requireNumber_12 : decode cX7_requireNumber 12 = .ok (.dup, 1) := by decide +kernel
theorem dX7_requireNumber_13 : decode cX7_requireNumber 13 = .ok (.ldc_w 269, 3) := by decide +kernel
theorem dX7_requireNumber_16 : decode cX7_requireNumber 16 = .ok (.invokespecial 271, 3) := by decide +kernel
theorem dX7_requireNumber_19 : decode cX7_requireNumber 19 = .ok (.athrow, 1) := by decide +kernel
theorem dX7_requireNumber_20 : decode cX7_requireNumber 20 = .ok (.return_, 1) := by decide +kernel
theorem dX7_radiusOf_0 : decode cX7_radiusOf 0 = .ok (.iload_n 0, 1) := by decide +kernel
theorem dX7_radiusOf_1 : decode cX7_radiusOf 1 = .ok (.bipush 20, 2) := by decide +kernel
theorem dX7_radiusOf_3 : decode cX7_radiusOf 3 = .ok (.iadd, 1) := by decide +kernel
theorem dX7_radiusOf_4 : decode cX7_radiusOf 4 = .ok (.ireturn, 1) := by decide +kernel
theorem dX7_turned_0 : decode cX7_turned 0 = .ok (.iload_n 0, 1) := by decide +kernel
theorem dX7_turned_1 : decode cX7_turned 1 = .ok (.iload_n 1, 1) := by decide +kernel
theorem dX7_turned_2 : decode cX7_turned 2 = .ok (.iadd, 1) := by decide +kernel
theorem dX7_turned_3 : decode cX7_turned 3 = .ok (.ldc_w 272, 3) := by decide +kernel
theorem dX7_turned_6 : decode cX7_turned 6 = .ok (.irem, 1) := by decide +kernel
theorem dX7_turned_7 : decode cX7_turned 7 = .ok (.ireturn, 1) := by decide +kernel
theorem dX7_anglesApart_0 : decode cX7_anglesApart 0 = .ok (.iload_n 0, 1) := by decide +kernel
theorem dX7_anglesApart_1 : decode cX7_anglesApart 1 = .ok (.iload_n 1, 1) := by decide +kernel
theorem dX7_anglesApart_2 : decode cX7_anglesApart 2 = .ok (.isub, 1) := by decide +kernel
theorem dX7_anglesApart_3 : decode cX7_anglesApart 3 = .ok (.invokestatic 273, 3) := by decide +kernel
theorem dX7_anglesApart_6 : decode cX7_anglesApart 6 = .ok (.istore_n 2, 1) := by decide +kernel
theorem dX7_anglesApart_7 : decode cX7_anglesApart 7 = .ok (.iload_n 2, 1) := by decide +kernel
theorem dX7_anglesApart_8 : decode cX7_anglesApart 8 = .ok (.ldc_w 272, 3) := by decide +kernel
theorem dX7_anglesApart_11 : decode cX7_anglesApart 11 = .ok (.iload_n 2, 1) := by decide +kernel
theorem dX7_anglesApart_12 : decode cX7_anglesApart 12 = .ok (.isub, 1) := by decide +kernel
theorem dX7_anglesApart_13 : decode cX7_anglesApart 13 = .ok (.invokestatic 278, 3) := by decide +kernel
theorem dX7_anglesApart_16 : decode cX7_anglesApart 16 = .ok (.ireturn, 1) := by decide +kernel
theorem dX7_widthOf_0 : decode cX7_widthOf 0 = .ok (.iconst 0, 1) := by decide +kernel
theorem dX7_widthOf_1 : decode cX7_widthOf 1 = .ok (.istore_n 1, 1) := by decide +kernel
theorem dX7_widthOf_2 : decode cX7_widthOf 2 = .ok (.iconst 1, 1) := by decide +kernel
theorem dX7_widthOf_3 : decode cX7_widthOf 3 = .ok (.istore_n 2, 1) := by decide +kernel
theorem dX7_widthOf_4 : decode cX7_widthOf 4 = .ok (.iload_n 2, 1) := by decide +kernel
theorem dX7_widthOf_5 : decode cX7_widthOf 5 = .ok (.bipush 100, 2) := by decide +kernel
theorem dX7_widthOf_7 : decode cX7_widthOf 7 = .ok (.if_icmp .gt 18, 3) := by decide +kernel
theorem dX7_widthOf_10 : decode cX7_widthOf 10 = .ok (.iload_n 2, 1) := by decide +kernel
theorem dX7_widthOf_11 : decode cX7_widthOf 11 = .ok (.iload_n 2, 1) := by decide +kernel
theorem dX7_widthOf_12 : decode cX7_widthOf 12 = .ok (.imul, 1) := by decide +kernel
theorem dX7_widthOf_13 : decode cX7_widthOf 13 = .ok (.iload_n 0, 1) := by decide +kernel
theorem dX7_widthOf_14 : decode cX7_widthOf 14 = .ok (.if_icmp .gt 11, 3) := by decide +kernel
theorem dX7_widthOf_17 : decode cX7_widthOf 17 = .ok (.iload_n 2, 1) := by decide +kernel
theorem dX7_widthOf_18 : decode cX7_widthOf 18 = .ok (.istore_n 1, 1) := by decide +kernel
theorem dX7_widthOf_19 : decode cX7_widthOf 19 = .ok (.iinc 2 1, 3) := by decide +kernel
theorem dX7_widthOf_22 : decode cX7_widthOf 22 = .ok (.goto (-18), 3) := by decide +kernel
theorem dX7_widthOf_25 : decode cX7_widthOf 25 = .ok (.iload_n 1, 1) := by decide +kernel
theorem dX7_widthOf_26 : decode cX7_widthOf 26 = .ok (.bipush 20, 2) := by decide +kernel
theorem dX7_widthOf_28 : decode cX7_widthOf 28 = .ok (.idiv, 1) := by decide +kernel
theorem dX7_widthOf_29 : decode cX7_widthOf 29 = .ok (.ireturn, 1) := by decide +kernel
theorem dX7_passTick_0 : decode cX7_passTick 0 = .ok (.iconst 0, 1) := by decide +kernel
theorem dX7_passTick_1 : decode cX7_passTick 1 = .ok (.istore_n 1, 1) := by decide +kernel
theorem dX7_passTick_2 : decode cX7_passTick 2 = .ok (.iload_n 1, 1) := by decide +kernel
theorem dX7_passTick_3 : decode cX7_passTick 3 = .ok (.aload_n 0, 1) := by decide +kernel
theorem dX7_passTick_4 : decode cX7_passTick 4 = .ok (.getfield 69, 3) := by decide +kernel
theorem dX7_passTick_7 : decode cX7_passTick 7 = .ok (.if_icmp .ge 49, 3) := by decide +kernel
theorem dX7_passTick_10 : decode cX7_passTick 10 = .ok (.aload_n 0, 1) := by decide +kernel
theorem dX7_passTick_11 : decode cX7_passTick 11 = .ok (.getfield 18, 3) := by decide +kernel
theorem dX7_passTick_14 : decode cX7_passTick 14 = .ok (.iload_n 1, 1) := by decide +kernel
theorem dX7_passTick_15 : decode cX7_passTick 15 = .ok (.aaload, 1) := by decide +kernel
theorem dX7_passTick_16 : decode cX7_passTick 16 = .ok (.aload_n 0, 1) := by decide +kernel
theorem dX7_passTick_17 : decode cX7_passTick 17 = .ok (.getfield 18, 3) := by decide +kernel
theorem dX7_passTick_20 : decode cX7_passTick 20 = .ok (.iload_n 1, 1) := by decide +kernel
theorem dX7_passTick_21 : decode cX7_passTick 21 = .ok (.aaload, 1) := by decide +kernel
theorem dX7_passTick_22 : decode cX7_passTick 22 = .ok (.getfield 77, 3) := by decide +kernel
theorem dX7_passTick_25 : decode cX7_passTick 25 = .ok (.aload_n 0, 1) := by decide +kernel
theorem dX7_passTick_26 : decode cX7_passTick 26 = .ok (.getfield 12, 3) := by decide +kernel
theorem dX7_passTick_29 : decode cX7_passTick 29 = .ok (.getfield 87, 3) := by decide +kernel
theorem dX7_passTick_32 : decode cX7_passTick 32 = .ok (.aload_n 0, 1) := by decide +kernel
theorem dX7_passTick_33 : decode cX7_passTick 33 = .ok (.getfield 18, 3) := by decide +kernel
theorem dX7_passTick_36 : decode cX7_passTick 36 = .ok (.iload_n 1, 1) := by decide +kernel
theorem dX7_passTick_37 : decode cX7_passTick 37 = .ok (.aaload, 1) := by decide +kernel
theorem dX7_passTick_38 : decode cX7_passTick 38 = .ok (.getfield 74, 3) := by decide +kernel
theorem dX7_passTick_41 : decode cX7_passTick 41 = .ok (.invokevirtual 180, 3) := by decide +kernel
theorem dX7_passTick_44 : decode cX7_passTick 44 = .ok (.invokestatic 281, 3) := by decide +kernel
theorem dX7_passTick_47 : decode cX7_passTick 47 = .ok (.putfield 77, 3) := by decide +kernel
theorem dX7_passTick_50 : decode cX7_passTick 50 = .ok (.iinc 1 1, 3) := by decide +kernel
theorem dX7_passTick_53 : decode cX7_passTick 53 = .ok (.goto (-51), 3) := by decide +kernel
theorem dX7_passTick_56 : decode cX7_passTick 56 = .ok (.aload_n 0, 1) := by decide +kernel
theorem dX7_passTick_57 : decode cX7_passTick 57 = .ok (.getfield 12, 3) := by decide +kernel
theorem dX7_passTick_60 : decode cX7_passTick 60 = .ok (.invokevirtual 284, 3) := by decide +kernel
theorem dX7_passTick_63 : decode cX7_passTick 63 = .ok (.iconst 0, 1) := by decide +kernel
theorem dX7_passTick_64 : decode cX7_passTick 64 = .ok (.istore_n 1, 1) := by decide +kernel
theorem dX7_passTick_65 : decode cX7_passTick 65 = .ok (.iload_n 1, 1) := by decide +kernel
theorem dX7_passTick_66 : decode cX7_passTick 66 = .ok (.aload_n 0, 1) := by decide +kernel
theorem dX7_passTick_67 : decode cX7_passTick 67 = .ok (.getfield 69, 3) := by decide +kernel
theorem dX7_passTick_70 : decode cX7_passTick 70 = .ok (.if_icmp .ge 22, 3) := by decide +kernel
theorem dX7_passTick_73 : decode cX7_passTick 73 = .ok (.aload_n 0, 1) := by decide +kernel
theorem dX7_passTick_74 : decode cX7_passTick 74 = .ok (.getfield 12, 3) := by decide +kernel
theorem dX7_passTick_77 : decode cX7_passTick 77 = .ok (.aload_n 0, 1) := by decide +kernel
theorem dX7_passTick_78 : decode cX7_passTick 78 = .ok (.getfield 18, 3) := by decide +kernel
theorem dX7_passTick_81 : decode cX7_passTick 81 = .ok (.iload_n 1, 1) := by decide +kernel
theorem dX7_passTick_82 : decode cX7_passTick 82 = .ok (.aaload, 1) := by decide +kernel
theorem dX7_passTick_83 : decode cX7_passTick 83 = .ok (.invokevirtual 287, 3) := by decide +kernel
theorem dX7_passTick_86 : decode cX7_passTick 86 = .ok (.iinc 1 1, 3) := by decide +kernel
theorem dX7_passTick_89 : decode cX7_passTick 89 = .ok (.goto (-24), 3) := by decide +kernel
theorem dX7_passTick_92 : decode cX7_passTick 92 = .ok (.aload_n 0, 1) := by decide +kernel
theorem dX7_passTick_93 : decode cX7_passTick 93 = .ok (.getfield 12, 3) := by decide +kernel
theorem dX7_passTick_96 : decode cX7_passTick 96 = .ok (.invokevirtual 291, 3) := by decide +kernel
theorem dX7_passTick_99 : decode cX7_passTick 99 = .ok (.aload_n 0, 1) := by decide +kernel
theorem dX7_passTick_100 : decode cX7_passTick 100 = .ok (.getfield 12, 3) := by decide +kernel
theorem dX7_passTick_103 : decode cX7_passTick 103 = .ok (.invokevirtual 294, 3) := by decide +kernel
theorem dX7_passTick_106 : decode cX7_passTick 106 = .ok (.aload_n 0, 1) := by decide +kernel
theorem dX7_passTick_107 : decode cX7_passTick 107 = .ok (.dup, 1) := by decide +kernel
theorem dX7_passTick_108 : decode cX7_passTick 108 = .ok (.getfield 105, 3) := by decide +kernel
theorem dX7_passTick_111 : decode cX7_passTick 111 = .ok (.iconst 1, 1) := by decide +kernel
theorem dX7_passTick_112 : decode cX7_passTick 112 = .ok (.iadd, 1) := by decide +kernel
theorem dX7_passTick_113 : decode cX7_passTick 113 = .ok (.putfield 105, 3) := by decide +kernel
theorem dX7_passTick_116 : decode cX7_passTick 116 = .ok (.return_, 1) := by decide +kernel
theorem dX7_ratioOf_0 : decode cX7_ratioOf 0 = .ok (.aload_n 0, 1) := by decide +kernel
theorem dX7_ratioOf_1 : decode cX7_ratioOf 1 = .ok (.getfield 12, 3) := by decide +kernel
theorem dX7_ratioOf_4 : decode cX7_ratioOf 4 = .ok (.getfield 87, 3) := by decide +kernel
theorem dX7_ratioOf_7 : decode cX7_ratioOf 7 = .ok (.aload_n 1, 1) := by decide +kernel
theorem dX7_ratioOf_8 : decode cX7_ratioOf 8 = .ok (.getfield 74, 3) := by decide +kernel
theorem dX7_ratioOf_11 : decode cX7_ratioOf 11 = .ok (.invokevirtual 180, 3) := by decide +kernel
theorem dX7_ratioOf_14 : decode cX7_ratioOf 14 = .ok (.istore 4, 2) := by decide +kernel
theorem dX7_ratioOf_16 : decode cX7_ratioOf 16 = .ok (.aload_n 0, 1) := by decide +kernel
theorem dX7_ratioOf_17 : decode cX7_ratioOf 17 = .ok (.getfield 12, 3) := by decide +kernel
theorem dX7_ratioOf_20 : decode cX7_ratioOf 20 = .ok (.getfield 87, 3) := by decide +kernel
theorem dX7_ratioOf_23 : decode cX7_ratioOf 23 = .ok (.iload_n 2, 1) := by decide +kernel
theorem dX7_ratioOf_24 : decode cX7_ratioOf 24 = .ok (.invokevirtual 180, 3) := by decide +kernel
theorem dX7_ratioOf_27 : decode cX7_ratioOf 27 = .ok (.istore 5, 2) := by decide +kernel
theorem dX7_ratioOf_29 : decode cX7_ratioOf 29 = .ok (.iconst 1, 1) := by decide +kernel
theorem dX7_ratioOf_30 : decode cX7_ratioOf 30 = .ok (.istore 6, 2) := by decide +kernel
theorem dX7_ratioOf_32 : decode cX7_ratioOf 32 = .ok (.iload 6, 2) := by decide +kernel
theorem dX7_ratioOf_34 : decode cX7_ratioOf 34 = .ok (.iload_n 3, 1) := by decide +kernel
theorem dX7_ratioOf_35 : decode cX7_ratioOf 35 = .ok (.if_icmp .gt 102, 3) := by decide +kernel
theorem dX7_ratioOf_38 : decode cX7_ratioOf 38 = .ok (.iconst 1, 1) := by decide +kernel
theorem dX7_ratioOf_39 : decode cX7_ratioOf 39 = .ok (.istore 7, 2) := by decide +kernel
theorem dX7_ratioOf_41 : decode cX7_ratioOf 41 = .ok (.iload 7, 2) := by decide +kernel
theorem dX7_ratioOf_43 : decode cX7_ratioOf 43 = .ok (.bipush 9, 2) := by decide +kernel
theorem dX7_ratioOf_45 : decode cX7_ratioOf 45 = .ok (.if_icmp .gt 86, 3) := by decide +kernel
theorem dX7_ratioOf_48 : decode cX7_ratioOf 48 = .ok (.iload 7, 2) := by decide +kernel
theorem dX7_ratioOf_50 : decode cX7_ratioOf 50 = .ok (.iload 6, 2) := by decide +kernel
theorem dX7_ratioOf_52 : decode cX7_ratioOf 52 = .ok (.isub, 1) := by decide +kernel
theorem dX7_ratioOf_53 : decode cX7_ratioOf 53 = .ok (.istore 8, 2) := by decide +kernel
theorem dX7_ratioOf_55 : decode cX7_ratioOf 55 = .ok (.iload 8, 2) := by decide +kernel
theorem dX7_ratioOf_57 : decode cX7_ratioOf 57 = .ok (.iconst 1, 1) := by decide +kernel
theorem dX7_ratioOf_58 : decode cX7_ratioOf 58 = .ok (.if_icmp .lt 28, 3) := by decide +kernel
theorem dX7_ratioOf_61 : decode cX7_ratioOf 61 = .ok (.iload 7, 2) := by decide +kernel
theorem dX7_ratioOf_63 : decode cX7_ratioOf 63 = .ok (.iload 4, 2) := by decide +kernel
theorem dX7_ratioOf_65 : decode cX7_ratioOf 65 = .ok (.imul, 1) := by decide +kernel
theorem dX7_ratioOf_66 : decode cX7_ratioOf 66 = .ok (.iload 8, 2) := by decide +kernel
end
section
theorem dX7_ratioOf_68 : decode cX7_ratioOf 68 = .ok (.iload 5, 2) := by decide +kernel
theorem dX7_ratioOf_70 : decode cX7_ratioOf 70 = .ok (.imul, 1) := by decide +kernel
theorem dX7_ratioOf_71 : decode cX7_ratioOf 71 = .ok (.invokestatic 297, 3) := by decide +kernel
theorem dX7_ratioOf_74 : decode cX7_ratioOf 74 = .ok (.ifCond .eq 12, 3) := by decide +kernel
theorem dX7_ratioOf_77 : decode cX7_ratioOf 77 = .ok (.bipush 10, 2) := by decide +kernel
theorem dX7_ratioOf_79 : decode cX7_ratioOf 79 = .ok (.iload 7, 2) := by decide +kernel
theorem dX7_ratioOf_81 : decode cX7_ratioOf 81 = .ok (.imul, 1) := by decide +kernel
theorem dX7_ratioOf_82 : decode cX7_ratioOf 82 = .ok (.iload 8, 2) := by decide +kernel
theorem dX7_ratioOf_84 : decode cX7_ratioOf 84 = .ok (.iadd, 1) := by decide +kernel
theorem dX7_ratioOf_85 : decode cX7_ratioOf 85 = .ok (.ireturn, 1) := by decide +kernel
theorem dX7_ratioOf_86 : decode cX7_ratioOf 86 = .ok (.iload 7, 2) := by decide +kernel
theorem dX7_ratioOf_88 : decode cX7_ratioOf 88 = .ok (.iload 6, 2) := by decide +kernel
theorem dX7_ratioOf_90 : decode cX7_ratioOf 90 = .ok (.iadd, 1) := by decide +kernel
theorem dX7_ratioOf_91 : decode cX7_ratioOf 91 = .ok (.istore 9, 2) := by decide +kernel
theorem dX7_ratioOf_93 : decode cX7_ratioOf 93 = .ok (.iload 9, 2) := by decide +kernel
theorem dX7_ratioOf_95 : decode cX7_ratioOf 95 = .ok (.bipush 9, 2) := by decide +kernel
theorem dX7_ratioOf_97 : decode cX7_ratioOf 97 = .ok (.if_icmp .gt 28, 3) := by decide +kernel
theorem dX7_ratioOf_100 : decode cX7_ratioOf 100 = .ok (.iload 7, 2) := by decide +kernel
theorem dX7_ratioOf_102 : decode cX7_ratioOf 102 = .ok (.iload 4, 2) := by decide +kernel
theorem dX7_ratioOf_104 : decode cX7_ratioOf 104 = .ok (.imul, 1) := by decide +kernel
theorem dX7_ratioOf_105 : decode cX7_ratioOf 105 = .ok (.iload 9, 2) := by decide +kernel
theorem dX7_ratioOf_107 : decode cX7_ratioOf 107 = .ok (.iload 5, 2) := by decide +kernel
theorem dX7_ratioOf_109 : decode cX7_ratioOf 109 = .ok (.imul, 1) := by decide +kernel
theorem dX7_ratioOf_110 : decode cX7_ratioOf 110 = .ok (.invokestatic 297, 3) := by decide +kernel
theorem dX7_ratioOf_113 : decode cX7_ratioOf 113 = .ok (.ifCond .eq 12, 3) := by decide +kernel
theorem dX7_ratioOf_116 : decode cX7_ratioOf 116 = .ok (.bipush 10, 2) := by decide +kernel
theorem dX7_ratioOf_118 : decode cX7_ratioOf 118 = .ok (.iload 7, 2) := by decide +kernel
theorem dX7_ratioOf_120 : decode cX7_ratioOf 120 = .ok (.imul, 1) := by decide +kernel
theorem dX7_ratioOf_121 : decode cX7_ratioOf 121 = .ok (.iload 9, 2) := by decide +kernel
theorem dX7_ratioOf_123 : decode cX7_ratioOf 123 = .ok (.iadd, 1) := by decide +kernel
theorem dX7_ratioOf_124 : decode cX7_ratioOf 124 = .ok (.ireturn, 1) := by decide +kernel
theorem dX7_ratioOf_125 : decode cX7_ratioOf 125 = .ok (.iinc 7 1, 3) := by decide +kernel
theorem dX7_ratioOf_128 : decode cX7_ratioOf 128 = .ok (.goto (-87), 3) := by decide +kernel
theorem dX7_ratioOf_131 : decode cX7_ratioOf 131 = .ok (.iinc 6 1, 3) := by decide +kernel
theorem dX7_ratioOf_134 : decode cX7_ratioOf 134 = .ok (.goto (-102), 3) := by decide +kernel
theorem dX7_ratioOf_137 : decode cX7_ratioOf 137 = .ok (.iconst (-1), 1) := by decide +kernel
theorem dX7_ratioOf_138 : decode cX7_ratioOf 138 = .ok (.ireturn, 1) := by decide +kernel
theorem dX7_inTune_0 : decode cX7_inTune 0 = .ok (.iload_n 0, 1) := by decide +kernel
theorem dX7_inTune_1 : decode cX7_inTune 1 = .ok (.iload_n 1, 1) := by decide +kernel
theorem dX7_inTune_2 : decode cX7_inTune 2 = .ok (.isub, 1) := by decide +kernel
theorem dX7_inTune_3 : decode cX7_inTune 3 = .ok (.invokestatic 273, 3) := by decide +kernel
theorem dX7_inTune_6 : decode cX7_inTune 6 = .ok (.bipush 20, 2) := by decide +kernel
theorem dX7_inTune_8 : decode cX7_inTune 8 = .ok (.if_icmp .gt 7, 3) := by decide +kernel
theorem dX7_inTune_11 : decode cX7_inTune 11 = .ok (.iconst 1, 1) := by decide +kernel
theorem dX7_inTune_12 : decode cX7_inTune 12 = .ok (.goto 4, 3) := by decide +kernel
theorem dX7_inTune_15 : decode cX7_inTune 15 = .ok (.iconst 0, 1) := by decide +kernel
theorem dX7_inTune_16 : decode cX7_inTune 16 = .ok (.ireturn, 1) := by decide +kernel
theorem dX7_surveyGaps_0 : decode cX7_surveyGaps 0 = .ok (.aload_n 0, 1) := by decide +kernel
theorem dX7_surveyGaps_1 : decode cX7_surveyGaps 1 = .ok (.getfield 12, 3) := by decide +kernel
theorem dX7_surveyGaps_4 : decode cX7_surveyGaps 4 = .ok (.aload_n 0, 1) := by decide +kernel
theorem dX7_surveyGaps_5 : decode cX7_surveyGaps 5 = .ok (.getfield 37, 3) := by decide +kernel
theorem dX7_surveyGaps_8 : decode cX7_surveyGaps 8 = .ok (.invokevirtual 124, 3) := by decide +kernel
theorem dX7_surveyGaps_11 : decode cX7_surveyGaps 11 = .ok (.iconst 0, 1) := by decide +kernel
theorem dX7_surveyGaps_12 : decode cX7_surveyGaps 12 = .ok (.istore_n 1, 1) := by decide +kernel
theorem dX7_surveyGaps_13 : decode cX7_surveyGaps 13 = .ok (.iconst (-1), 1) := by decide +kernel
theorem dX7_surveyGaps_14 : decode cX7_surveyGaps 14 = .ok (.istore_n 2, 1) := by decide +kernel
theorem dX7_surveyGaps_15 : decode cX7_surveyGaps 15 = .ok (.iconst 0, 1) := by decide +kernel
theorem dX7_surveyGaps_16 : decode cX7_surveyGaps 16 = .ok (.istore_n 3, 1) := by decide +kernel
theorem dX7_surveyGaps_17 : decode cX7_surveyGaps 17 = .ok (.iload_n 3, 1) := by decide +kernel
theorem dX7_surveyGaps_18 : decode cX7_surveyGaps 18 = .ok (.bipush 64, 2) := by decide +kernel
theorem dX7_surveyGaps_20 : decode cX7_surveyGaps 20 = .ok (.if_icmp .ge 59, 3) := by decide +kernel
theorem dX7_surveyGaps_23 : decode cX7_surveyGaps 23 = .ok (.aload_n 0, 1) := by decide +kernel
theorem dX7_surveyGaps_24 : decode cX7_surveyGaps 24 = .ok (.getfield 37, 3) := by decide +kernel
theorem dX7_surveyGaps_27 : decode cX7_surveyGaps 27 = .ok (.iload_n 3, 1) := by decide +kernel
theorem dX7_surveyGaps_28 : decode cX7_surveyGaps 28 = .ok (.iaload, 1) := by decide +kernel
theorem dX7_surveyGaps_29 : decode cX7_surveyGaps 29 = .ok (.ifCond .le 44, 3) := by decide +kernel
theorem dX7_surveyGaps_32 : decode cX7_surveyGaps 32 = .ok (.iload_n 2, 1) := by decide +kernel
theorem dX7_surveyGaps_33 : decode cX7_surveyGaps 33 = .ok (.iconst (-1), 1) := by decide +kernel
theorem dX7_surveyGaps_34 : decode cX7_surveyGaps 34 = .ok (.if_icmp .eq 37, 3) := by decide +kernel
theorem dX7_surveyGaps_37 : decode cX7_surveyGaps 37 = .ok (.iload_n 3, 1) := by decide +kernel
theorem dX7_surveyGaps_38 : decode cX7_surveyGaps 38 = .ok (.iload_n 2, 1) := by decide +kernel
theorem dX7_surveyGaps_39 : decode cX7_surveyGaps 39 = .ok (.isub, 1) := by decide +kernel
theorem dX7_surveyGaps_40 : decode cX7_surveyGaps 40 = .ok (.iconst 2, 1) := by decide +kernel
theorem dX7_surveyGaps_41 : decode cX7_surveyGaps 41 = .ok (.if_icmp .le 30, 3) := by decide +kernel
theorem dX7_surveyGaps_44 : decode cX7_surveyGaps 44 = .ok (.iload_n 1, 1) := by decide +kernel
theorem dX7_surveyGaps_45 : decode cX7_surveyGaps 45 = .ok (.bipush 21, 2) := by decide +kernel
theorem dX7_surveyGaps_47 : decode cX7_surveyGaps 47 = .ok (.if_icmp .ge 24, 3) := by decide +kernel
theorem dX7_surveyGaps_50 : decode cX7_surveyGaps 50 = .ok (.aload_n 0, 1) := by decide +kernel
theorem dX7_surveyGaps_51 : decode cX7_surveyGaps 51 = .ok (.getfield 41, 3) := by decide +kernel
theorem dX7_surveyGaps_54 : decode cX7_surveyGaps 54 = .ok (.iload_n 1, 1) := by decide +kernel
theorem dX7_surveyGaps_55 : decode cX7_surveyGaps 55 = .ok (.iload_n 2, 1) := by decide +kernel
theorem dX7_surveyGaps_56 : decode cX7_surveyGaps 56 = .ok (.iconst 1, 1) := by decide +kernel
theorem dX7_surveyGaps_57 : decode cX7_surveyGaps 57 = .ok (.iadd, 1) := by decide +kernel
theorem dX7_surveyGaps_58 : decode cX7_surveyGaps 58 = .ok (.iastore, 1) := by decide +kernel
theorem dX7_surveyGaps_59 : decode cX7_surveyGaps 59 = .ok (.aload_n 0, 1) := by decide +kernel
theorem dX7_surveyGaps_60 : decode cX7_surveyGaps 60 = .ok (.getfield 44, 3) := by decide +kernel
theorem dX7_surveyGaps_63 : decode cX7_surveyGaps 63 = .ok (.iload_n 1, 1) := by decide +kernel
theorem dX7_surveyGaps_64 : decode cX7_surveyGaps 64 = .ok (.iload_n 3, 1) := by decide +kernel
theorem dX7_surveyGaps_65 : decode cX7_surveyGaps 65 = .ok (.iconst 1, 1) := by decide +kernel
theorem dX7_surveyGaps_66 : decode cX7_surveyGaps 66 = .ok (.isub, 1) := by decide +kernel
theorem dX7_surveyGaps_67 : decode cX7_surveyGaps 67 = .ok (.iastore, 1) := by decide +kernel
theorem dX7_surveyGaps_68 : decode cX7_surveyGaps 68 = .ok (.iinc 1 1, 3) := by decide +kernel
theorem dX7_surveyGaps_71 : decode cX7_surveyGaps 71 = .ok (.iload_n 3, 1) := by decide +kernel
theorem dX7_surveyGaps_72 : decode cX7_surveyGaps 72 = .ok (.istore_n 2, 1) := by decide +kernel
theorem dX7_surveyGaps_73 : decode cX7_surveyGaps 73 = .ok (.iinc 3 1, 3) := by decide +kernel
theorem dX7_surveyGaps_76 : decode cX7_surveyGaps 76 = .ok (.goto (-59), 3) := by decide +kernel
theorem dX7_surveyGaps_79 : decode cX7_surveyGaps 79 = .ok (.iload_n 1, 1) := by decide +kernel
theorem dX7_surveyGaps_80 : decode cX7_surveyGaps 80 = .ok (.ireturn, 1) := by decide +kernel
theorem dX7_keeperOf_0 : decode cX7_keeperOf 0 = .ok (.iconst 0, 1) := by decide +kernel
theorem dX7_keeperOf_1 : decode cX7_keeperOf 1 = .ok (.istore_n 3, 1) := by decide +kernel
theorem dX7_keeperOf_2 : decode cX7_keeperOf 2 = .ok (.iload_n 3, 1) := by decide +kernel
theorem dX7_keeperOf_3 : decode cX7_keeperOf 3 = .ok (.aload_n 0, 1) := by decide +kernel
theorem dX7_keeperOf_4 : decode cX7_keeperOf 4 = .ok (.getfield 69, 3) := by decide +kernel
theorem dX7_keeperOf_7 : decode cX7_keeperOf 7 = .ok (.if_icmp .ge 37, 3) := by decide +kernel
theorem dX7_keeperOf_10 : decode cX7_keeperOf 10 = .ok (.aload_n 0, 1) := by decide +kernel
theorem dX7_keeperOf_11 : decode cX7_keeperOf 11 = .ok (.getfield 18, 3) := by decide +kernel
theorem dX7_keeperOf_14 : decode cX7_keeperOf 14 = .ok (.iload_n 3, 1) := by decide +kernel
theorem dX7_keeperOf_15 : decode cX7_keeperOf 15 = .ok (.aaload, 1) := by decide +kernel
theorem dX7_keeperOf_16 : decode cX7_keeperOf 16 = .ok (.getfield 74, 3) := by decide +kernel
theorem dX7_keeperOf_19 : decode cX7_keeperOf 19 = .ok (.iload_n 1, 1) := by decide +kernel
theorem dX7_keeperOf_20 : decode cX7_keeperOf 20 = .ok (.if_icmp .lt 18, 3) := by decide +kernel
theorem dX7_keeperOf_23 : decode cX7_keeperOf 23 = .ok (.aload_n 0, 1) := by decide +kernel
theorem dX7_keeperOf_24 : decode cX7_keeperOf 24 = .ok (.getfield 18, 3) := by decide +kernel
theorem dX7_keeperOf_27 : decode cX7_keeperOf 27 = .ok (.iload_n 3, 1) := by decide +kernel
theorem dX7_keeperOf_28 : decode cX7_keeperOf 28 = .ok (.aaload, 1) := by decide +kernel
theorem dX7_keeperOf_29 : decode cX7_keeperOf 29 = .ok (.getfield 74, 3) := by decide +kernel
theorem dX7_keeperOf_32 : decode cX7_keeperOf 32 = .ok (.iload_n 2, 1) := by decide +kernel
theorem dX7_keeperOf_33 : decode cX7_keeperOf 33 = .ok (.if_icmp .gt 5, 3) := by decide +kernel
theorem dX7_keeperOf_36 : decode cX7_keeperOf 36 = .ok (.iload_n 3, 1) := by decide +kernel
theorem dX7_keeperOf_37 : decode cX7_keeperOf 37 = .ok (.ireturn, 1) := by decide +kernel
theorem dX7_keeperOf_38 : decode cX7_keeperOf 38 = .ok (.iinc 3 1, 3) := by decide +kernel
theorem dX7_keeperOf_41 : decode cX7_keeperOf 41 = .ok (.goto (-39), 3) := by decide +kernel
theorem dX7_keeperOf_44 : decode cX7_keeperOf 44 = .ok (.iconst 0, 1) := by decide +kernel
theorem dX7_keeperOf_45 : decode cX7_keeperOf 45 = .ok (.istore_n 3, 1) := by decide +kernel
theorem dX7_keeperOf_46 : decode cX7_keeperOf 46 = .ok (.iload_n 3, 1) := by decide +kernel
theorem dX7_keeperOf_47 : decode cX7_keeperOf 47 = .ok (.aload_n 0, 1) := by decide +kernel
theorem dX7_keeperOf_48 : decode cX7_keeperOf 48 = .ok (.getfield 69, 3) := by decide +kernel
theorem dX7_keeperOf_51 : decode cX7_keeperOf 51 = .ok (.if_icmp .ge 47, 3) := by decide +kernel
theorem dX7_keeperOf_54 : decode cX7_keeperOf 54 = .ok (.aload_n 0, 1) := by decide +kernel
theorem dX7_keeperOf_55 : decode cX7_keeperOf 55 = .ok (.aload_n 0, 1) := by decide +kernel
theorem dX7_keeperOf_56 : decode cX7_keeperOf 56 = .ok (.getfield 18, 3) := by decide +kernel
theorem dX7_keeperOf_59 : decode cX7_keeperOf 59 = .ok (.iload_n 3, 1) := by decide +kernel
theorem dX7_keeperOf_60 : decode cX7_keeperOf 60 = .ok (.aaload, 1) := by decide +kernel
theorem dX7_keeperOf_61 : decode cX7_keeperOf 61 = .ok (.iload_n 1, 1) := by decide +kernel
theorem dX7_keeperOf_62 : decode cX7_keeperOf 62 = .ok (.iconst 1, 1) := by decide +kernel
theorem dX7_keeperOf_63 : decode cX7_keeperOf 63 = .ok (.isub, 1) := by decide +kernel
theorem dX7_keeperOf_64 : decode cX7_keeperOf 64 = .ok (.iconst 2, 1) := by decide +kernel
theorem dX7_keeperOf_65 : decode cX7_keeperOf 65 = .ok (.invokevirtual 247, 3) := by decide +kernel
theorem dX7_keeperOf_68 : decode cX7_keeperOf 68 = .ok (.iconst (-1), 1) := by decide +kernel
theorem dX7_keeperOf_69 : decode cX7_keeperOf 69 = .ok (.if_icmp .ne 21, 3) := by decide +kernel
theorem dX7_keeperOf_72 : decode cX7_keeperOf 72 = .ok (.aload_n 0, 1) := by decide +kernel
theorem dX7_keeperOf_73 : decode cX7_keeperOf 73 = .ok (.aload_n 0, 1) := by decide +kernel
theorem dX7_keeperOf_74 : decode cX7_keeperOf 74 = .ok (.getfield 18, 3) := by decide +kernel
theorem dX7_keeperOf_77 : decode cX7_keeperOf 77 = .ok (.iload_n 3, 1) := by decide +kernel
theorem dX7_keeperOf_78 : decode cX7_keeperOf 78 = .ok (.aaload, 1) := by decide +kernel
theorem dX7_keeperOf_79 : decode cX7_keeperOf 79 = .ok (.iload_n 2, 1) := by decide +kernel
theorem dX7_keeperOf_80 : decode cX7_keeperOf 80 = .ok (.iconst 1, 1) := by decide +kernel
theorem dX7_keeperOf_81 : decode cX7_keeperOf 81 = .ok (.iadd, 1) := by decide +kernel
theorem dX7_keeperOf_82 : decode cX7_keeperOf 82 = .ok (.iconst 2, 1) := by decide +kernel
theorem dX7_keeperOf_83 : decode cX7_keeperOf 83 = .ok (.invokevirtual 247, 3) := by decide +kernel
theorem dX7_keeperOf_86 : decode cX7_keeperOf 86 = .ok (.iconst (-1), 1) := by decide +kernel
theorem dX7_keeperOf_87 : decode cX7_keeperOf 87 = .ok (.if_icmp .eq 5, 3) := by decide +kernel
theorem dX7_keeperOf_90 : decode cX7_keeperOf 90 = .ok (.iload_n 3, 1) := by decide +kernel
theorem dX7_keeperOf_91 : decode cX7_keeperOf 91 = .ok (.ireturn, 1) := by decide +kernel
theorem dX7_keeperOf_92 : decode cX7_keeperOf 92 = .ok (.iinc 3 1, 3) := by decide +kernel
theorem dX7_keeperOf_95 : decode cX7_keeperOf 95 = .ok (.goto (-49), 3) := by decide +kernel
theorem dX7_keeperOf_98 : decode cX7_keeperOf 98 = .ok (.iconst (-1), 1) := by decide +kernel
theorem dX7_keeperOf_99 : decode cX7_keeperOf 99 = .ok (.ireturn, 1) := by decide +kernel
theorem dX8_init_0 : decode cX8_init 0 = .ok (.aload_n 0, 1) := by decide +kernel
theorem dX8_init_1 : decode cX8_init 1 = .ok (.invokespecial 1, 3) := by decide +kernel
theorem dX8_init_4 : decode cX8_init 4 = .ok (.aload_n 0, 1) := by decide +kernel
theorem dX8_init_5 : decode cX8_init 5 = .ok (.bipush 20, 2) := by decide +kernel
theorem dX8_init_7 : decode cX8_init 7 = .ok (.putfield 7, 3) := by decide +kernel
theorem dX8_init_10 : decode cX8_init 10 = .ok (.aload_n 0, 1) := by decide +kernel
theorem dX8_init_11 : decode cX8_init 11 = .ok (.bipush 80, 2) := by decide +kernel
theorem dX8_init_13 : decode cX8_init 13 = .ok (.putfield 13, 3) := by decide +kernel
theorem dX8_init_16 : decode cX8_init 16 = .ok (.aload_n 0, 1) := by decide +kernel
theorem dX8_init_17 : decode cX8_init 17 = .ok (.bipush 50, 2) := by decide +kernel
theorem dX8_init_19 : decode cX8_init 19 = .ok (.putfield 16, 3) := by decide +kernel
theorem dX8_init_22 : decode cX8_init 22 = .ok (.aload_n 0, 1) := by decide +kernel
theorem dX8_init_23 : decode cX8_init 23 = .ok (.bipush 80, 2) := by decide +kernel
theorem dX8_init_25 : decode cX8_init 25 = .ok (.newarray .int, 2) := by decide +kernel
theorem dX8_init_27 : decode cX8_init 27 = .ok (.putfield 19, 3) := by decide +kernel
theorem dX8_init_30 : decode cX8_init 30 = .ok (.aload_n 0, 1) := by decide +kernel
theorem dX8_init_31 : decode cX8_init 31 = .ok (.bipush 80, 2) := by decide +kernel
theorem dX8_init_33 : decode cX8_init 33 = .ok (.newarray .int, 2) := by decide +kernel
theorem dX8_init_35 : decode cX8_init 35 = .ok (.putfield 23, 3) := by decide +kernel
theorem dX8_init_38 : decode cX8_init 38 = .ok (.aload_n 0, 1) := by decide +kernel
theorem dX8_init_39 : decode cX8_init 39 = .ok (.bipush 80, 2) := by decide +kernel
theorem dX8_init_41 : decode cX8_init 41 = .ok (.newarray .int, 2) := by decide +kernel
theorem dX8_init_43 : decode cX8_init 43 = .ok (.putfield 26, 3) := by decide +kernel
theorem dX8_init_46 : decode cX8_init 46 = .ok (.aload_n 0, 1) := by decide +kernel
theorem dX8_init_47 : decode cX8_init 47 = .ok (.bipush 80, 2) := by decide +kernel
theorem dX8_init_49 : decode cX8_init 49 = .ok (.newarray .int, 2) := by decide +kernel
theorem dX8_init_51 : decode cX8_init 51 = .ok (.putfield 29, 3) := by decide +kernel
theorem dX8_init_54 : decode cX8_init 54 = .ok (.aload_n 0, 1) := by decide +kernel
theorem dX8_init_55 : decode cX8_init 55 = .ok (.bipush 80, 2) := by decide +kernel
theorem dX8_init_57 : decode cX8_init 57 = .ok (.newarray .int, 2) := by decide +kernel
theorem dX8_init_59 : decode cX8_init 59 = .ok (.putfield 32, 3) := by decide +kernel
theorem dX8_init_62 : decode cX8_init 62 = .ok (.aload_n 0, 1) := by decide +kernel
theorem dX8_init_63 : decode cX8_init 63 = .ok (.bipush 80, 2) := by decide +kernel
theorem dX8_init_65 : decode cX8_init 65 = .ok (.newarray .boolean, 2) := by decide +kernel
theorem dX8_init_67 : decode cX8_init 67 = .ok (.putfield 35, 3) := by decide +kernel
theorem dX8_init_70 : decode cX8_init 70 = .ok (.aload_n 0, 1) := by decide +kernel
theorem dX8_init_71 : decode cX8_init 71 = .ok (.bipush 80, 2) := by decide +kernel
theorem dX8_init_73 : decode cX8_init 73 = .ok (.newarray .boolean, 2) := by decide +kernel
theorem dX8_init_75 : decode cX8_init 75 = .ok (.putfield 39, 3) := by decide +kernel
theorem dX8_init_78 : decode cX8_init 78 = .ok (.aload_n 0, 1) := by decide +kernel
theorem dX8_init_79 : decode cX8_init 79 = .ok (.bipush 6, 2) := by decide +kernel
theorem dX8_init_81 : decode cX8_init 81 = .ok (.newarray .int, 2) := by decide +kernel
theorem dX8_init_83 : decode cX8_init 83 = .ok (.putfield 42, 3) := by decide +kernel
theorem dX8_init_86 : decode cX8_init 86 = .ok (.aload_n 0, 1) := by decide +kernel
theorem dX8_init_87 : decode cX8_init 87 = .ok (.bipush 6, 2) := by decide +kernel
theorem dX8_init_89 : decode cX8_init 89 = .ok (.newarray .int, 2) := by decide +kernel
theorem dX8_init_91 : decode cX8_init 91 = .ok (.putfield 45, 3) := by decide +kernel
theorem dX8_init_94 : decode cX8_init 94 = .ok (.aload_n 0, 1) := by decide +kernel
theorem dX8_init_95 : decode cX8_init 95 = .ok (.bipush 6, 2) := by decide +kernel
theorem dX8_init_97 : decode cX8_init 97 = .ok (.newarray .int, 2) := by decide +kernel
theorem dX8_init_99 : decode cX8_init 99 = .ok (.putfield 48, 3) := by decide +kernel
theorem dX8_init_102 : decode cX8_init 102 = .ok (.aload_n 0, 1) := by decide +kernel
theorem dX8_init_103 : decode cX8_init 103 = .ok (.sipush 1280, 3) := by decide +kernel
theorem dX8_init_106 : decode cX8_init 106 = .ok (.newarray .int, 2) := by decide +kernel
theorem dX8_init_108 : decode cX8_init 108 = .ok (.putfield 51, 3) := by decide +kernel
theorem dX8_init_111 : decode cX8_init 111 = .ok (.aload_n 0, 1) := by decide +kernel
theorem dX8_init_112 : decode cX8_init 112 = .ok (.bipush 20, 2) := by decide +kernel
theorem dX8_init_114 : decode cX8_init 114 = .ok (.newarray .int, 2) := by decide +kernel
theorem dX8_init_116 : decode cX8_init 116 = .ok (.putfield 54, 3) := by decide +kernel
theorem dX8_init_119 : decode cX8_init 119 = .ok (.aload_n 0, 1) := by decide +kernel
theorem dX8_init_120 : decode cX8_init 120 = .ok (.bipush 40, 2) := by decide +kernel
theorem dX8_init_122 : decode cX8_init 122 = .ok (.newarray .int, 2) := by decide +kernel
theorem dX8_init_124 : decode cX8_init 124 = .ok (.putfield 57, 3) := by decide +kernel
theorem dX8_init_127 : decode cX8_init 127 = .ok (.aload_n 0, 1) := by decide +kernel
theorem dX8_init_128 : decode cX8_init 128 = .ok (.bipush 40, 2) := by decide +kernel
theorem dX8_init_130 : decode cX8_init 130 = .ok (.newarray .int, 2) := by decide +kernel
theorem dX8_init_132 : decode cX8_init 132 = .ok (.putfield 60, 3) := by decide +kernel
theorem dX8_init_135 : decode cX8_init 135 = .ok (.aload_n 0, 1) := by decide +kernel
theorem dX8_init_136 : decode cX8_init 136 = .ok (.bipush 40, 2) := by decide +kernel
theorem dX8_init_138 : decode cX8_init 138 = .ok (.newarray .int, 2) := by decide +kernel
theorem dX8_init_140 : decode cX8_init 140 = .ok (.putfield 63, 3) := by decide +kernel
theorem dX8_init_143 : decode cX8_init 143 = .ok (.aload_n 0, 1) := by decide +kernel
theorem dX8_init_144 : decode cX8_init 144 = .ok (.bipush 40, 2) := by decide +kernel
theorem dX8_init_146 : decode cX8_init 146 = .ok (.newarray .int, 2) := by decide +kernel
theorem dX8_init_148 : decode cX8_init 148 = .ok (.putfield 66, 3) := by decide +kernel
theorem dX8_init_151 : decode cX8_init 151 = .ok (.return_, 1) := by decide +kernel
theorem dX8_thrown_0 : decode cX8_thrown 0 = .ok (.aload_n 0, 1) := by decide +kernel
theorem dX8_thrown_1 : decode cX8_thrown 1 = .ok (.getfield 69, 3) := by decide +kernel
theorem dX8_thrown_4 : decode cX8_thrown 4 = .ok (.ireturn, 1) := by decide +kernel
theorem dX8_isIn_0 : decode cX8_isIn 0 = .ok (.iload_n 0, 1) := by decide +kernel
theorem dX8_isIn_1 : decode cX8_isIn 1 = .ok (.iload_n 1, 1) := by decide +kernel
theorem dX8_isIn_2 : decode cX8_isIn 2 = .ok (.if_icmp .lt 12, 3) := by decide +kernel
theorem dX8_isIn_5 : decode cX8_isIn 5 = .ok (.iload_n 0, 1) := by decide +kernel
theorem dX8_isIn_6 : decode cX8_isIn 6 = .ok (.iload_n 2, 1) := by decide +kernel
theorem dX8_isIn_7 : decode cX8_isIn 7 = .ok (.if_icmp .gt 7, 3) := by decide +kernel
theorem dX8_isIn_10 : decode cX8_isIn 10 = .ok (.iconst 1, 1) := by decide +kernel
theorem dX8_isIn_11 : decode cX8_isIn 11 = .ok (.goto 4, 3) := by decide +kernel
theorem dX8_isIn_14 : decode cX8_isIn 14 = .ok (.iconst 0, 1) := by decide +kernel
theorem dX8_isIn_15 : decode cX8_isIn 15 = .ok (.ireturn, 1) := by decide +kernel
theorem dX8_isLane_0 : decode cX8_isLane 0 = .ok (.iload_n 0, 1) := by decide +kernel
theorem dX8_isLane_1 : decode cX8_isLane 1 = .ok (.iconst 0, 1) := by decide +kernel
theorem dX8_isLane_2 : decode cX8_isLane 2 = .ok (.bipush 63, 2) := by decide +kernel
theorem dX8_isLane_4 : decode cX8_isLane 4 = .ok (.invokestatic 72, 3) := by decide +kernel
theorem dX8_isLane_7 : decode cX8_isLane 7 = .ok (.ireturn, 1) := by decide +kernel
theorem dX8_grain_0 : decode cX8_grain 0 = .ok (.iload_n 1, 1) := by decide +kernel
theorem dX8_grain_1 : decode cX8_grain 1 = .ok (.invokestatic 76, 3) := by decide +kernel
theorem dX8_grain_4 : decode cX8_grain 4 = .ok (.ifCond .eq 39, 3) := by decide +kernel
theorem dX8_grain_7 : decode cX8_grain 7 = .ok (.iload_n 2, 1) := by decide +kernel
theorem dX8_grain_8 : decode cX8_grain 8 = .ok (.iconst 0, 1) := by decide +kernel
theorem dX8_grain_9 : decode cX8_grain 9 = .ok (.ldc 80, 2) := by decide +kernel
theorem dX8_grain_11 : decode cX8_grain 11 = .ok (.invokestatic 72, 3) := by decide +kernel
theorem dX8_grain_14 : decode cX8_grain 14 = .ok (.ifCond .eq 29, 3) := by decide +kernel
theorem dX8_grain_17 : decode cX8_grain 17 = .ok (.iload_n 3, 1) := by decide +kernel
theorem dX8_grain_18 : decode cX8_grain 18 = .ok (.iconst 1, 1) := by decide +kernel
theorem dX8_grain_19 : decode cX8_grain 19 = .ok (.sipush 10000, 3) := by decide +kernel
theorem dX8_grain_22 : decode cX8_grain 22 = .ok (.invokestatic 72, 3) := by decide +kernel
theorem dX8_grain_25 : decode cX8_grain 25 = .ok (.ifCond .eq 18, 3) := by decide +kernel
theorem dX8_grain_28 : decode cX8_grain 28 = .ok (.iload 4, 2) := by decide +kernel
theorem dX8_grain_30 : decode cX8_grain 30 = .ok (.iconst 0, 1) := by decide +kernel
theorem dX8_grain_31 : decode cX8_grain 31 = .ok (.bipush 99, 2) := by decide +kernel
theorem dX8_grain_33 : decode cX8_grain 33 = .ok (.invokestatic 72, 3) := by decide +kernel
theorem dX8_grain_36 : decode cX8_grain 36 = .ok (.ifCond .eq 7, 3) := by decide +kernel
theorem dX8_grain_39 : decode cX8_grain 39 = .ok (.iconst 1, 1) := by decide +kernel
theorem dX8_grain_40 : decode cX8_grain 40 = .ok (.goto 4, 3) := by decide +kernel
theorem dX8_grain_43 : decode cX8_grain 43 = .ok (.iconst 0, 1) := by decide +kernel
theorem dX8_grain_44 : decode cX8_grain 44 = .ok (.istore 5, 2) := by decide +kernel
theorem dX8_grain_46 : decode cX8_grain 46 = .ok (.aload_n 0, 1) := by decide +kernel
theorem dX8_grain_47 : decode cX8_grain 47 = .ok (.iload 5, 2) := by decide +kernel
theorem dX8_grain_49 : decode cX8_grain 49 = .ok (.ifCond .ne 7, 3) := by decide +kernel
theorem dX8_grain_52 : decode cX8_grain 52 = .ok (.iconst 1, 1) := by decide +kernel
theorem dX8_grain_53 : decode cX8_grain 53 = .ok (.goto 17, 3) := by decide +kernel
theorem dX8_grain_56 : decode cX8_grain 56 = .ok (.aload_n 0, 1) := by decide +kernel
theorem dX8_grain_57 : decode cX8_grain 57 = .ok (.getfield 81, 3) := by decide +kernel
theorem dX8_grain_60 : decode cX8_grain 60 = .ok (.bipush 80, 2) := by decide +kernel
theorem dX8_grain_62 : decode cX8_grain 62 = .ok (.if_icmp .ne 7, 3) := by decide +kernel
theorem dX8_grain_65 : decode cX8_grain 65 = .ok (.iconst 2, 1) := by decide +kernel
theorem dX8_grain_66 : decode cX8_grain 66 = .ok (.goto 4, 3) := by decide +kernel
theorem dX8_grain_69 : decode cX8_grain 69 = .ok (.iconst 0, 1) := by decide +kernel
theorem dX8_grain_70 : decode cX8_grain 70 = .ok (.putfield 69, 3) := by decide +kernel
theorem dX8_grain_73 : decode cX8_grain 73 = .ok (.aload_n 0, 1) := by decide +kernel
theorem dX8_grain_74 : decode cX8_grain 74 = .ok (.getfield 69, 3) := by decide +kernel
theorem dX8_grain_77 : decode cX8_grain 77 = .ok (.ifCond .le 5, 3) := by decide +kernel
theorem dX8_grain_80 : decode cX8_grain 80 = .ok (.iconst 0, 1) := by decide +kernel
theorem dX8_grain_81 : decode cX8_grain 81 = .ok (.ireturn, 1) := by decide +kernel
theorem dX8_grain_82 : decode cX8_grain 82 = .ok (.aload_n 0, 1) := by decide +kernel
theorem dX8_grain_83 : decode cX8_grain 83 = .ok (.dup, 1) := by decide +kernel
theorem dX8_grain_84 : decode cX8_grain 84 = .ok (.getfield 84, 3) := by decide +kernel
theorem dX8_grain_87 : decode cX8_grain 87 = .ok (.iload_n 3, 1) := by decide +kernel
theorem dX8_grain_88 : decode cX8_grain 88 = .ok (.iadd, 1) := by decide +kernel
theorem dX8_grain_89 : decode cX8_grain 89 = .ok (.putfield 84, 3) := by decide +kernel
theorem dX8_grain_92 : decode cX8_grain 92 = .ok (.aload_n 0, 1) := by decide +kernel
theorem dX8_grain_93 : decode cX8_grain 93 = .ok (.dup, 1) := by decide +kernel
theorem dX8_grain_94 : decode cX8_grain 94 = .ok (.getfield 87, 3) := by decide +kernel
theorem dX8_grain_97 : decode cX8_grain 97 = .ok (.iload_n 3, 1) := by decide +kernel
theorem dX8_grain_98 : decode cX8_grain 98 = .ok (.i2l, 1) := by decide +kernel
theorem dX8_grain_99 : decode cX8_grain 99 = .ok (.iload_n 1, 1) := by decide +kernel
theorem dX8_grain_100 : decode cX8_grain 100 = .ok (.bipush 20, 2) := by decide +kernel
theorem dX8_grain_102 : decode cX8_grain 102 = .ok (.iadd, 1) := by decide +kernel
theorem dX8_grain_103 : decode cX8_grain 103 = .ok (.i2l, 1) := by decide +kernel
theorem dX8_grain_104 : decode cX8_grain 104 = .ok (.lmul, 1) := by decide +kernel
theorem dX8_grain_105 : decode cX8_grain 105 = .ok (.ladd, 1) := by decide +kernel
theorem dX8_grain_106 : decode cX8_grain 106 = .ok (.putfield 87, 3) := by decide +kernel
theorem dX8_grain_109 : decode cX8_grain 109 = .ok (.aload_n 0, 1) := by decide +kernel
theorem dX8_grain_110 : decode cX8_grain 110 = .ok (.iload_n 1, 1) := by decide +kernel
theorem dX8_grain_111 : decode cX8_grain 111 = .ok (.iload_n 2, 1) := by decide +kernel
theorem dX8_grain_112 : decode cX8_grain 112 = .ok (.iload_n 3, 1) := by decide +kernel
theorem dX8_grain_113 : decode cX8_grain 113 = .ok (.iload 4, 2) := by decide +kernel
theorem dX8_grain_115 : decode cX8_grain 115 = .ok (.iconst 0, 1) := by decide +kernel
theorem dX8_grain_116 : decode cX8_grain 116 = .ok (.invokevirtual 91, 3) := by decide +kernel
theorem dX8_grain_119 : decode cX8_grain 119 = .ok (.ireturn, 1) := by decide +kernel
theorem dX8_adds_0 : decode cX8_adds 0 = .ok (.aload_n 0, 1) := by decide +kernel
theorem dX8_adds_1 : decode cX8_adds 1 = .ok (.getfield 19, 3) := by decide +kernel
theorem dX8_adds_4 : decode cX8_adds 4 = .ok (.aload_n 0, 1) := by decide +kernel
theorem dX8_adds_5 : decode cX8_adds 5 = .ok (.getfield 81, 3) := by decide +kernel
theorem dX8_adds_8 : decode cX8_adds 8 = .ok (.iload_n 1, 1) := by decide +kernel
theorem dX8_adds_9 : decode cX8_adds 9 = .ok (.iastore, 1) := by decide +kernel
theorem dX8_adds_10 : decode cX8_adds 10 = .ok (.aload_n 0, 1) := by decide +kernel
theorem dX8_adds_11 : decode cX8_adds 11 = .ok (.getfield 23, 3) := by decide +kernel
theorem dX8_adds_14 : decode cX8_adds 14 = .ok (.aload_n 0, 1) := by decide +kernel
theorem dX8_adds_15 : decode cX8_adds 15 = .ok (.getfield 81, 3) := by decide +kernel
theorem dX8_adds_18 : decode cX8_adds 18 = .ok (.iload_n 2, 1) := by decide +kernel
theorem dX8_adds_19 : decode cX8_adds 19 = .ok (.iastore, 1) := by decide +kernel
theorem dX8_adds_20 : decode cX8_adds 20 = .ok (.aload_n 0, 1) := by decide +kernel
theorem dX8_adds_21 : decode cX8_adds 21 = .ok (.getfield 26, 3) := by decide +kernel
theorem dX8_adds_24 : decode cX8_adds 24 = .ok (.aload_n 0, 1) := by decide +kernel
theorem dX8_adds_25 : decode cX8_adds 25 = .ok (.getfield 81, 3) := by decide +kernel
theorem dX8_adds_28 : decode cX8_adds 28 = .ok (.iload_n 3, 1) := by decide +kernel
theorem dX8_adds_29 : decode cX8_adds 29 = .ok (.iastore, 1) := by decide +kernel
theorem dX8_adds_30 : decode cX8_adds 30 = .ok (.aload_n 0, 1) := by decide +kernel
theorem dX8_adds_31 : decode cX8_adds 31 = .ok (.getfield 29, 3) := by decide +kernel
theorem dX8_adds_34 : decode cX8_adds 34 = .ok (.aload_n 0, 1) := by decide +kernel
theorem dX8_adds_35 : decode cX8_adds 35 = .ok (.getfield 81, 3) := by decide +kernel
theorem dX8_adds_38 : decode cX8_adds 38 = .ok (.iload 4, 2) := by decide +kernel
theorem dX8_adds_40 : decode cX8_adds 40 = .ok (.iastore, 1) := by decide +kernel
theorem dX8_adds_41 : decode cX8_adds 41 = .ok (.aload_n 0, 1) := by decide +kernel
theorem dX8_adds_42 : decode cX8_adds 42 = .ok (.getfield 32, 3) := by decide +kernel
theorem dX8_adds_45 : decode cX8_adds 45 = .ok (.aload_n 0, 1) := by decide +kernel
theorem dX8_adds_46 : decode cX8_adds 46 = .ok (.getfield 81, 3) := by decide +kernel
theorem dX8_adds_49 : decode cX8_adds 49 = .ok (.iload 5, 2) := by decide +kernel
theorem dX8_adds_51 : decode cX8_adds 51 = .ok (.iastore, 1) := by decide +kernel
theorem dX8_adds_52 : decode cX8_adds 52 = .ok (.aload_n 0, 1) := by decide +kernel
theorem dX8_adds_53 : decode cX8_adds 53 = .ok (.getfield 35, 3) := by decide +kernel
theorem dX8_adds_56 : decode cX8_adds 56 = .ok (.aload_n 0, 1) := by decide +kernel
theorem dX8_adds_57 : decode cX8_adds 57 = .ok (.getfield 81, 3) := by decide +kernel
theorem dX8_adds_60 : decode cX8_adds 60 = .ok (.iconst 1, 1) := by decide +kernel
theorem dX8_adds_61 : decode cX8_adds 61 = .ok (.bastore, 1) := by decide +kernel
theorem dX8_adds_62 : decode cX8_adds 62 = .ok (.aload_n 0, 1) := by decide +kernel
theorem dX8_adds_63 : decode cX8_adds 63 = .ok (.dup, 1) := by decide +kernel
theorem dX8_adds_64 : decode cX8_adds 64 = .ok (.getfield 81, 3) := by decide +kernel
theorem dX8_adds_67 : decode cX8_adds 67 = .ok (.iconst 1, 1) := by decide +kernel
theorem dX8_adds_68 : decode cX8_adds 68 = .ok (.iadd, 1) := by decide +kernel
theorem dX8_adds_69 : decode cX8_adds 69 = .ok (.putfield 81, 3) := by decide +kernel
theorem dX8_adds_72 : decode cX8_adds 72 = .ok (.aload_n 0, 1) := by decide +kernel
theorem dX8_adds_73 : decode cX8_adds 73 = .ok (.getfield 81, 3) := by decide +kernel
theorem dX8_adds_76 : decode cX8_adds 76 = .ok (.iconst 1, 1) := by decide +kernel
theorem dX8_adds_77 : decode cX8_adds 77 = .ok (.isub, 1) := by decide +kernel
theorem dX8_adds_78 : decode cX8_adds 78 = .ok (.ireturn, 1) := by decide +kernel
theorem dX8_moon_0 : decode cX8_moon 0 = .ok (.iload_n 1, 1) := by decide +kernel
theorem dX8_moon_1 : decode cX8_moon 1 = .ok (.invokestatic 76, 3) := by decide +kernel
theorem dX8_moon_4 : decode cX8_moon 4 = .ok (.ifCond .eq 28, 3) := by decide +kernel
theorem dX8_moon_7 : decode cX8_moon 7 = .ok (.iload_n 2, 1) := by decide +kernel
theorem dX8_moon_8 : decode cX8_moon 8 = .ok (.iconst 0, 1) := by decide +kernel
theorem dX8_moon_9 : decode cX8_moon 9 = .ok (.ldc 80, 2) := by decide +kernel
theorem dX8_moon_11 : decode cX8_moon 11 = .ok (.invokestatic 72, 3) := by decide +kernel
theorem dX8_moon_14 : decode cX8_moon 14 = .ok (.ifCond .eq 18, 3) := by decide +kernel
theorem dX8_moon_17 : decode cX8_moon 17 = .ok (.iload_n 3, 1) := by decide +kernel
theorem dX8_moon_18 : decode cX8_moon 18 = .ok (.iconst 1, 1) := by decide +kernel
theorem dX8_moon_19 : decode cX8_moon 19 = .ok (.sipush 10000, 3) := by decide +kernel
theorem dX8_moon_22 : decode cX8_moon 22 = .ok (.invokestatic 72, 3) := by decide +kernel
theorem dX8_moon_25 : decode cX8_moon 25 = .ok (.ifCond .eq 7, 3) := by decide +kernel
theorem dX8_moon_28 : decode cX8_moon 28 = .ok (.iconst 1, 1) := by decide +kernel
theorem dX8_moon_29 : decode cX8_moon 29 = .ok (.goto 4, 3) := by decide +kernel
theorem dX8_moon_32 : decode cX8_moon 32 = .ok (.iconst 0, 1) := by decide +kernel
theorem dX8_moon_33 : decode cX8_moon 33 = .ok (.istore 4, 2) := by decide +kernel
theorem dX8_moon_35 : decode cX8_moon 35 = .ok (.aload_n 0, 1) := by decide +kernel
theorem dX8_moon_36 : decode cX8_moon 36 = .ok (.iload 4, 2) := by decide +kernel
theorem dX8_moon_38 : decode cX8_moon 38 = .ok (.ifCond .ne 7, 3) := by decide +kernel
theorem dX8_moon_41 : decode cX8_moon 41 = .ok (.iconst 1, 1) := by decide +kernel
theorem dX8_moon_42 : decode cX8_moon 42 = .ok (.goto 17, 3) := by decide +kernel
theorem dX8_moon_45 : decode cX8_moon 45 = .ok (.aload_n 0, 1) := by decide +kernel
theorem dX8_moon_46 : decode cX8_moon 46 = .ok (.getfield 95, 3) := by decide +kernel
theorem dX8_moon_49 : decode cX8_moon 49 = .ok (.bipush 6, 2) := by decide +kernel
theorem dX8_moon_51 : decode cX8_moon 51 = .ok (.if_icmp .ne 7, 3) := by decide +kernel
theorem dX8_moon_54 : decode cX8_moon 54 = .ok (.iconst 2, 1) := by decide +kernel
theorem dX8_moon_55 : decode cX8_moon 55 = .ok (.goto 4, 3) := by decide +kernel
theorem dX8_moon_58 : decode cX8_moon 58 = .ok (.iconst 0, 1) := by decide +kernel
theorem dX8_moon_59 : decode cX8_moon 59 = .ok (.putfield 69, 3) := by decide +kernel
theorem dX8_moon_62 : decode cX8_moon 62 = .ok (.aload_n 0, 1) := by decide +kernel
theorem dX8_moon_63 : decode cX8_moon 63 = .ok (.getfield 69, 3) := by decide +kernel
theorem dX8_moon_66 : decode cX8_moon 66 = .ok (.ifCond .le 5, 3) := by decide +kernel
theorem dX8_moon_69 : decode cX8_moon 69 = .ok (.iconst 0, 1) := by decide +kernel
theorem dX8_moon_70 : decode cX8_moon 70 = .ok (.ireturn, 1) := by decide +kernel
theorem dX8_moon_71 : decode cX8_moon 71 = .ok (.aload_n 0, 1) := by decide +kernel
theorem dX8_moon_72 : decode cX8_moon 72 = .ok (.getfield 42, 3) := by decide +kernel
theorem dX8_moon_75 : decode cX8_moon 75 = .ok (.aload_n 0, 1) := by decide +kernel
theorem dX8_moon_76 : decode cX8_moon 76 = .ok (.getfield 95, 3) := by decide +kernel
theorem dX8_moon_79 : decode cX8_moon 79 = .ok (.iload_n 1, 1) := by decide +kernel
theorem dX8_moon_80 : decode cX8_moon 80 = .ok (.iastore, 1) := by decide +kernel
theorem dX8_moon_81 : decode cX8_moon 81 = .ok (.aload_n 0, 1) := by decide +kernel
theorem dX8_moon_82 : decode cX8_moon 82 = .ok (.getfield 45, 3) := by decide +kernel
theorem dX8_moon_85 : decode cX8_moon 85 = .ok (.aload_n 0, 1) := by decide +kernel
theorem dX8_moon_86 : decode cX8_moon 86 = .ok (.getfield 95, 3) := by decide +kernel
theorem dX8_moon_89 : decode cX8_moon 89 = .ok (.iload_n 2, 1) := by decide +kernel
theorem dX8_moon_90 : decode cX8_moon 90 = .ok (.iastore, 1) := by decide +kernel
theorem dX8_moon_91 : decode cX8_moon 91 = .ok (.aload_n 0, 1) := by decide +kernel
theorem dX8_moon_92 : decode cX8_moon 92 = .ok (.getfield 48, 3) := by decide +kernel
theorem dX8_moon_95 : decode cX8_moon 95 = .ok (.aload_n 0, 1) := by decide +kernel
theorem dX8_moon_96 : decode cX8_moon 96 = .ok (.getfield 95, 3) := by decide +kernel
theorem dX8_moon_99 : decode cX8_moon 99 = .ok (.iload_n 3, 1) := by decide +kernel
theorem dX8_moon_100 : decode cX8_moon 100 = .ok (.iastore, 1) := by decide +kernel
theorem dX8_moon_101 : decode cX8_moon 101 = .ok (.aload_n 0, 1) := by decide +kernel
theorem dX8_moon_102 : decode cX8_moon 102 = .ok (.dup, 1) := by decide +kernel
theorem dX8_moon_103 : decode cX8_moon 103 = .ok (.getfield 95, 3) := by decide +kernel
theorem dX8_moon_106 : decode cX8_moon 106 = .ok (.iconst 1, 1) := by decide +kernel
theorem dX8_moon_107 : decode cX8_moon 107 = .ok (.iadd, 1) := by decide +kernel
theorem dX8_moon_108 : decode cX8_moon 108 = .ok (.putfield 95, 3) := by decide +kernel
theorem dX8_moon_111 : decode cX8_moon 111 = .ok (.aload_n 0, 1) := by decide +kernel
theorem dX8_moon_112 : decode cX8_moon 112 = .ok (.getfield 95, 3) := by decide +kernel
theorem dX8_moon_115 : decode cX8_moon 115 = .ok (.iconst 1, 1) := by decide +kernel
theorem dX8_moon_116 : decode cX8_moon 116 = .ok (.isub, 1) := by decide +kernel
theorem dX8_moon_117 : decode cX8_moon 117 = .ok (.ireturn, 1) := by decide +kernel
theorem dX8_flatness_0 : decode cX8_flatness 0 = .ok (.aload_n 0, 1) := by decide +kernel
theorem dX8_flatness_1 : decode cX8_flatness 1 = .ok (.iload_n 1, 1) := by decide +kernel
theorem dX8_flatness_2 : decode cX8_flatness 2 = .ok (.iconst 0, 1) := by decide +kernel
theorem dX8_flatness_3 : decode cX8_flatness 3 = .ok (.sipush 1000, 3) := by decide +kernel
theorem dX8_flatness_6 : decode cX8_flatness 6 = .ok (.invokestatic 72, 3) := by decide +kernel
theorem dX8_flatness_9 : decode cX8_flatness 9 = .ok (.ifCond .eq 7, 3) := by decide +kernel
theorem dX8_flatness_12 : decode cX8_flatness 12 = .ok (.iconst 0, 1) := by decide +kernel
theorem dX8_flatness_13 : decode cX8_flatness 13 = .ok (.goto 4, 3) := by decide +kernel
theorem dX8_flatness_16 : decode cX8_flatness 16 = .ok (.iconst 1, 1) := by decide +kernel
theorem dX8_flatness_17 : decode cX8_flatness 17 = .ok (.putfield 69, 3) := by decide +kernel
theorem dX8_flatness_20 : decode cX8_flatness 20 = .ok (.aload_n 0, 1) := by decide +kernel
theorem dX8_flatness_21 : decode cX8_flatness 21 = .ok (.getfield 69, 3) := by decide +kernel
theorem dX8_flatness_24 : decode cX8_flatness 24 = .ok (.ifCond .le 5, 3) := by decide +kernel
theorem dX8_flatness_27 : decode cX8_flatness 27 = .ok (.iconst 0, 1) := by decide +kernel
theorem dX8_flatness_28 : decode cX8_flatness 28 = .ok (.ireturn, 1) := by decide +kernel
theorem dX8_flatness_29 : decode cX8_flatness 29 = .ok (.aload_n 0, 1) := by decide +kernel
theorem dX8_flatness_30 : decode cX8_flatness 30 = .ok (.getfield 98, 3) := by decide +kernel
theorem dX8_flatness_33 : decode cX8_flatness 33 = .ok (.istore_n 2, 1) := by decide +kernel
theorem dX8_flatness_34 : decode cX8_flatness 34 = .ok (.aload_n 0, 1) := by decide +kernel
theorem dX8_flatness_35 : decode cX8_flatness 35 = .ok (.iload_n 1, 1) := by decide +kernel
theorem dX8_flatness_36 : decode cX8_flatness 36 = .ok (.putfield 98, 3) := by decide +kernel
theorem dX8_flatness_39 : decode cX8_flatness 39 = .ok (.iload_n 2, 1) := by decide +kernel
theorem dX8_flatness_40 : decode cX8_flatness 40 = .ok (.ireturn, 1) := by decide +kernel
theorem dX8_bounds_0 : decode cX8_bounds 0 = .ok (.aload_n 0, 1) := by decide +kernel
theorem dX8_bounds_1 : decode cX8_bounds 1 = .ok (.iload_n 1, 1) := by decide +kernel
theorem dX8_bounds_2 : decode cX8_bounds 2 = .ok (.iconst 0, 1) := by decide +kernel
theorem dX8_bounds_3 : decode cX8_bounds 3 = .ok (.sipush 1000, 3) := by decide +kernel
theorem dX8_bounds_6 : decode cX8_bounds 6 = .ok (.invokestatic 72, 3) := by decide +kernel
theorem dX8_bounds_9 : decode cX8_bounds 9 = .ok (.ifCond .eq 28, 3) := by decide +kernel
theorem dX8_bounds_12 : decode cX8_bounds 12 = .ok (.iload_n 2, 1) := by decide +kernel
theorem dX8_bounds_13 : decode cX8_bounds 13 = .ok (.iload_n 1, 1) := by decide +kernel
theorem dX8_bounds_14 : decode cX8_bounds 14 = .ok (.sipush 5000, 3) := by decide +kernel
theorem dX8_bounds_17 : decode cX8_bounds 17 = .ok (.invokestatic 72, 3) := by decide +kernel
theorem dX8_bounds_20 : decode cX8_bounds 20 = .ok (.ifCond .eq 17, 3) := by decide +kernel
theorem dX8_bounds_23 : decode cX8_bounds 23 = .ok (.iload_n 3, 1) := by decide +kernel
theorem dX8_bounds_24 : decode cX8_bounds 24 = .ok (.iconst 0, 1) := by decide +kernel
theorem dX8_bounds_25 : decode cX8_bounds 25 = .ok (.bipush 100, 2) := by decide +kernel
theorem dX8_bounds_27 : decode cX8_bounds 27 = .ok (.invokestatic 72, 3) := by decide +kernel
theorem dX8_bounds_30 : decode cX8_bounds 30 = .ok (.ifCond .eq 7, 3) := by decide +kernel
theorem dX8_bounds_33 : decode cX8_bounds 33 = .ok (.iconst 0, 1) := by decide +kernel
theorem dX8_bounds_34 : decode cX8_bounds 34 = .ok (.goto 4, 3) := by decide +kernel
theorem dX8_bounds_37 : decode cX8_bounds 37 = .ok (.iconst 1, 1) := by decide +kernel
theorem dX8_bounds_38 : decode cX8_bounds 38 = .ok (.putfield 69, 3) := by decide +kernel
theorem dX8_bounds_41 : decode cX8_bounds 41 = .ok (.aload_n 0, 1) := by decide +kernel
theorem dX8_bounds_42 : decode cX8_bounds 42 = .ok (.getfield 69, 3) := by decide +kernel
theorem dX8_bounds_45 : decode cX8_bounds 45 = .ok (.ifCond .ne 18, 3) := by decide +kernel
theorem dX8_bounds_48 : decode cX8_bounds 48 = .ok (.aload_n 0, 1) := by decide +kernel
theorem dX8_bounds_49 : decode cX8_bounds 49 = .ok (.iload_n 1, 1) := by decide +kernel
theorem dX8_bounds_50 : decode cX8_bounds 50 = .ok (.putfield 7, 3) := by decide +kernel
theorem dX8_bounds_53 : decode cX8_bounds 53 = .ok (.aload_n 0, 1) := by decide +kernel
theorem dX8_bounds_54 : decode cX8_bounds 54 = .ok (.iload_n 2, 1) := by decide +kernel
theorem dX8_bounds_55 : decode cX8_bounds 55 = .ok (.putfield 13, 3) := by decide +kernel
theorem dX8_bounds_58 : decode cX8_bounds 58 = .ok (.aload_n 0, 1) := by decide +kernel
theorem dX8_bounds_59 : decode cX8_bounds 59 = .ok (.iload_n 3, 1) := by decide +kernel
theorem dX8_bounds_60 : decode cX8_bounds 60 = .ok (.putfield 16, 3) := by decide +kernel
theorem dX8_bounds_63 : decode cX8_bounds 63 = .ok (.return_, 1) := by decide +kernel
theorem dX8_speedOf_0 : decode cX8_speedOf 0 = .ok (.iload_n 1, 1) := by decide +kernel
theorem dX8_speedOf_1 : decode cX8_speedOf 1 = .ok (.bipush 20, 2) := by decide +kernel
theorem dX8_speedOf_3 : decode cX8_speedOf 3 = .ok (.iadd, 1) := by decide +kernel
theorem dX8_speedOf_4 : decode cX8_speedOf 4 = .ok (.istore_n 2, 1) := by decide +kernel
theorem dX8_speedOf_5 : decode cX8_speedOf 5 = .ok (.ldc 101, 2) := by decide +kernel
theorem dX8_speedOf_7 : decode cX8_speedOf 7 = .ok (.iload_n 2, 1) := by decide +kernel
theorem dX8_speedOf_8 : decode cX8_speedOf 8 = .ok (.idiv, 1) := by decide +kernel
theorem dX8_speedOf_9 : decode cX8_speedOf 9 = .ok (.bipush 100, 2) := by decide +kernel
theorem dX8_speedOf_11 : decode cX8_speedOf 11 = .ok (.aload_n 0, 1) := by decide +kernel
theorem dX8_speedOf_12 : decode cX8_speedOf 12 = .ok (.getfield 98, 3) := by decide +kernel
theorem dX8_speedOf_15 : decode cX8_speedOf 15 = .ok (.imul, 1) := by decide +kernel
theorem dX8_speedOf_16 : decode cX8_speedOf 16 = .ok (.iload_n 2, 1) := by decide +kernel
theorem dX8_speedOf_17 : decode cX8_speedOf 17 = .ok (.iload_n 2, 1) := by decide +kernel
theorem dX8_speedOf_18 : decode cX8_speedOf 18 = .ok (.imul, 1) := by decide +kernel
theorem dX8_speedOf_19 : decode cX8_speedOf 19 = .ok (.idiv, 1) := by decide +kernel
theorem dX8_speedOf_20 : decode cX8_speedOf 20 = .ok (.iadd, 1) := by decide +kernel
theorem dX8_speedOf_21 : decode cX8_speedOf 21 = .ok (.ireturn, 1) := by decide +kernel
theorem dX8_size_0 : decode cX8_size 0 = .ok (.iload_n 0, 1) := by decide +kernel
theorem dX8_size_1 : decode cX8_size 1 = .ok (.ifCond .ge 8, 3) := by decide +kernel
theorem dX8_size_4 : decode cX8_size 4 = .ok (.iload_n 0, 1) := by decide +kernel
theorem dX8_size_5 : decode cX8_size 5 = .ok (.ineg, 1) := by decide +kernel
theorem dX8_size_6 : decode cX8_size 6 = .ok (.goto 4, 3) := by decide +kernel
theorem dX8_size_9 : decode cX8_size 9 = .ok (.iload_n 0, 1) := by decide +kernel
theorem dX8_size_10 : decode cX8_size 10 = .ok (.ireturn, 1) := by decide +kernel
theorem dX8_apart_0 : decode cX8_apart 0 = .ok (.iload_n 0, 1) := by decide +kernel
theorem dX8_apart_1 : decode cX8_apart 1 = .ok (.iload_n 1, 1) := by decide +kernel
theorem dX8_apart_2 : decode cX8_apart 2 = .ok (.isub, 1) := by decide +kernel
theorem dX8_apart_3 : decode cX8_apart 3 = .ok (.invokestatic 102, 3) := by decide +kernel
theorem dX8_apart_6 : decode cX8_apart 6 = .ok (.istore_n 2, 1) := by decide +kernel
theorem dX8_apart_7 : decode cX8_apart 7 = .ok (.iload_n 2, 1) := by decide +kernel
theorem dX8_apart_8 : decode cX8_apart 8 = .ok (.ldc 101, 2) := by decide +kernel
theorem dX8_apart_10 : decode cX8_apart 10 = .ok (.iload_n 2, 1) := by decide +kernel
theorem dX8_apart_11 : decode cX8_apart 11 = .ok (.isub, 1) := by decide +kernel
theorem dX8_apart_12 : decode cX8_apart 12 = .ok (.if_icmp .le 10, 3) := by decide +kernel
theorem dX8_apart_15 : decode cX8_apart 15 = .ok (.ldc 101, 2) := by decide +kernel
theorem dX8_apart_17 : decode cX8_apart 17 = .ok (.iload_n 2, 1) := by decide +kernel
theorem dX8_apart_18 : decode cX8_apart 18 = .ok (.isub, 1) := by decide +kernel
theorem dX8_apart_19 : decode cX8_apart 19 = .ok (.goto 4, 3) := by decide +kernel
theorem dX8_apart_22 : decode cX8_apart 22 = .ok (.iload_n 2, 1) := by decide +kernel
theorem dX8_apart_23 : decode cX8_apart 23 = .ok (.ireturn, 1) := by decide +kernel
theorem dX8_momentumOf_0 : decode cX8_momentumOf 0 = .ok (.aload_n 0, 1) := by decide +kernel
theorem dX8_momentumOf_1 : decode cX8_momentumOf 1 = .ok (.getfield 26, 3) := by decide +kernel
theorem dX8_momentumOf_4 : decode cX8_momentumOf 4 = .ok (.iload_n 1, 1) := by decide +kernel
theorem dX8_momentumOf_5 : decode cX8_momentumOf 5 = .ok (.iaload, 1) := by decide +kernel
theorem dX8_momentumOf_6 : decode cX8_momentumOf 6 = .ok (.i2l, 1) := by decide +kernel
theorem dX8_momentumOf_7 : decode cX8_momentumOf 7 = .ok (.aload_n 0, 1) := by decide +kernel
theorem dX8_momentumOf_8 : decode cX8_momentumOf 8 = .ok (.getfield 19, 3) := by decide +kernel
theorem dX8_momentumOf_11 : decode cX8_momentumOf 11 = .ok (.iload_n 1, 1) := by decide +kernel
theorem dX8_momentumOf_12 : decode cX8_momentumOf 12 = .ok (.iaload, 1) := by decide +kernel
theorem dX8_momentumOf_13 : decode cX8_momentumOf 13 = .ok (.bipush 20, 2) := by decide +kernel
theorem dX8_momentumOf_15 : decode cX8_momentumOf 15 = .ok (.iadd, 1) := by decide +kernel
theorem dX8_momentumOf_16 : decode cX8_momentumOf 16 = .ok (.i2l, 1) := by decide +kernel
theorem dX8_momentumOf_17 : decode cX8_momentumOf 17 = .ok (.lmul, 1) := by decide +kernel
theorem dX8_momentumOf_18 : decode cX8_momentumOf 18 = .ok (.lreturn, 1) := by decide +kernel
theorem dX8_goes_0 : decode cX8_goes 0 = .ok (.aload_n 0, 1) := by decide +kernel
theorem dX8_goes_1 : decode cX8_goes 1 = .ok (.getfield 19, 3) := by decide +kernel
theorem dX8_goes_4 : decode cX8_goes 4 = .ok (.iload_n 1, 1) := by decide +kernel
theorem dX8_goes_5 : decode cX8_goes 5 = .ok (.iload_n 2, 1) := by decide +kernel
theorem dX8_goes_6 : decode cX8_goes 6 = .ok (.iastore, 1) := by decide +kernel
theorem dX8_goes_7 : decode cX8_goes 7 = .ok (.iload_n 2, 1) := by decide +kernel
theorem dX8_goes_8 : decode cX8_goes 8 = .ok (.ifCond .ge 38, 3) := by decide +kernel
theorem dX8_goes_11 : decode cX8_goes 11 = .ok (.aload_n 0, 1) := by decide +kernel
theorem dX8_goes_12 : decode cX8_goes 12 = .ok (.getfield 35, 3) := by decide +kernel
theorem dX8_goes_15 : decode cX8_goes 15 = .ok (.iload_n 1, 1) := by decide +kernel
theorem dX8_goes_16 : decode cX8_goes 16 = .ok (.iconst 0, 1) := by decide +kernel
theorem dX8_goes_17 : decode cX8_goes 17 = .ok (.bastore, 1) := by decide +kernel
theorem dX8_goes_18 : decode cX8_goes 18 = .ok (.aload_n 0, 1) := by decide +kernel
theorem dX8_goes_19 : decode cX8_goes 19 = .ok (.dup, 1) := by decide +kernel
theorem dX8_goes_20 : decode cX8_goes 20 = .ok (.getfield 106, 3) := by decide +kernel
theorem dX8_goes_23 : decode cX8_goes 23 = .ok (.iconst 1, 1) := by decide +kernel
theorem dX8_goes_24 : decode cX8_goes 24 = .ok (.iadd, 1) := by decide +kernel
theorem dX8_goes_25 : decode cX8_goes 25 = .ok (.putfield 106, 3) := by decide +kernel
theorem dX8_goes_28 : decode cX8_goes 28 = .ok (.aload_n 0, 1) := by decide +kernel
theorem dX8_goes_29 : decode cX8_goes 29 = .ok (.dup, 1) := by decide +kernel
theorem dX8_goes_30 : decode cX8_goes 30 = .ok (.getfield 109, 3) := by decide +kernel
theorem dX8_goes_33 : decode cX8_goes 33 = .ok (.aload_n 0, 1) := by decide +kernel
theorem dX8_goes_34 : decode cX8_goes 34 = .ok (.getfield 26, 3) := by decide +kernel
theorem dX8_goes_37 : decode cX8_goes 37 = .ok (.iload_n 1, 1) := by decide +kernel
theorem dX8_goes_38 : decode cX8_goes 38 = .ok (.iaload, 1) := by decide +kernel
theorem dX8_goes_39 : decode cX8_goes 39 = .ok (.iadd, 1) := by decide +kernel
theorem dX8_goes_40 : decode cX8_goes 40 = .ok (.putfield 109, 3) := by decide +kernel
theorem dX8_goes_43 : decode cX8_goes 43 = .ok (.goto 41, 3) := by decide +kernel
theorem dX8_goes_46 : decode cX8_goes 46 = .ok (.iload_n 2, 1) := by decide +kernel
theorem dX8_goes_47 : decode cX8_goes 47 = .ok (.bipush 64, 2) := by decide +kernel
theorem dX8_goes_49 : decode cX8_goes 49 = .ok (.if_icmp .lt 35, 3) := by decide +kernel
theorem dX8_goes_52 : decode cX8_goes 52 = .ok (.aload_n 0, 1) := by decide +kernel
theorem dX8_goes_53 : decode cX8_goes 53 = .ok (.getfield 35, 3) := by decide +kernel
theorem dX8_goes_56 : decode cX8_goes 56 = .ok (.iload_n 1, 1) := by decide +kernel
theorem dX8_goes_57 : decode cX8_goes 57 = .ok (.iconst 0, 1) := by decide +kernel
theorem dX8_goes_58 : decode cX8_goes 58 = .ok (.bastore, 1) := by decide +kernel
theorem dX8_goes_59 : decode cX8_goes 59 = .ok (.aload_n 0, 1) := by decide +kernel
theorem dX8_goes_60 : decode cX8_goes 60 = .ok (.dup, 1) := by decide +kernel
theorem dX8_goes_61 : decode cX8_goes 61 = .ok (.getfield 112, 3) := by decide +kernel
theorem dX8_goes_64 : decode cX8_goes 64 = .ok (.iconst 1, 1) := by decide +kernel
theorem dX8_goes_65 : decode cX8_goes 65 = .ok (.iadd, 1) := by decide +kernel
theorem dX8_goes_66 : decode cX8_goes 66 = .ok (.putfield 112, 3) := by decide +kernel
theorem dX8_goes_69 : decode cX8_goes 69 = .ok (.aload_n 0, 1) := by decide +kernel
theorem dX8_goes_70 : decode cX8_goes 70 = .ok (.dup, 1) := by decide +kernel
theorem dX8_goes_71 : decode cX8_goes 71 = .ok (.getfield 115, 3) := by decide +kernel
theorem dX8_goes_74 : decode cX8_goes 74 = .ok (.aload_n 0, 1) := by decide +kernel
theorem dX8_goes_75 : decode cX8_goes 75 = .ok (.getfield 26, 3) := by decide +kernel
theorem dX8_goes_78 : decode cX8_goes 78 = .ok (.iload_n 1, 1) := by decide +kernel
theorem dX8_goes_79 : decode cX8_goes 79 = .ok (.iaload, 1) := by decide +kernel
theorem dX8_goes_80 : decode cX8_goes 80 = .ok (.iadd, 1) := by decide +kernel
theorem dX8_goes_81 : decode cX8_goes 81 = .ok (.putfield 115, 3) := by decide +kernel
theorem dX8_goes_84 : decode cX8_goes 84 = .ok (.return_, 1) := by decide +kernel
theorem dX8_widthOf_0 : decode cX8_widthOf 0 = .ok (.iconst 0, 1) := by decide +kernel
theorem dX8_widthOf_1 : decode cX8_widthOf 1 = .ok (.istore_n 1, 1) := by decide +kernel
theorem dX8_widthOf_2 : decode cX8_widthOf 2 = .ok (.iload_n 1, 1) := by decide +kernel
theorem dX8_widthOf_3 : decode cX8_widthOf 3 = .ok (.iconst 1, 1) := by decide +kernel
theorem dX8_widthOf_4 : decode cX8_widthOf 4 = .ok (.iadd, 1) := by decide +kernel
theorem dX8_widthOf_5 : decode cX8_widthOf 5 = .ok (.iload_n 1, 1) := by decide +kernel
theorem dX8_widthOf_6 : decode cX8_widthOf 6 = .ok (.iconst 1, 1) := by decide +kernel
theorem dX8_widthOf_7 : decode cX8_widthOf 7 = .ok (.iadd, 1) := by decide +kernel
theorem dX8_widthOf_8 : decode cX8_widthOf 8 = .ok (.imul, 1) := by decide +kernel
theorem dX8_widthOf_9 : decode cX8_widthOf 9 = .ok (.iload_n 0, 1) := by decide +kernel
theorem dX8_widthOf_10 : decode cX8_widthOf 10 = .ok (.if_icmp .gt 9, 3) := by decide +kernel
theorem dX8_widthOf_13 : decode cX8_widthOf 13 = .ok (.iinc 1 1, 3) := by decide +kernel
theorem dX8_widthOf_16 : decode cX8_widthOf 16 = .ok (.goto (-14), 3) := by decide +kernel
theorem dX8_widthOf_19 : decode cX8_widthOf 19 = .ok (.iload_n 1, 1) := by decide +kernel
theorem dX8_widthOf_20 : decode cX8_widthOf 20 = .ok (.bipush 20, 2) := by decide +kernel
theorem dX8_widthOf_22 : decode cX8_widthOf 22 = .ok (.idiv, 1) := by decide +kernel
theorem dX8_widthOf_23 : decode cX8_widthOf 23 = .ok (.ireturn, 1) := by decide +kernel
theorem dX8_pushes_0 : decode cX8_pushes 0 = .ok (.aload_n 0, 1) := by decide +kernel
theorem dX8_pushes_1 : decode cX8_pushes 1 = .ok (.getfield 48, 3) := by decide +kernel
theorem dX8_pushes_4 : decode cX8_pushes 4 = .ok (.iload_n 1, 1) := by decide +kernel
theorem dX8_pushes_5 : decode cX8_pushes 5 = .ok (.iaload, 1) := by decide +kernel
theorem dX8_pushes_6 : decode cX8_pushes 6 = .ok (.invokestatic 118, 3) := by decide +kernel
theorem dX8_pushes_9 : decode cX8_pushes 9 = .ok (.istore_n 2, 1) := by decide +kernel
theorem dX8_pushes_10 : decode cX8_pushes 10 = .ok (.iconst 0, 1) := by decide +kernel
theorem dX8_pushes_11 : decode cX8_pushes 11 = .ok (.istore_n 3, 1) := by decide +kernel
theorem dX8_pushes_12 : decode cX8_pushes 12 = .ok (.iload_n 3, 1) := by decide +kernel
theorem dX8_pushes_13 : decode cX8_pushes 13 = .ok (.aload_n 0, 1) := by decide +kernel
theorem dX8_pushes_14 : decode cX8_pushes 14 = .ok (.getfield 81, 3) := by decide +kernel
theorem dX8_pushes_17 : decode cX8_pushes 17 = .ok (.if_icmp .ge 148, 3) := by decide +kernel
theorem dX8_pushes_20 : decode cX8_pushes 20 = .ok (.aload_n 0, 1) := by decide +kernel
theorem dX8_pushes_21 : decode cX8_pushes 21 = .ok (.getfield 19, 3) := by decide +kernel
theorem dX8_pushes_24 : decode cX8_pushes 24 = .ok (.iload_n 3, 1) := by decide +kernel
theorem dX8_pushes_25 : decode cX8_pushes 25 = .ok (.iaload, 1) := by decide +kernel
theorem dX8_pushes_26 : decode cX8_pushes 26 = .ok (.aload_n 0, 1) := by decide +kernel
theorem dX8_pushes_27 : decode cX8_pushes 27 = .ok (.getfield 42, 3) := by decide +kernel
theorem dX8_pushes_30 : decode cX8_pushes 30 = .ok (.iload_n 1, 1) := by decide +kernel
theorem dX8_pushes_31 : decode cX8_pushes 31 = .ok (.iaload, 1) := by decide +kernel
theorem dX8_pushes_32 : decode cX8_pushes 32 = .ok (.isub, 1) := by decide +kernel
theorem dX8_pushes_33 : decode cX8_pushes 33 = .ok (.istore 4, 2) := by decide +kernel
theorem dX8_pushes_35 : decode cX8_pushes 35 = .ok (.aload_n 0, 1) := by decide +kernel
theorem dX8_pushes_36 : decode cX8_pushes 36 = .ok (.getfield 35, 3) := by decide +kernel
theorem dX8_pushes_39 : decode cX8_pushes 39 = .ok (.iload_n 3, 1) := by decide +kernel
theorem dX8_pushes_40 : decode cX8_pushes 40 = .ok (.baload, 1) := by decide +kernel
theorem dX8_pushes_41 : decode cX8_pushes 41 = .ok (.ifCond .eq 118, 3) := by decide +kernel
theorem dX8_pushes_44 : decode cX8_pushes 44 = .ok (.iload 4, 2) := by decide +kernel
theorem dX8_pushes_46 : decode cX8_pushes 46 = .ok (.invokestatic 102, 3) := by decide +kernel
theorem dX8_pushes_49 : decode cX8_pushes 49 = .ok (.iload_n 2, 1) := by decide +kernel
theorem dX8_pushes_50 : decode cX8_pushes 50 = .ok (.if_icmp .gt 109, 3) := by decide +kernel
theorem dX8_pushes_53 : decode cX8_pushes 53 = .ok (.aload_n 0, 1) := by decide +kernel
theorem dX8_pushes_54 : decode cX8_pushes 54 = .ok (.getfield 23, 3) := by decide +kernel
theorem dX8_pushes_57 : decode cX8_pushes 57 = .ok (.iload_n 3, 1) := by decide +kernel
theorem dX8_pushes_58 : decode cX8_pushes 58 = .ok (.iaload, 1) := by decide +kernel
theorem dX8_pushes_59 : decode cX8_pushes 59 = .ok (.aload_n 0, 1) := by decide +kernel
theorem dX8_pushes_60 : decode cX8_pushes 60 = .ok (.getfield 45, 3) := by decide +kernel
theorem dX8_pushes_63 : decode cX8_pushes 63 = .ok (.iload_n 1, 1) := by decide +kernel
theorem dX8_pushes_64 : decode cX8_pushes 64 = .ok (.iaload, 1) := by decide +kernel
theorem dX8_pushes_65 : decode cX8_pushes 65 = .ok (.invokestatic 121, 3) := by decide +kernel
theorem dX8_pushes_68 : decode cX8_pushes 68 = .ok (.sipush 1000, 3) := by decide +kernel
theorem dX8_pushes_71 : decode cX8_pushes 71 = .ok (.if_icmp .gt 88, 3) := by decide +kernel
theorem dX8_pushes_74 : decode cX8_pushes 74 = .ok (.aload_n 0, 1) := by decide +kernel
theorem dX8_pushes_75 : decode cX8_pushes 75 = .ok (.iload_n 3, 1) := by decide +kernel
theorem dX8_pushes_76 : decode cX8_pushes 76 = .ok (.invokevirtual 125, 3) := by decide +kernel
theorem dX8_pushes_79 : decode cX8_pushes 79 = .ok (.lstore 5, 2) := by decide +kernel
theorem dX8_pushes_81 : decode cX8_pushes 81 = .ok (.aload_n 0, 1) := by decide +kernel
theorem dX8_pushes_82 : decode cX8_pushes 82 = .ok (.iload_n 3, 1) := by decide +kernel
theorem dX8_pushes_83 : decode cX8_pushes 83 = .ok (.iload 4, 2) := by decide +kernel
theorem dX8_pushes_85 : decode cX8_pushes 85 = .ok (.ifCond .lt 14, 3) := by decide +kernel
theorem dX8_pushes_88 : decode cX8_pushes 88 = .ok (.aload_n 0, 1) := by decide +kernel
theorem dX8_pushes_89 : decode cX8_pushes 89 = .ok (.getfield 19, 3) := by decide +kernel
theorem dX8_pushes_92 : decode cX8_pushes 92 = .ok (.iload_n 3, 1) := by decide +kernel
theorem dX8_pushes_93 : decode cX8_pushes 93 = .ok (.iaload, 1) := by decide +kernel
theorem dX8_pushes_94 : decode cX8_pushes 94 = .ok (.iconst 1, 1) := by decide +kernel
theorem dX8_pushes_95 : decode cX8_pushes 95 = .ok (.iadd, 1) := by decide +kernel
theorem dX8_pushes_96 : decode cX8_pushes 96 = .ok (.goto 11, 3) := by decide +kernel
theorem dX8_pushes_99 : decode cX8_pushes 99 = .ok (.aload_n 0, 1) := by decide +kernel
theorem dX8_pushes_100 : decode cX8_pushes 100 = .ok (.getfield 19, 3) := by decide +kernel
theorem dX8_pushes_103 : decode cX8_pushes 103 = .ok (.iload_n 3, 1) := by decide +kernel
theorem dX8_pushes_104 : decode cX8_pushes 104 = .ok (.iaload, 1) := by decide +kernel
theorem dX8_pushes_105 : decode cX8_pushes 105 = .ok (.iconst 1, 1) := by decide +kernel
theorem dX8_pushes_106 : decode cX8_pushes 106 = .ok (.isub, 1) := by decide +kernel
theorem dX8_pushes_107 : decode cX8_pushes 107 = .ok (.invokevirtual 129, 3) := by decide +kernel
theorem dX8_pushes_110 : decode cX8_pushes 110 = .ok (.aload_n 0, 1) := by decide +kernel
theorem dX8_pushes_111 : decode cX8_pushes 111 = .ok (.getfield 29, 3) := by decide +kernel
theorem dX8_pushes_114 : decode cX8_pushes 114 = .ok (.iload_n 3, 1) := by decide +kernel
theorem dX8_pushes_115 : decode cX8_pushes 115 = .ok (.aload_n 0, 1) := by decide +kernel
theorem dX8_pushes_116 : decode cX8_pushes 116 = .ok (.getfield 29, 3) := by decide +kernel
theorem dX8_pushes_119 : decode cX8_pushes 119 = .ok (.iload_n 3, 1) := by decide +kernel
theorem dX8_pushes_120 : decode cX8_pushes 120 = .ok (.iaload, 1) := by decide +kernel
theorem dX8_pushes_121 : decode cX8_pushes 121 = .ok (.iconst 5, 1) := by decide +kernel
theorem dX8_pushes_122 : decode cX8_pushes 122 = .ok (.iadd, 1) := by decide +kernel
theorem dX8_pushes_123 : decode cX8_pushes 123 = .ok (.bipush 99, 2) := by decide +kernel
theorem dX8_pushes_125 : decode cX8_pushes 125 = .ok (.if_icmp .le 8, 3) := by decide +kernel
theorem dX8_pushes_128 : decode cX8_pushes 128 = .ok (.bipush 99, 2) := by decide +kernel
theorem dX8_pushes_130 : decode cX8_pushes 130 = .ok (.goto 11, 3) := by decide +kernel
theorem dX8_pushes_133 : decode cX8_pushes 133 = .ok (.aload_n 0, 1) := by decide +kernel
theorem dX8_pushes_134 : decode cX8_pushes 134 = .ok (.getfield 29, 3) := by decide +kernel
theorem dX8_pushes_137 : decode cX8_pushes 137 = .ok (.iload_n 3, 1) := by decide +kernel
theorem dX8_pushes_138 : decode cX8_pushes 138 = .ok (.iaload, 1) := by decide +kernel
theorem dX8_pushes_139 : decode cX8_pushes 139 = .ok (.iconst 5, 1) := by decide +kernel
theorem dX8_pushes_140 : decode cX8_pushes 140 = .ok (.iadd, 1) := by decide +kernel
theorem dX8_pushes_141 : decode cX8_pushes 141 = .ok (.iastore, 1) := by decide +kernel
theorem dX8_pushes_142 : decode cX8_pushes 142 = .ok (.aload_n 0, 1) := by decide +kernel
theorem dX8_pushes_143 : decode cX8_pushes 143 = .ok (.dup, 1) := by decide +kernel
theorem dX8_pushes_144 : decode cX8_pushes 144 = .ok (.getfield 133, 3) := by decide +kernel
theorem dX8_pushes_147 : decode cX8_pushes 147 = .ok (.aload_n 0, 1) := by decide +kernel
theorem dX8_pushes_148 : decode cX8_pushes 148 = .ok (.iload_n 3, 1) := by decide +kernel
theorem dX8_pushes_149 : decode cX8_pushes 149 = .ok (.invokevirtual 125, 3) := by decide +kernel
theorem dX8_pushes_152 : decode cX8_pushes 152 = .ok (.lload 5, 2) := by decide +kernel
theorem dX8_pushes_154 : decode cX8_pushes 154 = .ok (.lsub, 1) := by decide +kernel
theorem dX8_pushes_155 : decode cX8_pushes 155 = .ok (.ladd, 1) := by decide +kernel
theorem dX8_pushes_156 : decode cX8_pushes 156 = .ok (.putfield 133, 3) := by decide +kernel
theorem dX8_pushes_159 : decode cX8_pushes 159 = .ok (.iinc 3 1, 3) := by decide +kernel
theorem dX8_pushes_162 : decode cX8_pushes 162 = .ok (.goto (-150), 3) := by decide +kernel
theorem dX8_pushes_165 : decode cX8_pushes 165 = .ok (.return_, 1) := by decide +kernel
theorem dX8_sticks_0 : decode cX8_sticks 0 = .ok (.aload_n 0, 1) := by decide +kernel
theorem dX8_sticks_1 : decode cX8_sticks 1 = .ok (.getfield 26, 3) := by decide +kernel
theorem dX8_sticks_4 : decode cX8_sticks 4 = .ok (.iload_n 1, 1) := by decide +kernel
theorem dX8_sticks_5 : decode cX8_sticks 5 = .ok (.iaload, 1) := by decide +kernel
theorem dX8_sticks_6 : decode cX8_sticks 6 = .ok (.aload_n 0, 1) := by decide +kernel
theorem dX8_sticks_7 : decode cX8_sticks 7 = .ok (.getfield 26, 3) := by decide +kernel
theorem dX8_sticks_10 : decode cX8_sticks 10 = .ok (.iload_n 2, 1) := by decide +kernel
theorem dX8_sticks_11 : decode cX8_sticks 11 = .ok (.iaload, 1) := by decide +kernel
theorem dX8_sticks_12 : decode cX8_sticks 12 = .ok (.iadd, 1) := by decide +kernel
theorem dX8_sticks_13 : decode cX8_sticks 13 = .ok (.istore_n 3, 1) := by decide +kernel
theorem dX8_sticks_14 : decode cX8_sticks 14 = .ok (.aload_n 0, 1) := by decide +kernel
theorem dX8_sticks_15 : decode cX8_sticks 15 = .ok (.getfield 19, 3) := by decide +kernel
theorem dX8_sticks_18 : decode cX8_sticks 18 = .ok (.iload_n 1, 1) := by decide +kernel
theorem dX8_sticks_19 : decode cX8_sticks 19 = .ok (.aload_n 0, 1) := by decide +kernel
theorem dX8_sticks_20 : decode cX8_sticks 20 = .ok (.getfield 26, 3) := by decide +kernel
theorem dX8_sticks_23 : decode cX8_sticks 23 = .ok (.iload_n 1, 1) := by decide +kernel
theorem dX8_sticks_24 : decode cX8_sticks 24 = .ok (.iaload, 1) := by decide +kernel
theorem dX8_sticks_25 : decode cX8_sticks 25 = .ok (.i2l, 1) := by decide +kernel
theorem dX8_sticks_26 : decode cX8_sticks 26 = .ok (.aload_n 0, 1) := by decide +kernel
theorem dX8_sticks_27 : decode cX8_sticks 27 = .ok (.getfield 19, 3) := by decide +kernel
theorem dX8_sticks_30 : decode cX8_sticks 30 = .ok (.iload_n 1, 1) := by decide +kernel
theorem dX8_sticks_31 : decode cX8_sticks 31 = .ok (.iaload, 1) := by decide +kernel
theorem dX8_sticks_32 : decode cX8_sticks 32 = .ok (.i2l, 1) := by decide +kernel
theorem dX8_sticks_33 : decode cX8_sticks 33 = .ok (.lmul, 1) := by decide +kernel
theorem dX8_sticks_34 : decode cX8_sticks 34 = .ok (.aload_n 0, 1) := by decide +kernel
theorem dX8_sticks_35 : decode cX8_sticks 35 = .ok (.getfield 26, 3) := by decide +kernel
theorem dX8_sticks_38 : decode cX8_sticks 38 = .ok (.iload_n 2, 1) := by decide +kernel
theorem dX8_sticks_39 : decode cX8_sticks 39 = .ok (.iaload, 1) := by decide +kernel
theorem dX8_sticks_40 : decode cX8_sticks 40 = .ok (.i2l, 1) := by decide +kernel
theorem dX8_sticks_41 : decode cX8_sticks 41 = .ok (.aload_n 0, 1) := by decide +kernel
theorem dX8_sticks_42 : decode cX8_sticks 42 = .ok (.getfield 19, 3) := by decide +kernel
theorem dX8_sticks_45 : decode cX8_sticks 45 = .ok (.iload_n 2, 1) := by decide +kernel
theorem dX8_sticks_46 : decode cX8_sticks 46 = .ok (.iaload, 1) := by decide +kernel
theorem dX8_sticks_47 : decode cX8_sticks 47 = .ok (.i2l, 1) := by decide +kernel
theorem dX8_sticks_48 : decode cX8_sticks 48 = .ok (.lmul, 1) := by decide +kernel
theorem dX8_sticks_49 : decode cX8_sticks 49 = .ok (.ladd, 1) := by decide +kernel
theorem dX8_sticks_50 : decode cX8_sticks 50 = .ok (.iload_n 3, 1) := by decide +kernel
theorem dX8_sticks_51 : decode cX8_sticks 51 = .ok (.i2l, 1) := by decide +kernel
theorem dX8_sticks_52 : decode cX8_sticks 52 = .ok (.ldiv, 1) := by decide +kernel
theorem dX8_sticks_53 : decode cX8_sticks 53 = .ok (.l2i, 1) := by decide +kernel
theorem dX8_sticks_54 : decode cX8_sticks 54 = .ok (.iastore, 1) := by decide +kernel
theorem dX8_sticks_55 : decode cX8_sticks 55 = .ok (.aload_n 0, 1) := by decide +kernel
theorem dX8_sticks_56 : decode cX8_sticks 56 = .ok (.getfield 32, 3) := by decide +kernel
theorem dX8_sticks_59 : decode cX8_sticks 59 = .ok (.iload_n 1, 1) := by decide +kernel
theorem dX8_sticks_60 : decode cX8_sticks 60 = .ok (.aload_n 0, 1) := by decide +kernel
theorem dX8_sticks_61 : decode cX8_sticks 61 = .ok (.getfield 26, 3) := by decide +kernel
theorem dX8_sticks_64 : decode cX8_sticks 64 = .ok (.iload_n 1, 1) := by decide +kernel
theorem dX8_sticks_65 : decode cX8_sticks 65 = .ok (.iaload, 1) := by decide +kernel
theorem dX8_sticks_66 : decode cX8_sticks 66 = .ok (.i2l, 1) := by decide +kernel
theorem dX8_sticks_67 : decode cX8_sticks 67 = .ok (.aload_n 0, 1) := by decide +kernel
theorem dX8_sticks_68 : decode cX8_sticks 68 = .ok (.getfield 32, 3) := by decide +kernel
theorem dX8_sticks_71 : decode cX8_sticks 71 = .ok (.iload_n 1, 1) := by decide +kernel
theorem dX8_sticks_72 : decode cX8_sticks 72 = .ok (.iaload, 1) := by decide +kernel
theorem dX8_sticks_73 : decode cX8_sticks 73 = .ok (.i2l, 1) := by decide +kernel
theorem dX8_sticks_74 : decode cX8_sticks 74 = .ok (.lmul, 1) := by decide +kernel
theorem dX8_sticks_75 : decode cX8_sticks 75 = .ok (.aload_n 0, 1) := by decide +kernel
theorem dX8_sticks_76 : decode cX8_sticks 76 = .ok (.getfield 26, 3) := by decide +kernel
theorem dX8_sticks_79 : decode cX8_sticks 79 = .ok (.iload_n 2, 1) := by decide +kernel
theorem dX8_sticks_80 : decode cX8_sticks 80 = .ok (.iaload, 1) := by decide +kernel
theorem dX8_sticks_81 : decode cX8_sticks 81 = .ok (.i2l, 1) := by decide +kernel
theorem dX8_sticks_82 : decode cX8_sticks 82 = .ok (.aload_n 0, 1) := by decide +kernel
theorem dX8_sticks_83 : decode cX8_sticks 83 = .ok (.getfield 32, 3) := by decide +kernel
theorem dX8_sticks_86 : decode cX8_sticks 86 = .ok (.iload_n 2, 1) := by decide +kernel
theorem dX8_sticks_87 : decode cX8_sticks 87 = .ok (.iaload, 1) := by decide +kernel
theorem dX8_sticks_88 : decode cX8_sticks 88 = .ok (.i2l, 1) := by decide +kernel
theorem dX8_sticks_89 : decode cX8_sticks 89 = .ok (.lmul, 1) := by decide +kernel
theorem dX8_sticks_90 : decode cX8_sticks 90 = .ok (.ladd, 1) := by decide +kernel
theorem dX8_sticks_91 : decode cX8_sticks 91 = .ok (.iload_n 3, 1) := by decide +kernel
theorem dX8_sticks_92 : decode cX8_sticks 92 = .ok (.i2l, 1) := by decide +kernel
theorem dX8_sticks_93 : decode cX8_sticks 93 = .ok (.ldiv, 1) := by decide +kernel
theorem dX8_sticks_94 : decode cX8_sticks 94 = .ok (.l2i, 1) := by decide +kernel
theorem dX8_sticks_95 : decode cX8_sticks 95 = .ok (.iastore, 1) := by decide +kernel
theorem dX8_sticks_96 : decode cX8_sticks 96 = .ok (.aload_n 0, 1) := by decide +kernel
theorem dX8_sticks_97 : decode cX8_sticks 97 = .ok (.getfield 29, 3) := by decide +kernel
theorem dX8_sticks_100 : decode cX8_sticks 100 = .ok (.iload_n 1, 1) := by decide +kernel
theorem dX8_sticks_101 : decode cX8_sticks 101 = .ok (.aload_n 0, 1) := by decide +kernel
theorem dX8_sticks_102 : decode cX8_sticks 102 = .ok (.getfield 29, 3) := by decide +kernel
theorem dX8_sticks_105 : decode cX8_sticks 105 = .ok (.iload_n 1, 1) := by decide +kernel
theorem dX8_sticks_106 : decode cX8_sticks 106 = .ok (.iaload, 1) := by decide +kernel
theorem dX8_sticks_107 : decode cX8_sticks 107 = .ok (.aload_n 0, 1) := by decide +kernel
theorem dX8_sticks_108 : decode cX8_sticks 108 = .ok (.getfield 29, 3) := by decide +kernel
theorem dX8_sticks_111 : decode cX8_sticks 111 = .ok (.iload_n 2, 1) := by decide +kernel
theorem dX8_sticks_112 : decode cX8_sticks 112 = .ok (.iaload, 1) := by decide +kernel
theorem dX8_sticks_113 : decode cX8_sticks 113 = .ok (.if_icmp .ge 12, 3) := by decide +kernel
theorem dX8_sticks_116 : decode cX8_sticks 116 = .ok (.aload_n 0, 1) := by decide +kernel
theorem dX8_sticks_117 : decode cX8_sticks 117 = .ok (.getfield 29, 3) := by decide +kernel
theorem dX8_sticks_120 : decode cX8_sticks 120 = .ok (.iload_n 1, 1) := by decide +kernel
theorem dX8_sticks_121 : decode cX8_sticks 121 = .ok (.iaload, 1) := by decide +kernel
theorem dX8_sticks_122 : decode cX8_sticks 122 = .ok (.goto 9, 3) := by decide +kernel
theorem dX8_sticks_125 : decode cX8_sticks 125 = .ok (.aload_n 0, 1) := by decide +kernel
theorem dX8_sticks_126 : decode cX8_sticks 126 = .ok (.getfield 29, 3) := by decide +kernel
theorem dX8_sticks_129 : decode cX8_sticks 129 = .ok (.iload_n 2, 1) := by decide +kernel
theorem dX8_sticks_130 : decode cX8_sticks 130 = .ok (.iaload, 1) := by decide +kernel
theorem dX8_sticks_131 : decode cX8_sticks 131 = .ok (.iastore, 1) := by decide +kernel
theorem dX8_sticks_132 : decode cX8_sticks 132 = .ok (.aload_n 0, 1) := by decide +kernel
theorem dX8_sticks_133 : decode cX8_sticks 133 = .ok (.getfield 26, 3) := by decide +kernel
theorem dX8_sticks_136 : decode cX8_sticks 136 = .ok (.iload_n 1, 1) := by decide +kernel
theorem dX8_sticks_137 : decode cX8_sticks 137 = .ok (.iload_n 3, 1) := by decide +kernel
theorem dX8_sticks_138 : decode cX8_sticks 138 = .ok (.iastore, 1) := by decide +kernel
theorem dX8_sticks_139 : decode cX8_sticks 139 = .ok (.aload_n 0, 1) := by decide +kernel
theorem dX8_sticks_140 : decode cX8_sticks 140 = .ok (.getfield 35, 3) := by decide +kernel
theorem dX8_sticks_143 : decode cX8_sticks 143 = .ok (.iload_n 2, 1) := by decide +kernel
theorem dX8_sticks_144 : decode cX8_sticks 144 = .ok (.iconst 0, 1) := by decide +kernel
theorem dX8_sticks_145 : decode cX8_sticks 145 = .ok (.bastore, 1) := by decide +kernel
theorem dX8_sticks_146 : decode cX8_sticks 146 = .ok (.aload_n 0, 1) := by decide +kernel
theorem dX8_sticks_147 : decode cX8_sticks 147 = .ok (.dup, 1) := by decide +kernel
theorem dX8_sticks_148 : decode cX8_sticks 148 = .ok (.getfield 136, 3) := by decide +kernel
theorem dX8_sticks_151 : decode cX8_sticks 151 = .ok (.iconst 1, 1) := by decide +kernel
theorem dX8_sticks_152 : decode cX8_sticks 152 = .ok (.iadd, 1) := by decide +kernel
theorem dX8_sticks_153 : decode cX8_sticks 153 = .ok (.putfield 136, 3) := by decide +kernel
theorem dX8_sticks_156 : decode cX8_sticks 156 = .ok (.return_, 1) := by decide +kernel
theorem dX8_breaks_0 : decode cX8_breaks 0 = .ok (.aload_n 0, 1) := by decide +kernel
theorem dX8_breaks_1 : decode cX8_breaks 1 = .ok (.getfield 19, 3) := by decide +kernel
theorem dX8_breaks_4 : decode cX8_breaks 4 = .ok (.iload_n 1, 1) := by decide +kernel
theorem dX8_breaks_5 : decode cX8_breaks 5 = .ok (.iaload, 1) := by decide +kernel
theorem dX8_breaks_6 : decode cX8_breaks 6 = .ok (.istore_n 2, 1) := by decide +kernel
theorem dX8_breaks_7 : decode cX8_breaks 7 = .ok (.aload_n 0, 1) := by decide +kernel
theorem dX8_breaks_8 : decode cX8_breaks 8 = .ok (.getfield 26, 3) := by decide +kernel
theorem dX8_breaks_11 : decode cX8_breaks 11 = .ok (.iload_n 1, 1) := by decide +kernel
theorem dX8_breaks_12 : decode cX8_breaks 12 = .ok (.iaload, 1) := by decide +kernel
theorem dX8_breaks_13 : decode cX8_breaks 13 = .ok (.aload_n 0, 1) := by decide +kernel
theorem dX8_breaks_14 : decode cX8_breaks 14 = .ok (.getfield 26, 3) := by decide +kernel
theorem dX8_breaks_17 : decode cX8_breaks 17 = .ok (.iload_n 1, 1) := by decide +kernel
theorem dX8_breaks_18 : decode cX8_breaks 18 = .ok (.iaload, 1) := by decide +kernel
theorem dX8_breaks_19 : decode cX8_breaks 19 = .ok (.iconst 2, 1) := by decide +kernel
theorem dX8_breaks_20 : decode cX8_breaks 20 = .ok (.idiv, 1) := by decide +kernel
theorem dX8_breaks_21 : decode cX8_breaks 21 = .ok (.isub, 1) := by decide +kernel
theorem dX8_breaks_22 : decode cX8_breaks 22 = .ok (.istore_n 3, 1) := by decide +kernel
theorem dX8_breaks_23 : decode cX8_breaks 23 = .ok (.aload_n 0, 1) := by decide +kernel
theorem dX8_breaks_24 : decode cX8_breaks 24 = .ok (.getfield 26, 3) := by decide +kernel
theorem dX8_breaks_27 : decode cX8_breaks 27 = .ok (.iload_n 1, 1) := by decide +kernel
theorem dX8_breaks_28 : decode cX8_breaks 28 = .ok (.dup2, 1) := by decide +kernel
theorem dX8_breaks_29 : decode cX8_breaks 29 = .ok (.iaload, 1) := by decide +kernel
theorem dX8_breaks_30 : decode cX8_breaks 30 = .ok (.iconst 2, 1) := by decide +kernel
theorem dX8_breaks_31 : decode cX8_breaks 31 = .ok (.idiv, 1) := by decide +kernel
theorem dX8_breaks_32 : decode cX8_breaks 32 = .ok (.iastore, 1) := by decide +kernel
theorem dX8_breaks_33 : decode cX8_breaks 33 = .ok (.aload_n 0, 1) := by decide +kernel
theorem dX8_breaks_34 : decode cX8_breaks 34 = .ok (.getfield 29, 3) := by decide +kernel
theorem dX8_breaks_37 : decode cX8_breaks 37 = .ok (.iload_n 1, 1) := by decide +kernel
theorem dX8_breaks_38 : decode cX8_breaks 38 = .ok (.iconst 0, 1) := by decide +kernel
theorem dX8_breaks_39 : decode cX8_breaks 39 = .ok (.iastore, 1) := by decide +kernel
theorem dX8_breaks_40 : decode cX8_breaks 40 = .ok (.aload_n 0, 1) := by decide +kernel
theorem dX8_breaks_41 : decode cX8_breaks 41 = .ok (.iload_n 1, 1) := by decide +kernel
theorem dX8_breaks_42 : decode cX8_breaks 42 = .ok (.iload_n 2, 1) := by decide +kernel
theorem dX8_breaks_43 : decode cX8_breaks 43 = .ok (.iconst 1, 1) := by decide +kernel
theorem dX8_breaks_44 : decode cX8_breaks 44 = .ok (.isub, 1) := by decide +kernel
theorem dX8_breaks_45 : decode cX8_breaks 45 = .ok (.invokevirtual 129, 3) := by decide +kernel
theorem dX8_breaks_48 : decode cX8_breaks 48 = .ok (.aload_n 0, 1) := by decide +kernel
theorem dX8_breaks_49 : decode cX8_breaks 49 = .ok (.iload_n 2, 1) := by decide +kernel
theorem dX8_breaks_50 : decode cX8_breaks 50 = .ok (.aload_n 0, 1) := by decide +kernel
theorem dX8_breaks_51 : decode cX8_breaks 51 = .ok (.getfield 23, 3) := by decide +kernel
theorem dX8_breaks_54 : decode cX8_breaks 54 = .ok (.iload_n 1, 1) := by decide +kernel
theorem dX8_breaks_55 : decode cX8_breaks 55 = .ok (.iaload, 1) := by decide +kernel
end
section
theorem dX8_breaks_56 : decode cX8_breaks 56 = .ok (.iload_n 3, 1) := by decide +kernel
theorem dX8_breaks_57 : decode cX8_breaks 57 = .ok (.iconst 0, 1) := by decide +kernel
theorem dX8_breaks_58 : decode cX8_breaks 58 = .ok (.aload_n 0, 1) := by decide +kernel
theorem dX8_breaks_59 : decode cX8_breaks 59 = .ok (.getfield 32, 3) := by decide +kernel
theorem dX8_breaks_62 : decode cX8_breaks 62 = .ok (.iload_n 1, 1) := by decide +kernel
theorem dX8_breaks_63 : decode cX8_breaks 63 = .ok (.iaload, 1) := by decide +kernel
theorem dX8_breaks_64 : decode cX8_breaks 64 = .ok (.invokevirtual 91, 3) := by decide +kernel
theorem dX8_breaks_67 : decode cX8_breaks 67 = .ok (.istore 4, 2) := by decide +kernel
theorem dX8_breaks_69 : decode cX8_breaks 69 = .ok (.aload_n 0, 1) := by decide +kernel
theorem dX8_breaks_70 : decode cX8_breaks 70 = .ok (.getfield 39, 3) := by decide +kernel
theorem dX8_breaks_73 : decode cX8_breaks 73 = .ok (.iload 4, 2) := by decide +kernel
theorem dX8_breaks_75 : decode cX8_breaks 75 = .ok (.iconst 1, 1) := by decide +kernel
theorem dX8_breaks_76 : decode cX8_breaks 76 = .ok (.bastore, 1) := by decide +kernel
theorem dX8_breaks_77 : decode cX8_breaks 77 = .ok (.aload_n 0, 1) := by decide +kernel
theorem dX8_breaks_78 : decode cX8_breaks 78 = .ok (.iload 4, 2) := by decide +kernel
theorem dX8_breaks_80 : decode cX8_breaks 80 = .ok (.iload_n 2, 1) := by decide +kernel
theorem dX8_breaks_81 : decode cX8_breaks 81 = .ok (.iconst 1, 1) := by decide +kernel
theorem dX8_breaks_82 : decode cX8_breaks 82 = .ok (.iadd, 1) := by decide +kernel
theorem dX8_breaks_83 : decode cX8_breaks 83 = .ok (.invokevirtual 129, 3) := by decide +kernel
theorem dX8_breaks_86 : decode cX8_breaks 86 = .ok (.aload_n 0, 1) := by decide +kernel
theorem dX8_breaks_87 : decode cX8_breaks 87 = .ok (.dup, 1) := by decide +kernel
theorem dX8_breaks_88 : decode cX8_breaks 88 = .ok (.getfield 139, 3) := by decide +kernel
theorem dX8_breaks_91 : decode cX8_breaks 91 = .ok (.iconst 1, 1) := by decide +kernel
theorem dX8_breaks_92 : decode cX8_breaks 92 = .ok (.iadd, 1) := by decide +kernel
theorem dX8_breaks_93 : decode cX8_breaks 93 = .ok (.putfield 139, 3) := by decide +kernel
theorem dX8_breaks_96 : decode cX8_breaks 96 = .ok (.return_, 1) := by decide +kernel
theorem dX8_parts_0 : decode cX8_parts 0 = .ok (.aload_n 0, 1) := by decide +kernel
theorem dX8_parts_1 : decode cX8_parts 1 = .ok (.getfield 19, 3) := by decide +kernel
theorem dX8_parts_4 : decode cX8_parts 4 = .ok (.iload_n 2, 1) := by decide +kernel
theorem dX8_parts_5 : decode cX8_parts 5 = .ok (.iaload, 1) := by decide +kernel
theorem dX8_parts_6 : decode cX8_parts 6 = .ok (.aload_n 0, 1) := by decide +kernel
theorem dX8_parts_7 : decode cX8_parts 7 = .ok (.getfield 19, 3) := by decide +kernel
theorem dX8_parts_10 : decode cX8_parts 10 = .ok (.iload_n 1, 1) := by decide +kernel
theorem dX8_parts_11 : decode cX8_parts 11 = .ok (.iaload, 1) := by decide +kernel
theorem dX8_parts_12 : decode cX8_parts 12 = .ok (.if_icmp .ge 7, 3) := by decide +kernel
theorem dX8_parts_15 : decode cX8_parts 15 = .ok (.iload_n 2, 1) := by decide +kernel
theorem dX8_parts_16 : decode cX8_parts 16 = .ok (.goto 4, 3) := by decide +kernel
theorem dX8_parts_19 : decode cX8_parts 19 = .ok (.iload_n 1, 1) := by decide +kernel
theorem dX8_parts_20 : decode cX8_parts 20 = .ok (.istore_n 3, 1) := by decide +kernel
theorem dX8_parts_21 : decode cX8_parts 21 = .ok (.iload_n 3, 1) := by decide +kernel
theorem dX8_parts_22 : decode cX8_parts 22 = .ok (.iload_n 1, 1) := by decide +kernel
theorem dX8_parts_23 : decode cX8_parts 23 = .ok (.if_icmp .ne 7, 3) := by decide +kernel
theorem dX8_parts_26 : decode cX8_parts 26 = .ok (.iload_n 2, 1) := by decide +kernel
theorem dX8_parts_27 : decode cX8_parts 27 = .ok (.goto 4, 3) := by decide +kernel
theorem dX8_parts_30 : decode cX8_parts 30 = .ok (.iload_n 1, 1) := by decide +kernel
theorem dX8_parts_31 : decode cX8_parts 31 = .ok (.istore 4, 2) := by decide +kernel
theorem dX8_parts_33 : decode cX8_parts 33 = .ok (.aload_n 0, 1) := by decide +kernel
theorem dX8_parts_34 : decode cX8_parts 34 = .ok (.getfield 29, 3) := by decide +kernel
theorem dX8_parts_37 : decode cX8_parts 37 = .ok (.iload_n 1, 1) := by decide +kernel
theorem dX8_parts_38 : decode cX8_parts 38 = .ok (.aload_n 0, 1) := by decide +kernel
theorem dX8_parts_39 : decode cX8_parts 39 = .ok (.getfield 29, 3) := by decide +kernel
theorem dX8_parts_42 : decode cX8_parts 42 = .ok (.iload_n 1, 1) := by decide +kernel
theorem dX8_parts_43 : decode cX8_parts 43 = .ok (.iaload, 1) := by decide +kernel
theorem dX8_parts_44 : decode cX8_parts 44 = .ok (.aload_n 0, 1) := by decide +kernel
theorem dX8_parts_45 : decode cX8_parts 45 = .ok (.getfield 16, 3) := by decide +kernel
theorem dX8_parts_48 : decode cX8_parts 48 = .ok (.imul, 1) := by decide +kernel
theorem dX8_parts_49 : decode cX8_parts 49 = .ok (.bipush 100, 2) := by decide +kernel
theorem dX8_parts_51 : decode cX8_parts 51 = .ok (.idiv, 1) := by decide +kernel
theorem dX8_parts_52 : decode cX8_parts 52 = .ok (.iastore, 1) := by decide +kernel
theorem dX8_parts_53 : decode cX8_parts 53 = .ok (.aload_n 0, 1) := by decide +kernel
theorem dX8_parts_54 : decode cX8_parts 54 = .ok (.getfield 29, 3) := by decide +kernel
theorem dX8_parts_57 : decode cX8_parts 57 = .ok (.iload_n 2, 1) := by decide +kernel
theorem dX8_parts_58 : decode cX8_parts 58 = .ok (.aload_n 0, 1) := by decide +kernel
theorem dX8_parts_59 : decode cX8_parts 59 = .ok (.getfield 29, 3) := by decide +kernel
theorem dX8_parts_62 : decode cX8_parts 62 = .ok (.iload_n 2, 1) := by decide +kernel
theorem dX8_parts_63 : decode cX8_parts 63 = .ok (.iaload, 1) := by decide +kernel
theorem dX8_parts_64 : decode cX8_parts 64 = .ok (.aload_n 0, 1) := by decide +kernel
theorem dX8_parts_65 : decode cX8_parts 65 = .ok (.getfield 16, 3) := by decide +kernel
theorem dX8_parts_68 : decode cX8_parts 68 = .ok (.imul, 1) := by decide +kernel
theorem dX8_parts_69 : decode cX8_parts 69 = .ok (.bipush 100, 2) := by decide +kernel
theorem dX8_parts_71 : decode cX8_parts 71 = .ok (.idiv, 1) := by decide +kernel
theorem dX8_parts_72 : decode cX8_parts 72 = .ok (.iastore, 1) := by decide +kernel
theorem dX8_parts_73 : decode cX8_parts 73 = .ok (.aload_n 0, 1) := by decide +kernel
theorem dX8_parts_74 : decode cX8_parts 74 = .ok (.iload_n 3, 1) := by decide +kernel
theorem dX8_parts_75 : decode cX8_parts 75 = .ok (.aload_n 0, 1) := by decide +kernel
theorem dX8_parts_76 : decode cX8_parts 76 = .ok (.getfield 19, 3) := by decide +kernel
theorem dX8_parts_79 : decode cX8_parts 79 = .ok (.iload_n 3, 1) := by decide +kernel
theorem dX8_parts_80 : decode cX8_parts 80 = .ok (.iaload, 1) := by decide +kernel
theorem dX8_parts_81 : decode cX8_parts 81 = .ok (.iconst 1, 1) := by decide +kernel
theorem dX8_parts_82 : decode cX8_parts 82 = .ok (.isub, 1) := by decide +kernel
theorem dX8_parts_83 : decode cX8_parts 83 = .ok (.invokevirtual 129, 3) := by decide +kernel
theorem dX8_parts_86 : decode cX8_parts 86 = .ok (.aload_n 0, 1) := by decide +kernel
theorem dX8_parts_87 : decode cX8_parts 87 = .ok (.iload 4, 2) := by decide +kernel
theorem dX8_parts_89 : decode cX8_parts 89 = .ok (.aload_n 0, 1) := by decide +kernel
theorem dX8_parts_90 : decode cX8_parts 90 = .ok (.getfield 19, 3) := by decide +kernel
theorem dX8_parts_93 : decode cX8_parts 93 = .ok (.iload 4, 2) := by decide +kernel
theorem dX8_parts_95 : decode cX8_parts 95 = .ok (.iaload, 1) := by decide +kernel
theorem dX8_parts_96 : decode cX8_parts 96 = .ok (.iconst 1, 1) := by decide +kernel
theorem dX8_parts_97 : decode cX8_parts 97 = .ok (.iadd, 1) := by decide +kernel
theorem dX8_parts_98 : decode cX8_parts 98 = .ok (.invokevirtual 129, 3) := by decide +kernel
theorem dX8_parts_101 : decode cX8_parts 101 = .ok (.aload_n 0, 1) := by decide +kernel
theorem dX8_parts_102 : decode cX8_parts 102 = .ok (.dup, 1) := by decide +kernel
theorem dX8_parts_103 : decode cX8_parts 103 = .ok (.getfield 142, 3) := by decide +kernel
theorem dX8_parts_106 : decode cX8_parts 106 = .ok (.iconst 1, 1) := by decide +kernel
theorem dX8_parts_107 : decode cX8_parts 107 = .ok (.iadd, 1) := by decide +kernel
theorem dX8_parts_108 : decode cX8_parts 108 = .ok (.putfield 142, 3) := by decide +kernel
theorem dX8_parts_111 : decode cX8_parts 111 = .ok (.return_, 1) := by decide +kernel
theorem dX8_meets_0 : decode cX8_meets 0 = .ok (.aload_n 0, 1) := by decide +kernel
theorem dX8_meets_1 : decode cX8_meets 1 = .ok (.getfield 39, 3) := by decide +kernel
theorem dX8_meets_4 : decode cX8_meets 4 = .ok (.iload_n 1, 1) := by decide +kernel
theorem dX8_meets_5 : decode cX8_meets 5 = .ok (.iconst 1, 1) := by decide +kernel
theorem dX8_meets_6 : decode cX8_meets 6 = .ok (.bastore, 1) := by decide +kernel
theorem dX8_meets_7 : decode cX8_meets 7 = .ok (.aload_n 0, 1) := by decide +kernel
theorem dX8_meets_8 : decode cX8_meets 8 = .ok (.getfield 39, 3) := by decide +kernel
theorem dX8_meets_11 : decode cX8_meets 11 = .ok (.iload_n 2, 1) := by decide +kernel
theorem dX8_meets_12 : decode cX8_meets 12 = .ok (.iconst 1, 1) := by decide +kernel
theorem dX8_meets_13 : decode cX8_meets 13 = .ok (.bastore, 1) := by decide +kernel
theorem dX8_meets_14 : decode cX8_meets 14 = .ok (.aload_n 0, 1) := by decide +kernel
theorem dX8_meets_15 : decode cX8_meets 15 = .ok (.getfield 29, 3) := by decide +kernel
theorem dX8_meets_18 : decode cX8_meets 18 = .ok (.iload_n 1, 1) := by decide +kernel
theorem dX8_meets_19 : decode cX8_meets 19 = .ok (.iaload, 1) := by decide +kernel
theorem dX8_meets_20 : decode cX8_meets 20 = .ok (.aload_n 0, 1) := by decide +kernel
theorem dX8_meets_21 : decode cX8_meets 21 = .ok (.getfield 29, 3) := by decide +kernel
theorem dX8_meets_24 : decode cX8_meets 24 = .ok (.iload_n 2, 1) := by decide +kernel
theorem dX8_meets_25 : decode cX8_meets 25 = .ok (.iaload, 1) := by decide +kernel
theorem dX8_meets_26 : decode cX8_meets 26 = .ok (.iadd, 1) := by decide +kernel
theorem dX8_meets_27 : decode cX8_meets 27 = .ok (.aload_n 0, 1) := by decide +kernel
theorem dX8_meets_28 : decode cX8_meets 28 = .ok (.aload_n 0, 1) := by decide +kernel
theorem dX8_meets_29 : decode cX8_meets 29 = .ok (.getfield 19, 3) := by decide +kernel
theorem dX8_meets_32 : decode cX8_meets 32 = .ok (.iload_n 1, 1) := by decide +kernel
theorem dX8_meets_33 : decode cX8_meets 33 = .ok (.iaload, 1) := by decide +kernel
theorem dX8_meets_34 : decode cX8_meets 34 = .ok (.invokevirtual 145, 3) := by decide +kernel
theorem dX8_meets_37 : decode cX8_meets 37 = .ok (.aload_n 0, 1) := by decide +kernel
theorem dX8_meets_38 : decode cX8_meets 38 = .ok (.aload_n 0, 1) := by decide +kernel
theorem dX8_meets_39 : decode cX8_meets 39 = .ok (.getfield 19, 3) := by decide +kernel
theorem dX8_meets_42 : decode cX8_meets 42 = .ok (.iload_n 2, 1) := by decide +kernel
theorem dX8_meets_43 : decode cX8_meets 43 = .ok (.iaload, 1) := by decide +kernel
theorem dX8_meets_44 : decode cX8_meets 44 = .ok (.invokevirtual 145, 3) := by decide +kernel
theorem dX8_meets_47 : decode cX8_meets 47 = .ok (.isub, 1) := by decide +kernel
theorem dX8_meets_48 : decode cX8_meets 48 = .ok (.invokestatic 102, 3) := by decide +kernel
theorem dX8_meets_51 : decode cX8_meets 51 = .ok (.iadd, 1) := by decide +kernel
theorem dX8_meets_52 : decode cX8_meets 52 = .ok (.istore_n 3, 1) := by decide +kernel
theorem dX8_meets_53 : decode cX8_meets 53 = .ok (.aload_n 0, 1) := by decide +kernel
theorem dX8_meets_54 : decode cX8_meets 54 = .ok (.getfield 26, 3) := by decide +kernel
theorem dX8_meets_57 : decode cX8_meets 57 = .ok (.iload_n 1, 1) := by decide +kernel
theorem dX8_meets_58 : decode cX8_meets 58 = .ok (.iaload, 1) := by decide +kernel
theorem dX8_meets_59 : decode cX8_meets 59 = .ok (.aload_n 0, 1) := by decide +kernel
theorem dX8_meets_60 : decode cX8_meets 60 = .ok (.getfield 26, 3) := by decide +kernel
theorem dX8_meets_63 : decode cX8_meets 63 = .ok (.iload_n 2, 1) := by decide +kernel
theorem dX8_meets_64 : decode cX8_meets 64 = .ok (.iaload, 1) := by decide +kernel
theorem dX8_meets_65 : decode cX8_meets 65 = .ok (.if_icmp .ge 7, 3) := by decide +kernel
theorem dX8_meets_68 : decode cX8_meets 68 = .ok (.iload_n 1, 1) := by decide +kernel
theorem dX8_meets_69 : decode cX8_meets 69 = .ok (.goto 4, 3) := by decide +kernel
theorem dX8_meets_72 : decode cX8_meets 72 = .ok (.iload_n 2, 1) := by decide +kernel
theorem dX8_meets_73 : decode cX8_meets 73 = .ok (.istore 4, 2) := by decide +kernel
theorem dX8_meets_75 : decode cX8_meets 75 = .ok (.aload_n 0, 1) := by decide +kernel
theorem dX8_meets_76 : decode cX8_meets 76 = .ok (.iload_n 1, 1) := by decide +kernel
theorem dX8_meets_77 : decode cX8_meets 77 = .ok (.invokevirtual 125, 3) := by decide +kernel
theorem dX8_meets_80 : decode cX8_meets 80 = .ok (.aload_n 0, 1) := by decide +kernel
theorem dX8_meets_81 : decode cX8_meets 81 = .ok (.iload_n 2, 1) := by decide +kernel
theorem dX8_meets_82 : decode cX8_meets 82 = .ok (.invokevirtual 125, 3) := by decide +kernel
theorem dX8_meets_85 : decode cX8_meets 85 = .ok (.ladd, 1) := by decide +kernel
theorem dX8_meets_86 : decode cX8_meets 86 = .ok (.lstore 5, 2) := by decide +kernel
theorem dX8_meets_88 : decode cX8_meets 88 = .ok (.aload_n 0, 1) := by decide +kernel
theorem dX8_meets_89 : decode cX8_meets 89 = .ok (.getfield 81, 3) := by decide +kernel
theorem dX8_meets_92 : decode cX8_meets 92 = .ok (.istore 7, 2) := by decide +kernel
theorem dX8_meets_94 : decode cX8_meets 94 = .ok (.iload_n 3, 1) := by decide +kernel
theorem dX8_meets_95 : decode cX8_meets 95 = .ok (.aload_n 0, 1) := by decide +kernel
theorem dX8_meets_96 : decode cX8_meets 96 = .ok (.getfield 7, 3) := by decide +kernel
theorem dX8_meets_99 : decode cX8_meets 99 = .ok (.if_icmp .gt 27, 3) := by decide +kernel
theorem dX8_meets_102 : decode cX8_meets 102 = .ok (.aload_n 0, 1) := by decide +kernel
theorem dX8_meets_103 : decode cX8_meets 103 = .ok (.iload_n 1, 1) := by decide +kernel
theorem dX8_meets_104 : decode cX8_meets 104 = .ok (.iload_n 2, 1) := by decide +kernel
theorem dX8_meets_105 : decode cX8_meets 105 = .ok (.invokevirtual 148, 3) := by decide +kernel
theorem dX8_meets_108 : decode cX8_meets 108 = .ok (.aload_n 0, 1) := by decide +kernel
theorem dX8_meets_109 : decode cX8_meets 109 = .ok (.dup, 1) := by decide +kernel
theorem dX8_meets_110 : decode cX8_meets 110 = .ok (.getfield 151, 3) := by decide +kernel
theorem dX8_meets_113 : decode cX8_meets 113 = .ok (.lload 5, 2) := by decide +kernel
theorem dX8_meets_115 : decode cX8_meets 115 = .ok (.aload_n 0, 1) := by decide +kernel
theorem dX8_meets_116 : decode cX8_meets 116 = .ok (.iload_n 1, 1) := by decide +kernel
theorem dX8_meets_117 : decode cX8_meets 117 = .ok (.invokevirtual 125, 3) := by decide +kernel
theorem dX8_meets_120 : decode cX8_meets 120 = .ok (.lsub, 1) := by decide +kernel
theorem dX8_meets_121 : decode cX8_meets 121 = .ok (.ladd, 1) := by decide +kernel
theorem dX8_meets_122 : decode cX8_meets 122 = .ok (.putfield 151, 3) := by decide +kernel
theorem dX8_meets_125 : decode cX8_meets 125 = .ok (.return_, 1) := by decide +kernel
theorem dX8_meets_126 : decode cX8_meets 126 = .ok (.iload_n 3, 1) := by decide +kernel
theorem dX8_meets_127 : decode cX8_meets 127 = .ok (.aload_n 0, 1) := by decide +kernel
theorem dX8_meets_128 : decode cX8_meets 128 = .ok (.getfield 13, 3) := by decide +kernel
theorem dX8_meets_131 : decode cX8_meets 131 = .ok (.if_icmp .le 32, 3) := by decide +kernel
theorem dX8_meets_134 : decode cX8_meets 134 = .ok (.aload_n 0, 1) := by decide +kernel
theorem dX8_meets_135 : decode cX8_meets 135 = .ok (.getfield 26, 3) := by decide +kernel
theorem dX8_meets_138 : decode cX8_meets 138 = .ok (.iload 4, 2) := by decide +kernel
theorem dX8_meets_140 : decode cX8_meets 140 = .ok (.iaload, 1) := by decide +kernel
theorem dX8_meets_141 : decode cX8_meets 141 = .ok (.iconst 1, 1) := by decide +kernel
theorem dX8_meets_142 : decode cX8_meets 142 = .ok (.if_icmp .le 21, 3) := by decide +kernel
theorem dX8_meets_145 : decode cX8_meets 145 = .ok (.aload_n 0, 1) := by decide +kernel
theorem dX8_meets_146 : decode cX8_meets 146 = .ok (.getfield 81, 3) := by decide +kernel
theorem dX8_meets_149 : decode cX8_meets 149 = .ok (.bipush 80, 2) := by decide +kernel
theorem dX8_meets_151 : decode cX8_meets 151 = .ok (.if_icmp .ge 12, 3) := by decide +kernel
theorem dX8_meets_154 : decode cX8_meets 154 = .ok (.aload_n 0, 1) := by decide +kernel
theorem dX8_meets_155 : decode cX8_meets 155 = .ok (.iload 4, 2) := by decide +kernel
theorem dX8_meets_157 : decode cX8_meets 157 = .ok (.invokevirtual 154, 3) := by decide +kernel
theorem dX8_meets_160 : decode cX8_meets 160 = .ok (.goto 9, 3) := by decide +kernel
theorem dX8_meets_163 : decode cX8_meets 163 = .ok (.aload_n 0, 1) := by decide +kernel
theorem dX8_meets_164 : decode cX8_meets 164 = .ok (.iload_n 1, 1) := by decide +kernel
theorem dX8_meets_165 : decode cX8_meets 165 = .ok (.iload_n 2, 1) := by decide +kernel
theorem dX8_meets_166 : decode cX8_meets 166 = .ok (.invokevirtual 158, 3) := by decide +kernel
theorem dX8_meets_169 : decode cX8_meets 169 = .ok (.aload_n 0, 1) := by decide +kernel
theorem dX8_meets_170 : decode cX8_meets 170 = .ok (.dup, 1) := by decide +kernel
theorem dX8_meets_171 : decode cX8_meets 171 = .ok (.getfield 151, 3) := by decide +kernel
theorem dX8_meets_174 : decode cX8_meets 174 = .ok (.lload 5, 2) := by decide +kernel
theorem dX8_meets_176 : decode cX8_meets 176 = .ok (.aload_n 0, 1) := by decide +kernel
theorem dX8_meets_177 : decode cX8_meets 177 = .ok (.iload_n 1, 1) := by decide +kernel
theorem dX8_meets_178 : decode cX8_meets 178 = .ok (.invokevirtual 125, 3) := by decide +kernel
theorem dX8_meets_181 : decode cX8_meets 181 = .ok (.lsub, 1) := by decide +kernel
theorem dX8_meets_182 : decode cX8_meets 182 = .ok (.aload_n 0, 1) := by decide +kernel
theorem dX8_meets_183 : decode cX8_meets 183 = .ok (.iload_n 2, 1) := by decide +kernel
theorem dX8_meets_184 : decode cX8_meets 184 = .ok (.invokevirtual 125, 3) := by decide +kernel
theorem dX8_meets_187 : decode cX8_meets 187 = .ok (.lsub, 1) := by decide +kernel
theorem dX8_meets_188 : decode cX8_meets 188 = .ok (.aload_n 0, 1) := by decide +kernel
theorem dX8_meets_189 : decode cX8_meets 189 = .ok (.getfield 81, 3) := by decide +kernel
theorem dX8_meets_192 : decode cX8_meets 192 = .ok (.iload 7, 2) := by decide +kernel
theorem dX8_meets_194 : decode cX8_meets 194 = .ok (.if_icmp .le 12, 3) := by decide +kernel
theorem dX8_meets_197 : decode cX8_meets 197 = .ok (.aload_n 0, 1) := by decide +kernel
theorem dX8_meets_198 : decode cX8_meets 198 = .ok (.iload 7, 2) := by decide +kernel
theorem dX8_meets_200 : decode cX8_meets 200 = .ok (.invokevirtual 125, 3) := by decide +kernel
theorem dX8_meets_203 : decode cX8_meets 203 = .ok (.goto 4, 3) := by decide +kernel
theorem dX8_meets_206 : decode cX8_meets 206 = .ok (.lconst 0, 1) := by decide +kernel
theorem dX8_meets_207 : decode cX8_meets 207 = .ok (.lsub, 1) := by decide +kernel
theorem dX8_meets_208 : decode cX8_meets 208 = .ok (.ladd, 1) := by decide +kernel
theorem dX8_meets_209 : decode cX8_meets 209 = .ok (.putfield 151, 3) := by decide +kernel
theorem dX8_meets_212 : decode cX8_meets 212 = .ok (.return_, 1) := by decide +kernel
theorem dX8_canMeet_0 : decode cX8_canMeet 0 = .ok (.aload_n 0, 1) := by decide +kernel
theorem dX8_canMeet_1 : decode cX8_canMeet 1 = .ok (.getfield 35, 3) := by decide +kernel
theorem dX8_canMeet_4 : decode cX8_canMeet 4 = .ok (.iload_n 1, 1) := by decide +kernel
theorem dX8_canMeet_5 : decode cX8_canMeet 5 = .ok (.baload, 1) := by decide +kernel
theorem dX8_canMeet_6 : decode cX8_canMeet 6 = .ok (.ifCond .eq 34, 3) := by decide +kernel
theorem dX8_canMeet_9 : decode cX8_canMeet 9 = .ok (.aload_n 0, 1) := by decide +kernel
theorem dX8_canMeet_10 : decode cX8_canMeet 10 = .ok (.getfield 35, 3) := by decide +kernel
theorem dX8_canMeet_13 : decode cX8_canMeet 13 = .ok (.iload_n 2, 1) := by decide +kernel
theorem dX8_canMeet_14 : decode cX8_canMeet 14 = .ok (.baload, 1) := by decide +kernel
theorem dX8_canMeet_15 : decode cX8_canMeet 15 = .ok (.ifCond .eq 25, 3) := by decide +kernel
theorem dX8_canMeet_18 : decode cX8_canMeet 18 = .ok (.aload_n 0, 1) := by decide +kernel
theorem dX8_canMeet_19 : decode cX8_canMeet 19 = .ok (.getfield 39, 3) := by decide +kernel
theorem dX8_canMeet_22 : decode cX8_canMeet 22 = .ok (.iload_n 1, 1) := by decide +kernel
theorem dX8_canMeet_23 : decode cX8_canMeet 23 = .ok (.baload, 1) := by decide +kernel
theorem dX8_canMeet_24 : decode cX8_canMeet 24 = .ok (.ifCond .ne 16, 3) := by decide +kernel
theorem dX8_canMeet_27 : decode cX8_canMeet 27 = .ok (.aload_n 0, 1) := by decide +kernel
theorem dX8_canMeet_28 : decode cX8_canMeet 28 = .ok (.getfield 39, 3) := by decide +kernel
theorem dX8_canMeet_31 : decode cX8_canMeet 31 = .ok (.iload_n 2, 1) := by decide +kernel
theorem dX8_canMeet_32 : decode cX8_canMeet 32 = .ok (.baload, 1) := by decide +kernel
theorem dX8_canMeet_33 : decode cX8_canMeet 33 = .ok (.ifCond .ne 7, 3) := by decide +kernel
theorem dX8_canMeet_36 : decode cX8_canMeet 36 = .ok (.iconst 1, 1) := by decide +kernel
theorem dX8_canMeet_37 : decode cX8_canMeet 37 = .ok (.goto 4, 3) := by decide +kernel
theorem dX8_canMeet_40 : decode cX8_canMeet 40 = .ok (.iconst 0, 1) := by decide +kernel
theorem dX8_canMeet_41 : decode cX8_canMeet 41 = .ok (.istore_n 3, 1) := by decide +kernel
theorem dX8_canMeet_42 : decode cX8_canMeet 42 = .ok (.iload_n 3, 1) := by decide +kernel
theorem dX8_canMeet_43 : decode cX8_canMeet 43 = .ok (.ifCond .eq 47, 3) := by decide +kernel
theorem dX8_canMeet_46 : decode cX8_canMeet 46 = .ok (.aload_n 0, 1) := by decide +kernel
theorem dX8_canMeet_47 : decode cX8_canMeet 47 = .ok (.getfield 19, 3) := by decide +kernel
theorem dX8_canMeet_50 : decode cX8_canMeet 50 = .ok (.iload_n 1, 1) := by decide +kernel
theorem dX8_canMeet_51 : decode cX8_canMeet 51 = .ok (.iaload, 1) := by decide +kernel
theorem dX8_canMeet_52 : decode cX8_canMeet 52 = .ok (.aload_n 0, 1) := by decide +kernel
theorem dX8_canMeet_53 : decode cX8_canMeet 53 = .ok (.getfield 19, 3) := by decide +kernel
theorem dX8_canMeet_56 : decode cX8_canMeet 56 = .ok (.iload_n 2, 1) := by decide +kernel
theorem dX8_canMeet_57 : decode cX8_canMeet 57 = .ok (.iaload, 1) := by decide +kernel
theorem dX8_canMeet_58 : decode cX8_canMeet 58 = .ok (.isub, 1) := by decide +kernel
theorem dX8_canMeet_59 : decode cX8_canMeet 59 = .ok (.invokestatic 102, 3) := by decide +kernel
theorem dX8_canMeet_62 : decode cX8_canMeet 62 = .ok (.iconst 1, 1) := by decide +kernel
theorem dX8_canMeet_63 : decode cX8_canMeet 63 = .ok (.if_icmp .gt 27, 3) := by decide +kernel
theorem dX8_canMeet_66 : decode cX8_canMeet 66 = .ok (.aload_n 0, 1) := by decide +kernel
theorem dX8_canMeet_67 : decode cX8_canMeet 67 = .ok (.getfield 23, 3) := by decide +kernel
theorem dX8_canMeet_70 : decode cX8_canMeet 70 = .ok (.iload_n 1, 1) := by decide +kernel
theorem dX8_canMeet_71 : decode cX8_canMeet 71 = .ok (.iaload, 1) := by decide +kernel
theorem dX8_canMeet_72 : decode cX8_canMeet 72 = .ok (.aload_n 0, 1) := by decide +kernel
theorem dX8_canMeet_73 : decode cX8_canMeet 73 = .ok (.getfield 23, 3) := by decide +kernel
theorem dX8_canMeet_76 : decode cX8_canMeet 76 = .ok (.iload_n 2, 1) := by decide +kernel
theorem dX8_canMeet_77 : decode cX8_canMeet 77 = .ok (.iaload, 1) := by decide +kernel
theorem dX8_canMeet_78 : decode cX8_canMeet 78 = .ok (.invokestatic 121, 3) := by decide +kernel
theorem dX8_canMeet_81 : decode cX8_canMeet 81 = .ok (.bipush 100, 2) := by decide +kernel
theorem dX8_canMeet_83 : decode cX8_canMeet 83 = .ok (.if_icmp .gt 7, 3) := by decide +kernel
theorem dX8_canMeet_86 : decode cX8_canMeet 86 = .ok (.iconst 1, 1) := by decide +kernel
theorem dX8_canMeet_87 : decode cX8_canMeet 87 = .ok (.goto 4, 3) := by decide +kernel
theorem dX8_canMeet_90 : decode cX8_canMeet 90 = .ok (.iconst 0, 1) := by decide +kernel
theorem dX8_canMeet_91 : decode cX8_canMeet 91 = .ok (.ireturn, 1) := by decide +kernel
theorem dX8_goOn_0 : decode cX8_goOn 0 = .ok (.iconst 0, 1) := by decide +kernel
theorem dX8_goOn_1 : decode cX8_goOn 1 = .ok (.istore_n 1, 1) := by decide +kernel
theorem dX8_goOn_2 : decode cX8_goOn 2 = .ok (.iload_n 1, 1) := by decide +kernel
theorem dX8_goOn_3 : decode cX8_goOn 3 = .ok (.aload_n 0, 1) := by decide +kernel
theorem dX8_goOn_4 : decode cX8_goOn 4 = .ok (.getfield 81, 3) := by decide +kernel
theorem dX8_goOn_7 : decode cX8_goOn 7 = .ok (.if_icmp .ge 60, 3) := by decide +kernel
theorem dX8_goOn_10 : decode cX8_goOn 10 = .ok (.aload_n 0, 1) := by decide +kernel
theorem dX8_goOn_11 : decode cX8_goOn 11 = .ok (.getfield 23, 3) := by decide +kernel
theorem dX8_goOn_14 : decode cX8_goOn 14 = .ok (.iload_n 1, 1) := by decide +kernel
theorem dX8_goOn_15 : decode cX8_goOn 15 = .ok (.aload_n 0, 1) := by decide +kernel
theorem dX8_goOn_16 : decode cX8_goOn 16 = .ok (.getfield 35, 3) := by decide +kernel
theorem dX8_goOn_19 : decode cX8_goOn 19 = .ok (.iload_n 1, 1) := by decide +kernel
theorem dX8_goOn_20 : decode cX8_goOn 20 = .ok (.baload, 1) := by decide +kernel
theorem dX8_goOn_21 : decode cX8_goOn 21 = .ok (.ifCond .eq 26, 3) := by decide +kernel
theorem dX8_goOn_24 : decode cX8_goOn 24 = .ok (.aload_n 0, 1) := by decide +kernel
theorem dX8_goOn_25 : decode cX8_goOn 25 = .ok (.getfield 23, 3) := by decide +kernel
theorem dX8_goOn_28 : decode cX8_goOn 28 = .ok (.iload_n 1, 1) := by decide +kernel
theorem dX8_goOn_29 : decode cX8_goOn 29 = .ok (.iaload, 1) := by decide +kernel
theorem dX8_goOn_30 : decode cX8_goOn 30 = .ok (.aload_n 0, 1) := by decide +kernel
theorem dX8_goOn_31 : decode cX8_goOn 31 = .ok (.aload_n 0, 1) := by decide +kernel
theorem dX8_goOn_32 : decode cX8_goOn 32 = .ok (.getfield 19, 3) := by decide +kernel
theorem dX8_goOn_35 : decode cX8_goOn 35 = .ok (.iload_n 1, 1) := by decide +kernel
theorem dX8_goOn_36 : decode cX8_goOn 36 = .ok (.iaload, 1) := by decide +kernel
theorem dX8_goOn_37 : decode cX8_goOn 37 = .ok (.invokevirtual 145, 3) := by decide +kernel
theorem dX8_goOn_40 : decode cX8_goOn 40 = .ok (.iadd, 1) := by decide +kernel
theorem dX8_goOn_41 : decode cX8_goOn 41 = .ok (.ldc 101, 2) := by decide +kernel
theorem dX8_goOn_43 : decode cX8_goOn 43 = .ok (.irem, 1) := by decide +kernel
theorem dX8_goOn_44 : decode cX8_goOn 44 = .ok (.goto 9, 3) := by decide +kernel
theorem dX8_goOn_47 : decode cX8_goOn 47 = .ok (.aload_n 0, 1) := by decide +kernel
theorem dX8_goOn_48 : decode cX8_goOn 48 = .ok (.getfield 23, 3) := by decide +kernel
theorem dX8_goOn_51 : decode cX8_goOn 51 = .ok (.iload_n 1, 1) := by decide +kernel
theorem dX8_goOn_52 : decode cX8_goOn 52 = .ok (.iaload, 1) := by decide +kernel
theorem dX8_goOn_53 : decode cX8_goOn 53 = .ok (.iastore, 1) := by decide +kernel
theorem dX8_goOn_54 : decode cX8_goOn 54 = .ok (.aload_n 0, 1) := by decide +kernel
theorem dX8_goOn_55 : decode cX8_goOn 55 = .ok (.getfield 39, 3) := by decide +kernel
theorem dX8_goOn_58 : decode cX8_goOn 58 = .ok (.iload_n 1, 1) := by decide +kernel
theorem dX8_goOn_59 : decode cX8_goOn 59 = .ok (.iconst 0, 1) := by decide +kernel
theorem dX8_goOn_60 : decode cX8_goOn 60 = .ok (.bastore, 1) := by decide +kernel
theorem dX8_goOn_61 : decode cX8_goOn 61 = .ok (.iinc 1 1, 3) := by decide +kernel
theorem dX8_goOn_64 : decode cX8_goOn 64 = .ok (.goto (-62), 3) := by decide +kernel
theorem dX8_goOn_67 : decode cX8_goOn 67 = .ok (.iconst 0, 1) := by decide +kernel
theorem dX8_goOn_68 : decode cX8_goOn 68 = .ok (.istore_n 1, 1) := by decide +kernel
theorem dX8_goOn_69 : decode cX8_goOn 69 = .ok (.iload_n 1, 1) := by decide +kernel
theorem dX8_goOn_70 : decode cX8_goOn 70 = .ok (.aload_n 0, 1) := by decide +kernel
theorem dX8_goOn_71 : decode cX8_goOn 71 = .ok (.getfield 95, 3) := by decide +kernel
theorem dX8_goOn_74 : decode cX8_goOn 74 = .ok (.if_icmp .ge 35, 3) := by decide +kernel
theorem dX8_goOn_77 : decode cX8_goOn 77 = .ok (.aload_n 0, 1) := by decide +kernel
theorem dX8_goOn_78 : decode cX8_goOn 78 = .ok (.getfield 45, 3) := by decide +kernel
theorem dX8_goOn_81 : decode cX8_goOn 81 = .ok (.iload_n 1, 1) := by decide +kernel
theorem dX8_goOn_82 : decode cX8_goOn 82 = .ok (.aload_n 0, 1) := by decide +kernel
theorem dX8_goOn_83 : decode cX8_goOn 83 = .ok (.getfield 45, 3) := by decide +kernel
theorem dX8_goOn_86 : decode cX8_goOn 86 = .ok (.iload_n 1, 1) := by decide +kernel
theorem dX8_goOn_87 : decode cX8_goOn 87 = .ok (.iaload, 1) := by decide +kernel
theorem dX8_goOn_88 : decode cX8_goOn 88 = .ok (.aload_n 0, 1) := by decide +kernel
theorem dX8_goOn_89 : decode cX8_goOn 89 = .ok (.aload_n 0, 1) := by decide +kernel
theorem dX8_goOn_90 : decode cX8_goOn 90 = .ok (.getfield 42, 3) := by decide +kernel
theorem dX8_goOn_93 : decode cX8_goOn 93 = .ok (.iload_n 1, 1) := by decide +kernel
theorem dX8_goOn_94 : decode cX8_goOn 94 = .ok (.iaload, 1) := by decide +kernel
theorem dX8_goOn_95 : decode cX8_goOn 95 = .ok (.invokevirtual 145, 3) := by decide +kernel
theorem dX8_goOn_98 : decode cX8_goOn 98 = .ok (.iadd, 1) := by decide +kernel
theorem dX8_goOn_99 : decode cX8_goOn 99 = .ok (.ldc 101, 2) := by decide +kernel
theorem dX8_goOn_101 : decode cX8_goOn 101 = .ok (.irem, 1) := by decide +kernel
theorem dX8_goOn_102 : decode cX8_goOn 102 = .ok (.iastore, 1) := by decide +kernel
theorem dX8_goOn_103 : decode cX8_goOn 103 = .ok (.iinc 1 1, 3) := by decide +kernel
theorem dX8_goOn_106 : decode cX8_goOn 106 = .ok (.goto (-37), 3) := by decide +kernel
theorem dX8_goOn_109 : decode cX8_goOn 109 = .ok (.iconst 0, 1) := by decide +kernel
theorem dX8_goOn_110 : decode cX8_goOn 110 = .ok (.istore_n 1, 1) := by decide +kernel
theorem dX8_goOn_111 : decode cX8_goOn 111 = .ok (.iload_n 1, 1) := by decide +kernel
theorem dX8_goOn_112 : decode cX8_goOn 112 = .ok (.aload_n 0, 1) := by decide +kernel
theorem dX8_goOn_113 : decode cX8_goOn 113 = .ok (.getfield 95, 3) := by decide +kernel
theorem dX8_goOn_116 : decode cX8_goOn 116 = .ok (.if_icmp .ge 14, 3) := by decide +kernel
theorem dX8_goOn_119 : decode cX8_goOn 119 = .ok (.aload_n 0, 1) := by decide +kernel
theorem dX8_goOn_120 : decode cX8_goOn 120 = .ok (.iload_n 1, 1) := by decide +kernel
theorem dX8_goOn_121 : decode cX8_goOn 121 = .ok (.invokevirtual 161, 3) := by decide +kernel
theorem dX8_goOn_124 : decode cX8_goOn 124 = .ok (.iinc 1 1, 3) := by decide +kernel
theorem dX8_goOn_127 : decode cX8_goOn 127 = .ok (.goto (-16), 3) := by decide +kernel
theorem dX8_goOn_130 : decode cX8_goOn 130 = .ok (.iconst 0, 1) := by decide +kernel
theorem dX8_goOn_131 : decode cX8_goOn 131 = .ok (.istore_n 1, 1) := by decide +kernel
theorem dX8_goOn_132 : decode cX8_goOn 132 = .ok (.iload_n 1, 1) := by decide +kernel
theorem dX8_goOn_133 : decode cX8_goOn 133 = .ok (.aload_n 0, 1) := by decide +kernel
theorem dX8_goOn_134 : decode cX8_goOn 134 = .ok (.getfield 81, 3) := by decide +kernel
theorem dX8_goOn_137 : decode cX8_goOn 137 = .ok (.if_icmp .ge 42, 3) := by decide +kernel
theorem dX8_goOn_140 : decode cX8_goOn 140 = .ok (.iload_n 1, 1) := by decide +kernel
theorem dX8_goOn_141 : decode cX8_goOn 141 = .ok (.iconst 1, 1) := by decide +kernel
theorem dX8_goOn_142 : decode cX8_goOn 142 = .ok (.iadd, 1) := by decide +kernel
theorem dX8_goOn_143 : decode cX8_goOn 143 = .ok (.istore_n 2, 1) := by decide +kernel
theorem dX8_goOn_144 : decode cX8_goOn 144 = .ok (.iload_n 2, 1) := by decide +kernel
theorem dX8_goOn_145 : decode cX8_goOn 145 = .ok (.aload_n 0, 1) := by decide +kernel
theorem dX8_goOn_146 : decode cX8_goOn 146 = .ok (.getfield 81, 3) := by decide +kernel
theorem dX8_goOn_149 : decode cX8_goOn 149 = .ok (.if_icmp .ge 24, 3) := by decide +kernel
theorem dX8_goOn_152 : decode cX8_goOn 152 = .ok (.aload_n 0, 1) := by decide +kernel
theorem dX8_goOn_153 : decode cX8_goOn 153 = .ok (.iload_n 1, 1) := by decide +kernel
theorem dX8_goOn_154 : decode cX8_goOn 154 = .ok (.iload_n 2, 1) := by decide +kernel
theorem dX8_goOn_155 : decode cX8_goOn 155 = .ok (.invokevirtual 164, 3) := by decide +kernel
theorem dX8_goOn_158 : decode cX8_goOn 158 = .ok (.ifCond .eq 9, 3) := by decide +kernel
theorem dX8_goOn_161 : decode cX8_goOn 161 = .ok (.aload_n 0, 1) := by decide +kernel
theorem dX8_goOn_162 : decode cX8_goOn 162 = .ok (.iload_n 1, 1) := by decide +kernel
theorem dX8_goOn_163 : decode cX8_goOn 163 = .ok (.iload_n 2, 1) := by decide +kernel
theorem dX8_goOn_164 : decode cX8_goOn 164 = .ok (.invokevirtual 168, 3) := by decide +kernel
theorem dX8_goOn_167 : decode cX8_goOn 167 = .ok (.iinc 2 1, 3) := by decide +kernel
theorem dX8_goOn_170 : decode cX8_goOn 170 = .ok (.goto (-26), 3) := by decide +kernel
theorem dX8_goOn_173 : decode cX8_goOn 173 = .ok (.iinc 1 1, 3) := by decide +kernel
theorem dX8_goOn_176 : decode cX8_goOn 176 = .ok (.goto (-44), 3) := by decide +kernel
theorem dX8_goOn_179 : decode cX8_goOn 179 = .ok (.iconst 0, 1) := by decide +kernel
theorem dX8_goOn_180 : decode cX8_goOn 180 = .ok (.istore_n 1, 1) := by decide +kernel
theorem dX8_goOn_181 : decode cX8_goOn 181 = .ok (.iload_n 1, 1) := by decide +kernel
theorem dX8_goOn_182 : decode cX8_goOn 182 = .ok (.aload_n 0, 1) := by decide +kernel
theorem dX8_goOn_183 : decode cX8_goOn 183 = .ok (.getfield 81, 3) := by decide +kernel
theorem dX8_goOn_186 : decode cX8_goOn 186 = .ok (.if_icmp .ge 44, 3) := by decide +kernel
theorem dX8_goOn_189 : decode cX8_goOn 189 = .ok (.aload_n 0, 1) := by decide +kernel
theorem dX8_goOn_190 : decode cX8_goOn 190 = .ok (.getfield 32, 3) := by decide +kernel
theorem dX8_goOn_193 : decode cX8_goOn 193 = .ok (.iload_n 1, 1) := by decide +kernel
theorem dX8_goOn_194 : decode cX8_goOn 194 = .ok (.dup2, 1) := by decide +kernel
theorem dX8_goOn_195 : decode cX8_goOn 195 = .ok (.iaload, 1) := by decide +kernel
theorem dX8_goOn_196 : decode cX8_goOn 196 = .ok (.aload_n 0, 1) := by decide +kernel
theorem dX8_goOn_197 : decode cX8_goOn 197 = .ok (.getfield 35, 3) := by decide +kernel
theorem dX8_goOn_200 : decode cX8_goOn 200 = .ok (.iload_n 1, 1) := by decide +kernel
theorem dX8_goOn_201 : decode cX8_goOn 201 = .ok (.baload, 1) := by decide +kernel
theorem dX8_goOn_202 : decode cX8_goOn 202 = .ok (.ifCond .eq 19, 3) := by decide +kernel
theorem dX8_goOn_205 : decode cX8_goOn 205 = .ok (.aload_n 0, 1) := by decide +kernel
theorem dX8_goOn_206 : decode cX8_goOn 206 = .ok (.getfield 32, 3) := by decide +kernel
theorem dX8_goOn_209 : decode cX8_goOn 209 = .ok (.iload_n 1, 1) := by decide +kernel
theorem dX8_goOn_210 : decode cX8_goOn 210 = .ok (.iaload, 1) := by decide +kernel
theorem dX8_goOn_211 : decode cX8_goOn 211 = .ok (.sipush 1000, 3) := by decide +kernel
theorem dX8_goOn_214 : decode cX8_goOn 214 = .ok (.if_icmp .ge 7, 3) := by decide +kernel
theorem dX8_goOn_217 : decode cX8_goOn 217 = .ok (.iconst 1, 1) := by decide +kernel
theorem dX8_goOn_218 : decode cX8_goOn 218 = .ok (.goto 4, 3) := by decide +kernel
theorem dX8_goOn_221 : decode cX8_goOn 221 = .ok (.iconst 0, 1) := by decide +kernel
theorem dX8_goOn_222 : decode cX8_goOn 222 = .ok (.iadd, 1) := by decide +kernel
theorem dX8_goOn_223 : decode cX8_goOn 223 = .ok (.iastore, 1) := by decide +kernel
theorem dX8_goOn_224 : decode cX8_goOn 224 = .ok (.iinc 1 1, 3) := by decide +kernel
theorem dX8_goOn_227 : decode cX8_goOn 227 = .ok (.goto (-46), 3) := by decide +kernel
theorem dX8_goOn_230 : decode cX8_goOn 230 = .ok (.aload_n 0, 1) := by decide +kernel
theorem dX8_goOn_231 : decode cX8_goOn 231 = .ok (.dup, 1) := by decide +kernel
theorem dX8_goOn_232 : decode cX8_goOn 232 = .ok (.getfield 171, 3) := by decide +kernel
theorem dX8_goOn_235 : decode cX8_goOn 235 = .ok (.iconst 1, 1) := by decide +kernel
theorem dX8_goOn_236 : decode cX8_goOn 236 = .ok (.iadd, 1) := by decide +kernel
theorem dX8_goOn_237 : decode cX8_goOn 237 = .ok (.putfield 171, 3) := by decide +kernel
theorem dX8_goOn_240 : decode cX8_goOn 240 = .ok (.return_, 1) := by decide +kernel
theorem dX8_tick_0 : decode cX8_tick 0 = .ok (.aload_n 0, 1) := by decide +kernel
theorem dX8_tick_1 : decode cX8_tick 1 = .ok (.iload_n 1, 1) := by decide +kernel
theorem dX8_tick_2 : decode cX8_tick 2 = .ok (.iconst 1, 1) := by decide +kernel
theorem dX8_tick_3 : decode cX8_tick 3 = .ok (.bipush 50, 2) := by decide +kernel
theorem dX8_tick_5 : decode cX8_tick 5 = .ok (.invokestatic 72, 3) := by decide +kernel
theorem dX8_tick_8 : decode cX8_tick 8 = .ok (.ifCond .ne 7, 3) := by decide +kernel
theorem dX8_tick_11 : decode cX8_tick 11 = .ok (.iconst 1, 1) := by decide +kernel
theorem dX8_tick_12 : decode cX8_tick 12 = .ok (.goto 20, 3) := by decide +kernel
theorem dX8_tick_15 : decode cX8_tick 15 = .ok (.aload_n 0, 1) := by decide +kernel
theorem dX8_tick_16 : decode cX8_tick 16 = .ok (.getfield 171, 3) := by decide +kernel
theorem dX8_tick_19 : decode cX8_tick 19 = .ok (.iload_n 1, 1) := by decide +kernel
theorem dX8_tick_20 : decode cX8_tick 20 = .ok (.iadd, 1) := by decide +kernel
theorem dX8_tick_21 : decode cX8_tick 21 = .ok (.sipush 2000, 3) := by decide +kernel
theorem dX8_tick_24 : decode cX8_tick 24 = .ok (.if_icmp .le 7, 3) := by decide +kernel
theorem dX8_tick_27 : decode cX8_tick 27 = .ok (.iconst 2, 1) := by decide +kernel
theorem dX8_tick_28 : decode cX8_tick 28 = .ok (.goto 4, 3) := by decide +kernel
theorem dX8_tick_31 : decode cX8_tick 31 = .ok (.iconst 0, 1) := by decide +kernel
theorem dX8_tick_32 : decode cX8_tick 32 = .ok (.putfield 69, 3) := by decide +kernel
theorem dX8_tick_35 : decode cX8_tick 35 = .ok (.aload_n 0, 1) := by decide +kernel
theorem dX8_tick_36 : decode cX8_tick 36 = .ok (.getfield 69, 3) := by decide +kernel
theorem dX8_tick_39 : decode cX8_tick 39 = .ok (.ifCond .le 5, 3) := by decide +kernel
theorem dX8_tick_42 : decode cX8_tick 42 = .ok (.iconst 0, 1) := by decide +kernel
theorem dX8_tick_43 : decode cX8_tick 43 = .ok (.ireturn, 1) := by decide +kernel
theorem dX8_tick_44 : decode cX8_tick 44 = .ok (.iconst 0, 1) := by decide +kernel
theorem dX8_tick_45 : decode cX8_tick 45 = .ok (.istore_n 2, 1) := by decide +kernel
theorem dX8_tick_46 : decode cX8_tick 46 = .ok (.iload_n 2, 1) := by decide +kernel
theorem dX8_tick_47 : decode cX8_tick 47 = .ok (.iload_n 1, 1) := by decide +kernel
theorem dX8_tick_48 : decode cX8_tick 48 = .ok (.if_icmp .ge 13, 3) := by decide +kernel
theorem dX8_tick_51 : decode cX8_tick 51 = .ok (.aload_n 0, 1) := by decide +kernel
theorem dX8_tick_52 : decode cX8_tick 52 = .ok (.invokevirtual 174, 3) := by decide +kernel
theorem dX8_tick_55 : decode cX8_tick 55 = .ok (.iinc 2 1, 3) := by decide +kernel
theorem dX8_tick_58 : decode cX8_tick 58 = .ok (.goto (-12), 3) := by decide +kernel
theorem dX8_tick_61 : decode cX8_tick 61 = .ok (.aload_n 0, 1) := by decide +kernel
theorem dX8_tick_62 : decode cX8_tick 62 = .ok (.getfield 171, 3) := by decide +kernel
theorem dX8_tick_65 : decode cX8_tick 65 = .ok (.ireturn, 1) := by decide +kernel
theorem dX8_massOf_0 : decode cX8_massOf 0 = .ok (.iconst 0, 1) := by decide +kernel
theorem dX8_massOf_1 : decode cX8_massOf 1 = .ok (.istore_n 2, 1) := by decide +kernel
theorem dX8_massOf_2 : decode cX8_massOf 2 = .ok (.iconst 0, 1) := by decide +kernel
theorem dX8_massOf_3 : decode cX8_massOf 3 = .ok (.istore_n 3, 1) := by decide +kernel
theorem dX8_massOf_4 : decode cX8_massOf 4 = .ok (.iload_n 3, 1) := by decide +kernel
theorem dX8_massOf_5 : decode cX8_massOf 5 = .ok (.aload_n 0, 1) := by decide +kernel
theorem dX8_massOf_6 : decode cX8_massOf 6 = .ok (.getfield 81, 3) := by decide +kernel
theorem dX8_massOf_9 : decode cX8_massOf 9 = .ok (.if_icmp .ge 41, 3) := by decide +kernel
theorem dX8_massOf_12 : decode cX8_massOf 12 = .ok (.iload_n 2, 1) := by decide +kernel
theorem dX8_massOf_13 : decode cX8_massOf 13 = .ok (.aload_n 0, 1) := by decide +kernel
theorem dX8_massOf_14 : decode cX8_massOf 14 = .ok (.getfield 35, 3) := by decide +kernel
theorem dX8_massOf_17 : decode cX8_massOf 17 = .ok (.iload_n 3, 1) := by decide +kernel
theorem dX8_massOf_18 : decode cX8_massOf 18 = .ok (.baload, 1) := by decide +kernel
theorem dX8_massOf_19 : decode cX8_massOf 19 = .ok (.ifCond .eq 22, 3) := by decide +kernel
theorem dX8_massOf_22 : decode cX8_massOf 22 = .ok (.aload_n 0, 1) := by decide +kernel
theorem dX8_massOf_23 : decode cX8_massOf 23 = .ok (.getfield 19, 3) := by decide +kernel
theorem dX8_massOf_26 : decode cX8_massOf 26 = .ok (.iload_n 3, 1) := by decide +kernel
theorem dX8_massOf_27 : decode cX8_massOf 27 = .ok (.iaload, 1) := by decide +kernel
theorem dX8_massOf_28 : decode cX8_massOf 28 = .ok (.iload_n 1, 1) := by decide +kernel
theorem dX8_massOf_29 : decode cX8_massOf 29 = .ok (.if_icmp .ne 12, 3) := by decide +kernel
theorem dX8_massOf_32 : decode cX8_massOf 32 = .ok (.aload_n 0, 1) := by decide +kernel
theorem dX8_massOf_33 : decode cX8_massOf 33 = .ok (.getfield 26, 3) := by decide +kernel
theorem dX8_massOf_36 : decode cX8_massOf 36 = .ok (.iload_n 3, 1) := by decide +kernel
theorem dX8_massOf_37 : decode cX8_massOf 37 = .ok (.iaload, 1) := by decide +kernel
theorem dX8_massOf_38 : decode cX8_massOf 38 = .ok (.goto 4, 3) := by decide +kernel
theorem dX8_massOf_41 : decode cX8_massOf 41 = .ok (.iconst 0, 1) := by decide +kernel
theorem dX8_massOf_42 : decode cX8_massOf 42 = .ok (.iadd, 1) := by decide +kernel
theorem dX8_massOf_43 : decode cX8_massOf 43 = .ok (.istore_n 2, 1) := by decide +kernel
theorem dX8_massOf_44 : decode cX8_massOf 44 = .ok (.iinc 3 1, 3) := by decide +kernel
theorem dX8_massOf_47 : decode cX8_massOf 47 = .ok (.goto (-43), 3) := by decide +kernel
theorem dX8_massOf_50 : decode cX8_massOf 50 = .ok (.iload_n 2, 1) := by decide +kernel
theorem dX8_massOf_51 : decode cX8_massOf 51 = .ok (.ireturn, 1) := by decide +kernel
theorem dX8_frame_0 : decode cX8_frame 0 = .ok (.aload_n 0, 1) := by decide +kernel
theorem dX8_frame_1 : decode cX8_frame 1 = .ok (.aload_n 0, 1) := by decide +kernel
theorem dX8_frame_2 : decode cX8_frame 2 = .ok (.getfield 177, 3) := by decide +kernel
theorem dX8_frame_5 : decode cX8_frame 5 = .ok (.bipush 20, 2) := by decide +kernel
theorem dX8_frame_7 : decode cX8_frame 7 = .ok (.if_icmp .ne 7, 3) := by decide +kernel
theorem dX8_frame_10 : decode cX8_frame 10 = .ok (.iconst 1, 1) := by decide +kernel
theorem dX8_frame_11 : decode cX8_frame 11 = .ok (.goto 4, 3) := by decide +kernel
theorem dX8_frame_14 : decode cX8_frame 14 = .ok (.iconst 0, 1) := by decide +kernel
theorem dX8_frame_15 : decode cX8_frame 15 = .ok (.putfield 69, 3) := by decide +kernel
theorem dX8_frame_18 : decode cX8_frame 18 = .ok (.aload_n 0, 1) := by decide +kernel
theorem dX8_frame_19 : decode cX8_frame 19 = .ok (.getfield 69, 3) := by decide +kernel
theorem dX8_frame_22 : decode cX8_frame 22 = .ok (.ifCond .le 5, 3) := by decide +kernel
theorem dX8_frame_25 : decode cX8_frame 25 = .ok (.iconst 0, 1) := by decide +kernel
theorem dX8_frame_26 : decode cX8_frame 26 = .ok (.ireturn, 1) := by decide +kernel
theorem dX8_frame_27 : decode cX8_frame 27 = .ok (.iconst 0, 1) := by decide +kernel
theorem dX8_frame_28 : decode cX8_frame 28 = .ok (.istore_n 1, 1) := by decide +kernel
theorem dX8_frame_29 : decode cX8_frame 29 = .ok (.iload_n 1, 1) := by decide +kernel
theorem dX8_frame_30 : decode cX8_frame 30 = .ok (.bipush 64, 2) := by decide +kernel
theorem dX8_frame_32 : decode cX8_frame 32 = .ok (.if_icmp .ge 28, 3) := by decide +kernel
theorem dX8_frame_35 : decode cX8_frame 35 = .ok (.aload_n 0, 1) := by decide +kernel
theorem dX8_frame_36 : decode cX8_frame 36 = .ok (.getfield 51, 3) := by decide +kernel
theorem dX8_frame_39 : decode cX8_frame 39 = .ok (.bipush 64, 2) := by decide +kernel
theorem dX8_frame_41 : decode cX8_frame 41 = .ok (.aload_n 0, 1) := by decide +kernel
theorem dX8_frame_42 : decode cX8_frame 42 = .ok (.getfield 177, 3) := by decide +kernel
theorem dX8_frame_45 : decode cX8_frame 45 = .ok (.imul, 1) := by decide +kernel
theorem dX8_frame_46 : decode cX8_frame 46 = .ok (.iload_n 1, 1) := by decide +kernel
theorem dX8_frame_47 : decode cX8_frame 47 = .ok (.iadd, 1) := by decide +kernel
theorem dX8_frame_48 : decode cX8_frame 48 = .ok (.aload_n 0, 1) := by decide +kernel
theorem dX8_frame_49 : decode cX8_frame 49 = .ok (.iload_n 1, 1) := by decide +kernel
theorem dX8_frame_50 : decode cX8_frame 50 = .ok (.invokevirtual 180, 3) := by decide +kernel
theorem dX8_frame_53 : decode cX8_frame 53 = .ok (.iastore, 1) := by decide +kernel
theorem dX8_frame_54 : decode cX8_frame 54 = .ok (.iinc 1 1, 3) := by decide +kernel
theorem dX8_frame_57 : decode cX8_frame 57 = .ok (.goto (-28), 3) := by decide +kernel
theorem dX8_frame_60 : decode cX8_frame 60 = .ok (.aload_n 0, 1) := by decide +kernel
theorem dX8_frame_61 : decode cX8_frame 61 = .ok (.getfield 54, 3) := by decide +kernel
theorem dX8_frame_64 : decode cX8_frame 64 = .ok (.aload_n 0, 1) := by decide +kernel
theorem dX8_frame_65 : decode cX8_frame 65 = .ok (.getfield 177, 3) := by decide +kernel
theorem dX8_frame_68 : decode cX8_frame 68 = .ok (.aload_n 0, 1) := by decide +kernel
theorem dX8_frame_69 : decode cX8_frame 69 = .ok (.getfield 171, 3) := by decide +kernel
theorem dX8_frame_72 : decode cX8_frame 72 = .ok (.iastore, 1) := by decide +kernel
theorem dX8_frame_73 : decode cX8_frame 73 = .ok (.aload_n 0, 1) := by decide +kernel
theorem dX8_frame_74 : decode cX8_frame 74 = .ok (.dup, 1) := by decide +kernel
theorem dX8_frame_75 : decode cX8_frame 75 = .ok (.getfield 177, 3) := by decide +kernel
theorem dX8_frame_78 : decode cX8_frame 78 = .ok (.iconst 1, 1) := by decide +kernel
theorem dX8_frame_79 : decode cX8_frame 79 = .ok (.iadd, 1) := by decide +kernel
theorem dX8_frame_80 : decode cX8_frame 80 = .ok (.putfield 177, 3) := by decide +kernel
theorem dX8_frame_83 : decode cX8_frame 83 = .ok (.aload_n 0, 1) := by decide +kernel
theorem dX8_frame_84 : decode cX8_frame 84 = .ok (.getfield 177, 3) := by decide +kernel
theorem dX8_frame_87 : decode cX8_frame 87 = .ok (.iconst 1, 1) := by decide +kernel
theorem dX8_frame_88 : decode cX8_frame 88 = .ok (.isub, 1) := by decide +kernel
theorem dX8_frame_89 : decode cX8_frame 89 = .ok (.ireturn, 1) := by decide +kernel
theorem dX8_isFrame_0 : decode cX8_isFrame 0 = .ok (.iload_n 1, 1) := by decide +kernel
theorem dX8_isFrame_1 : decode cX8_isFrame 1 = .ok (.iconst 0, 1) := by decide +kernel
theorem dX8_isFrame_2 : decode cX8_isFrame 2 = .ok (.aload_n 0, 1) := by decide +kernel
theorem dX8_isFrame_3 : decode cX8_isFrame 3 = .ok (.getfield 177, 3) := by decide +kernel
theorem dX8_isFrame_6 : decode cX8_isFrame 6 = .ok (.iconst 1, 1) := by decide +kernel
theorem dX8_isFrame_7 : decode cX8_isFrame 7 = .ok (.isub, 1) := by decide +kernel
theorem dX8_isFrame_8 : decode cX8_isFrame 8 = .ok (.invokestatic 72, 3) := by decide +kernel
theorem dX8_isFrame_11 : decode cX8_isFrame 11 = .ok (.ireturn, 1) := by decide +kernel
theorem dX8_claim_0 : decode cX8_claim 0 = .ok (.iload_n 2, 1) := by decide +kernel
theorem dX8_claim_1 : decode cX8_claim 1 = .ok (.invokestatic 76, 3) := by decide +kernel
theorem dX8_claim_4 : decode cX8_claim 4 = .ok (.ifCond .eq 30, 3) := by decide +kernel
theorem dX8_claim_7 : decode cX8_claim 7 = .ok (.iload_n 3, 1) := by decide +kernel
theorem dX8_claim_8 : decode cX8_claim 8 = .ok (.invokestatic 76, 3) := by decide +kernel
theorem dX8_claim_11 : decode cX8_claim 11 = .ok (.ifCond .eq 23, 3) := by decide +kernel
theorem dX8_claim_14 : decode cX8_claim 14 = .ok (.iload_n 2, 1) := by decide +kernel
theorem dX8_claim_15 : decode cX8_claim 15 = .ok (.iload_n 3, 1) := by decide +kernel
theorem dX8_claim_16 : decode cX8_claim 16 = .ok (.if_icmp .gt 18, 3) := by decide +kernel
theorem dX8_claim_19 : decode cX8_claim 19 = .ok (.iload 4, 2) := by decide +kernel
theorem dX8_claim_21 : decode cX8_claim 21 = .ok (.iconst 0, 1) := by decide +kernel
theorem dX8_claim_22 : decode cX8_claim 22 = .ok (.ldc 183, 2) := by decide +kernel
theorem dX8_claim_24 : decode cX8_claim 24 = .ok (.invokestatic 72, 3) := by decide +kernel
theorem dX8_claim_27 : decode cX8_claim 27 = .ok (.ifCond .eq 7, 3) := by decide +kernel
theorem dX8_claim_30 : decode cX8_claim 30 = .ok (.iconst 1, 1) := by decide +kernel
theorem dX8_claim_31 : decode cX8_claim 31 = .ok (.goto 4, 3) := by decide +kernel
theorem dX8_claim_34 : decode cX8_claim 34 = .ok (.iconst 0, 1) := by decide +kernel
theorem dX8_claim_35 : decode cX8_claim 35 = .ok (.istore 5, 2) := by decide +kernel
theorem dX8_claim_37 : decode cX8_claim 37 = .ok (.aload_n 0, 1) := by decide +kernel
theorem dX8_claim_38 : decode cX8_claim 38 = .ok (.aload_n 0, 1) := by decide +kernel
theorem dX8_claim_39 : decode cX8_claim 39 = .ok (.iload_n 1, 1) := by decide +kernel
theorem dX8_claim_40 : decode cX8_claim 40 = .ok (.invokevirtual 184, 3) := by decide +kernel
theorem dX8_claim_43 : decode cX8_claim 43 = .ok (.ifCond .ne 7, 3) := by decide +kernel
theorem dX8_claim_46 : decode cX8_claim 46 = .ok (.iconst 1, 1) := by decide +kernel
theorem dX8_claim_47 : decode cX8_claim 47 = .ok (.goto 26, 3) := by decide +kernel
theorem dX8_claim_50 : decode cX8_claim 50 = .ok (.iload 5, 2) := by decide +kernel
theorem dX8_claim_52 : decode cX8_claim 52 = .ok (.ifCond .ne 7, 3) := by decide +kernel
theorem dX8_claim_55 : decode cX8_claim 55 = .ok (.iconst 2, 1) := by decide +kernel
theorem dX8_claim_56 : decode cX8_claim 56 = .ok (.goto 17, 3) := by decide +kernel
theorem dX8_claim_59 : decode cX8_claim 59 = .ok (.aload_n 0, 1) := by decide +kernel
theorem dX8_claim_60 : decode cX8_claim 60 = .ok (.getfield 187, 3) := by decide +kernel
theorem dX8_claim_63 : decode cX8_claim 63 = .ok (.bipush 40, 2) := by decide +kernel
theorem dX8_claim_65 : decode cX8_claim 65 = .ok (.if_icmp .ne 7, 3) := by decide +kernel
theorem dX8_claim_68 : decode cX8_claim 68 = .ok (.iconst 3, 1) := by decide +kernel
theorem dX8_claim_69 : decode cX8_claim 69 = .ok (.goto 4, 3) := by decide +kernel
theorem dX8_claim_72 : decode cX8_claim 72 = .ok (.iconst 0, 1) := by decide +kernel
theorem dX8_claim_73 : decode cX8_claim 73 = .ok (.putfield 69, 3) := by decide +kernel
theorem dX8_claim_76 : decode cX8_claim 76 = .ok (.aload_n 0, 1) := by decide +kernel
theorem dX8_claim_77 : decode cX8_claim 77 = .ok (.getfield 69, 3) := by decide +kernel
theorem dX8_claim_80 : decode cX8_claim 80 = .ok (.ifCond .le 5, 3) := by decide +kernel
theorem dX8_claim_83 : decode cX8_claim 83 = .ok (.iconst 0, 1) := by decide +kernel
theorem dX8_claim_84 : decode cX8_claim 84 = .ok (.ireturn, 1) := by decide +kernel
theorem dX8_claim_85 : decode cX8_claim 85 = .ok (.aload_n 0, 1) := by decide +kernel
theorem dX8_claim_86 : decode cX8_claim 86 = .ok (.getfield 57, 3) := by decide +kernel
theorem dX8_claim_89 : decode cX8_claim 89 = .ok (.aload_n 0, 1) := by decide +kernel
theorem dX8_claim_90 : decode cX8_claim 90 = .ok (.getfield 187, 3) := by decide +kernel
theorem dX8_claim_93 : decode cX8_claim 93 = .ok (.iload_n 1, 1) := by decide +kernel
theorem dX8_claim_94 : decode cX8_claim 94 = .ok (.iastore, 1) := by decide +kernel
theorem dX8_claim_95 : decode cX8_claim 95 = .ok (.aload_n 0, 1) := by decide +kernel
theorem dX8_claim_96 : decode cX8_claim 96 = .ok (.getfield 60, 3) := by decide +kernel
theorem dX8_claim_99 : decode cX8_claim 99 = .ok (.aload_n 0, 1) := by decide +kernel
theorem dX8_claim_100 : decode cX8_claim 100 = .ok (.getfield 187, 3) := by decide +kernel
theorem dX8_claim_103 : decode cX8_claim 103 = .ok (.iload_n 2, 1) := by decide +kernel
theorem dX8_claim_104 : decode cX8_claim 104 = .ok (.iastore, 1) := by decide +kernel
theorem dX8_claim_105 : decode cX8_claim 105 = .ok (.aload_n 0, 1) := by decide +kernel
theorem dX8_claim_106 : decode cX8_claim 106 = .ok (.getfield 63, 3) := by decide +kernel
theorem dX8_claim_109 : decode cX8_claim 109 = .ok (.aload_n 0, 1) := by decide +kernel
theorem dX8_claim_110 : decode cX8_claim 110 = .ok (.getfield 187, 3) := by decide +kernel
theorem dX8_claim_113 : decode cX8_claim 113 = .ok (.iload_n 3, 1) := by decide +kernel
theorem dX8_claim_114 : decode cX8_claim 114 = .ok (.iastore, 1) := by decide +kernel
theorem dX8_claim_115 : decode cX8_claim 115 = .ok (.aload_n 0, 1) := by decide +kernel
theorem dX8_claim_116 : decode cX8_claim 116 = .ok (.getfield 66, 3) := by decide +kernel
theorem dX8_claim_119 : decode cX8_claim 119 = .ok (.aload_n 0, 1) := by decide +kernel
theorem dX8_claim_120 : decode cX8_claim 120 = .ok (.getfield 187, 3) := by decide +kernel
theorem dX8_claim_123 : decode cX8_claim 123 = .ok (.iload 4, 2) := by decide +kernel
theorem dX8_claim_125 : decode cX8_claim 125 = .ok (.iastore, 1) := by decide +kernel
theorem dX8_claim_126 : decode cX8_claim 126 = .ok (.aload_n 0, 1) := by decide +kernel
theorem dX8_claim_127 : decode cX8_claim 127 = .ok (.dup, 1) := by decide +kernel
theorem dX8_claim_128 : decode cX8_claim 128 = .ok (.getfield 187, 3) := by decide +kernel
theorem dX8_claim_131 : decode cX8_claim 131 = .ok (.iconst 1, 1) := by decide +kernel
theorem dX8_claim_132 : decode cX8_claim 132 = .ok (.iadd, 1) := by decide +kernel
theorem dX8_claim_133 : decode cX8_claim 133 = .ok (.putfield 187, 3) := by decide +kernel
theorem dX8_claim_136 : decode cX8_claim 136 = .ok (.aload_n 0, 1) := by decide +kernel
theorem dX8_claim_137 : decode cX8_claim 137 = .ok (.getfield 187, 3) := by decide +kernel
theorem dX8_claim_140 : decode cX8_claim 140 = .ok (.iconst 1, 1) := by decide +kernel
theorem dX8_claim_141 : decode cX8_claim 141 = .ok (.isub, 1) := by decide +kernel
theorem dX8_claim_142 : decode cX8_claim 142 = .ok (.ireturn, 1) := by decide +kernel
theorem dX8_now_0 : decode cX8_now 0 = .ok (.aload_n 0, 1) := by decide +kernel
theorem dX8_now_1 : decode cX8_now 1 = .ok (.iconst 0, 1) := by decide +kernel
theorem dX8_now_2 : decode cX8_now 2 = .ok (.putfield 69, 3) := by decide +kernel
theorem dX8_now_5 : decode cX8_now 5 = .ok (.aload_n 0, 1) := by decide +kernel
theorem dX8_now_6 : decode cX8_now 6 = .ok (.getfield 171, 3) := by decide +kernel
theorem dX8_now_9 : decode cX8_now 9 = .ok (.ireturn, 1) := by decide +kernel
theorem dX8_told_0 : decode cX8_told 0 = .ok (.aload_n 0, 1) := by decide +kernel
theorem dX8_told_1 : decode cX8_told 1 = .ok (.iload_n 1, 1) := by decide +kernel
theorem dX8_told_2 : decode cX8_told 2 = .ok (.iconst 0, 1) := by decide +kernel
theorem dX8_told_3 : decode cX8_told 3 = .ok (.aload_n 0, 1) := by decide +kernel
theorem dX8_told_4 : decode cX8_told 4 = .ok (.getfield 81, 3) := by decide +kernel
theorem dX8_told_7 : decode cX8_told 7 = .ok (.iconst 1, 1) := by decide +kernel
theorem dX8_told_8 : decode cX8_told 8 = .ok (.isub, 1) := by decide +kernel
theorem dX8_told_9 : decode cX8_told 9 = .ok (.invokestatic 72, 3) := by decide +kernel
theorem dX8_told_12 : decode cX8_told 12 = .ok (.ifCond .ne 7, 3) := by decide +kernel
theorem dX8_told_15 : decode cX8_told 15 = .ok (.iconst 1, 1) := by decide +kernel
theorem dX8_told_16 : decode cX8_told 16 = .ok (.goto 17, 3) := by decide +kernel
theorem dX8_told_19 : decode cX8_told 19 = .ok (.iload_n 2, 1) := by decide +kernel
theorem dX8_told_20 : decode cX8_told 20 = .ok (.iconst 0, 1) := by decide +kernel
theorem dX8_told_21 : decode cX8_told 21 = .ok (.iconst 5, 1) := by decide +kernel
theorem dX8_told_22 : decode cX8_told 22 = .ok (.invokestatic 72, 3) := by decide +kernel
theorem dX8_told_25 : decode cX8_told 25 = .ok (.ifCond .ne 7, 3) := by decide +kernel
theorem dX8_told_28 : decode cX8_told 28 = .ok (.iconst 2, 1) := by decide +kernel
theorem dX8_told_29 : decode cX8_told 29 = .ok (.goto 4, 3) := by decide +kernel
theorem dX8_told_32 : decode cX8_told 32 = .ok (.iconst 0, 1) := by decide +kernel
theorem dX8_told_33 : decode cX8_told 33 = .ok (.putfield 69, 3) := by decide +kernel
theorem dX8_told_36 : decode cX8_told 36 = .ok (.aload_n 0, 1) := by decide +kernel
theorem dX8_told_37 : decode cX8_told 37 = .ok (.getfield 69, 3) := by decide +kernel
theorem dX8_told_40 : decode cX8_told 40 = .ok (.ifCond .le 5, 3) := by decide +kernel
theorem dX8_told_43 : decode cX8_told 43 = .ok (.iconst 0, 1) := by decide +kernel
theorem dX8_told_44 : decode cX8_told 44 = .ok (.ireturn, 1) := by decide +kernel
theorem dX8_told_45 : decode cX8_told 45 = .ok (.iload_n 2, 1) := by decide +kernel
theorem dX8_told_46 : decode cX8_told 46 = .ok (.tableswitch 69 0 4 #[34, 41, 48, 55, 62], 34) := by decide +kernel
theorem dX8_told_80 : decode cX8_told 80 = .ok (.aload_n 0, 1) := by decide +kernel
theorem dX8_told_81 : decode cX8_told 81 = .ok (.getfield 19, 3) := by decide +kernel
theorem dX8_told_84 : decode cX8_told 84 = .ok (.iload_n 1, 1) := by decide +kernel
theorem dX8_told_85 : decode cX8_told 85 = .ok (.iaload, 1) := by decide +kernel
theorem dX8_told_86 : decode cX8_told 86 = .ok (.ireturn, 1) := by decide +kernel
theorem dX8_told_87 : decode cX8_told 87 = .ok (.aload_n 0, 1) := by decide +kernel
theorem dX8_told_88 : decode cX8_told 88 = .ok (.getfield 23, 3) := by decide +kernel
theorem dX8_told_91 : decode cX8_told 91 = .ok (.iload_n 1, 1) := by decide +kernel
theorem dX8_told_92 : decode cX8_told 92 = .ok (.iaload, 1) := by decide +kernel
theorem dX8_told_93 : decode cX8_told 93 = .ok (.ireturn, 1) := by decide +kernel
theorem dX8_told_94 : decode cX8_told 94 = .ok (.aload_n 0, 1) := by decide +kernel
theorem dX8_told_95 : decode cX8_told 95 = .ok (.getfield 26, 3) := by decide +kernel
theorem dX8_told_98 : decode cX8_told 98 = .ok (.iload_n 1, 1) := by decide +kernel
theorem dX8_told_99 : decode cX8_told 99 = .ok (.iaload, 1) := by decide +kernel
theorem dX8_told_100 : decode cX8_told 100 = .ok (.ireturn, 1) := by decide +kernel
theorem dX8_told_101 : decode cX8_told 101 = .ok (.aload_n 0, 1) := by decide +kernel
theorem dX8_told_102 : decode cX8_told 102 = .ok (.getfield 29, 3) := by decide +kernel
theorem dX8_told_105 : decode cX8_told 105 = .ok (.iload_n 1, 1) := by decide +kernel
theorem dX8_told_106 : decode cX8_told 106 = .ok (.iaload, 1) := by decide +kernel
theorem dX8_told_107 : decode cX8_told 107 = .ok (.ireturn, 1) := by decide +kernel
theorem dX8_told_108 : decode cX8_told 108 = .ok (.aload_n 0, 1) := by decide +kernel
theorem dX8_told_109 : decode cX8_told 109 = .ok (.getfield 32, 3) := by decide +kernel
theorem dX8_told_112 : decode cX8_told 112 = .ok (.iload_n 1, 1) := by decide +kernel
theorem dX8_told_113 : decode cX8_told 113 = .ok (.iaload, 1) := by decide +kernel
theorem dX8_told_114 : decode cX8_told 114 = .ok (.ireturn, 1) := by decide +kernel
theorem dX8_told_115 : decode cX8_told 115 = .ok (.aload_n 0, 1) := by decide +kernel
theorem dX8_told_116 : decode cX8_told 116 = .ok (.getfield 35, 3) := by decide +kernel
theorem dX8_told_119 : decode cX8_told 119 = .ok (.iload_n 1, 1) := by decide +kernel
theorem dX8_told_120 : decode cX8_told 120 = .ok (.baload, 1) := by decide +kernel
theorem dX8_told_121 : decode cX8_told 121 = .ok (.ifCond .eq 7, 3) := by decide +kernel
theorem dX8_told_124 : decode cX8_told 124 = .ok (.iconst 1, 1) := by decide +kernel
theorem dX8_told_125 : decode cX8_told 125 = .ok (.goto 4, 3) := by decide +kernel
theorem dX8_told_128 : decode cX8_told 128 = .ok (.iconst 0, 1) := by decide +kernel
theorem dX8_told_129 : decode cX8_told 129 = .ok (.ireturn, 1) := by decide +kernel
theorem dX8_angle_0 : decode cX8_angle 0 = .ok (.aload_n 0, 1) := by decide +kernel
theorem dX8_angle_1 : decode cX8_angle 1 = .ok (.iload_n 1, 1) := by decide +kernel
theorem dX8_angle_2 : decode cX8_angle 2 = .ok (.iconst 0, 1) := by decide +kernel
theorem dX8_angle_3 : decode cX8_angle 3 = .ok (.aload_n 0, 1) := by decide +kernel
theorem dX8_angle_4 : decode cX8_angle 4 = .ok (.getfield 95, 3) := by decide +kernel
theorem dX8_angle_7 : decode cX8_angle 7 = .ok (.iconst 1, 1) := by decide +kernel
theorem dX8_angle_8 : decode cX8_angle 8 = .ok (.isub, 1) := by decide +kernel
theorem dX8_angle_9 : decode cX8_angle 9 = .ok (.invokestatic 72, 3) := by decide +kernel
theorem dX8_angle_12 : decode cX8_angle 12 = .ok (.ifCond .eq 7, 3) := by decide +kernel
theorem dX8_angle_15 : decode cX8_angle 15 = .ok (.iconst 0, 1) := by decide +kernel
theorem dX8_angle_16 : decode cX8_angle 16 = .ok (.goto 4, 3) := by decide +kernel
theorem dX8_angle_19 : decode cX8_angle 19 = .ok (.iconst 1, 1) := by decide +kernel
theorem dX8_angle_20 : decode cX8_angle 20 = .ok (.putfield 69, 3) := by decide +kernel
theorem dX8_angle_23 : decode cX8_angle 23 = .ok (.aload_n 0, 1) := by decide +kernel
theorem dX8_angle_24 : decode cX8_angle 24 = .ok (.getfield 69, 3) := by decide +kernel
theorem dX8_angle_27 : decode cX8_angle 27 = .ok (.ifCond .le 7, 3) := by decide +kernel
theorem dX8_angle_30 : decode cX8_angle 30 = .ok (.iconst 0, 1) := by decide +kernel
theorem dX8_angle_31 : decode cX8_angle 31 = .ok (.goto 9, 3) := by decide +kernel
theorem dX8_angle_34 : decode cX8_angle 34 = .ok (.aload_n 0, 1) := by decide +kernel
theorem dX8_angle_35 : decode cX8_angle 35 = .ok (.getfield 45, 3) := by decide +kernel
theorem dX8_angle_38 : decode cX8_angle 38 = .ok (.iload_n 1, 1) := by decide +kernel
theorem dX8_angle_39 : decode cX8_angle 39 = .ok (.iaload, 1) := by decide +kernel
theorem dX8_angle_40 : decode cX8_angle 40 = .ok (.ireturn, 1) := by decide +kernel
theorem dX8_speed_0 : decode cX8_speed 0 = .ok (.aload_n 0, 1) := by decide +kernel
theorem dX8_speed_1 : decode cX8_speed 1 = .ok (.iload_n 1, 1) := by decide +kernel
theorem dX8_speed_2 : decode cX8_speed 2 = .ok (.invokestatic 76, 3) := by decide +kernel
theorem dX8_speed_5 : decode cX8_speed 5 = .ok (.ifCond .eq 7, 3) := by decide +kernel
theorem dX8_speed_8 : decode cX8_speed 8 = .ok (.iconst 0, 1) := by decide +kernel
theorem dX8_speed_9 : decode cX8_speed 9 = .ok (.goto 4, 3) := by decide +kernel
theorem dX8_speed_12 : decode cX8_speed 12 = .ok (.iconst 1, 1) := by decide +kernel
theorem dX8_speed_13 : decode cX8_speed 13 = .ok (.putfield 69, 3) := by decide +kernel
theorem dX8_speed_16 : decode cX8_speed 16 = .ok (.aload_n 0, 1) := by decide +kernel
theorem dX8_speed_17 : decode cX8_speed 17 = .ok (.getfield 69, 3) := by decide +kernel
theorem dX8_speed_20 : decode cX8_speed 20 = .ok (.ifCond .le 7, 3) := by decide +kernel
theorem dX8_speed_23 : decode cX8_speed 23 = .ok (.iconst 0, 1) := by decide +kernel
theorem dX8_speed_24 : decode cX8_speed 24 = .ok (.goto 8, 3) := by decide +kernel
theorem dX8_speed_27 : decode cX8_speed 27 = .ok (.aload_n 0, 1) := by decide +kernel
theorem dX8_speed_28 : decode cX8_speed 28 = .ok (.iload_n 1, 1) := by decide +kernel
theorem dX8_speed_29 : decode cX8_speed 29 = .ok (.invokevirtual 145, 3) := by decide +kernel
theorem dX8_speed_32 : decode cX8_speed 32 = .ok (.ireturn, 1) := by decide +kernel
theorem dX8_there_0 : decode cX8_there 0 = .ok (.iconst 0, 1) := by decide +kernel
theorem dX8_there_1 : decode cX8_there 1 = .ok (.istore_n 1, 1) := by decide +kernel
theorem dX8_there_2 : decode cX8_there 2 = .ok (.iconst 0, 1) := by decide +kernel
theorem dX8_there_3 : decode cX8_there 3 = .ok (.istore_n 2, 1) := by decide +kernel
theorem dX8_there_4 : decode cX8_there 4 = .ok (.iload_n 2, 1) := by decide +kernel
theorem dX8_there_5 : decode cX8_there 5 = .ok (.aload_n 0, 1) := by decide +kernel
theorem dX8_there_6 : decode cX8_there 6 = .ok (.getfield 81, 3) := by decide +kernel
theorem dX8_there_9 : decode cX8_there 9 = .ok (.if_icmp .ge 26, 3) := by decide +kernel
theorem dX8_there_12 : decode cX8_there 12 = .ok (.iload_n 1, 1) := by decide +kernel
theorem dX8_there_13 : decode cX8_there 13 = .ok (.aload_n 0, 1) := by decide +kernel
theorem dX8_there_14 : decode cX8_there 14 = .ok (.getfield 35, 3) := by decide +kernel
theorem dX8_there_17 : decode cX8_there 17 = .ok (.iload_n 2, 1) := by decide +kernel
theorem dX8_there_18 : decode cX8_there 18 = .ok (.baload, 1) := by decide +kernel
theorem dX8_there_19 : decode cX8_there 19 = .ok (.ifCond .eq 7, 3) := by decide +kernel
theorem dX8_there_22 : decode cX8_there 22 = .ok (.iconst 1, 1) := by decide +kernel
theorem dX8_there_23 : decode cX8_there 23 = .ok (.goto 4, 3) := by decide +kernel
theorem dX8_there_26 : decode cX8_there 26 = .ok (.iconst 0, 1) := by decide +kernel
theorem dX8_there_27 : decode cX8_there 27 = .ok (.iadd, 1) := by decide +kernel
theorem dX8_there_28 : decode cX8_there 28 = .ok (.istore_n 1, 1) := by decide +kernel
theorem dX8_there_29 : decode cX8_there 29 = .ok (.iinc 2 1, 3) := by decide +kernel
theorem dX8_there_32 : decode cX8_there 32 = .ok (.goto (-28), 3) := by decide +kernel
theorem dX8_there_35 : decode cX8_there 35 = .ok (.iload_n 1, 1) := by decide +kernel
theorem dX8_there_36 : decode cX8_there 36 = .ok (.ireturn, 1) := by decide +kernel
theorem dX8_count_0 : decode cX8_count 0 = .ok (.aload_n 0, 1) := by decide +kernel
theorem dX8_count_1 : decode cX8_count 1 = .ok (.iload_n 1, 1) := by decide +kernel
theorem dX8_count_2 : decode cX8_count 2 = .ok (.iconst 0, 1) := by decide +kernel
theorem dX8_count_3 : decode cX8_count 3 = .ok (.bipush 6, 2) := by decide +kernel
theorem dX8_count_5 : decode cX8_count 5 = .ok (.invokestatic 72, 3) := by decide +kernel
theorem dX8_count_8 : decode cX8_count 8 = .ok (.ifCond .eq 7, 3) := by decide +kernel
theorem dX8_count_11 : decode cX8_count 11 = .ok (.iconst 0, 1) := by decide +kernel
theorem dX8_count_12 : decode cX8_count 12 = .ok (.goto 4, 3) := by decide +kernel
theorem dX8_count_15 : decode cX8_count 15 = .ok (.iconst 1, 1) := by decide +kernel
theorem dX8_count_16 : decode cX8_count 16 = .ok (.putfield 69, 3) := by decide +kernel
theorem dX8_count_19 : decode cX8_count 19 = .ok (.aload_n 0, 1) := by decide +kernel
theorem dX8_count_20 : decode cX8_count 20 = .ok (.getfield 69, 3) := by decide +kernel
theorem dX8_count_23 : decode cX8_count 23 = .ok (.ifCond .le 5, 3) := by decide +kernel
theorem dX8_count_26 : decode cX8_count 26 = .ok (.iconst 0, 1) := by decide +kernel
theorem dX8_count_27 : decode cX8_count 27 = .ok (.ireturn, 1) := by decide +kernel
theorem dX8_count_28 : decode cX8_count 28 = .ok (.iload_n 1, 1) := by decide +kernel
theorem dX8_count_29 : decode cX8_count 29 = .ok (.tableswitch 69 0 5 #[39, 44, 49, 54, 59, 64], 39) := by decide +kernel
theorem dX8_count_68 : decode cX8_count 68 = .ok (.aload_n 0, 1) := by decide +kernel
theorem dX8_count_69 : decode cX8_count 69 = .ok (.getfield 81, 3) := by decide +kernel
theorem dX8_count_72 : decode cX8_count 72 = .ok (.ireturn, 1) := by decide +kernel
theorem dX8_count_73 : decode cX8_count 73 = .ok (.aload_n 0, 1) := by decide +kernel
theorem dX8_count_74 : decode cX8_count 74 = .ok (.invokevirtual 190, 3) := by decide +kernel
theorem dX8_count_77 : decode cX8_count 77 = .ok (.ireturn, 1) := by decide +kernel
theorem dX8_count_78 : decode cX8_count 78 = .ok (.aload_n 0, 1) := by decide +kernel
theorem dX8_count_79 : decode cX8_count 79 = .ok (.getfield 136, 3) := by decide +kernel
theorem dX8_count_82 : decode cX8_count 82 = .ok (.ireturn, 1) := by decide +kernel
theorem dX8_count_83 : decode cX8_count 83 = .ok (.aload_n 0, 1) := by decide +kernel
theorem dX8_count_84 : decode cX8_count 84 = .ok (.getfield 139, 3) := by decide +kernel
theorem dX8_count_87 : decode cX8_count 87 = .ok (.ireturn, 1) := by decide +kernel
theorem dX8_count_88 : decode cX8_count 88 = .ok (.aload_n 0, 1) := by decide +kernel
theorem dX8_count_89 : decode cX8_count 89 = .ok (.getfield 142, 3) := by decide +kernel
theorem dX8_count_92 : decode cX8_count 92 = .ok (.ireturn, 1) := by decide +kernel
theorem dX8_count_93 : decode cX8_count 93 = .ok (.aload_n 0, 1) := by decide +kernel
theorem dX8_count_94 : decode cX8_count 94 = .ok (.getfield 106, 3) := by decide +kernel
theorem dX8_count_97 : decode cX8_count 97 = .ok (.ireturn, 1) := by decide +kernel
theorem dX8_count_98 : decode cX8_count 98 = .ok (.aload_n 0, 1) := by decide +kernel
theorem dX8_count_99 : decode cX8_count 99 = .ok (.getfield 112, 3) := by decide +kernel
theorem dX8_count_102 : decode cX8_count 102 = .ok (.ireturn, 1) := by decide +kernel
theorem dX8_mass_0 : decode cX8_mass 0 = .ok (.aload_n 0, 1) := by decide +kernel
theorem dX8_mass_1 : decode cX8_mass 1 = .ok (.iload_n 1, 1) := by decide +kernel
theorem dX8_mass_2 : decode cX8_mass 2 = .ok (.invokestatic 76, 3) := by decide +kernel
theorem dX8_mass_5 : decode cX8_mass 5 = .ok (.ifCond .eq 7, 3) := by decide +kernel
theorem dX8_mass_8 : decode cX8_mass 8 = .ok (.iconst 0, 1) := by decide +kernel
theorem dX8_mass_9 : decode cX8_mass 9 = .ok (.goto 4, 3) := by decide +kernel
theorem dX8_mass_12 : decode cX8_mass 12 = .ok (.iconst 1, 1) := by decide +kernel
theorem dX8_mass_13 : decode cX8_mass 13 = .ok (.putfield 69, 3) := by decide +kernel
theorem dX8_mass_16 : decode cX8_mass 16 = .ok (.aload_n 0, 1) := by decide +kernel
theorem dX8_mass_17 : decode cX8_mass 17 = .ok (.getfield 69, 3) := by decide +kernel
theorem dX8_mass_20 : decode cX8_mass 20 = .ok (.ifCond .le 7, 3) := by decide +kernel
theorem dX8_mass_23 : decode cX8_mass 23 = .ok (.iconst 0, 1) := by decide +kernel
theorem dX8_mass_24 : decode cX8_mass 24 = .ok (.goto 8, 3) := by decide +kernel
theorem dX8_mass_27 : decode cX8_mass 27 = .ok (.aload_n 0, 1) := by decide +kernel
theorem dX8_mass_28 : decode cX8_mass 28 = .ok (.iload_n 1, 1) := by decide +kernel
theorem dX8_mass_29 : decode cX8_mass 29 = .ok (.invokevirtual 180, 3) := by decide +kernel
theorem dX8_mass_32 : decode cX8_mass 32 = .ok (.ireturn, 1) := by decide +kernel
theorem dX8_sum_0 : decode cX8_sum 0 = .ok (.aload_n 0, 1) := by decide +kernel
theorem dX8_sum_1 : decode cX8_sum 1 = .ok (.iload_n 1, 1) := by decide +kernel
theorem dX8_sum_2 : decode cX8_sum 2 = .ok (.iconst 0, 1) := by decide +kernel
theorem dX8_sum_3 : decode cX8_sum 3 = .ok (.iconst 3, 1) := by decide +kernel
theorem dX8_sum_4 : decode cX8_sum 4 = .ok (.invokestatic 72, 3) := by decide +kernel
theorem dX8_sum_7 : decode cX8_sum 7 = .ok (.ifCond .eq 7, 3) := by decide +kernel
theorem dX8_sum_10 : decode cX8_sum 10 = .ok (.iconst 0, 1) := by decide +kernel
theorem dX8_sum_11 : decode cX8_sum 11 = .ok (.goto 4, 3) := by decide +kernel
theorem dX8_sum_14 : decode cX8_sum 14 = .ok (.iconst 1, 1) := by decide +kernel
theorem dX8_sum_15 : decode cX8_sum 15 = .ok (.putfield 69, 3) := by decide +kernel
theorem dX8_sum_18 : decode cX8_sum 18 = .ok (.aload_n 0, 1) := by decide +kernel
theorem dX8_sum_19 : decode cX8_sum 19 = .ok (.getfield 69, 3) := by decide +kernel
theorem dX8_sum_22 : decode cX8_sum 22 = .ok (.ifCond .le 5, 3) := by decide +kernel
theorem dX8_sum_25 : decode cX8_sum 25 = .ok (.iconst 0, 1) := by decide +kernel
theorem dX8_sum_26 : decode cX8_sum 26 = .ok (.ireturn, 1) := by decide +kernel
theorem dX8_sum_27 : decode cX8_sum 27 = .ok (.iconst 0, 1) := by decide +kernel
theorem dX8_sum_28 : decode cX8_sum 28 = .ok (.istore_n 2, 1) := by decide +kernel
theorem dX8_sum_29 : decode cX8_sum 29 = .ok (.iconst 0, 1) := by decide +kernel
theorem dX8_sum_30 : decode cX8_sum 30 = .ok (.istore_n 3, 1) := by decide +kernel
theorem dX8_sum_31 : decode cX8_sum 31 = .ok (.iload_n 3, 1) := by decide +kernel
theorem dX8_sum_32 : decode cX8_sum 32 = .ok (.aload_n 0, 1) := by decide +kernel
theorem dX8_sum_33 : decode cX8_sum 33 = .ok (.getfield 81, 3) := by decide +kernel
theorem dX8_sum_36 : decode cX8_sum 36 = .ok (.if_icmp .ge 31, 3) := by decide +kernel
theorem dX8_sum_39 : decode cX8_sum 39 = .ok (.iload_n 2, 1) := by decide +kernel
theorem dX8_sum_40 : decode cX8_sum 40 = .ok (.aload_n 0, 1) := by decide +kernel
theorem dX8_sum_41 : decode cX8_sum 41 = .ok (.getfield 35, 3) := by decide +kernel
theorem dX8_sum_44 : decode cX8_sum 44 = .ok (.iload_n 3, 1) := by decide +kernel
theorem dX8_sum_45 : decode cX8_sum 45 = .ok (.baload, 1) := by decide +kernel
theorem dX8_sum_46 : decode cX8_sum 46 = .ok (.ifCond .eq 12, 3) := by decide +kernel
theorem dX8_sum_49 : decode cX8_sum 49 = .ok (.aload_n 0, 1) := by decide +kernel
theorem dX8_sum_50 : decode cX8_sum 50 = .ok (.getfield 26, 3) := by decide +kernel
theorem dX8_sum_53 : decode cX8_sum 53 = .ok (.iload_n 3, 1) := by decide +kernel
theorem dX8_sum_54 : decode cX8_sum 54 = .ok (.iaload, 1) := by decide +kernel
theorem dX8_sum_55 : decode cX8_sum 55 = .ok (.goto 4, 3) := by decide +kernel
theorem dX8_sum_58 : decode cX8_sum 58 = .ok (.iconst 0, 1) := by decide +kernel
theorem dX8_sum_59 : decode cX8_sum 59 = .ok (.iadd, 1) := by decide +kernel
theorem dX8_sum_60 : decode cX8_sum 60 = .ok (.istore_n 2, 1) := by decide +kernel
theorem dX8_sum_61 : decode cX8_sum 61 = .ok (.iinc 3 1, 3) := by decide +kernel
theorem dX8_sum_64 : decode cX8_sum 64 = .ok (.goto (-33), 3) := by decide +kernel
theorem dX8_sum_67 : decode cX8_sum 67 = .ok (.iload_n 1, 1) := by decide +kernel
theorem dX8_sum_68 : decode cX8_sum 68 = .ok (.ifCond .ne 7, 3) := by decide +kernel
theorem dX8_sum_71 : decode cX8_sum 71 = .ok (.iload_n 2, 1) := by decide +kernel
theorem dX8_sum_72 : decode cX8_sum 72 = .ok (.goto 31, 3) := by decide +kernel
theorem dX8_sum_75 : decode cX8_sum 75 = .ok (.iload_n 1, 1) := by decide +kernel
theorem dX8_sum_76 : decode cX8_sum 76 = .ok (.iconst 1, 1) := by decide +kernel
theorem dX8_sum_77 : decode cX8_sum 77 = .ok (.if_icmp .ne 10, 3) := by decide +kernel
theorem dX8_sum_80 : decode cX8_sum 80 = .ok (.aload_n 0, 1) := by decide +kernel
theorem dX8_sum_81 : decode cX8_sum 81 = .ok (.getfield 109, 3) := by decide +kernel
theorem dX8_sum_84 : decode cX8_sum 84 = .ok (.goto 19, 3) := by decide +kernel
theorem dX8_sum_87 : decode cX8_sum 87 = .ok (.iload_n 1, 1) := by decide +kernel
theorem dX8_sum_88 : decode cX8_sum 88 = .ok (.iconst 2, 1) := by decide +kernel
theorem dX8_sum_89 : decode cX8_sum 89 = .ok (.if_icmp .ne 10, 3) := by decide +kernel
theorem dX8_sum_92 : decode cX8_sum 92 = .ok (.aload_n 0, 1) := by decide +kernel
theorem dX8_sum_93 : decode cX8_sum 93 = .ok (.getfield 115, 3) := by decide +kernel
theorem dX8_sum_96 : decode cX8_sum 96 = .ok (.goto 7, 3) := by decide +kernel
end
section
theorem dX8_sum_99 : decode cX8_sum 99 = .ok (.aload_n 0, 1) := by decide +kernel
theorem dX8_sum_100 : decode cX8_sum 100 = .ok (.getfield 84, 3) := by decide +kernel
theorem dX8_sum_103 : decode cX8_sum 103 = .ok (.ireturn, 1) := by decide +kernel
theorem dX8_momentumNow_0 : decode cX8_momentumNow 0 = .ok (.lconst 0, 1) := by decide +kernel
theorem dX8_momentumNow_1 : decode cX8_momentumNow 1 = .ok (.lstore_n 1, 1) := by decide +kernel
theorem dX8_momentumNow_2 : decode cX8_momentumNow 2 = .ok (.iconst 0, 1) := by decide +kernel
theorem dX8_momentumNow_3 : decode cX8_momentumNow 3 = .ok (.istore_n 3, 1) := by decide +kernel
theorem dX8_momentumNow_4 : decode cX8_momentumNow 4 = .ok (.iload_n 3, 1) := by decide +kernel
theorem dX8_momentumNow_5 : decode cX8_momentumNow 5 = .ok (.aload_n 0, 1) := by decide +kernel
theorem dX8_momentumNow_6 : decode cX8_momentumNow 6 = .ok (.getfield 81, 3) := by decide +kernel
theorem dX8_momentumNow_9 : decode cX8_momentumNow 9 = .ok (.if_icmp .ge 30, 3) := by decide +kernel
theorem dX8_momentumNow_12 : decode cX8_momentumNow 12 = .ok (.lload_n 1, 1) := by decide +kernel
theorem dX8_momentumNow_13 : decode cX8_momentumNow 13 = .ok (.aload_n 0, 1) := by decide +kernel
theorem dX8_momentumNow_14 : decode cX8_momentumNow 14 = .ok (.getfield 35, 3) := by decide +kernel
theorem dX8_momentumNow_17 : decode cX8_momentumNow 17 = .ok (.iload_n 3, 1) := by decide +kernel
theorem dX8_momentumNow_18 : decode cX8_momentumNow 18 = .ok (.baload, 1) := by decide +kernel
theorem dX8_momentumNow_19 : decode cX8_momentumNow 19 = .ok (.ifCond .eq 11, 3) := by decide +kernel
theorem dX8_momentumNow_22 : decode cX8_momentumNow 22 = .ok (.aload_n 0, 1) := by decide +kernel
theorem dX8_momentumNow_23 : decode cX8_momentumNow 23 = .ok (.iload_n 3, 1) := by decide +kernel
theorem dX8_momentumNow_24 : decode cX8_momentumNow 24 = .ok (.invokevirtual 125, 3) := by decide +kernel
theorem dX8_momentumNow_27 : decode cX8_momentumNow 27 = .ok (.goto 4, 3) := by decide +kernel
theorem dX8_momentumNow_30 : decode cX8_momentumNow 30 = .ok (.lconst 0, 1) := by decide +kernel
theorem dX8_momentumNow_31 : decode cX8_momentumNow 31 = .ok (.ladd, 1) := by decide +kernel
theorem dX8_momentumNow_32 : decode cX8_momentumNow 32 = .ok (.lstore_n 1, 1) := by decide +kernel
theorem dX8_momentumNow_33 : decode cX8_momentumNow 33 = .ok (.iinc 3 1, 3) := by decide +kernel
theorem dX8_momentumNow_36 : decode cX8_momentumNow 36 = .ok (.goto (-32), 3) := by decide +kernel
theorem dX8_momentumNow_39 : decode cX8_momentumNow 39 = .ok (.lload_n 1, 1) := by decide +kernel
theorem dX8_momentumNow_40 : decode cX8_momentumNow 40 = .ok (.lreturn, 1) := by decide +kernel
theorem dX8_momentum_0 : decode cX8_momentum 0 = .ok (.aload_n 0, 1) := by decide +kernel
theorem dX8_momentum_1 : decode cX8_momentum 1 = .ok (.iload_n 1, 1) := by decide +kernel
theorem dX8_momentum_2 : decode cX8_momentum 2 = .ok (.iconst 0, 1) := by decide +kernel
theorem dX8_momentum_3 : decode cX8_momentum 3 = .ok (.iconst 5, 1) := by decide +kernel
theorem dX8_momentum_4 : decode cX8_momentum 4 = .ok (.invokestatic 72, 3) := by decide +kernel
theorem dX8_momentum_7 : decode cX8_momentum 7 = .ok (.ifCond .eq 7, 3) := by decide +kernel
theorem dX8_momentum_10 : decode cX8_momentum 10 = .ok (.iconst 0, 1) := by decide +kernel
theorem dX8_momentum_11 : decode cX8_momentum 11 = .ok (.goto 4, 3) := by decide +kernel
theorem dX8_momentum_14 : decode cX8_momentum 14 = .ok (.iconst 1, 1) := by decide +kernel
theorem dX8_momentum_15 : decode cX8_momentum 15 = .ok (.putfield 69, 3) := by decide +kernel
theorem dX8_momentum_18 : decode cX8_momentum 18 = .ok (.aload_n 0, 1) := by decide +kernel
theorem dX8_momentum_19 : decode cX8_momentum 19 = .ok (.getfield 69, 3) := by decide +kernel
theorem dX8_momentum_22 : decode cX8_momentum 22 = .ok (.ifCond .le 5, 3) := by decide +kernel
theorem dX8_momentum_25 : decode cX8_momentum 25 = .ok (.lconst 0, 1) := by decide +kernel
theorem dX8_momentum_26 : decode cX8_momentum 26 = .ok (.lreturn, 1) := by decide +kernel
theorem dX8_momentum_27 : decode cX8_momentum 27 = .ok (.iload_n 1, 1) := by decide +kernel
theorem dX8_momentum_28 : decode cX8_momentum 28 = .ok (.tableswitch 71 0 4 #[36, 41, 51, 61, 66], 36) := by decide +kernel
theorem dX8_momentum_64 : decode cX8_momentum 64 = .ok (.aload_n 0, 1) := by decide +kernel
theorem dX8_momentum_65 : decode cX8_momentum 65 = .ok (.invokevirtual 194, 3) := by decide +kernel
theorem dX8_momentum_68 : decode cX8_momentum 68 = .ok (.lreturn, 1) := by decide +kernel
theorem dX8_momentum_69 : decode cX8_momentum 69 = .ok (.aload_n 0, 1) := by decide +kernel
theorem dX8_momentum_70 : decode cX8_momentum 70 = .ok (.getfield 109, 3) := by decide +kernel
theorem dX8_momentum_73 : decode cX8_momentum 73 = .ok (.i2l, 1) := by decide +kernel
theorem dX8_momentum_74 : decode cX8_momentum 74 = .ok (.ldc2_w 198, 3) := by decide +kernel
theorem dX8_momentum_77 : decode cX8_momentum 77 = .ok (.lmul, 1) := by decide +kernel
theorem dX8_momentum_78 : decode cX8_momentum 78 = .ok (.lreturn, 1) := by decide +kernel
theorem dX8_momentum_79 : decode cX8_momentum 79 = .ok (.aload_n 0, 1) := by decide +kernel
theorem dX8_momentum_80 : decode cX8_momentum 80 = .ok (.getfield 115, 3) := by decide +kernel
theorem dX8_momentum_83 : decode cX8_momentum 83 = .ok (.i2l, 1) := by decide +kernel
theorem dX8_momentum_84 : decode cX8_momentum 84 = .ok (.ldc2_w 200, 3) := by decide +kernel
theorem dX8_momentum_87 : decode cX8_momentum 87 = .ok (.lmul, 1) := by decide +kernel
theorem dX8_momentum_88 : decode cX8_momentum 88 = .ok (.lreturn, 1) := by decide +kernel
theorem dX8_momentum_89 : decode cX8_momentum 89 = .ok (.aload_n 0, 1) := by decide +kernel
theorem dX8_momentum_90 : decode cX8_momentum 90 = .ok (.getfield 87, 3) := by decide +kernel
theorem dX8_momentum_93 : decode cX8_momentum 93 = .ok (.lreturn, 1) := by decide +kernel
theorem dX8_momentum_94 : decode cX8_momentum 94 = .ok (.aload_n 0, 1) := by decide +kernel
theorem dX8_momentum_95 : decode cX8_momentum 95 = .ok (.getfield 133, 3) := by decide +kernel
theorem dX8_momentum_98 : decode cX8_momentum 98 = .ok (.lreturn, 1) := by decide +kernel
theorem dX8_momentum_99 : decode cX8_momentum 99 = .ok (.aload_n 0, 1) := by decide +kernel
theorem dX8_momentum_100 : decode cX8_momentum 100 = .ok (.getfield 151, 3) := by decide +kernel
theorem dX8_momentum_103 : decode cX8_momentum 103 = .ok (.lreturn, 1) := by decide +kernel
theorem dX8_momentumByLanes_0 : decode cX8_momentumByLanes 0 = .ok (.aload_n 0, 1) := by decide +kernel
theorem dX8_momentumByLanes_1 : decode cX8_momentumByLanes 1 = .ok (.iconst 0, 1) := by decide +kernel
theorem dX8_momentumByLanes_2 : decode cX8_momentumByLanes 2 = .ok (.putfield 69, 3) := by decide +kernel
theorem dX8_momentumByLanes_5 : decode cX8_momentumByLanes 5 = .ok (.aload_n 0, 1) := by decide +kernel
theorem dX8_momentumByLanes_6 : decode cX8_momentumByLanes 6 = .ok (.invokevirtual 194, 3) := by decide +kernel
theorem dX8_momentumByLanes_9 : decode cX8_momentumByLanes 9 = .ok (.lreturn, 1) := by decide +kernel
theorem dX8_resonanceOf_0 : decode cX8_resonanceOf 0 = .ok (.iconst (-1), 1) := by decide +kernel
theorem dX8_resonanceOf_1 : decode cX8_resonanceOf 1 = .ok (.istore_n 3, 1) := by decide +kernel
theorem dX8_resonanceOf_2 : decode cX8_resonanceOf 2 = .ok (.bipush 9, 2) := by decide +kernel
theorem dX8_resonanceOf_4 : decode cX8_resonanceOf 4 = .ok (.istore 4, 2) := by decide +kernel
theorem dX8_resonanceOf_6 : decode cX8_resonanceOf 6 = .ok (.iconst 1, 1) := by decide +kernel
theorem dX8_resonanceOf_7 : decode cX8_resonanceOf 7 = .ok (.istore 5, 2) := by decide +kernel
theorem dX8_resonanceOf_9 : decode cX8_resonanceOf 9 = .ok (.iload 5, 2) := by decide +kernel
theorem dX8_resonanceOf_11 : decode cX8_resonanceOf 11 = .ok (.bipush 10, 2) := by decide +kernel
theorem dX8_resonanceOf_13 : decode cX8_resonanceOf 13 = .ok (.if_icmp .ge 106, 3) := by decide +kernel
theorem dX8_resonanceOf_16 : decode cX8_resonanceOf 16 = .ok (.iconst 1, 1) := by decide +kernel
theorem dX8_resonanceOf_17 : decode cX8_resonanceOf 17 = .ok (.istore 6, 2) := by decide +kernel
theorem dX8_resonanceOf_19 : decode cX8_resonanceOf 19 = .ok (.iload 6, 2) := by decide +kernel
theorem dX8_resonanceOf_21 : decode cX8_resonanceOf 21 = .ok (.bipush 10, 2) := by decide +kernel
theorem dX8_resonanceOf_23 : decode cX8_resonanceOf 23 = .ok (.if_icmp .ge 90, 3) := by decide +kernel
theorem dX8_resonanceOf_26 : decode cX8_resonanceOf 26 = .ok (.iload 5, 2) := by decide +kernel
theorem dX8_resonanceOf_28 : decode cX8_resonanceOf 28 = .ok (.iload 6, 2) := by decide +kernel
theorem dX8_resonanceOf_30 : decode cX8_resonanceOf 30 = .ok (.if_icmp .eq 37, 3) := by decide +kernel
theorem dX8_resonanceOf_33 : decode cX8_resonanceOf 33 = .ok (.iload 5, 2) := by decide +kernel
theorem dX8_resonanceOf_35 : decode cX8_resonanceOf 35 = .ok (.aload_n 0, 1) := by decide +kernel
theorem dX8_resonanceOf_36 : decode cX8_resonanceOf 36 = .ok (.aload_n 0, 1) := by decide +kernel
theorem dX8_resonanceOf_37 : decode cX8_resonanceOf 37 = .ok (.getfield 42, 3) := by decide +kernel
theorem dX8_resonanceOf_40 : decode cX8_resonanceOf 40 = .ok (.iload_n 1, 1) := by decide +kernel
theorem dX8_resonanceOf_41 : decode cX8_resonanceOf 41 = .ok (.iaload, 1) := by decide +kernel
theorem dX8_resonanceOf_42 : decode cX8_resonanceOf 42 = .ok (.invokevirtual 145, 3) := by decide +kernel
theorem dX8_resonanceOf_45 : decode cX8_resonanceOf 45 = .ok (.imul, 1) := by decide +kernel
theorem dX8_resonanceOf_46 : decode cX8_resonanceOf 46 = .ok (.iload 6, 2) := by decide +kernel
theorem dX8_resonanceOf_48 : decode cX8_resonanceOf 48 = .ok (.aload_n 0, 1) := by decide +kernel
theorem dX8_resonanceOf_49 : decode cX8_resonanceOf 49 = .ok (.iload_n 2, 1) := by decide +kernel
theorem dX8_resonanceOf_50 : decode cX8_resonanceOf 50 = .ok (.invokevirtual 145, 3) := by decide +kernel
theorem dX8_resonanceOf_53 : decode cX8_resonanceOf 53 = .ok (.imul, 1) := by decide +kernel
theorem dX8_resonanceOf_54 : decode cX8_resonanceOf 54 = .ok (.isub, 1) := by decide +kernel
theorem dX8_resonanceOf_55 : decode cX8_resonanceOf 55 = .ok (.invokestatic 102, 3) := by decide +kernel
theorem dX8_resonanceOf_58 : decode cX8_resonanceOf 58 = .ok (.bipush 20, 2) := by decide +kernel
theorem dX8_resonanceOf_60 : decode cX8_resonanceOf 60 = .ok (.if_icmp .gt 7, 3) := by decide +kernel
theorem dX8_resonanceOf_63 : decode cX8_resonanceOf 63 = .ok (.iconst 1, 1) := by decide +kernel
theorem dX8_resonanceOf_64 : decode cX8_resonanceOf 64 = .ok (.goto 4, 3) := by decide +kernel
theorem dX8_resonanceOf_67 : decode cX8_resonanceOf 67 = .ok (.iconst 0, 1) := by decide +kernel
theorem dX8_resonanceOf_68 : decode cX8_resonanceOf 68 = .ok (.istore 7, 2) := by decide +kernel
theorem dX8_resonanceOf_70 : decode cX8_resonanceOf 70 = .ok (.iload 7, 2) := by decide +kernel
theorem dX8_resonanceOf_72 : decode cX8_resonanceOf 72 = .ok (.ifCond .eq 35, 3) := by decide +kernel
theorem dX8_resonanceOf_75 : decode cX8_resonanceOf 75 = .ok (.iload 5, 2) := by decide +kernel
theorem dX8_resonanceOf_77 : decode cX8_resonanceOf 77 = .ok (.iload 6, 2) := by decide +kernel
theorem dX8_resonanceOf_79 : decode cX8_resonanceOf 79 = .ok (.isub, 1) := by decide +kernel
theorem dX8_resonanceOf_80 : decode cX8_resonanceOf 80 = .ok (.invokestatic 102, 3) := by decide +kernel
theorem dX8_resonanceOf_83 : decode cX8_resonanceOf 83 = .ok (.iload 4, 2) := by decide +kernel
theorem dX8_resonanceOf_85 : decode cX8_resonanceOf 85 = .ok (.if_icmp .ge 22, 3) := by decide +kernel
theorem dX8_resonanceOf_88 : decode cX8_resonanceOf 88 = .ok (.iload 5, 2) := by decide +kernel
theorem dX8_resonanceOf_90 : decode cX8_resonanceOf 90 = .ok (.iload 6, 2) := by decide +kernel
theorem dX8_resonanceOf_92 : decode cX8_resonanceOf 92 = .ok (.isub, 1) := by decide +kernel
theorem dX8_resonanceOf_93 : decode cX8_resonanceOf 93 = .ok (.invokestatic 102, 3) := by decide +kernel
theorem dX8_resonanceOf_96 : decode cX8_resonanceOf 96 = .ok (.istore 4, 2) := by decide +kernel
theorem dX8_resonanceOf_98 : decode cX8_resonanceOf 98 = .ok (.bipush 10, 2) := by decide +kernel
theorem dX8_resonanceOf_100 : decode cX8_resonanceOf 100 = .ok (.iload 5, 2) := by decide +kernel
theorem dX8_resonanceOf_102 : decode cX8_resonanceOf 102 = .ok (.imul, 1) := by decide +kernel
theorem dX8_resonanceOf_103 : decode cX8_resonanceOf 103 = .ok (.iload 6, 2) := by decide +kernel
theorem dX8_resonanceOf_105 : decode cX8_resonanceOf 105 = .ok (.iadd, 1) := by decide +kernel
theorem dX8_resonanceOf_106 : decode cX8_resonanceOf 106 = .ok (.istore_n 3, 1) := by decide +kernel
theorem dX8_resonanceOf_107 : decode cX8_resonanceOf 107 = .ok (.iinc 6 1, 3) := by decide +kernel
theorem dX8_resonanceOf_110 : decode cX8_resonanceOf 110 = .ok (.goto (-91), 3) := by decide +kernel
theorem dX8_resonanceOf_113 : decode cX8_resonanceOf 113 = .ok (.iinc 5 1, 3) := by decide +kernel
theorem dX8_resonanceOf_116 : decode cX8_resonanceOf 116 = .ok (.goto (-107), 3) := by decide +kernel
theorem dX8_resonanceOf_119 : decode cX8_resonanceOf 119 = .ok (.iload_n 3, 1) := by decide +kernel
theorem dX8_resonanceOf_120 : decode cX8_resonanceOf 120 = .ok (.ireturn, 1) := by decide +kernel
theorem dX8_resonance_0 : decode cX8_resonance 0 = .ok (.aload_n 0, 1) := by decide +kernel
theorem dX8_resonance_1 : decode cX8_resonance 1 = .ok (.iload_n 1, 1) := by decide +kernel
theorem dX8_resonance_2 : decode cX8_resonance 2 = .ok (.iconst 0, 1) := by decide +kernel
theorem dX8_resonance_3 : decode cX8_resonance 3 = .ok (.aload_n 0, 1) := by decide +kernel
theorem dX8_resonance_4 : decode cX8_resonance 4 = .ok (.getfield 95, 3) := by decide +kernel
theorem dX8_resonance_7 : decode cX8_resonance 7 = .ok (.iconst 1, 1) := by decide +kernel
theorem dX8_resonance_8 : decode cX8_resonance 8 = .ok (.isub, 1) := by decide +kernel
theorem dX8_resonance_9 : decode cX8_resonance 9 = .ok (.invokestatic 72, 3) := by decide +kernel
theorem dX8_resonance_12 : decode cX8_resonance 12 = .ok (.ifCond .ne 7, 3) := by decide +kernel
theorem dX8_resonance_15 : decode cX8_resonance 15 = .ok (.iconst 1, 1) := by decide +kernel
theorem dX8_resonance_16 : decode cX8_resonance 16 = .ok (.goto 15, 3) := by decide +kernel
theorem dX8_resonance_19 : decode cX8_resonance 19 = .ok (.iload_n 2, 1) := by decide +kernel
theorem dX8_resonance_20 : decode cX8_resonance 20 = .ok (.invokestatic 76, 3) := by decide +kernel
theorem dX8_resonance_23 : decode cX8_resonance 23 = .ok (.ifCond .ne 7, 3) := by decide +kernel
theorem dX8_resonance_26 : decode cX8_resonance 26 = .ok (.iconst 2, 1) := by decide +kernel
theorem dX8_resonance_27 : decode cX8_resonance 27 = .ok (.goto 4, 3) := by decide +kernel
theorem dX8_resonance_30 : decode cX8_resonance 30 = .ok (.iconst 0, 1) := by decide +kernel
theorem dX8_resonance_31 : decode cX8_resonance 31 = .ok (.putfield 69, 3) := by decide +kernel
theorem dX8_resonance_34 : decode cX8_resonance 34 = .ok (.aload_n 0, 1) := by decide +kernel
theorem dX8_resonance_35 : decode cX8_resonance 35 = .ok (.getfield 69, 3) := by decide +kernel
theorem dX8_resonance_38 : decode cX8_resonance 38 = .ok (.ifCond .le 7, 3) := by decide +kernel
theorem dX8_resonance_41 : decode cX8_resonance 41 = .ok (.iconst 0, 1) := by decide +kernel
theorem dX8_resonance_42 : decode cX8_resonance 42 = .ok (.goto 9, 3) := by decide +kernel
theorem dX8_resonance_45 : decode cX8_resonance 45 = .ok (.aload_n 0, 1) := by decide +kernel
theorem dX8_resonance_46 : decode cX8_resonance 46 = .ok (.iload_n 1, 1) := by decide +kernel
theorem dX8_resonance_47 : decode cX8_resonance 47 = .ok (.iload_n 2, 1) := by decide +kernel
theorem dX8_resonance_48 : decode cX8_resonance 48 = .ok (.invokevirtual 202, 3) := by decide +kernel
theorem dX8_resonance_51 : decode cX8_resonance 51 = .ok (.ireturn, 1) := by decide +kernel
theorem dX8_isEmpty_0 : decode cX8_isEmpty 0 = .ok (.iconst 1, 1) := by decide +kernel
theorem dX8_isEmpty_1 : decode cX8_isEmpty 1 = .ok (.istore_n 2, 1) := by decide +kernel
theorem dX8_isEmpty_2 : decode cX8_isEmpty 2 = .ok (.iconst 0, 1) := by decide +kernel
theorem dX8_isEmpty_3 : decode cX8_isEmpty 3 = .ok (.istore_n 3, 1) := by decide +kernel
theorem dX8_isEmpty_4 : decode cX8_isEmpty 4 = .ok (.iload_n 3, 1) := by decide +kernel
theorem dX8_isEmpty_5 : decode cX8_isEmpty 5 = .ok (.aload_n 0, 1) := by decide +kernel
theorem dX8_isEmpty_6 : decode cX8_isEmpty 6 = .ok (.getfield 81, 3) := by decide +kernel
theorem dX8_isEmpty_9 : decode cX8_isEmpty 9 = .ok (.if_icmp .ge 38, 3) := by decide +kernel
theorem dX8_isEmpty_12 : decode cX8_isEmpty 12 = .ok (.iload_n 2, 1) := by decide +kernel
theorem dX8_isEmpty_13 : decode cX8_isEmpty 13 = .ok (.ifCond .eq 26, 3) := by decide +kernel
theorem dX8_isEmpty_16 : decode cX8_isEmpty 16 = .ok (.aload_n 0, 1) := by decide +kernel
theorem dX8_isEmpty_17 : decode cX8_isEmpty 17 = .ok (.getfield 35, 3) := by decide +kernel
theorem dX8_isEmpty_20 : decode cX8_isEmpty 20 = .ok (.iload_n 3, 1) := by decide +kernel
theorem dX8_isEmpty_21 : decode cX8_isEmpty 21 = .ok (.baload, 1) := by decide +kernel
theorem dX8_isEmpty_22 : decode cX8_isEmpty 22 = .ok (.ifCond .eq 13, 3) := by decide +kernel
theorem dX8_isEmpty_25 : decode cX8_isEmpty 25 = .ok (.aload_n 0, 1) := by decide +kernel
theorem dX8_isEmpty_26 : decode cX8_isEmpty 26 = .ok (.getfield 19, 3) := by decide +kernel
theorem dX8_isEmpty_29 : decode cX8_isEmpty 29 = .ok (.iload_n 3, 1) := by decide +kernel
theorem dX8_isEmpty_30 : decode cX8_isEmpty 30 = .ok (.iaload, 1) := by decide +kernel
theorem dX8_isEmpty_31 : decode cX8_isEmpty 31 = .ok (.iload_n 1, 1) := by decide +kernel
theorem dX8_isEmpty_32 : decode cX8_isEmpty 32 = .ok (.if_icmp .eq 7, 3) := by decide +kernel
theorem dX8_isEmpty_35 : decode cX8_isEmpty 35 = .ok (.iconst 1, 1) := by decide +kernel
theorem dX8_isEmpty_36 : decode cX8_isEmpty 36 = .ok (.goto 4, 3) := by decide +kernel
theorem dX8_isEmpty_39 : decode cX8_isEmpty 39 = .ok (.iconst 0, 1) := by decide +kernel
theorem dX8_isEmpty_40 : decode cX8_isEmpty 40 = .ok (.istore_n 2, 1) := by decide +kernel
theorem dX8_isEmpty_41 : decode cX8_isEmpty 41 = .ok (.iinc 3 1, 3) := by decide +kernel
theorem dX8_isEmpty_44 : decode cX8_isEmpty 44 = .ok (.goto (-40), 3) := by decide +kernel
theorem dX8_isEmpty_47 : decode cX8_isEmpty 47 = .ok (.iload_n 2, 1) := by decide +kernel
theorem dX8_isEmpty_48 : decode cX8_isEmpty 48 = .ok (.ireturn, 1) := by decide +kernel
theorem dX8_gapFrom_0 : decode cX8_gapFrom 0 = .ok (.iload_n 1, 1) := by decide +kernel
theorem dX8_gapFrom_1 : decode cX8_gapFrom 1 = .ok (.iconst 1, 1) := by decide +kernel
theorem dX8_gapFrom_2 : decode cX8_gapFrom 2 = .ok (.isub, 1) := by decide +kernel
theorem dX8_gapFrom_3 : decode cX8_gapFrom 3 = .ok (.istore_n 2, 1) := by decide +kernel
theorem dX8_gapFrom_4 : decode cX8_gapFrom 4 = .ok (.iload_n 2, 1) := by decide +kernel
theorem dX8_gapFrom_5 : decode cX8_gapFrom 5 = .ok (.bipush 64, 2) := by decide +kernel
theorem dX8_gapFrom_7 : decode cX8_gapFrom 7 = .ok (.if_icmp .ge 21, 3) := by decide +kernel
theorem dX8_gapFrom_10 : decode cX8_gapFrom 10 = .ok (.iload_n 2, 1) := by decide +kernel
theorem dX8_gapFrom_11 : decode cX8_gapFrom 11 = .ok (.ifCond .lt 11, 3) := by decide +kernel
theorem dX8_gapFrom_14 : decode cX8_gapFrom 14 = .ok (.aload_n 0, 1) := by decide +kernel
theorem dX8_gapFrom_15 : decode cX8_gapFrom 15 = .ok (.iload_n 2, 1) := by decide +kernel
theorem dX8_gapFrom_16 : decode cX8_gapFrom 16 = .ok (.invokevirtual 205, 3) := by decide +kernel
theorem dX8_gapFrom_19 : decode cX8_gapFrom 19 = .ok (.ifCond .eq 9, 3) := by decide +kernel
theorem dX8_gapFrom_22 : decode cX8_gapFrom 22 = .ok (.iinc 2 1, 3) := by decide +kernel
theorem dX8_gapFrom_25 : decode cX8_gapFrom 25 = .ok (.goto (-21), 3) := by decide +kernel
theorem dX8_gapFrom_28 : decode cX8_gapFrom 28 = .ok (.iconst (-1), 1) := by decide +kernel
theorem dX8_gapFrom_29 : decode cX8_gapFrom 29 = .ok (.istore_n 3, 1) := by decide +kernel
theorem dX8_gapFrom_30 : decode cX8_gapFrom 30 = .ok (.iload_n 2, 1) := by decide +kernel
theorem dX8_gapFrom_31 : decode cX8_gapFrom 31 = .ok (.iconst 1, 1) := by decide +kernel
theorem dX8_gapFrom_32 : decode cX8_gapFrom 32 = .ok (.iadd, 1) := by decide +kernel
theorem dX8_gapFrom_33 : decode cX8_gapFrom 33 = .ok (.istore 4, 2) := by decide +kernel
theorem dX8_gapFrom_35 : decode cX8_gapFrom 35 = .ok (.iload 4, 2) := by decide +kernel
theorem dX8_gapFrom_37 : decode cX8_gapFrom 37 = .ok (.bipush 64, 2) := by decide +kernel
theorem dX8_gapFrom_39 : decode cX8_gapFrom 39 = .ok (.if_icmp .ge 42, 3) := by decide +kernel
theorem dX8_gapFrom_42 : decode cX8_gapFrom 42 = .ok (.iload_n 3, 1) := by decide +kernel
theorem dX8_gapFrom_43 : decode cX8_gapFrom 43 = .ok (.iconst (-1), 1) := by decide +kernel
theorem dX8_gapFrom_44 : decode cX8_gapFrom 44 = .ok (.if_icmp .ne 37, 3) := by decide +kernel
theorem dX8_gapFrom_47 : decode cX8_gapFrom 47 = .ok (.aload_n 0, 1) := by decide +kernel
theorem dX8_gapFrom_48 : decode cX8_gapFrom 48 = .ok (.iload 4, 2) := by decide +kernel
theorem dX8_gapFrom_50 : decode cX8_gapFrom 50 = .ok (.invokevirtual 205, 3) := by decide +kernel
theorem dX8_gapFrom_53 : decode cX8_gapFrom 53 = .ok (.ifCond .ne 22, 3) := by decide +kernel
theorem dX8_gapFrom_56 : decode cX8_gapFrom 56 = .ok (.iload 4, 2) := by decide +kernel
theorem dX8_gapFrom_58 : decode cX8_gapFrom 58 = .ok (.iload_n 2, 1) := by decide +kernel
theorem dX8_gapFrom_59 : decode cX8_gapFrom 59 = .ok (.isub, 1) := by decide +kernel
theorem dX8_gapFrom_60 : decode cX8_gapFrom 60 = .ok (.iconst 2, 1) := by decide +kernel
theorem dX8_gapFrom_61 : decode cX8_gapFrom 61 = .ok (.if_icmp .le 9, 3) := by decide +kernel
theorem dX8_gapFrom_64 : decode cX8_gapFrom 64 = .ok (.iload_n 2, 1) := by decide +kernel
theorem dX8_gapFrom_65 : decode cX8_gapFrom 65 = .ok (.iconst 1, 1) := by decide +kernel
theorem dX8_gapFrom_66 : decode cX8_gapFrom 66 = .ok (.iadd, 1) := by decide +kernel
theorem dX8_gapFrom_67 : decode cX8_gapFrom 67 = .ok (.goto 4, 3) := by decide +kernel
theorem dX8_gapFrom_70 : decode cX8_gapFrom 70 = .ok (.iconst (-1), 1) := by decide +kernel
theorem dX8_gapFrom_71 : decode cX8_gapFrom 71 = .ok (.istore_n 3, 1) := by decide +kernel
theorem dX8_gapFrom_72 : decode cX8_gapFrom 72 = .ok (.iload 4, 2) := by decide +kernel
theorem dX8_gapFrom_74 : decode cX8_gapFrom 74 = .ok (.istore_n 2, 1) := by decide +kernel
theorem dX8_gapFrom_75 : decode cX8_gapFrom 75 = .ok (.iinc 4 1, 3) := by decide +kernel
theorem dX8_gapFrom_78 : decode cX8_gapFrom 78 = .ok (.goto (-43), 3) := by decide +kernel
theorem dX8_gapFrom_81 : decode cX8_gapFrom 81 = .ok (.iload_n 3, 1) := by decide +kernel
theorem dX8_gapFrom_82 : decode cX8_gapFrom 82 = .ok (.ireturn, 1) := by decide +kernel
theorem dX8_endOf_0 : decode cX8_endOf 0 = .ok (.iload_n 1, 1) := by decide +kernel
theorem dX8_endOf_1 : decode cX8_endOf 1 = .ok (.istore_n 2, 1) := by decide +kernel
theorem dX8_endOf_2 : decode cX8_endOf 2 = .ok (.aload_n 0, 1) := by decide +kernel
theorem dX8_endOf_3 : decode cX8_endOf 3 = .ok (.iload_n 2, 1) := by decide +kernel
theorem dX8_endOf_4 : decode cX8_endOf 4 = .ok (.iconst 1, 1) := by decide +kernel
theorem dX8_endOf_5 : decode cX8_endOf 5 = .ok (.iadd, 1) := by decide +kernel
theorem dX8_endOf_6 : decode cX8_endOf 6 = .ok (.invokevirtual 205, 3) := by decide +kernel
theorem dX8_endOf_9 : decode cX8_endOf 9 = .ok (.ifCond .eq 9, 3) := by decide +kernel
theorem dX8_endOf_12 : decode cX8_endOf 12 = .ok (.iinc 2 1, 3) := by decide +kernel
theorem dX8_endOf_15 : decode cX8_endOf 15 = .ok (.goto (-13), 3) := by decide +kernel
theorem dX8_endOf_18 : decode cX8_endOf 18 = .ok (.iload_n 2, 1) := by decide +kernel
theorem dX8_endOf_19 : decode cX8_endOf 19 = .ok (.ireturn, 1) := by decide +kernel
theorem dX8_gapAt_0 : decode cX8_gapAt 0 = .ok (.aload_n 0, 1) := by decide +kernel
theorem dX8_gapAt_1 : decode cX8_gapAt 1 = .ok (.iconst 0, 1) := by decide +kernel
theorem dX8_gapAt_2 : decode cX8_gapAt 2 = .ok (.invokevirtual 208, 3) := by decide +kernel
theorem dX8_gapAt_5 : decode cX8_gapAt 5 = .ok (.istore_n 2, 1) := by decide +kernel
theorem dX8_gapAt_6 : decode cX8_gapAt 6 = .ok (.iconst 0, 1) := by decide +kernel
theorem dX8_gapAt_7 : decode cX8_gapAt 7 = .ok (.istore_n 3, 1) := by decide +kernel
theorem dX8_gapAt_8 : decode cX8_gapAt 8 = .ok (.iload_n 3, 1) := by decide +kernel
theorem dX8_gapAt_9 : decode cX8_gapAt 9 = .ok (.iload_n 1, 1) := by decide +kernel
theorem dX8_gapAt_10 : decode cX8_gapAt 10 = .ok (.if_icmp .ge 26, 3) := by decide +kernel
theorem dX8_gapAt_13 : decode cX8_gapAt 13 = .ok (.iload_n 2, 1) := by decide +kernel
theorem dX8_gapAt_14 : decode cX8_gapAt 14 = .ok (.iconst (-1), 1) := by decide +kernel
theorem dX8_gapAt_15 : decode cX8_gapAt 15 = .ok (.if_icmp .eq 21, 3) := by decide +kernel
theorem dX8_gapAt_18 : decode cX8_gapAt 18 = .ok (.aload_n 0, 1) := by decide +kernel
theorem dX8_gapAt_19 : decode cX8_gapAt 19 = .ok (.aload_n 0, 1) := by decide +kernel
theorem dX8_gapAt_20 : decode cX8_gapAt 20 = .ok (.iload_n 2, 1) := by decide +kernel
theorem dX8_gapAt_21 : decode cX8_gapAt 21 = .ok (.invokevirtual 211, 3) := by decide +kernel
theorem dX8_gapAt_24 : decode cX8_gapAt 24 = .ok (.iconst 2, 1) := by decide +kernel
theorem dX8_gapAt_25 : decode cX8_gapAt 25 = .ok (.iadd, 1) := by decide +kernel
theorem dX8_gapAt_26 : decode cX8_gapAt 26 = .ok (.invokevirtual 208, 3) := by decide +kernel
theorem dX8_gapAt_29 : decode cX8_gapAt 29 = .ok (.istore_n 2, 1) := by decide +kernel
theorem dX8_gapAt_30 : decode cX8_gapAt 30 = .ok (.iinc 3 1, 3) := by decide +kernel
theorem dX8_gapAt_33 : decode cX8_gapAt 33 = .ok (.goto (-25), 3) := by decide +kernel
theorem dX8_gapAt_36 : decode cX8_gapAt 36 = .ok (.iload_n 2, 1) := by decide +kernel
theorem dX8_gapAt_37 : decode cX8_gapAt 37 = .ok (.ireturn, 1) := by decide +kernel
theorem dX8_isNear_0 : decode cX8_isNear 0 = .ok (.aload_n 0, 1) := by decide +kernel
theorem dX8_isNear_1 : decode cX8_isNear 1 = .ok (.iload_n 1, 1) := by decide +kernel
theorem dX8_isNear_2 : decode cX8_isNear 2 = .ok (.iload_n 2, 1) := by decide +kernel
theorem dX8_isNear_3 : decode cX8_isNear 3 = .ok (.invokevirtual 202, 3) := by decide +kernel
theorem dX8_isNear_6 : decode cX8_isNear 6 = .ok (.istore_n 3, 1) := by decide +kernel
theorem dX8_isNear_7 : decode cX8_isNear 7 = .ok (.iload_n 3, 1) := by decide +kernel
theorem dX8_isNear_8 : decode cX8_isNear 8 = .ok (.iconst (-1), 1) := by decide +kernel
theorem dX8_isNear_9 : decode cX8_isNear 9 = .ok (.if_icmp .eq 23, 3) := by decide +kernel
theorem dX8_isNear_12 : decode cX8_isNear 12 = .ok (.iload_n 3, 1) := by decide +kernel
theorem dX8_isNear_13 : decode cX8_isNear 13 = .ok (.bipush 10, 2) := by decide +kernel
theorem dX8_isNear_15 : decode cX8_isNear 15 = .ok (.idiv, 1) := by decide +kernel
theorem dX8_isNear_16 : decode cX8_isNear 16 = .ok (.iload_n 3, 1) := by decide +kernel
theorem dX8_isNear_17 : decode cX8_isNear 17 = .ok (.bipush 10, 2) := by decide +kernel
theorem dX8_isNear_19 : decode cX8_isNear 19 = .ok (.irem, 1) := by decide +kernel
theorem dX8_isNear_20 : decode cX8_isNear 20 = .ok (.isub, 1) := by decide +kernel
theorem dX8_isNear_21 : decode cX8_isNear 21 = .ok (.invokestatic 102, 3) := by decide +kernel
theorem dX8_isNear_24 : decode cX8_isNear 24 = .ok (.iconst 2, 1) := by decide +kernel
theorem dX8_isNear_25 : decode cX8_isNear 25 = .ok (.if_icmp .gt 7, 3) := by decide +kernel
theorem dX8_isNear_28 : decode cX8_isNear 28 = .ok (.iconst 1, 1) := by decide +kernel
theorem dX8_isNear_29 : decode cX8_isNear 29 = .ok (.goto 4, 3) := by decide +kernel
theorem dX8_isNear_32 : decode cX8_isNear 32 = .ok (.iconst 0, 1) := by decide +kernel
theorem dX8_isNear_33 : decode cX8_isNear 33 = .ok (.ireturn, 1) := by decide +kernel
theorem dX8_keeper_0 : decode cX8_keeper 0 = .ok (.iconst (-1), 1) := by decide +kernel
theorem dX8_keeper_1 : decode cX8_keeper 1 = .ok (.istore_n 3, 1) := by decide +kernel
theorem dX8_keeper_2 : decode cX8_keeper 2 = .ok (.aload_n 0, 1) := by decide +kernel
theorem dX8_keeper_3 : decode cX8_keeper 3 = .ok (.getfield 95, 3) := by decide +kernel
theorem dX8_keeper_6 : decode cX8_keeper 6 = .ok (.iconst 1, 1) := by decide +kernel
theorem dX8_keeper_7 : decode cX8_keeper 7 = .ok (.isub, 1) := by decide +kernel
theorem dX8_keeper_8 : decode cX8_keeper 8 = .ok (.istore 4, 2) := by decide +kernel
theorem dX8_keeper_10 : decode cX8_keeper 10 = .ok (.iload 4, 2) := by decide +kernel
theorem dX8_keeper_12 : decode cX8_keeper 12 = .ok (.ifCond .lt 40, 3) := by decide +kernel
theorem dX8_keeper_15 : decode cX8_keeper 15 = .ok (.aload_n 0, 1) := by decide +kernel
theorem dX8_keeper_16 : decode cX8_keeper 16 = .ok (.iload 4, 2) := by decide +kernel
theorem dX8_keeper_18 : decode cX8_keeper 18 = .ok (.iload_n 1, 1) := by decide +kernel
theorem dX8_keeper_19 : decode cX8_keeper 19 = .ok (.iconst 1, 1) := by decide +kernel
theorem dX8_keeper_20 : decode cX8_keeper 20 = .ok (.isub, 1) := by decide +kernel
theorem dX8_keeper_21 : decode cX8_keeper 21 = .ok (.invokevirtual 214, 3) := by decide +kernel
theorem dX8_keeper_24 : decode cX8_keeper 24 = .ok (.ifCond .ne 15, 3) := by decide +kernel
theorem dX8_keeper_27 : decode cX8_keeper 27 = .ok (.aload_n 0, 1) := by decide +kernel
theorem dX8_keeper_28 : decode cX8_keeper 28 = .ok (.iload 4, 2) := by decide +kernel
theorem dX8_keeper_30 : decode cX8_keeper 30 = .ok (.iload_n 2, 1) := by decide +kernel
theorem dX8_keeper_31 : decode cX8_keeper 31 = .ok (.iconst 1, 1) := by decide +kernel
theorem dX8_keeper_32 : decode cX8_keeper 32 = .ok (.iadd, 1) := by decide +kernel
theorem dX8_keeper_33 : decode cX8_keeper 33 = .ok (.invokevirtual 214, 3) := by decide +kernel
theorem dX8_keeper_36 : decode cX8_keeper 36 = .ok (.ifCond .eq 8, 3) := by decide +kernel
theorem dX8_keeper_39 : decode cX8_keeper 39 = .ok (.iload 4, 2) := by decide +kernel
theorem dX8_keeper_41 : decode cX8_keeper 41 = .ok (.goto 4, 3) := by decide +kernel
theorem dX8_keeper_44 : decode cX8_keeper 44 = .ok (.iload_n 3, 1) := by decide +kernel
theorem dX8_keeper_45 : decode cX8_keeper 45 = .ok (.istore_n 3, 1) := by decide +kernel
theorem dX8_keeper_46 : decode cX8_keeper 46 = .ok (.iinc 4 (-1), 3) := by decide +kernel
theorem dX8_keeper_49 : decode cX8_keeper 49 = .ok (.goto (-39), 3) := by decide +kernel
theorem dX8_keeper_52 : decode cX8_keeper 52 = .ok (.iconst (-1), 1) := by decide +kernel
theorem dX8_keeper_53 : decode cX8_keeper 53 = .ok (.istore 4, 2) := by decide +kernel
theorem dX8_keeper_55 : decode cX8_keeper 55 = .ok (.aload_n 0, 1) := by decide +kernel
theorem dX8_keeper_56 : decode cX8_keeper 56 = .ok (.getfield 95, 3) := by decide +kernel
theorem dX8_keeper_59 : decode cX8_keeper 59 = .ok (.iconst 1, 1) := by decide +kernel
theorem dX8_keeper_60 : decode cX8_keeper 60 = .ok (.isub, 1) := by decide +kernel
theorem dX8_keeper_61 : decode cX8_keeper 61 = .ok (.istore 5, 2) := by decide +kernel
theorem dX8_keeper_63 : decode cX8_keeper 63 = .ok (.iload 5, 2) := by decide +kernel
theorem dX8_keeper_65 : decode cX8_keeper 65 = .ok (.ifCond .lt 33, 3) := by decide +kernel
theorem dX8_keeper_68 : decode cX8_keeper 68 = .ok (.aload_n 0, 1) := by decide +kernel
theorem dX8_keeper_69 : decode cX8_keeper 69 = .ok (.getfield 42, 3) := by decide +kernel
theorem dX8_keeper_72 : decode cX8_keeper 72 = .ok (.iload 5, 2) := by decide +kernel
theorem dX8_keeper_74 : decode cX8_keeper 74 = .ok (.iaload, 1) := by decide +kernel
theorem dX8_keeper_75 : decode cX8_keeper 75 = .ok (.iload_n 1, 1) := by decide +kernel
theorem dX8_keeper_76 : decode cX8_keeper 76 = .ok (.iload_n 2, 1) := by decide +kernel
theorem dX8_keeper_77 : decode cX8_keeper 77 = .ok (.invokestatic 72, 3) := by decide +kernel
theorem dX8_keeper_80 : decode cX8_keeper 80 = .ok (.ifCond .eq 8, 3) := by decide +kernel
theorem dX8_keeper_83 : decode cX8_keeper 83 = .ok (.iload 5, 2) := by decide +kernel
theorem dX8_keeper_85 : decode cX8_keeper 85 = .ok (.goto 5, 3) := by decide +kernel
theorem dX8_keeper_88 : decode cX8_keeper 88 = .ok (.iload 4, 2) := by decide +kernel
theorem dX8_keeper_90 : decode cX8_keeper 90 = .ok (.istore 4, 2) := by decide +kernel
theorem dX8_keeper_92 : decode cX8_keeper 92 = .ok (.iinc 5 (-1), 3) := by decide +kernel
theorem dX8_keeper_95 : decode cX8_keeper 95 = .ok (.goto (-32), 3) := by decide +kernel
theorem dX8_keeper_98 : decode cX8_keeper 98 = .ok (.iload 4, 2) := by decide +kernel
theorem dX8_keeper_100 : decode cX8_keeper 100 = .ok (.iconst (-1), 1) := by decide +kernel
theorem dX8_keeper_101 : decode cX8_keeper 101 = .ok (.if_icmp .ne 7, 3) := by decide +kernel
theorem dX8_keeper_104 : decode cX8_keeper 104 = .ok (.iload_n 3, 1) := by decide +kernel
theorem dX8_keeper_105 : decode cX8_keeper 105 = .ok (.goto 5, 3) := by decide +kernel
theorem dX8_keeper_108 : decode cX8_keeper 108 = .ok (.iload 4, 2) := by decide +kernel
theorem dX8_keeper_110 : decode cX8_keeper 110 = .ok (.ireturn, 1) := by decide +kernel
theorem dX8_gap_0 : decode cX8_gap 0 = .ok (.iload_n 1, 1) := by decide +kernel
theorem dX8_gap_1 : decode cX8_gap 1 = .ok (.ifCond .ge 7, 3) := by decide +kernel
theorem dX8_gap_4 : decode cX8_gap 4 = .ok (.iconst (-1), 1) := by decide +kernel
theorem dX8_gap_5 : decode cX8_gap 5 = .ok (.goto 8, 3) := by decide +kernel
theorem dX8_gap_8 : decode cX8_gap 8 = .ok (.aload_n 0, 1) := by decide +kernel
theorem dX8_gap_9 : decode cX8_gap 9 = .ok (.iload_n 1, 1) := by decide +kernel
theorem dX8_gap_10 : decode cX8_gap 10 = .ok (.invokevirtual 217, 3) := by decide +kernel
theorem dX8_gap_13 : decode cX8_gap 13 = .ok (.istore_n 3, 1) := by decide +kernel
theorem dX8_gap_14 : decode cX8_gap 14 = .ok (.aload_n 0, 1) := by decide +kernel
theorem dX8_gap_15 : decode cX8_gap 15 = .ok (.iload_n 3, 1) := by decide +kernel
theorem dX8_gap_16 : decode cX8_gap 16 = .ok (.iconst (-1), 1) := by decide +kernel
theorem dX8_gap_17 : decode cX8_gap 17 = .ok (.if_icmp .ne 7, 3) := by decide +kernel
theorem dX8_gap_20 : decode cX8_gap 20 = .ok (.iconst 1, 1) := by decide +kernel
theorem dX8_gap_21 : decode cX8_gap 21 = .ok (.goto 17, 3) := by decide +kernel
theorem dX8_gap_24 : decode cX8_gap 24 = .ok (.iload_n 2, 1) := by decide +kernel
theorem dX8_gap_25 : decode cX8_gap 25 = .ok (.iconst 0, 1) := by decide +kernel
theorem dX8_gap_26 : decode cX8_gap 26 = .ok (.iconst 2, 1) := by decide +kernel
theorem dX8_gap_27 : decode cX8_gap 27 = .ok (.invokestatic 72, 3) := by decide +kernel
theorem dX8_gap_30 : decode cX8_gap 30 = .ok (.ifCond .ne 7, 3) := by decide +kernel
theorem dX8_gap_33 : decode cX8_gap 33 = .ok (.iconst 2, 1) := by decide +kernel
theorem dX8_gap_34 : decode cX8_gap 34 = .ok (.goto 4, 3) := by decide +kernel
theorem dX8_gap_37 : decode cX8_gap 37 = .ok (.iconst 0, 1) := by decide +kernel
theorem dX8_gap_38 : decode cX8_gap 38 = .ok (.putfield 69, 3) := by decide +kernel
theorem dX8_gap_41 : decode cX8_gap 41 = .ok (.aload_n 0, 1) := by decide +kernel
theorem dX8_gap_42 : decode cX8_gap 42 = .ok (.getfield 69, 3) := by decide +kernel
theorem dX8_gap_45 : decode cX8_gap 45 = .ok (.ifCond .le 5, 3) := by decide +kernel
theorem dX8_gap_48 : decode cX8_gap 48 = .ok (.iconst 0, 1) := by decide +kernel
theorem dX8_gap_49 : decode cX8_gap 49 = .ok (.ireturn, 1) := by decide +kernel
theorem dX8_gap_50 : decode cX8_gap 50 = .ok (.aload_n 0, 1) := by decide +kernel
theorem dX8_gap_51 : decode cX8_gap 51 = .ok (.iload_n 3, 1) := by decide +kernel
theorem dX8_gap_52 : decode cX8_gap 52 = .ok (.invokevirtual 211, 3) := by decide +kernel
theorem dX8_gap_55 : decode cX8_gap 55 = .ok (.istore 4, 2) := by decide +kernel
theorem dX8_gap_57 : decode cX8_gap 57 = .ok (.iload_n 2, 1) := by decide +kernel
theorem dX8_gap_58 : decode cX8_gap 58 = .ok (.ifCond .ne 7, 3) := by decide +kernel
theorem dX8_gap_61 : decode cX8_gap 61 = .ok (.iload_n 3, 1) := by decide +kernel
theorem dX8_gap_62 : decode cX8_gap 62 = .ok (.goto 20, 3) := by decide +kernel
theorem dX8_gap_65 : decode cX8_gap 65 = .ok (.iload_n 2, 1) := by decide +kernel
theorem dX8_gap_66 : decode cX8_gap 66 = .ok (.iconst 1, 1) := by decide +kernel
theorem dX8_gap_67 : decode cX8_gap 67 = .ok (.if_icmp .ne 8, 3) := by decide +kernel
theorem dX8_gap_70 : decode cX8_gap 70 = .ok (.iload 4, 2) := by decide +kernel
theorem dX8_gap_72 : decode cX8_gap 72 = .ok (.goto 10, 3) := by decide +kernel
theorem dX8_gap_75 : decode cX8_gap 75 = .ok (.aload_n 0, 1) := by decide +kernel
theorem dX8_gap_76 : decode cX8_gap 76 = .ok (.iload_n 3, 1) := by decide +kernel
theorem dX8_gap_77 : decode cX8_gap 77 = .ok (.iload 4, 2) := by decide +kernel
theorem dX8_gap_79 : decode cX8_gap 79 = .ok (.invokevirtual 220, 3) := by decide +kernel
theorem dX8_gap_82 : decode cX8_gap 82 = .ok (.ireturn, 1) := by decide +kernel
theorem dX8_gaps_0 : decode cX8_gaps 0 = .ok (.aload_n 0, 1) := by decide +kernel
theorem dX8_gaps_1 : decode cX8_gaps 1 = .ok (.iconst 0, 1) := by decide +kernel
theorem dX8_gaps_2 : decode cX8_gaps 2 = .ok (.putfield 69, 3) := by decide +kernel
theorem dX8_gaps_5 : decode cX8_gaps 5 = .ok (.iconst 0, 1) := by decide +kernel
theorem dX8_gaps_6 : decode cX8_gaps 6 = .ok (.istore_n 1, 1) := by decide +kernel
theorem dX8_gaps_7 : decode cX8_gaps 7 = .ok (.aload_n 0, 1) := by decide +kernel
theorem dX8_gaps_8 : decode cX8_gaps 8 = .ok (.iconst 0, 1) := by decide +kernel
theorem dX8_gaps_9 : decode cX8_gaps 9 = .ok (.invokevirtual 208, 3) := by decide +kernel
theorem dX8_gaps_12 : decode cX8_gaps 12 = .ok (.istore_n 2, 1) := by decide +kernel
theorem dX8_gaps_13 : decode cX8_gaps 13 = .ok (.iload_n 2, 1) := by decide +kernel
theorem dX8_gaps_14 : decode cX8_gaps 14 = .ok (.iconst (-1), 1) := by decide +kernel
theorem dX8_gaps_15 : decode cX8_gaps 15 = .ok (.if_icmp .eq 21, 3) := by decide +kernel
theorem dX8_gaps_18 : decode cX8_gaps 18 = .ok (.iinc 1 1, 3) := by decide +kernel
theorem dX8_gaps_21 : decode cX8_gaps 21 = .ok (.aload_n 0, 1) := by decide +kernel
theorem dX8_gaps_22 : decode cX8_gaps 22 = .ok (.aload_n 0, 1) := by decide +kernel
theorem dX8_gaps_23 : decode cX8_gaps 23 = .ok (.iload_n 2, 1) := by decide +kernel
theorem dX8_gaps_24 : decode cX8_gaps 24 = .ok (.invokevirtual 211, 3) := by decide +kernel
theorem dX8_gaps_27 : decode cX8_gaps 27 = .ok (.iconst 2, 1) := by decide +kernel
theorem dX8_gaps_28 : decode cX8_gaps 28 = .ok (.iadd, 1) := by decide +kernel
theorem dX8_gaps_29 : decode cX8_gaps 29 = .ok (.invokevirtual 208, 3) := by decide +kernel
theorem dX8_gaps_32 : decode cX8_gaps 32 = .ok (.istore_n 2, 1) := by decide +kernel
theorem dX8_gaps_33 : decode cX8_gaps 33 = .ok (.goto (-20), 3) := by decide +kernel
theorem dX8_gaps_36 : decode cX8_gaps 36 = .ok (.iload_n 1, 1) := by decide +kernel
theorem dX8_gaps_37 : decode cX8_gaps 37 = .ok (.ireturn, 1) := by decide +kernel
theorem dX8_framed_0 : decode cX8_framed 0 = .ok (.aload_n 0, 1) := by decide +kernel
theorem dX8_framed_1 : decode cX8_framed 1 = .ok (.aload_n 0, 1) := by decide +kernel
theorem dX8_framed_2 : decode cX8_framed 2 = .ok (.iload_n 1, 1) := by decide +kernel
theorem dX8_framed_3 : decode cX8_framed 3 = .ok (.invokevirtual 184, 3) := by decide +kernel
theorem dX8_framed_6 : decode cX8_framed 6 = .ok (.ifCond .ne 7, 3) := by decide +kernel
theorem dX8_framed_9 : decode cX8_framed 9 = .ok (.iconst 1, 1) := by decide +kernel
theorem dX8_framed_10 : decode cX8_framed 10 = .ok (.goto 15, 3) := by decide +kernel
theorem dX8_framed_13 : decode cX8_framed 13 = .ok (.iload_n 2, 1) := by decide +kernel
theorem dX8_framed_14 : decode cX8_framed 14 = .ok (.invokestatic 76, 3) := by decide +kernel
theorem dX8_framed_17 : decode cX8_framed 17 = .ok (.ifCond .ne 7, 3) := by decide +kernel
theorem dX8_framed_20 : decode cX8_framed 20 = .ok (.iconst 2, 1) := by decide +kernel
theorem dX8_framed_21 : decode cX8_framed 21 = .ok (.goto 4, 3) := by decide +kernel
theorem dX8_framed_24 : decode cX8_framed 24 = .ok (.iconst 0, 1) := by decide +kernel
theorem dX8_framed_25 : decode cX8_framed 25 = .ok (.putfield 69, 3) := by decide +kernel
theorem dX8_framed_28 : decode cX8_framed 28 = .ok (.aload_n 0, 1) := by decide +kernel
theorem dX8_framed_29 : decode cX8_framed 29 = .ok (.getfield 69, 3) := by decide +kernel
theorem dX8_framed_32 : decode cX8_framed 32 = .ok (.ifCond .le 7, 3) := by decide +kernel
theorem dX8_framed_35 : decode cX8_framed 35 = .ok (.iconst 0, 1) := by decide +kernel
theorem dX8_framed_36 : decode cX8_framed 36 = .ok (.goto 14, 3) := by decide +kernel
theorem dX8_framed_39 : decode cX8_framed 39 = .ok (.aload_n 0, 1) := by decide +kernel
theorem dX8_framed_40 : decode cX8_framed 40 = .ok (.getfield 51, 3) := by decide +kernel
theorem dX8_framed_43 : decode cX8_framed 43 = .ok (.bipush 64, 2) := by decide +kernel
theorem dX8_framed_45 : decode cX8_framed 45 = .ok (.iload_n 1, 1) := by decide +kernel
theorem dX8_framed_46 : decode cX8_framed 46 = .ok (.imul, 1) := by decide +kernel
theorem dX8_framed_47 : decode cX8_framed 47 = .ok (.iload_n 2, 1) := by decide +kernel
theorem dX8_framed_48 : decode cX8_framed 48 = .ok (.iadd, 1) := by decide +kernel
theorem dX8_framed_49 : decode cX8_framed 49 = .ok (.iaload, 1) := by decide +kernel
theorem dX8_framed_50 : decode cX8_framed 50 = .ok (.ireturn, 1) := by decide +kernel
theorem dX8_holdsBy_0 : decode cX8_holdsBy 0 = .ok (.iconst 1, 1) := by decide +kernel
theorem dX8_holdsBy_1 : decode cX8_holdsBy 1 = .ok (.istore_n 3, 1) := by decide +kernel
theorem dX8_holdsBy_2 : decode cX8_holdsBy 2 = .ok (.aload_n 0, 1) := by decide +kernel
theorem dX8_holdsBy_3 : decode cX8_holdsBy 3 = .ok (.getfield 60, 3) := by decide +kernel
theorem dX8_holdsBy_6 : decode cX8_holdsBy 6 = .ok (.iload_n 1, 1) := by decide +kernel
theorem dX8_holdsBy_7 : decode cX8_holdsBy 7 = .ok (.iaload, 1) := by decide +kernel
theorem dX8_holdsBy_8 : decode cX8_holdsBy 8 = .ok (.istore 4, 2) := by decide +kernel
theorem dX8_holdsBy_10 : decode cX8_holdsBy 10 = .ok (.iload 4, 2) := by decide +kernel
theorem dX8_holdsBy_12 : decode cX8_holdsBy 12 = .ok (.aload_n 0, 1) := by decide +kernel
theorem dX8_holdsBy_13 : decode cX8_holdsBy 13 = .ok (.getfield 63, 3) := by decide +kernel
theorem dX8_holdsBy_16 : decode cX8_holdsBy 16 = .ok (.iload_n 1, 1) := by decide +kernel
theorem dX8_holdsBy_17 : decode cX8_holdsBy 17 = .ok (.iaload, 1) := by decide +kernel
theorem dX8_holdsBy_18 : decode cX8_holdsBy 18 = .ok (.if_icmp .gt 40, 3) := by decide +kernel
theorem dX8_holdsBy_21 : decode cX8_holdsBy 21 = .ok (.iload_n 3, 1) := by decide +kernel
theorem dX8_holdsBy_22 : decode cX8_holdsBy 22 = .ok (.ifCond .eq 28, 3) := by decide +kernel
theorem dX8_holdsBy_25 : decode cX8_holdsBy 25 = .ok (.aload_n 0, 1) := by decide +kernel
theorem dX8_holdsBy_26 : decode cX8_holdsBy 26 = .ok (.getfield 51, 3) := by decide +kernel
theorem dX8_holdsBy_29 : decode cX8_holdsBy 29 = .ok (.bipush 64, 2) := by decide +kernel
theorem dX8_holdsBy_31 : decode cX8_holdsBy 31 = .ok (.iload_n 2, 1) := by decide +kernel
theorem dX8_holdsBy_32 : decode cX8_holdsBy 32 = .ok (.imul, 1) := by decide +kernel
theorem dX8_holdsBy_33 : decode cX8_holdsBy 33 = .ok (.iload 4, 2) := by decide +kernel
theorem dX8_holdsBy_35 : decode cX8_holdsBy 35 = .ok (.iadd, 1) := by decide +kernel
theorem dX8_holdsBy_36 : decode cX8_holdsBy 36 = .ok (.iaload, 1) := by decide +kernel
theorem dX8_holdsBy_37 : decode cX8_holdsBy 37 = .ok (.aload_n 0, 1) := by decide +kernel
theorem dX8_holdsBy_38 : decode cX8_holdsBy 38 = .ok (.getfield 66, 3) := by decide +kernel
theorem dX8_holdsBy_41 : decode cX8_holdsBy 41 = .ok (.iload_n 1, 1) := by decide +kernel
theorem dX8_holdsBy_42 : decode cX8_holdsBy 42 = .ok (.iaload, 1) := by decide +kernel
theorem dX8_holdsBy_43 : decode cX8_holdsBy 43 = .ok (.if_icmp .gt 7, 3) := by decide +kernel
theorem dX8_holdsBy_46 : decode cX8_holdsBy 46 = .ok (.iconst 1, 1) := by decide +kernel
theorem dX8_holdsBy_47 : decode cX8_holdsBy 47 = .ok (.goto 4, 3) := by decide +kernel
theorem dX8_holdsBy_50 : decode cX8_holdsBy 50 = .ok (.iconst 0, 1) := by decide +kernel
theorem dX8_holdsBy_51 : decode cX8_holdsBy 51 = .ok (.istore_n 3, 1) := by decide +kernel
theorem dX8_holdsBy_52 : decode cX8_holdsBy 52 = .ok (.iinc 4 1, 3) := by decide +kernel
theorem dX8_holdsBy_55 : decode cX8_holdsBy 55 = .ok (.goto (-45), 3) := by decide +kernel
theorem dX8_holdsBy_58 : decode cX8_holdsBy 58 = .ok (.iload_n 3, 1) := by decide +kernel
theorem dX8_holdsBy_59 : decode cX8_holdsBy 59 = .ok (.ireturn, 1) := by decide +kernel
theorem dX8_isClaim_0 : decode cX8_isClaim 0 = .ok (.iload_n 1, 1) := by decide +kernel
theorem dX8_isClaim_1 : decode cX8_isClaim 1 = .ok (.iconst 0, 1) := by decide +kernel
theorem dX8_isClaim_2 : decode cX8_isClaim 2 = .ok (.aload_n 0, 1) := by decide +kernel
theorem dX8_isClaim_3 : decode cX8_isClaim 3 = .ok (.getfield 187, 3) := by decide +kernel
theorem dX8_isClaim_6 : decode cX8_isClaim 6 = .ok (.iconst 1, 1) := by decide +kernel
theorem dX8_isClaim_7 : decode cX8_isClaim 7 = .ok (.isub, 1) := by decide +kernel
theorem dX8_isClaim_8 : decode cX8_isClaim 8 = .ok (.invokestatic 72, 3) := by decide +kernel
theorem dX8_isClaim_11 : decode cX8_isClaim 11 = .ok (.ireturn, 1) := by decide +kernel
theorem dX8_holds_0 : decode cX8_holds 0 = .ok (.aload_n 0, 1) := by decide +kernel
theorem dX8_holds_1 : decode cX8_holds 1 = .ok (.aload_n 0, 1) := by decide +kernel
theorem dX8_holds_2 : decode cX8_holds 2 = .ok (.iload_n 1, 1) := by decide +kernel
theorem dX8_holds_3 : decode cX8_holds 3 = .ok (.invokevirtual 223, 3) := by decide +kernel
theorem dX8_holds_6 : decode cX8_holds 6 = .ok (.ifCond .eq 20, 3) := by decide +kernel
theorem dX8_holds_9 : decode cX8_holds 9 = .ok (.iload_n 2, 1) := by decide +kernel
theorem dX8_holds_10 : decode cX8_holds 10 = .ok (.iconst (-1), 1) := by decide +kernel
theorem dX8_holds_11 : decode cX8_holds 11 = .ok (.if_icmp .eq 11, 3) := by decide +kernel
theorem dX8_holds_14 : decode cX8_holds 14 = .ok (.aload_n 0, 1) := by decide +kernel
theorem dX8_holds_15 : decode cX8_holds 15 = .ok (.iload_n 2, 1) := by decide +kernel
theorem dX8_holds_16 : decode cX8_holds 16 = .ok (.invokevirtual 184, 3) := by decide +kernel
theorem dX8_holds_19 : decode cX8_holds 19 = .ok (.ifCond .eq 7, 3) := by decide +kernel
theorem dX8_holds_22 : decode cX8_holds 22 = .ok (.iconst 0, 1) := by decide +kernel
theorem dX8_holds_23 : decode cX8_holds 23 = .ok (.goto 4, 3) := by decide +kernel
theorem dX8_holds_26 : decode cX8_holds 26 = .ok (.iconst 1, 1) := by decide +kernel
theorem dX8_holds_27 : decode cX8_holds 27 = .ok (.putfield 69, 3) := by decide +kernel
theorem dX8_holds_30 : decode cX8_holds 30 = .ok (.aload_n 0, 1) := by decide +kernel
theorem dX8_holds_31 : decode cX8_holds 31 = .ok (.getfield 69, 3) := by decide +kernel
theorem dX8_holds_34 : decode cX8_holds 34 = .ok (.ifCond .ne 30, 3) := by decide +kernel
theorem dX8_holds_37 : decode cX8_holds 37 = .ok (.aload_n 0, 1) := by decide +kernel
theorem dX8_holds_38 : decode cX8_holds 38 = .ok (.iload_n 1, 1) := by decide +kernel
theorem dX8_holds_39 : decode cX8_holds 39 = .ok (.iload_n 2, 1) := by decide +kernel
theorem dX8_holds_40 : decode cX8_holds 40 = .ok (.iconst (-1), 1) := by decide +kernel
theorem dX8_holds_41 : decode cX8_holds 41 = .ok (.if_icmp .ne 12, 3) := by decide +kernel
theorem dX8_holds_44 : decode cX8_holds 44 = .ok (.aload_n 0, 1) := by decide +kernel
theorem dX8_holds_45 : decode cX8_holds 45 = .ok (.getfield 57, 3) := by decide +kernel
theorem dX8_holds_48 : decode cX8_holds 48 = .ok (.iload_n 1, 1) := by decide +kernel
theorem dX8_holds_49 : decode cX8_holds 49 = .ok (.iaload, 1) := by decide +kernel
theorem dX8_holds_50 : decode cX8_holds 50 = .ok (.goto 4, 3) := by decide +kernel
theorem dX8_holds_53 : decode cX8_holds 53 = .ok (.iload_n 2, 1) := by decide +kernel
theorem dX8_holds_54 : decode cX8_holds 54 = .ok (.invokevirtual 226, 3) := by decide +kernel
theorem dX8_holds_57 : decode cX8_holds 57 = .ok (.ifCond .eq 7, 3) := by decide +kernel
theorem dX8_holds_60 : decode cX8_holds 60 = .ok (.iconst 1, 1) := by decide +kernel
theorem dX8_holds_61 : decode cX8_holds 61 = .ok (.goto 4, 3) := by decide +kernel
theorem dX8_holds_64 : decode cX8_holds 64 = .ok (.iconst 0, 1) := by decide +kernel
theorem dX8_holds_65 : decode cX8_holds 65 = .ok (.ireturn, 1) := by decide +kernel
theorem dX8_disputes_0 : decode cX8_disputes 0 = .ok (.aload_n 0, 1) := by decide +kernel
theorem dX8_disputes_1 : decode cX8_disputes 1 = .ok (.aload_n 0, 1) := by decide +kernel
theorem dX8_disputes_2 : decode cX8_disputes 2 = .ok (.iload_n 1, 1) := by decide +kernel
theorem dX8_disputes_3 : decode cX8_disputes 3 = .ok (.invokevirtual 223, 3) := by decide +kernel
theorem dX8_disputes_6 : decode cX8_disputes 6 = .ok (.ifCond .eq 7, 3) := by decide +kernel
theorem dX8_disputes_9 : decode cX8_disputes 9 = .ok (.iconst 0, 1) := by decide +kernel
theorem dX8_disputes_10 : decode cX8_disputes 10 = .ok (.goto 4, 3) := by decide +kernel
theorem dX8_disputes_13 : decode cX8_disputes 13 = .ok (.iconst 1, 1) := by decide +kernel
theorem dX8_disputes_14 : decode cX8_disputes 14 = .ok (.putfield 69, 3) := by decide +kernel
theorem dX8_disputes_17 : decode cX8_disputes 17 = .ok (.iconst 0, 1) := by decide +kernel
theorem dX8_disputes_18 : decode cX8_disputes 18 = .ok (.istore_n 2, 1) := by decide +kernel
theorem dX8_disputes_19 : decode cX8_disputes 19 = .ok (.iconst 0, 1) := by decide +kernel
theorem dX8_disputes_20 : decode cX8_disputes 20 = .ok (.istore_n 3, 1) := by decide +kernel
theorem dX8_disputes_21 : decode cX8_disputes 21 = .ok (.iload_n 3, 1) := by decide +kernel
theorem dX8_disputes_22 : decode cX8_disputes 22 = .ok (.aload_n 0, 1) := by decide +kernel
theorem dX8_disputes_23 : decode cX8_disputes 23 = .ok (.getfield 177, 3) := by decide +kernel
theorem dX8_disputes_26 : decode cX8_disputes 26 = .ok (.if_icmp .ge 53, 3) := by decide +kernel
theorem dX8_disputes_29 : decode cX8_disputes 29 = .ok (.aload_n 0, 1) := by decide +kernel
theorem dX8_disputes_30 : decode cX8_disputes 30 = .ok (.getfield 69, 3) := by decide +kernel
theorem dX8_disputes_33 : decode cX8_disputes 33 = .ok (.ifCond .ne 46, 3) := by decide +kernel
theorem dX8_disputes_36 : decode cX8_disputes 36 = .ok (.iload_n 2, 1) := by decide +kernel
theorem dX8_disputes_37 : decode cX8_disputes 37 = .ok (.aload_n 0, 1) := by decide +kernel
theorem dX8_disputes_38 : decode cX8_disputes 38 = .ok (.getfield 54, 3) := by decide +kernel
theorem dX8_disputes_41 : decode cX8_disputes 41 = .ok (.iload_n 3, 1) := by decide +kernel
theorem dX8_disputes_42 : decode cX8_disputes 42 = .ok (.iaload, 1) := by decide +kernel
theorem dX8_disputes_43 : decode cX8_disputes 43 = .ok (.aload_n 0, 1) := by decide +kernel
theorem dX8_disputes_44 : decode cX8_disputes 44 = .ok (.getfield 54, 3) := by decide +kernel
theorem dX8_disputes_47 : decode cX8_disputes 47 = .ok (.aload_n 0, 1) := by decide +kernel
theorem dX8_disputes_48 : decode cX8_disputes 48 = .ok (.getfield 57, 3) := by decide +kernel
theorem dX8_disputes_51 : decode cX8_disputes 51 = .ok (.iload_n 1, 1) := by decide +kernel
theorem dX8_disputes_52 : decode cX8_disputes 52 = .ok (.iaload, 1) := by decide +kernel
theorem dX8_disputes_53 : decode cX8_disputes 53 = .ok (.iaload, 1) := by decide +kernel
theorem dX8_disputes_54 : decode cX8_disputes 54 = .ok (.if_icmp .lt 16, 3) := by decide +kernel
theorem dX8_disputes_57 : decode cX8_disputes 57 = .ok (.aload_n 0, 1) := by decide +kernel
theorem dX8_disputes_58 : decode cX8_disputes 58 = .ok (.iload_n 1, 1) := by decide +kernel
theorem dX8_disputes_59 : decode cX8_disputes 59 = .ok (.iload_n 3, 1) := by decide +kernel
theorem dX8_disputes_60 : decode cX8_disputes 60 = .ok (.invokevirtual 226, 3) := by decide +kernel
theorem dX8_disputes_63 : decode cX8_disputes 63 = .ok (.ifCond .ne 7, 3) := by decide +kernel
theorem dX8_disputes_66 : decode cX8_disputes 66 = .ok (.iconst 1, 1) := by decide +kernel
theorem dX8_disputes_67 : decode cX8_disputes 67 = .ok (.goto 4, 3) := by decide +kernel
theorem dX8_disputes_70 : decode cX8_disputes 70 = .ok (.iconst 0, 1) := by decide +kernel
theorem dX8_disputes_71 : decode cX8_disputes 71 = .ok (.iadd, 1) := by decide +kernel
theorem dX8_disputes_72 : decode cX8_disputes 72 = .ok (.istore_n 2, 1) := by decide +kernel
theorem dX8_disputes_73 : decode cX8_disputes 73 = .ok (.iinc 3 1, 3) := by decide +kernel
theorem dX8_disputes_76 : decode cX8_disputes 76 = .ok (.goto (-55), 3) := by decide +kernel
theorem dX8_disputes_79 : decode cX8_disputes 79 = .ok (.iload_n 2, 1) := by decide +kernel
theorem dX8_disputes_80 : decode cX8_disputes 80 = .ok (.ireturn, 1) := by decide +kernel
theorem dL_grain_0 : decode cL_grain 0 = .ok (.aload 5, 2) := by decide +kernel
theorem dL_grain_2 : decode cL_grain 2 = .ok (.iconst 0, 1) := by decide +kernel
theorem dL_grain_3 : decode cL_grain 3 = .ok (.aload_n 0, 1) := by decide +kernel
theorem dL_grain_4 : decode cL_grain 4 = .ok (.iload_n 1, 1) := by decide +kernel
theorem dL_grain_5 : decode cL_grain 5 = .ok (.iload_n 2, 1) := by decide +kernel
theorem dL_grain_6 : decode cL_grain 6 = .ok (.iload_n 3, 1) := by decide +kernel
theorem dL_grain_7 : decode cL_grain 7 = .ok (.iload 4, 2) := by decide +kernel
theorem dL_grain_9 : decode cL_grain 9 = .ok (.invokevirtual 7, 3) := by decide +kernel
theorem dL_grain_12 : decode cL_grain 12 = .ok (.i2l, 1) := by decide +kernel
theorem dL_grain_13 : decode cL_grain 13 = .ok (.lastore, 1) := by decide +kernel
theorem dL_grain_14 : decode cL_grain 14 = .ok (.goto 11, 3) := by decide +kernel
theorem dL_grain_17 : decode cL_grain 17 = .ok (.astore 6, 2) := by decide +kernel
theorem dL_grain_19 : decode cL_grain 19 = .ok (.iconst 1, 1) := by decide +kernel
theorem dL_grain_20 : decode cL_grain 20 = .ok (.ireturn, 1) := by decide +kernel
theorem dL_grain_21 : decode cL_grain 21 = .ok (.astore 6, 2) := by decide +kernel
theorem dL_grain_23 : decode cL_grain 23 = .ok (.iconst 2, 1) := by decide +kernel
theorem dL_grain_24 : decode cL_grain 24 = .ok (.ireturn, 1) := by decide +kernel
theorem dL_grain_25 : decode cL_grain 25 = .ok (.iconst 0, 1) := by decide +kernel
theorem dL_grain_26 : decode cL_grain 26 = .ok (.ireturn, 1) := by decide +kernel
theorem dL_moon_0 : decode cL_moon 0 = .ok (.aload 4, 2) := by decide +kernel
theorem dL_moon_2 : decode cL_moon 2 = .ok (.iconst 0, 1) := by decide +kernel
theorem dL_moon_3 : decode cL_moon 3 = .ok (.aload_n 0, 1) := by decide +kernel
theorem dL_moon_4 : decode cL_moon 4 = .ok (.iload_n 1, 1) := by decide +kernel
theorem dL_moon_5 : decode cL_moon 5 = .ok (.iload_n 2, 1) := by decide +kernel
theorem dL_moon_6 : decode cL_moon 6 = .ok (.iload_n 3, 1) := by decide +kernel
theorem dL_moon_7 : decode cL_moon 7 = .ok (.invokevirtual 17, 3) := by decide +kernel
theorem dL_moon_10 : decode cL_moon 10 = .ok (.i2l, 1) := by decide +kernel
theorem dL_moon_11 : decode cL_moon 11 = .ok (.lastore, 1) := by decide +kernel
theorem dL_moon_12 : decode cL_moon 12 = .ok (.goto 11, 3) := by decide +kernel
theorem dL_moon_15 : decode cL_moon 15 = .ok (.astore 5, 2) := by decide +kernel
theorem dL_moon_17 : decode cL_moon 17 = .ok (.iconst 1, 1) := by decide +kernel
theorem dL_moon_18 : decode cL_moon 18 = .ok (.ireturn, 1) := by decide +kernel
theorem dL_moon_19 : decode cL_moon 19 = .ok (.astore 5, 2) := by decide +kernel
theorem dL_moon_21 : decode cL_moon 21 = .ok (.iconst 2, 1) := by decide +kernel
theorem dL_moon_22 : decode cL_moon 22 = .ok (.ireturn, 1) := by decide +kernel
theorem dL_moon_23 : decode cL_moon 23 = .ok (.iconst 0, 1) := by decide +kernel
theorem dL_moon_24 : decode cL_moon 24 = .ok (.ireturn, 1) := by decide +kernel
theorem dL_flatness_0 : decode cL_flatness 0 = .ok (.aload_n 2, 1) := by decide +kernel
theorem dL_flatness_1 : decode cL_flatness 1 = .ok (.iconst 0, 1) := by decide +kernel
theorem dL_flatness_2 : decode cL_flatness 2 = .ok (.aload_n 0, 1) := by decide +kernel
theorem dL_flatness_3 : decode cL_flatness 3 = .ok (.iload_n 1, 1) := by decide +kernel
theorem dL_flatness_4 : decode cL_flatness 4 = .ok (.invokevirtual 21, 3) := by decide +kernel
theorem dL_flatness_7 : decode cL_flatness 7 = .ok (.i2l, 1) := by decide +kernel
theorem dL_flatness_8 : decode cL_flatness 8 = .ok (.lastore, 1) := by decide +kernel
theorem dL_flatness_9 : decode cL_flatness 9 = .ok (.goto 6, 3) := by decide +kernel
theorem dL_flatness_12 : decode cL_flatness 12 = .ok (.astore_n 3, 1) := by decide +kernel
theorem dL_flatness_13 : decode cL_flatness 13 = .ok (.iconst 1, 1) := by decide +kernel
theorem dL_flatness_14 : decode cL_flatness 14 = .ok (.ireturn, 1) := by decide +kernel
theorem dL_flatness_15 : decode cL_flatness 15 = .ok (.iconst 0, 1) := by decide +kernel
theorem dL_flatness_16 : decode cL_flatness 16 = .ok (.ireturn, 1) := by decide +kernel
theorem dL_bounds_0 : decode cL_bounds 0 = .ok (.aload_n 0, 1) := by decide +kernel
theorem dL_bounds_1 : decode cL_bounds 1 = .ok (.iload_n 1, 1) := by decide +kernel
theorem dL_bounds_2 : decode cL_bounds 2 = .ok (.iload_n 2, 1) := by decide +kernel
theorem dL_bounds_3 : decode cL_bounds 3 = .ok (.iload_n 3, 1) := by decide +kernel
theorem dL_bounds_4 : decode cL_bounds 4 = .ok (.invokevirtual 25, 3) := by decide +kernel
theorem dL_bounds_7 : decode cL_bounds 7 = .ok (.goto 7, 3) := by decide +kernel
theorem dL_bounds_10 : decode cL_bounds 10 = .ok (.astore 4, 2) := by decide +kernel
theorem dL_bounds_12 : decode cL_bounds 12 = .ok (.iconst 1, 1) := by decide +kernel
theorem dL_bounds_13 : decode cL_bounds 13 = .ok (.ireturn, 1) := by decide +kernel
theorem dL_bounds_14 : decode cL_bounds 14 = .ok (.iconst 0, 1) := by decide +kernel
theorem dL_bounds_15 : decode cL_bounds 15 = .ok (.ireturn, 1) := by decide +kernel
theorem dL_tick_0 : decode cL_tick 0 = .ok (.aload_n 2, 1) := by decide +kernel
theorem dL_tick_1 : decode cL_tick 1 = .ok (.iconst 0, 1) := by decide +kernel
theorem dL_tick_2 : decode cL_tick 2 = .ok (.aload_n 0, 1) := by decide +kernel
theorem dL_tick_3 : decode cL_tick 3 = .ok (.iload_n 1, 1) := by decide +kernel
theorem dL_tick_4 : decode cL_tick 4 = .ok (.invokevirtual 29, 3) := by decide +kernel
theorem dL_tick_7 : decode cL_tick 7 = .ok (.i2l, 1) := by decide +kernel
theorem dL_tick_8 : decode cL_tick 8 = .ok (.lastore, 1) := by decide +kernel
theorem dL_tick_9 : decode cL_tick 9 = .ok (.goto 9, 3) := by decide +kernel
theorem dL_tick_12 : decode cL_tick 12 = .ok (.astore_n 3, 1) := by decide +kernel
theorem dL_tick_13 : decode cL_tick 13 = .ok (.iconst 1, 1) := by decide +kernel
theorem dL_tick_14 : decode cL_tick 14 = .ok (.ireturn, 1) := by decide +kernel
theorem dL_tick_15 : decode cL_tick 15 = .ok (.astore_n 3, 1) := by decide +kernel
theorem dL_tick_16 : decode cL_tick 16 = .ok (.iconst 2, 1) := by decide +kernel
theorem dL_tick_17 : decode cL_tick 17 = .ok (.ireturn, 1) := by decide +kernel
theorem dL_tick_18 : decode cL_tick 18 = .ok (.iconst 0, 1) := by decide +kernel
theorem dL_tick_19 : decode cL_tick 19 = .ok (.ireturn, 1) := by decide +kernel
theorem dL_frame_0 : decode cL_frame 0 = .ok (.aload_n 1, 1) := by decide +kernel
theorem dL_frame_1 : decode cL_frame 1 = .ok (.iconst 0, 1) := by decide +kernel
theorem dL_frame_2 : decode cL_frame 2 = .ok (.aload_n 0, 1) := by decide +kernel
theorem dL_frame_3 : decode cL_frame 3 = .ok (.invokevirtual 32, 3) := by decide +kernel
theorem dL_frame_6 : decode cL_frame 6 = .ok (.i2l, 1) := by decide +kernel
theorem dL_frame_7 : decode cL_frame 7 = .ok (.lastore, 1) := by decide +kernel
theorem dL_frame_8 : decode cL_frame 8 = .ok (.goto 6, 3) := by decide +kernel
theorem dL_frame_11 : decode cL_frame 11 = .ok (.astore_n 2, 1) := by decide +kernel
theorem dL_frame_12 : decode cL_frame 12 = .ok (.iconst 1, 1) := by decide +kernel
theorem dL_frame_13 : decode cL_frame 13 = .ok (.ireturn, 1) := by decide +kernel
theorem dL_frame_14 : decode cL_frame 14 = .ok (.iconst 0, 1) := by decide +kernel
theorem dL_frame_15 : decode cL_frame 15 = .ok (.ireturn, 1) := by decide +kernel
theorem dL_claim_0 : decode cL_claim 0 = .ok (.aload 5, 2) := by decide +kernel
theorem dL_claim_2 : decode cL_claim 2 = .ok (.iconst 0, 1) := by decide +kernel
theorem dL_claim_3 : decode cL_claim 3 = .ok (.aload_n 0, 1) := by decide +kernel
theorem dL_claim_4 : decode cL_claim 4 = .ok (.iload_n 1, 1) := by decide +kernel
theorem dL_claim_5 : decode cL_claim 5 = .ok (.iload_n 2, 1) := by decide +kernel
theorem dL_claim_6 : decode cL_claim 6 = .ok (.iload_n 3, 1) := by decide +kernel
theorem dL_claim_7 : decode cL_claim 7 = .ok (.iload 4, 2) := by decide +kernel
theorem dL_claim_9 : decode cL_claim 9 = .ok (.invokevirtual 36, 3) := by decide +kernel
theorem dL_claim_12 : decode cL_claim 12 = .ok (.i2l, 1) := by decide +kernel
theorem dL_claim_13 : decode cL_claim 13 = .ok (.lastore, 1) := by decide +kernel
theorem dL_claim_14 : decode cL_claim 14 = .ok (.goto 15, 3) := by decide +kernel
theorem dL_claim_17 : decode cL_claim 17 = .ok (.astore 6, 2) := by decide +kernel
theorem dL_claim_19 : decode cL_claim 19 = .ok (.iconst 1, 1) := by decide +kernel
theorem dL_claim_20 : decode cL_claim 20 = .ok (.ireturn, 1) := by decide +kernel
theorem dL_claim_21 : decode cL_claim 21 = .ok (.astore 6, 2) := by decide +kernel
theorem dL_claim_23 : decode cL_claim 23 = .ok (.iconst 2, 1) := by decide +kernel
theorem dL_claim_24 : decode cL_claim 24 = .ok (.ireturn, 1) := by decide +kernel
theorem dL_claim_25 : decode cL_claim 25 = .ok (.astore 6, 2) := by decide +kernel
theorem dL_claim_27 : decode cL_claim 27 = .ok (.iconst 3, 1) := by decide +kernel
theorem dL_claim_28 : decode cL_claim 28 = .ok (.ireturn, 1) := by decide +kernel
theorem dL_claim_29 : decode cL_claim 29 = .ok (.iconst 0, 1) := by decide +kernel
theorem dL_claim_30 : decode cL_claim 30 = .ok (.ireturn, 1) := by decide +kernel
theorem dL_told_0 : decode cL_told 0 = .ok (.aload_n 3, 1) := by decide +kernel
theorem dL_told_1 : decode cL_told 1 = .ok (.iconst 0, 1) := by decide +kernel
theorem dL_told_2 : decode cL_told 2 = .ok (.aload_n 0, 1) := by decide +kernel
theorem dL_told_3 : decode cL_told 3 = .ok (.iload_n 1, 1) := by decide +kernel
theorem dL_told_4 : decode cL_told 4 = .ok (.iload_n 2, 1) := by decide +kernel
theorem dL_told_5 : decode cL_told 5 = .ok (.invokevirtual 41, 3) := by decide +kernel
theorem dL_told_8 : decode cL_told 8 = .ok (.i2l, 1) := by decide +kernel
theorem dL_told_9 : decode cL_told 9 = .ok (.lastore, 1) := by decide +kernel
theorem dL_told_10 : decode cL_told 10 = .ok (.goto 11, 3) := by decide +kernel
theorem dL_told_13 : decode cL_told 13 = .ok (.astore 4, 2) := by decide +kernel
theorem dL_told_15 : decode cL_told 15 = .ok (.iconst 1, 1) := by decide +kernel
theorem dL_told_16 : decode cL_told 16 = .ok (.ireturn, 1) := by decide +kernel
theorem dL_told_17 : decode cL_told 17 = .ok (.astore 4, 2) := by decide +kernel
theorem dL_told_19 : decode cL_told 19 = .ok (.iconst 2, 1) := by decide +kernel
theorem dL_told_20 : decode cL_told 20 = .ok (.ireturn, 1) := by decide +kernel
theorem dL_told_21 : decode cL_told 21 = .ok (.iconst 0, 1) := by decide +kernel
theorem dL_told_22 : decode cL_told 22 = .ok (.ireturn, 1) := by decide +kernel
theorem dL_angle_0 : decode cL_angle 0 = .ok (.aload_n 2, 1) := by decide +kernel
theorem dL_angle_1 : decode cL_angle 1 = .ok (.iconst 0, 1) := by decide +kernel
theorem dL_angle_2 : decode cL_angle 2 = .ok (.aload_n 0, 1) := by decide +kernel
theorem dL_angle_3 : decode cL_angle 3 = .ok (.iload_n 1, 1) := by decide +kernel
theorem dL_angle_4 : decode cL_angle 4 = .ok (.invokevirtual 45, 3) := by decide +kernel
theorem dL_angle_7 : decode cL_angle 7 = .ok (.i2l, 1) := by decide +kernel
theorem dL_angle_8 : decode cL_angle 8 = .ok (.lastore, 1) := by decide +kernel
theorem dL_angle_9 : decode cL_angle 9 = .ok (.goto 6, 3) := by decide +kernel
theorem dL_angle_12 : decode cL_angle 12 = .ok (.astore_n 3, 1) := by decide +kernel
theorem dL_angle_13 : decode cL_angle 13 = .ok (.iconst 1, 1) := by decide +kernel
theorem dL_angle_14 : decode cL_angle 14 = .ok (.ireturn, 1) := by decide +kernel
theorem dL_angle_15 : decode cL_angle 15 = .ok (.iconst 0, 1) := by decide +kernel
theorem dL_angle_16 : decode cL_angle 16 = .ok (.ireturn, 1) := by decide +kernel
theorem dL_speed_0 : decode cL_speed 0 = .ok (.aload_n 2, 1) := by decide +kernel
theorem dL_speed_1 : decode cL_speed 1 = .ok (.iconst 0, 1) := by decide +kernel
theorem dL_speed_2 : decode cL_speed 2 = .ok (.aload_n 0, 1) := by decide +kernel
theorem dL_speed_3 : decode cL_speed 3 = .ok (.iload_n 1, 1) := by decide +kernel
theorem dL_speed_4 : decode cL_speed 4 = .ok (.invokevirtual 48, 3) := by decide +kernel
theorem dL_speed_7 : decode cL_speed 7 = .ok (.i2l, 1) := by decide +kernel
theorem dL_speed_8 : decode cL_speed 8 = .ok (.lastore, 1) := by decide +kernel
theorem dL_speed_9 : decode cL_speed 9 = .ok (.goto 6, 3) := by decide +kernel
theorem dL_speed_12 : decode cL_speed 12 = .ok (.astore_n 3, 1) := by decide +kernel
theorem dL_speed_13 : decode cL_speed 13 = .ok (.iconst 1, 1) := by decide +kernel
theorem dL_speed_14 : decode cL_speed 14 = .ok (.ireturn, 1) := by decide +kernel
theorem dL_speed_15 : decode cL_speed 15 = .ok (.iconst 0, 1) := by decide +kernel
theorem dL_speed_16 : decode cL_speed 16 = .ok (.ireturn, 1) := by decide +kernel
theorem dL_count_0 : decode cL_count 0 = .ok (.aload_n 2, 1) := by decide +kernel
theorem dL_count_1 : decode cL_count 1 = .ok (.iconst 0, 1) := by decide +kernel
theorem dL_count_2 : decode cL_count 2 = .ok (.aload_n 0, 1) := by decide +kernel
theorem dL_count_3 : decode cL_count 3 = .ok (.iload_n 1, 1) := by decide +kernel
theorem dL_count_4 : decode cL_count 4 = .ok (.invokevirtual 51, 3) := by decide +kernel
theorem dL_count_7 : decode cL_count 7 = .ok (.i2l, 1) := by decide +kernel
theorem dL_count_8 : decode cL_count 8 = .ok (.lastore, 1) := by decide +kernel
theorem dL_count_9 : decode cL_count 9 = .ok (.goto 6, 3) := by decide +kernel
theorem dL_count_12 : decode cL_count 12 = .ok (.astore_n 3, 1) := by decide +kernel
theorem dL_count_13 : decode cL_count 13 = .ok (.iconst 1, 1) := by decide +kernel
theorem dL_count_14 : decode cL_count 14 = .ok (.ireturn, 1) := by decide +kernel
theorem dL_count_15 : decode cL_count 15 = .ok (.iconst 0, 1) := by decide +kernel
theorem dL_count_16 : decode cL_count 16 = .ok (.ireturn, 1) := by decide +kernel
theorem dL_mass_0 : decode cL_mass 0 = .ok (.aload_n 2, 1) := by decide +kernel
theorem dL_mass_1 : decode cL_mass 1 = .ok (.iconst 0, 1) := by decide +kernel
theorem dL_mass_2 : decode cL_mass 2 = .ok (.aload_n 0, 1) := by decide +kernel
theorem dL_mass_3 : decode cL_mass 3 = .ok (.iload_n 1, 1) := by decide +kernel
theorem dL_mass_4 : decode cL_mass 4 = .ok (.invokevirtual 54, 3) := by decide +kernel
theorem dL_mass_7 : decode cL_mass 7 = .ok (.i2l, 1) := by decide +kernel
theorem dL_mass_8 : decode cL_mass 8 = .ok (.lastore, 1) := by decide +kernel
theorem dL_mass_9 : decode cL_mass 9 = .ok (.goto 6, 3) := by decide +kernel
theorem dL_mass_12 : decode cL_mass 12 = .ok (.astore_n 3, 1) := by decide +kernel
theorem dL_mass_13 : decode cL_mass 13 = .ok (.iconst 1, 1) := by decide +kernel
theorem dL_mass_14 : decode cL_mass 14 = .ok (.ireturn, 1) := by decide +kernel
theorem dL_mass_15 : decode cL_mass 15 = .ok (.iconst 0, 1) := by decide +kernel
theorem dL_mass_16 : decode cL_mass 16 = .ok (.ireturn, 1) := by decide +kernel
theorem dL_sum_0 : decode cL_sum 0 = .ok (.aload_n 2, 1) := by decide +kernel
theorem dL_sum_1 : decode cL_sum 1 = .ok (.iconst 0, 1) := by decide +kernel
theorem dL_sum_2 : decode cL_sum 2 = .ok (.aload_n 0, 1) := by decide +kernel
theorem dL_sum_3 : decode cL_sum 3 = .ok (.iload_n 1, 1) := by decide +kernel
theorem dL_sum_4 : decode cL_sum 4 = .ok (.invokevirtual 57, 3) := by decide +kernel
theorem dL_sum_7 : decode cL_sum 7 = .ok (.i2l, 1) := by decide +kernel
theorem dL_sum_8 : decode cL_sum 8 = .ok (.lastore, 1) := by decide +kernel
theorem dL_sum_9 : decode cL_sum 9 = .ok (.goto 6, 3) := by decide +kernel
theorem dL_sum_12 : decode cL_sum 12 = .ok (.astore_n 3, 1) := by decide +kernel
theorem dL_sum_13 : decode cL_sum 13 = .ok (.iconst 1, 1) := by decide +kernel
theorem dL_sum_14 : decode cL_sum 14 = .ok (.ireturn, 1) := by decide +kernel
theorem dL_sum_15 : decode cL_sum 15 = .ok (.iconst 0, 1) := by decide +kernel
theorem dL_sum_16 : decode cL_sum 16 = .ok (.ireturn, 1) := by decide +kernel
theorem dL_momentum_0 : decode cL_momentum 0 = .ok (.aload_n 2, 1) := by decide +kernel
theorem dL_momentum_1 : decode cL_momentum 1 = .ok (.iconst 0, 1) := by decide +kernel
theorem dL_momentum_2 : decode cL_momentum 2 = .ok (.aload_n 0, 1) := by decide +kernel
theorem dL_momentum_3 : decode cL_momentum 3 = .ok (.iload_n 1, 1) := by decide +kernel
theorem dL_momentum_4 : decode cL_momentum 4 = .ok (.invokevirtual 60, 3) := by decide +kernel
theorem dL_momentum_7 : decode cL_momentum 7 = .ok (.lastore, 1) := by decide +kernel
theorem dL_momentum_8 : decode cL_momentum 8 = .ok (.goto 6, 3) := by decide +kernel
theorem dL_momentum_11 : decode cL_momentum 11 = .ok (.astore_n 3, 1) := by decide +kernel
theorem dL_momentum_12 : decode cL_momentum 12 = .ok (.iconst 1, 1) := by decide +kernel
theorem dL_momentum_13 : decode cL_momentum 13 = .ok (.ireturn, 1) := by decide +kernel
theorem dL_momentum_14 : decode cL_momentum 14 = .ok (.iconst 0, 1) := by decide +kernel
theorem dL_momentum_15 : decode cL_momentum 15 = .ok (.ireturn, 1) := by decide +kernel
theorem dL_resonance_0 : decode cL_resonance 0 = .ok (.aload_n 3, 1) := by decide +kernel
theorem dL_resonance_1 : decode cL_resonance 1 = .ok (.iconst 0, 1) := by decide +kernel
theorem dL_resonance_2 : decode cL_resonance 2 = .ok (.aload_n 0, 1) := by decide +kernel
theorem dL_resonance_3 : decode cL_resonance 3 = .ok (.iload_n 1, 1) := by decide +kernel
theorem dL_resonance_4 : decode cL_resonance 4 = .ok (.iload_n 2, 1) := by decide +kernel
theorem dL_resonance_5 : decode cL_resonance 5 = .ok (.invokevirtual 64, 3) := by decide +kernel
theorem dL_resonance_8 : decode cL_resonance 8 = .ok (.i2l, 1) := by decide +kernel
theorem dL_resonance_9 : decode cL_resonance 9 = .ok (.lastore, 1) := by decide +kernel
theorem dL_resonance_10 : decode cL_resonance 10 = .ok (.goto 11, 3) := by decide +kernel
theorem dL_resonance_13 : decode cL_resonance 13 = .ok (.astore 4, 2) := by decide +kernel
theorem dL_resonance_15 : decode cL_resonance 15 = .ok (.iconst 1, 1) := by decide +kernel
theorem dL_resonance_16 : decode cL_resonance 16 = .ok (.ireturn, 1) := by decide +kernel
theorem dL_resonance_17 : decode cL_resonance 17 = .ok (.astore 4, 2) := by decide +kernel
theorem dL_resonance_19 : decode cL_resonance 19 = .ok (.iconst 2, 1) := by decide +kernel
theorem dL_resonance_20 : decode cL_resonance 20 = .ok (.ireturn, 1) := by decide +kernel
theorem dL_resonance_21 : decode cL_resonance 21 = .ok (.iconst 0, 1) := by decide +kernel
theorem dL_resonance_22 : decode cL_resonance 22 = .ok (.ireturn, 1) := by decide +kernel
theorem dL_gap_0 : decode cL_gap 0 = .ok (.aload_n 3, 1) := by decide +kernel
theorem dL_gap_1 : decode cL_gap 1 = .ok (.iconst 0, 1) := by decide +kernel
theorem dL_gap_2 : decode cL_gap 2 = .ok (.aload_n 0, 1) := by decide +kernel
theorem dL_gap_3 : decode cL_gap 3 = .ok (.iload_n 1, 1) := by decide +kernel
theorem dL_gap_4 : decode cL_gap 4 = .ok (.iload_n 2, 1) := by decide +kernel
theorem dL_gap_5 : decode cL_gap 5 = .ok (.invokevirtual 67, 3) := by decide +kernel
theorem dL_gap_8 : decode cL_gap 8 = .ok (.i2l, 1) := by decide +kernel
theorem dL_gap_9 : decode cL_gap 9 = .ok (.lastore, 1) := by decide +kernel
theorem dL_gap_10 : decode cL_gap 10 = .ok (.goto 11, 3) := by decide +kernel
theorem dL_gap_13 : decode cL_gap 13 = .ok (.astore 4, 2) := by decide +kernel
theorem dL_gap_15 : decode cL_gap 15 = .ok (.iconst 1, 1) := by decide +kernel
theorem dL_gap_16 : decode cL_gap 16 = .ok (.ireturn, 1) := by decide +kernel
theorem dL_gap_17 : decode cL_gap 17 = .ok (.astore 4, 2) := by decide +kernel
theorem dL_gap_19 : decode cL_gap 19 = .ok (.iconst 2, 1) := by decide +kernel
theorem dL_gap_20 : decode cL_gap 20 = .ok (.ireturn, 1) := by decide +kernel
theorem dL_gap_21 : decode cL_gap 21 = .ok (.iconst 0, 1) := by decide +kernel
theorem dL_gap_22 : decode cL_gap 22 = .ok (.ireturn, 1) := by decide +kernel
theorem dL_framed_0 : decode cL_framed 0 = .ok (.aload_n 3, 1) := by decide +kernel
theorem dL_framed_1 : decode cL_framed 1 = .ok (.iconst 0, 1) := by decide +kernel
theorem dL_framed_2 : decode cL_framed 2 = .ok (.aload_n 0, 1) := by decide +kernel
theorem dL_framed_3 : decode cL_framed 3 = .ok (.iload_n 1, 1) := by decide +kernel
theorem dL_framed_4 : decode cL_framed 4 = .ok (.iload_n 2, 1) := by decide +kernel
theorem dL_framed_5 : decode cL_framed 5 = .ok (.invokevirtual 70, 3) := by decide +kernel
theorem dL_framed_8 : decode cL_framed 8 = .ok (.i2l, 1) := by decide +kernel
theorem dL_framed_9 : decode cL_framed 9 = .ok (.lastore, 1) := by decide +kernel
theorem dL_framed_10 : decode cL_framed 10 = .ok (.goto 11, 3) := by decide +kernel
theorem dL_framed_13 : decode cL_framed 13 = .ok (.astore 4, 2) := by decide +kernel
theorem dL_framed_15 : decode cL_framed 15 = .ok (.iconst 1, 1) := by decide +kernel
theorem dL_framed_16 : decode cL_framed 16 = .ok (.ireturn, 1) := by decide +kernel
theorem dL_framed_17 : decode cL_framed 17 = .ok (.astore 4, 2) := by decide +kernel
theorem dL_framed_19 : decode cL_framed 19 = .ok (.iconst 2, 1) := by decide +kernel
theorem dL_framed_20 : decode cL_framed 20 = .ok (.ireturn, 1) := by decide +kernel
theorem dL_framed_21 : decode cL_framed 21 = .ok (.iconst 0, 1) := by decide +kernel
theorem dL_framed_22 : decode cL_framed 22 = .ok (.ireturn, 1) := by decide +kernel
theorem dL_holds_0 : decode cL_holds 0 = .ok (.aload_n 3, 1) := by decide +kernel
theorem dL_holds_1 : decode cL_holds 1 = .ok (.iconst 0, 1) := by decide +kernel
theorem dL_holds_2 : decode cL_holds 2 = .ok (.aload_n 0, 1) := by decide +kernel
theorem dL_holds_3 : decode cL_holds 3 = .ok (.iload_n 1, 1) := by decide +kernel
theorem dL_holds_4 : decode cL_holds 4 = .ok (.iload_n 2, 1) := by decide +kernel
theorem dL_holds_5 : decode cL_holds 5 = .ok (.invokevirtual 73, 3) := by decide +kernel
theorem dL_holds_8 : decode cL_holds 8 = .ok (.ifCond .eq 7, 3) := by decide +kernel
theorem dL_holds_11 : decode cL_holds 11 = .ok (.lconst 1, 1) := by decide +kernel
theorem dL_holds_12 : decode cL_holds 12 = .ok (.goto 4, 3) := by decide +kernel
theorem dL_holds_15 : decode cL_holds 15 = .ok (.lconst 0, 1) := by decide +kernel
theorem dL_holds_16 : decode cL_holds 16 = .ok (.lastore, 1) := by decide +kernel
theorem dL_holds_17 : decode cL_holds 17 = .ok (.goto 7, 3) := by decide +kernel
theorem dL_holds_20 : decode cL_holds 20 = .ok (.astore 4, 2) := by decide +kernel
theorem dL_holds_22 : decode cL_holds 22 = .ok (.iconst 1, 1) := by decide +kernel
theorem dL_holds_23 : decode cL_holds 23 = .ok (.ireturn, 1) := by decide +kernel
theorem dL_holds_24 : decode cL_holds 24 = .ok (.iconst 0, 1) := by decide +kernel
theorem dL_holds_25 : decode cL_holds 25 = .ok (.ireturn, 1) := by decide +kernel
end
section
theorem dL_disputes_0 : decode cL_disputes 0 = .ok (.aload_n 2, 1) := by decide +kernel
theorem dL_disputes_1 : decode cL_disputes 1 = .ok (.iconst 0, 1) := by decide +kernel
theorem dL_disputes_2 : decode cL_disputes 2 = .ok (.aload_n 0, 1) := by decide +kernel
theorem dL_disputes_3 : decode cL_disputes 3 = .ok (.iload_n 1, 1) := by decide +kernel
theorem dL_disputes_4 : decode cL_disputes 4 = .ok (.invokevirtual 77, 3) := by decide +kernel
theorem dL_disputes_7 : decode cL_disputes 7 = .ok (.i2l, 1) := by decide +kernel
theorem dL_disputes_8 : decode cL_disputes 8 = .ok (.lastore, 1) := by decide +kernel
theorem dL_disputes_9 : decode cL_disputes 9 = .ok (.goto 6, 3) := by decide +kernel
theorem dL_disputes_12 : decode cL_disputes 12 = .ok (.astore_n 3, 1) := by decide +kernel
theorem dL_disputes_13 : decode cL_disputes 13 = .ok (.iconst 1, 1) := by decide +kernel
theorem dL_disputes_14 : decode cL_disputes 14 = .ok (.ireturn, 1) := by decide +kernel
theorem dL_disputes_15 : decode cL_disputes 15 = .ok (.iconst 0, 1) := by decide +kernel
theorem dL_disputes_16 : decode cL_disputes 16 = .ok (.ireturn, 1) := by decide +kernel
theorem dL_law_0 : decode cL_law 0 = .ok (.new 8, 3) := by decide +kernel
theorem dL_law_3 : decode cL_law 3 = .ok (.dup, 1) := by decide +kernel
theorem dL_law_4 : decode cL_law 4 = .ok (.invokespecial 80, 3) := by decide +kernel
theorem dL_law_7 : decode cL_law 7 = .ok (.astore_n 1, 1) := by decide +kernel
theorem dL_law_8 : decode cL_law 8 = .ok (.new 81, 3) := by decide +kernel
theorem dL_law_11 : decode cL_law 11 = .ok (.dup, 1) := by decide +kernel
theorem dL_law_12 : decode cL_law 12 = .ok (.invokespecial 83, 3) := by decide +kernel
theorem dL_law_15 : decode cL_law 15 = .ok (.astore_n 2, 1) := by decide +kernel
theorem dL_law_16 : decode cL_law 16 = .ok (.iconst 1, 1) := by decide +kernel
theorem dL_law_17 : decode cL_law 17 = .ok (.newarray .long, 2) := by decide +kernel
theorem dL_law_19 : decode cL_law 19 = .ok (.astore_n 3, 1) := by decide +kernel
theorem dL_law_20 : decode cL_law 20 = .ok (.iconst 0, 1) := by decide +kernel
theorem dL_law_21 : decode cL_law 21 = .ok (.istore 4, 2) := by decide +kernel
theorem dL_law_23 : decode cL_law 23 = .ok (.iload 4, 2) := by decide +kernel
theorem dL_law_25 : decode cL_law 25 = .ok (.aload_n 0, 1) := by decide +kernel
theorem dL_law_26 : decode cL_law 26 = .ok (.arraylength, 1) := by decide +kernel
theorem dL_law_27 : decode cL_law 27 = .ok (.iconst 5, 1) := by decide +kernel
theorem dL_law_28 : decode cL_law 28 = .ok (.isub, 1) := by decide +kernel
theorem dL_law_29 : decode cL_law 29 = .ok (.if_icmp .gt 1375, 3) := by decide +kernel
theorem dL_law_32 : decode cL_law 32 = .ok (.aload_n 0, 1) := by decide +kernel
theorem dL_law_33 : decode cL_law 33 = .ok (.iload 4, 2) := by decide +kernel
theorem dL_law_35 : decode cL_law 35 = .ok (.iaload, 1) := by decide +kernel
theorem dL_law_36 : decode cL_law 36 = .ok (.bipush 31, 2) := by decide +kernel
theorem dL_law_38 : decode cL_law 38 = .ok (.iand, 1) := by decide +kernel
theorem dL_law_39 : decode cL_law 39 = .ok (.tableswitch 1359 0 21 #[101, 193, 273, 329, 389, 445, 489, 581, 594, 662, 718, 774, 830, 886, 942, 997, 1011, 1079, 1147, 1160, 1228, 1303], 101) := by decide +kernel
theorem dL_law_140 : decode cL_law 140 = .ok (.aload_n 1, 1) := by decide +kernel
theorem dL_law_141 : decode cL_law 141 = .ok (.aload_n 0, 1) := by decide +kernel
theorem dL_law_142 : decode cL_law 142 = .ok (.iload 4, 2) := by decide +kernel
theorem dL_law_144 : decode cL_law 144 = .ok (.iconst 1, 1) := by decide +kernel
theorem dL_law_145 : decode cL_law 145 = .ok (.iadd, 1) := by decide +kernel
theorem dL_law_146 : decode cL_law 146 = .ok (.iaload, 1) := by decide +kernel
theorem dL_law_147 : decode cL_law 147 = .ok (.aload_n 0, 1) := by decide +kernel
theorem dL_law_148 : decode cL_law 148 = .ok (.iload 4, 2) := by decide +kernel
theorem dL_law_150 : decode cL_law 150 = .ok (.iconst 2, 1) := by decide +kernel
theorem dL_law_151 : decode cL_law 151 = .ok (.iadd, 1) := by decide +kernel
theorem dL_law_152 : decode cL_law 152 = .ok (.iaload, 1) := by decide +kernel
theorem dL_law_153 : decode cL_law 153 = .ok (.aload_n 0, 1) := by decide +kernel
theorem dL_law_154 : decode cL_law 154 = .ok (.iload 4, 2) := by decide +kernel
theorem dL_law_156 : decode cL_law 156 = .ok (.iconst 3, 1) := by decide +kernel
theorem dL_law_157 : decode cL_law 157 = .ok (.iadd, 1) := by decide +kernel
theorem dL_law_158 : decode cL_law 158 = .ok (.iaload, 1) := by decide +kernel
theorem dL_law_159 : decode cL_law 159 = .ok (.aload_n 0, 1) := by decide +kernel
theorem dL_law_160 : decode cL_law 160 = .ok (.iload 4, 2) := by decide +kernel
theorem dL_law_162 : decode cL_law 162 = .ok (.iconst 4, 1) := by decide +kernel
theorem dL_law_163 : decode cL_law 163 = .ok (.iadd, 1) := by decide +kernel
theorem dL_law_164 : decode cL_law 164 = .ok (.iaload, 1) := by decide +kernel
theorem dL_law_165 : decode cL_law 165 = .ok (.aload_n 3, 1) := by decide +kernel
theorem dL_law_166 : decode cL_law 166 = .ok (.invokestatic 84, 3) := by decide +kernel
theorem dL_law_169 : decode cL_law 169 = .ok (.istore 5, 2) := by decide +kernel
theorem dL_law_171 : decode cL_law 171 = .ok (.aload_n 2, 1) := by decide +kernel
theorem dL_law_172 : decode cL_law 172 = .ok (.aload_n 0, 1) := by decide +kernel
theorem dL_law_173 : decode cL_law 173 = .ok (.iload 4, 2) := by decide +kernel
theorem dL_law_175 : decode cL_law 175 = .ok (.iconst 1, 1) := by decide +kernel
theorem dL_law_176 : decode cL_law 176 = .ok (.iadd, 1) := by decide +kernel
theorem dL_law_177 : decode cL_law 177 = .ok (.iaload, 1) := by decide +kernel
theorem dL_law_178 : decode cL_law 178 = .ok (.aload_n 0, 1) := by decide +kernel
theorem dL_law_179 : decode cL_law 179 = .ok (.iload 4, 2) := by decide +kernel
theorem dL_law_181 : decode cL_law 181 = .ok (.iconst 2, 1) := by decide +kernel
theorem dL_law_182 : decode cL_law 182 = .ok (.iadd, 1) := by decide +kernel
theorem dL_law_183 : decode cL_law 183 = .ok (.iaload, 1) := by decide +kernel
theorem dL_law_184 : decode cL_law 184 = .ok (.aload_n 0, 1) := by decide +kernel
theorem dL_law_185 : decode cL_law 185 = .ok (.iload 4, 2) := by decide +kernel
theorem dL_law_187 : decode cL_law 187 = .ok (.iconst 3, 1) := by decide +kernel
theorem dL_law_188 : decode cL_law 188 = .ok (.iadd, 1) := by decide +kernel
theorem dL_law_189 : decode cL_law 189 = .ok (.iaload, 1) := by decide +kernel
theorem dL_law_190 : decode cL_law 190 = .ok (.aload_n 0, 1) := by decide +kernel
theorem dL_law_191 : decode cL_law 191 = .ok (.iload 4, 2) := by decide +kernel
theorem dL_law_193 : decode cL_law 193 = .ok (.iconst 4, 1) := by decide +kernel
theorem dL_law_194 : decode cL_law 194 = .ok (.iadd, 1) := by decide +kernel
theorem dL_law_195 : decode cL_law 195 = .ok (.iaload, 1) := by decide +kernel
theorem dL_law_196 : decode cL_law 196 = .ok (.invokevirtual 89, 3) := by decide +kernel
theorem dL_law_199 : decode cL_law 199 = .ok (.istore 6, 2) := by decide +kernel
theorem dL_law_201 : decode cL_law 201 = .ok (.aload_n 2, 1) := by decide +kernel
theorem dL_law_202 : decode cL_law 202 = .ok (.invokevirtual 90, 3) := by decide +kernel
theorem dL_law_205 : decode cL_law 205 = .ok (.iload 5, 2) := by decide +kernel
theorem dL_law_207 : decode cL_law 207 = .ok (.if_icmp .eq 5, 3) := by decide +kernel
theorem dL_law_210 : decode cL_law 210 = .ok (.iconst 0, 1) := by decide +kernel
theorem dL_law_211 : decode cL_law 211 = .ok (.ireturn, 1) := by decide +kernel
theorem dL_law_212 : decode cL_law 212 = .ok (.iload 5, 2) := by decide +kernel
theorem dL_law_214 : decode cL_law 214 = .ok (.ifCond .ne 15, 3) := by decide +kernel
theorem dL_law_217 : decode cL_law 217 = .ok (.aload_n 3, 1) := by decide +kernel
theorem dL_law_218 : decode cL_law 218 = .ok (.iconst 0, 1) := by decide +kernel
theorem dL_law_219 : decode cL_law 219 = .ok (.laload, 1) := by decide +kernel
theorem dL_law_220 : decode cL_law 220 = .ok (.iload 6, 2) := by decide +kernel
theorem dL_law_222 : decode cL_law 222 = .ok (.i2l, 1) := by decide +kernel
theorem dL_law_223 : decode cL_law 223 = .ok (.lcmp, 1) := by decide +kernel
theorem dL_law_224 : decode cL_law 224 = .ok (.ifCond .eq 5, 3) := by decide +kernel
theorem dL_law_227 : decode cL_law 227 = .ok (.iconst 0, 1) := by decide +kernel
theorem dL_law_228 : decode cL_law 228 = .ok (.ireturn, 1) := by decide +kernel
theorem dL_law_229 : decode cL_law 229 = .ok (.goto 1169, 3) := by decide +kernel
theorem dL_law_232 : decode cL_law 232 = .ok (.aload_n 1, 1) := by decide +kernel
theorem dL_law_233 : decode cL_law 233 = .ok (.aload_n 0, 1) := by decide +kernel
theorem dL_law_234 : decode cL_law 234 = .ok (.iload 4, 2) := by decide +kernel
theorem dL_law_236 : decode cL_law 236 = .ok (.iconst 1, 1) := by decide +kernel
theorem dL_law_237 : decode cL_law 237 = .ok (.iadd, 1) := by decide +kernel
theorem dL_law_238 : decode cL_law 238 = .ok (.iaload, 1) := by decide +kernel
theorem dL_law_239 : decode cL_law 239 = .ok (.aload_n 0, 1) := by decide +kernel
theorem dL_law_240 : decode cL_law 240 = .ok (.iload 4, 2) := by decide +kernel
theorem dL_law_242 : decode cL_law 242 = .ok (.iconst 2, 1) := by decide +kernel
theorem dL_law_243 : decode cL_law 243 = .ok (.iadd, 1) := by decide +kernel
theorem dL_law_244 : decode cL_law 244 = .ok (.iaload, 1) := by decide +kernel
theorem dL_law_245 : decode cL_law 245 = .ok (.aload_n 0, 1) := by decide +kernel
theorem dL_law_246 : decode cL_law 246 = .ok (.iload 4, 2) := by decide +kernel
theorem dL_law_248 : decode cL_law 248 = .ok (.iconst 3, 1) := by decide +kernel
theorem dL_law_249 : decode cL_law 249 = .ok (.iadd, 1) := by decide +kernel
theorem dL_law_250 : decode cL_law 250 = .ok (.iaload, 1) := by decide +kernel
theorem dL_law_251 : decode cL_law 251 = .ok (.aload_n 3, 1) := by decide +kernel
theorem dL_law_252 : decode cL_law 252 = .ok (.invokestatic 93, 3) := by decide +kernel
theorem dL_law_255 : decode cL_law 255 = .ok (.istore 5, 2) := by decide +kernel
theorem dL_law_257 : decode cL_law 257 = .ok (.aload_n 2, 1) := by decide +kernel
theorem dL_law_258 : decode cL_law 258 = .ok (.aload_n 0, 1) := by decide +kernel
theorem dL_law_259 : decode cL_law 259 = .ok (.iload 4, 2) := by decide +kernel
theorem dL_law_261 : decode cL_law 261 = .ok (.iconst 1, 1) := by decide +kernel
theorem dL_law_262 : decode cL_law 262 = .ok (.iadd, 1) := by decide +kernel
theorem dL_law_263 : decode cL_law 263 = .ok (.iaload, 1) := by decide +kernel
theorem dL_law_264 : decode cL_law 264 = .ok (.aload_n 0, 1) := by decide +kernel
theorem dL_law_265 : decode cL_law 265 = .ok (.iload 4, 2) := by decide +kernel
theorem dL_law_267 : decode cL_law 267 = .ok (.iconst 2, 1) := by decide +kernel
theorem dL_law_268 : decode cL_law 268 = .ok (.iadd, 1) := by decide +kernel
theorem dL_law_269 : decode cL_law 269 = .ok (.iaload, 1) := by decide +kernel
theorem dL_law_270 : decode cL_law 270 = .ok (.aload_n 0, 1) := by decide +kernel
theorem dL_law_271 : decode cL_law 271 = .ok (.iload 4, 2) := by decide +kernel
theorem dL_law_273 : decode cL_law 273 = .ok (.iconst 3, 1) := by decide +kernel
theorem dL_law_274 : decode cL_law 274 = .ok (.iadd, 1) := by decide +kernel
theorem dL_law_275 : decode cL_law 275 = .ok (.iaload, 1) := by decide +kernel
theorem dL_law_276 : decode cL_law 276 = .ok (.invokevirtual 96, 3) := by decide +kernel
theorem dL_law_279 : decode cL_law 279 = .ok (.istore 6, 2) := by decide +kernel
theorem dL_law_281 : decode cL_law 281 = .ok (.aload_n 2, 1) := by decide +kernel
theorem dL_law_282 : decode cL_law 282 = .ok (.invokevirtual 90, 3) := by decide +kernel
theorem dL_law_285 : decode cL_law 285 = .ok (.iload 5, 2) := by decide +kernel
theorem dL_law_287 : decode cL_law 287 = .ok (.if_icmp .eq 5, 3) := by decide +kernel
theorem dL_law_290 : decode cL_law 290 = .ok (.iconst 0, 1) := by decide +kernel
theorem dL_law_291 : decode cL_law 291 = .ok (.ireturn, 1) := by decide +kernel
theorem dL_law_292 : decode cL_law 292 = .ok (.iload 5, 2) := by decide +kernel
theorem dL_law_294 : decode cL_law 294 = .ok (.ifCond .ne 15, 3) := by decide +kernel
theorem dL_law_297 : decode cL_law 297 = .ok (.aload_n 3, 1) := by decide +kernel
theorem dL_law_298 : decode cL_law 298 = .ok (.iconst 0, 1) := by decide +kernel
theorem dL_law_299 : decode cL_law 299 = .ok (.laload, 1) := by decide +kernel
theorem dL_law_300 : decode cL_law 300 = .ok (.iload 6, 2) := by decide +kernel
theorem dL_law_302 : decode cL_law 302 = .ok (.i2l, 1) := by decide +kernel
theorem dL_law_303 : decode cL_law 303 = .ok (.lcmp, 1) := by decide +kernel
theorem dL_law_304 : decode cL_law 304 = .ok (.ifCond .eq 5, 3) := by decide +kernel
theorem dL_law_307 : decode cL_law 307 = .ok (.iconst 0, 1) := by decide +kernel
theorem dL_law_308 : decode cL_law 308 = .ok (.ireturn, 1) := by decide +kernel
theorem dL_law_309 : decode cL_law 309 = .ok (.goto 1089, 3) := by decide +kernel
theorem dL_law_312 : decode cL_law 312 = .ok (.aload_n 1, 1) := by decide +kernel
theorem dL_law_313 : decode cL_law 313 = .ok (.aload_n 0, 1) := by decide +kernel
theorem dL_law_314 : decode cL_law 314 = .ok (.iload 4, 2) := by decide +kernel
theorem dL_law_316 : decode cL_law 316 = .ok (.iconst 1, 1) := by decide +kernel
theorem dL_law_317 : decode cL_law 317 = .ok (.iadd, 1) := by decide +kernel
theorem dL_law_318 : decode cL_law 318 = .ok (.iaload, 1) := by decide +kernel
theorem dL_law_319 : decode cL_law 319 = .ok (.aload_n 3, 1) := by decide +kernel
theorem dL_law_320 : decode cL_law 320 = .ok (.invokestatic 97, 3) := by decide +kernel
theorem dL_law_323 : decode cL_law 323 = .ok (.istore 5, 2) := by decide +kernel
theorem dL_law_325 : decode cL_law 325 = .ok (.aload_n 2, 1) := by decide +kernel
theorem dL_law_326 : decode cL_law 326 = .ok (.aload_n 0, 1) := by decide +kernel
theorem dL_law_327 : decode cL_law 327 = .ok (.iload 4, 2) := by decide +kernel
theorem dL_law_329 : decode cL_law 329 = .ok (.iconst 1, 1) := by decide +kernel
theorem dL_law_330 : decode cL_law 330 = .ok (.iadd, 1) := by decide +kernel
theorem dL_law_331 : decode cL_law 331 = .ok (.iaload, 1) := by decide +kernel
theorem dL_law_332 : decode cL_law 332 = .ok (.invokevirtual 100, 3) := by decide +kernel
theorem dL_law_335 : decode cL_law 335 = .ok (.istore 6, 2) := by decide +kernel
theorem dL_law_337 : decode cL_law 337 = .ok (.aload_n 2, 1) := by decide +kernel
theorem dL_law_338 : decode cL_law 338 = .ok (.invokevirtual 90, 3) := by decide +kernel
theorem dL_law_341 : decode cL_law 341 = .ok (.iload 5, 2) := by decide +kernel
theorem dL_law_343 : decode cL_law 343 = .ok (.if_icmp .eq 5, 3) := by decide +kernel
theorem dL_law_346 : decode cL_law 346 = .ok (.iconst 0, 1) := by decide +kernel
theorem dL_law_347 : decode cL_law 347 = .ok (.ireturn, 1) := by decide +kernel
theorem dL_law_348 : decode cL_law 348 = .ok (.iload 5, 2) := by decide +kernel
theorem dL_law_350 : decode cL_law 350 = .ok (.ifCond .ne 15, 3) := by decide +kernel
theorem dL_law_353 : decode cL_law 353 = .ok (.aload_n 3, 1) := by decide +kernel
theorem dL_law_354 : decode cL_law 354 = .ok (.iconst 0, 1) := by decide +kernel
theorem dL_law_355 : decode cL_law 355 = .ok (.laload, 1) := by decide +kernel
theorem dL_law_356 : decode cL_law 356 = .ok (.iload 6, 2) := by decide +kernel
theorem dL_law_358 : decode cL_law 358 = .ok (.i2l, 1) := by decide +kernel
theorem dL_law_359 : decode cL_law 359 = .ok (.lcmp, 1) := by decide +kernel
theorem dL_law_360 : decode cL_law 360 = .ok (.ifCond .eq 5, 3) := by decide +kernel
theorem dL_law_363 : decode cL_law 363 = .ok (.iconst 0, 1) := by decide +kernel
theorem dL_law_364 : decode cL_law 364 = .ok (.ireturn, 1) := by decide +kernel
theorem dL_law_365 : decode cL_law 365 = .ok (.goto 1033, 3) := by decide +kernel
theorem dL_law_368 : decode cL_law 368 = .ok (.aload_n 1, 1) := by decide +kernel
theorem dL_law_369 : decode cL_law 369 = .ok (.aload_n 0, 1) := by decide +kernel
theorem dL_law_370 : decode cL_law 370 = .ok (.iload 4, 2) := by decide +kernel
theorem dL_law_372 : decode cL_law 372 = .ok (.iconst 1, 1) := by decide +kernel
theorem dL_law_373 : decode cL_law 373 = .ok (.iadd, 1) := by decide +kernel
theorem dL_law_374 : decode cL_law 374 = .ok (.iaload, 1) := by decide +kernel
theorem dL_law_375 : decode cL_law 375 = .ok (.aload_n 0, 1) := by decide +kernel
theorem dL_law_376 : decode cL_law 376 = .ok (.iload 4, 2) := by decide +kernel
theorem dL_law_378 : decode cL_law 378 = .ok (.iconst 2, 1) := by decide +kernel
theorem dL_law_379 : decode cL_law 379 = .ok (.iadd, 1) := by decide +kernel
theorem dL_law_380 : decode cL_law 380 = .ok (.iaload, 1) := by decide +kernel
theorem dL_law_381 : decode cL_law 381 = .ok (.aload_n 0, 1) := by decide +kernel
theorem dL_law_382 : decode cL_law 382 = .ok (.iload 4, 2) := by decide +kernel
theorem dL_law_384 : decode cL_law 384 = .ok (.iconst 3, 1) := by decide +kernel
theorem dL_law_385 : decode cL_law 385 = .ok (.iadd, 1) := by decide +kernel
theorem dL_law_386 : decode cL_law 386 = .ok (.iaload, 1) := by decide +kernel
theorem dL_law_387 : decode cL_law 387 = .ok (.invokestatic 101, 3) := by decide +kernel
theorem dL_law_390 : decode cL_law 390 = .ok (.istore 5, 2) := by decide +kernel
theorem dL_law_392 : decode cL_law 392 = .ok (.aload_n 2, 1) := by decide +kernel
theorem dL_law_393 : decode cL_law 393 = .ok (.aload_n 0, 1) := by decide +kernel
theorem dL_law_394 : decode cL_law 394 = .ok (.iload 4, 2) := by decide +kernel
theorem dL_law_396 : decode cL_law 396 = .ok (.iconst 1, 1) := by decide +kernel
theorem dL_law_397 : decode cL_law 397 = .ok (.iadd, 1) := by decide +kernel
theorem dL_law_398 : decode cL_law 398 = .ok (.iaload, 1) := by decide +kernel
theorem dL_law_399 : decode cL_law 399 = .ok (.aload_n 0, 1) := by decide +kernel
theorem dL_law_400 : decode cL_law 400 = .ok (.iload 4, 2) := by decide +kernel
theorem dL_law_402 : decode cL_law 402 = .ok (.iconst 2, 1) := by decide +kernel
theorem dL_law_403 : decode cL_law 403 = .ok (.iadd, 1) := by decide +kernel
theorem dL_law_404 : decode cL_law 404 = .ok (.iaload, 1) := by decide +kernel
theorem dL_law_405 : decode cL_law 405 = .ok (.aload_n 0, 1) := by decide +kernel
theorem dL_law_406 : decode cL_law 406 = .ok (.iload 4, 2) := by decide +kernel
theorem dL_law_408 : decode cL_law 408 = .ok (.iconst 3, 1) := by decide +kernel
theorem dL_law_409 : decode cL_law 409 = .ok (.iadd, 1) := by decide +kernel
theorem dL_law_410 : decode cL_law 410 = .ok (.iaload, 1) := by decide +kernel
theorem dL_law_411 : decode cL_law 411 = .ok (.invokevirtual 104, 3) := by decide +kernel
theorem dL_law_414 : decode cL_law 414 = .ok (.aload_n 2, 1) := by decide +kernel
theorem dL_law_415 : decode cL_law 415 = .ok (.invokevirtual 90, 3) := by decide +kernel
theorem dL_law_418 : decode cL_law 418 = .ok (.iload 5, 2) := by decide +kernel
theorem dL_law_420 : decode cL_law 420 = .ok (.if_icmp .eq 5, 3) := by decide +kernel
theorem dL_law_423 : decode cL_law 423 = .ok (.iconst 0, 1) := by decide +kernel
theorem dL_law_424 : decode cL_law 424 = .ok (.ireturn, 1) := by decide +kernel
theorem dL_law_425 : decode cL_law 425 = .ok (.goto 973, 3) := by decide +kernel
theorem dL_law_428 : decode cL_law 428 = .ok (.aload_n 1, 1) := by decide +kernel
theorem dL_law_429 : decode cL_law 429 = .ok (.aload_n 0, 1) := by decide +kernel
theorem dL_law_430 : decode cL_law 430 = .ok (.iload 4, 2) := by decide +kernel
theorem dL_law_432 : decode cL_law 432 = .ok (.iconst 1, 1) := by decide +kernel
theorem dL_law_433 : decode cL_law 433 = .ok (.iadd, 1) := by decide +kernel
theorem dL_law_434 : decode cL_law 434 = .ok (.iaload, 1) := by decide +kernel
theorem dL_law_435 : decode cL_law 435 = .ok (.aload_n 3, 1) := by decide +kernel
theorem dL_law_436 : decode cL_law 436 = .ok (.invokestatic 105, 3) := by decide +kernel
theorem dL_law_439 : decode cL_law 439 = .ok (.istore 5, 2) := by decide +kernel
theorem dL_law_441 : decode cL_law 441 = .ok (.aload_n 2, 1) := by decide +kernel
theorem dL_law_442 : decode cL_law 442 = .ok (.aload_n 0, 1) := by decide +kernel
theorem dL_law_443 : decode cL_law 443 = .ok (.iload 4, 2) := by decide +kernel
theorem dL_law_445 : decode cL_law 445 = .ok (.iconst 1, 1) := by decide +kernel
theorem dL_law_446 : decode cL_law 446 = .ok (.iadd, 1) := by decide +kernel
theorem dL_law_447 : decode cL_law 447 = .ok (.iaload, 1) := by decide +kernel
theorem dL_law_448 : decode cL_law 448 = .ok (.invokevirtual 107, 3) := by decide +kernel
theorem dL_law_451 : decode cL_law 451 = .ok (.istore 6, 2) := by decide +kernel
theorem dL_law_453 : decode cL_law 453 = .ok (.aload_n 2, 1) := by decide +kernel
theorem dL_law_454 : decode cL_law 454 = .ok (.invokevirtual 90, 3) := by decide +kernel
theorem dL_law_457 : decode cL_law 457 = .ok (.iload 5, 2) := by decide +kernel
theorem dL_law_459 : decode cL_law 459 = .ok (.if_icmp .eq 5, 3) := by decide +kernel
theorem dL_law_462 : decode cL_law 462 = .ok (.iconst 0, 1) := by decide +kernel
theorem dL_law_463 : decode cL_law 463 = .ok (.ireturn, 1) := by decide +kernel
theorem dL_law_464 : decode cL_law 464 = .ok (.iload 5, 2) := by decide +kernel
theorem dL_law_466 : decode cL_law 466 = .ok (.ifCond .ne 15, 3) := by decide +kernel
theorem dL_law_469 : decode cL_law 469 = .ok (.aload_n 3, 1) := by decide +kernel
theorem dL_law_470 : decode cL_law 470 = .ok (.iconst 0, 1) := by decide +kernel
theorem dL_law_471 : decode cL_law 471 = .ok (.laload, 1) := by decide +kernel
theorem dL_law_472 : decode cL_law 472 = .ok (.iload 6, 2) := by decide +kernel
theorem dL_law_474 : decode cL_law 474 = .ok (.i2l, 1) := by decide +kernel
theorem dL_law_475 : decode cL_law 475 = .ok (.lcmp, 1) := by decide +kernel
theorem dL_law_476 : decode cL_law 476 = .ok (.ifCond .eq 5, 3) := by decide +kernel
theorem dL_law_479 : decode cL_law 479 = .ok (.iconst 0, 1) := by decide +kernel
theorem dL_law_480 : decode cL_law 480 = .ok (.ireturn, 1) := by decide +kernel
theorem dL_law_481 : decode cL_law 481 = .ok (.goto 917, 3) := by decide +kernel
theorem dL_law_484 : decode cL_law 484 = .ok (.aload_n 1, 1) := by decide +kernel
theorem dL_law_485 : decode cL_law 485 = .ok (.aload_n 3, 1) := by decide +kernel
theorem dL_law_486 : decode cL_law 486 = .ok (.invokestatic 108, 3) := by decide +kernel
theorem dL_law_489 : decode cL_law 489 = .ok (.istore 5, 2) := by decide +kernel
theorem dL_law_491 : decode cL_law 491 = .ok (.aload_n 2, 1) := by decide +kernel
theorem dL_law_492 : decode cL_law 492 = .ok (.invokevirtual 111, 3) := by decide +kernel
theorem dL_law_495 : decode cL_law 495 = .ok (.istore 6, 2) := by decide +kernel
theorem dL_law_497 : decode cL_law 497 = .ok (.aload_n 2, 1) := by decide +kernel
theorem dL_law_498 : decode cL_law 498 = .ok (.invokevirtual 90, 3) := by decide +kernel
theorem dL_law_501 : decode cL_law 501 = .ok (.iload 5, 2) := by decide +kernel
theorem dL_law_503 : decode cL_law 503 = .ok (.if_icmp .eq 5, 3) := by decide +kernel
theorem dL_law_506 : decode cL_law 506 = .ok (.iconst 0, 1) := by decide +kernel
theorem dL_law_507 : decode cL_law 507 = .ok (.ireturn, 1) := by decide +kernel
theorem dL_law_508 : decode cL_law 508 = .ok (.iload 5, 2) := by decide +kernel
theorem dL_law_510 : decode cL_law 510 = .ok (.ifCond .ne 15, 3) := by decide +kernel
theorem dL_law_513 : decode cL_law 513 = .ok (.aload_n 3, 1) := by decide +kernel
theorem dL_law_514 : decode cL_law 514 = .ok (.iconst 0, 1) := by decide +kernel
theorem dL_law_515 : decode cL_law 515 = .ok (.laload, 1) := by decide +kernel
theorem dL_law_516 : decode cL_law 516 = .ok (.iload 6, 2) := by decide +kernel
theorem dL_law_518 : decode cL_law 518 = .ok (.i2l, 1) := by decide +kernel
theorem dL_law_519 : decode cL_law 519 = .ok (.lcmp, 1) := by decide +kernel
theorem dL_law_520 : decode cL_law 520 = .ok (.ifCond .eq 5, 3) := by decide +kernel
theorem dL_law_523 : decode cL_law 523 = .ok (.iconst 0, 1) := by decide +kernel
theorem dL_law_524 : decode cL_law 524 = .ok (.ireturn, 1) := by decide +kernel
theorem dL_law_525 : decode cL_law 525 = .ok (.goto 873, 3) := by decide +kernel
theorem dL_law_528 : decode cL_law 528 = .ok (.aload_n 1, 1) := by decide +kernel
theorem dL_law_529 : decode cL_law 529 = .ok (.aload_n 0, 1) := by decide +kernel
theorem dL_law_530 : decode cL_law 530 = .ok (.iload 4, 2) := by decide +kernel
theorem dL_law_532 : decode cL_law 532 = .ok (.iconst 1, 1) := by decide +kernel
theorem dL_law_533 : decode cL_law 533 = .ok (.iadd, 1) := by decide +kernel
theorem dL_law_534 : decode cL_law 534 = .ok (.iaload, 1) := by decide +kernel
theorem dL_law_535 : decode cL_law 535 = .ok (.aload_n 0, 1) := by decide +kernel
theorem dL_law_536 : decode cL_law 536 = .ok (.iload 4, 2) := by decide +kernel
theorem dL_law_538 : decode cL_law 538 = .ok (.iconst 2, 1) := by decide +kernel
theorem dL_law_539 : decode cL_law 539 = .ok (.iadd, 1) := by decide +kernel
theorem dL_law_540 : decode cL_law 540 = .ok (.iaload, 1) := by decide +kernel
theorem dL_law_541 : decode cL_law 541 = .ok (.aload_n 0, 1) := by decide +kernel
theorem dL_law_542 : decode cL_law 542 = .ok (.iload 4, 2) := by decide +kernel
theorem dL_law_544 : decode cL_law 544 = .ok (.iconst 3, 1) := by decide +kernel
theorem dL_law_545 : decode cL_law 545 = .ok (.iadd, 1) := by decide +kernel
theorem dL_law_546 : decode cL_law 546 = .ok (.iaload, 1) := by decide +kernel
theorem dL_law_547 : decode cL_law 547 = .ok (.aload_n 0, 1) := by decide +kernel
theorem dL_law_548 : decode cL_law 548 = .ok (.iload 4, 2) := by decide +kernel
theorem dL_law_550 : decode cL_law 550 = .ok (.iconst 4, 1) := by decide +kernel
theorem dL_law_551 : decode cL_law 551 = .ok (.iadd, 1) := by decide +kernel
theorem dL_law_552 : decode cL_law 552 = .ok (.iaload, 1) := by decide +kernel
theorem dL_law_553 : decode cL_law 553 = .ok (.aload_n 3, 1) := by decide +kernel
theorem dL_law_554 : decode cL_law 554 = .ok (.invokestatic 112, 3) := by decide +kernel
theorem dL_law_557 : decode cL_law 557 = .ok (.istore 5, 2) := by decide +kernel
theorem dL_law_559 : decode cL_law 559 = .ok (.aload_n 2, 1) := by decide +kernel
theorem dL_law_560 : decode cL_law 560 = .ok (.aload_n 0, 1) := by decide +kernel
theorem dL_law_561 : decode cL_law 561 = .ok (.iload 4, 2) := by decide +kernel
theorem dL_law_563 : decode cL_law 563 = .ok (.iconst 1, 1) := by decide +kernel
theorem dL_law_564 : decode cL_law 564 = .ok (.iadd, 1) := by decide +kernel
theorem dL_law_565 : decode cL_law 565 = .ok (.iaload, 1) := by decide +kernel
theorem dL_law_566 : decode cL_law 566 = .ok (.aload_n 0, 1) := by decide +kernel
theorem dL_law_567 : decode cL_law 567 = .ok (.iload 4, 2) := by decide +kernel
theorem dL_law_569 : decode cL_law 569 = .ok (.iconst 2, 1) := by decide +kernel
theorem dL_law_570 : decode cL_law 570 = .ok (.iadd, 1) := by decide +kernel
theorem dL_law_571 : decode cL_law 571 = .ok (.iaload, 1) := by decide +kernel
theorem dL_law_572 : decode cL_law 572 = .ok (.aload_n 0, 1) := by decide +kernel
theorem dL_law_573 : decode cL_law 573 = .ok (.iload 4, 2) := by decide +kernel
theorem dL_law_575 : decode cL_law 575 = .ok (.iconst 3, 1) := by decide +kernel
theorem dL_law_576 : decode cL_law 576 = .ok (.iadd, 1) := by decide +kernel
theorem dL_law_577 : decode cL_law 577 = .ok (.iaload, 1) := by decide +kernel
theorem dL_law_578 : decode cL_law 578 = .ok (.aload_n 0, 1) := by decide +kernel
theorem dL_law_579 : decode cL_law 579 = .ok (.iload 4, 2) := by decide +kernel
theorem dL_law_581 : decode cL_law 581 = .ok (.iconst 4, 1) := by decide +kernel
theorem dL_law_582 : decode cL_law 582 = .ok (.iadd, 1) := by decide +kernel
theorem dL_law_583 : decode cL_law 583 = .ok (.iaload, 1) := by decide +kernel
theorem dL_law_584 : decode cL_law 584 = .ok (.invokevirtual 114, 3) := by decide +kernel
theorem dL_law_587 : decode cL_law 587 = .ok (.istore 6, 2) := by decide +kernel
theorem dL_law_589 : decode cL_law 589 = .ok (.aload_n 2, 1) := by decide +kernel
theorem dL_law_590 : decode cL_law 590 = .ok (.invokevirtual 90, 3) := by decide +kernel
theorem dL_law_593 : decode cL_law 593 = .ok (.iload 5, 2) := by decide +kernel
theorem dL_law_595 : decode cL_law 595 = .ok (.if_icmp .eq 5, 3) := by decide +kernel
theorem dL_law_598 : decode cL_law 598 = .ok (.iconst 0, 1) := by decide +kernel
theorem dL_law_599 : decode cL_law 599 = .ok (.ireturn, 1) := by decide +kernel
theorem dL_law_600 : decode cL_law 600 = .ok (.iload 5, 2) := by decide +kernel
theorem dL_law_602 : decode cL_law 602 = .ok (.ifCond .ne 15, 3) := by decide +kernel
theorem dL_law_605 : decode cL_law 605 = .ok (.aload_n 3, 1) := by decide +kernel
theorem dL_law_606 : decode cL_law 606 = .ok (.iconst 0, 1) := by decide +kernel
theorem dL_law_607 : decode cL_law 607 = .ok (.laload, 1) := by decide +kernel
theorem dL_law_608 : decode cL_law 608 = .ok (.iload 6, 2) := by decide +kernel
theorem dL_law_610 : decode cL_law 610 = .ok (.i2l, 1) := by decide +kernel
theorem dL_law_611 : decode cL_law 611 = .ok (.lcmp, 1) := by decide +kernel
theorem dL_law_612 : decode cL_law 612 = .ok (.ifCond .eq 5, 3) := by decide +kernel
theorem dL_law_615 : decode cL_law 615 = .ok (.iconst 0, 1) := by decide +kernel
theorem dL_law_616 : decode cL_law 616 = .ok (.ireturn, 1) := by decide +kernel
theorem dL_law_617 : decode cL_law 617 = .ok (.goto 781, 3) := by decide +kernel
theorem dL_law_620 : decode cL_law 620 = .ok (.aload_n 1, 1) := by decide +kernel
theorem dL_law_621 : decode cL_law 621 = .ok (.invokevirtual 115, 3) := by decide +kernel
theorem dL_law_624 : decode cL_law 624 = .ok (.aload_n 2, 1) := by decide +kernel
theorem dL_law_625 : decode cL_law 625 = .ok (.invokevirtual 118, 3) := by decide +kernel
theorem dL_law_628 : decode cL_law 628 = .ok (.if_icmp .eq 770, 3) := by decide +kernel
theorem dL_law_631 : decode cL_law 631 = .ok (.iconst 0, 1) := by decide +kernel
theorem dL_law_632 : decode cL_law 632 = .ok (.ireturn, 1) := by decide +kernel
theorem dL_law_633 : decode cL_law 633 = .ok (.aload_n 1, 1) := by decide +kernel
theorem dL_law_634 : decode cL_law 634 = .ok (.aload_n 0, 1) := by decide +kernel
theorem dL_law_635 : decode cL_law 635 = .ok (.iload 4, 2) := by decide +kernel
theorem dL_law_637 : decode cL_law 637 = .ok (.iconst 1, 1) := by decide +kernel
theorem dL_law_638 : decode cL_law 638 = .ok (.iadd, 1) := by decide +kernel
theorem dL_law_639 : decode cL_law 639 = .ok (.iaload, 1) := by decide +kernel
theorem dL_law_640 : decode cL_law 640 = .ok (.aload_n 0, 1) := by decide +kernel
theorem dL_law_641 : decode cL_law 641 = .ok (.iload 4, 2) := by decide +kernel
theorem dL_law_643 : decode cL_law 643 = .ok (.iconst 2, 1) := by decide +kernel
theorem dL_law_644 : decode cL_law 644 = .ok (.iadd, 1) := by decide +kernel
theorem dL_law_645 : decode cL_law 645 = .ok (.iaload, 1) := by decide +kernel
theorem dL_law_646 : decode cL_law 646 = .ok (.aload_n 3, 1) := by decide +kernel
theorem dL_law_647 : decode cL_law 647 = .ok (.invokestatic 119, 3) := by decide +kernel
theorem dL_law_650 : decode cL_law 650 = .ok (.istore 5, 2) := by decide +kernel
theorem dL_law_652 : decode cL_law 652 = .ok (.aload_n 2, 1) := by decide +kernel
theorem dL_law_653 : decode cL_law 653 = .ok (.aload_n 0, 1) := by decide +kernel
theorem dL_law_654 : decode cL_law 654 = .ok (.iload 4, 2) := by decide +kernel
theorem dL_law_656 : decode cL_law 656 = .ok (.iconst 1, 1) := by decide +kernel
theorem dL_law_657 : decode cL_law 657 = .ok (.iadd, 1) := by decide +kernel
theorem dL_law_658 : decode cL_law 658 = .ok (.iaload, 1) := by decide +kernel
theorem dL_law_659 : decode cL_law 659 = .ok (.aload_n 0, 1) := by decide +kernel
theorem dL_law_660 : decode cL_law 660 = .ok (.iload 4, 2) := by decide +kernel
theorem dL_law_662 : decode cL_law 662 = .ok (.iconst 2, 1) := by decide +kernel
theorem dL_law_663 : decode cL_law 663 = .ok (.iadd, 1) := by decide +kernel
theorem dL_law_664 : decode cL_law 664 = .ok (.iaload, 1) := by decide +kernel
theorem dL_law_665 : decode cL_law 665 = .ok (.invokevirtual 122, 3) := by decide +kernel
theorem dL_law_668 : decode cL_law 668 = .ok (.istore 6, 2) := by decide +kernel
theorem dL_law_670 : decode cL_law 670 = .ok (.aload_n 2, 1) := by decide +kernel
theorem dL_law_671 : decode cL_law 671 = .ok (.invokevirtual 90, 3) := by decide +kernel
theorem dL_law_674 : decode cL_law 674 = .ok (.iload 5, 2) := by decide +kernel
theorem dL_law_676 : decode cL_law 676 = .ok (.if_icmp .eq 5, 3) := by decide +kernel
theorem dL_law_679 : decode cL_law 679 = .ok (.iconst 0, 1) := by decide +kernel
theorem dL_law_680 : decode cL_law 680 = .ok (.ireturn, 1) := by decide +kernel
theorem dL_law_681 : decode cL_law 681 = .ok (.iload 5, 2) := by decide +kernel
theorem dL_law_683 : decode cL_law 683 = .ok (.ifCond .ne 15, 3) := by decide +kernel
theorem dL_law_686 : decode cL_law 686 = .ok (.aload_n 3, 1) := by decide +kernel
theorem dL_law_687 : decode cL_law 687 = .ok (.iconst 0, 1) := by decide +kernel
theorem dL_law_688 : decode cL_law 688 = .ok (.laload, 1) := by decide +kernel
theorem dL_law_689 : decode cL_law 689 = .ok (.iload 6, 2) := by decide +kernel
theorem dL_law_691 : decode cL_law 691 = .ok (.i2l, 1) := by decide +kernel
theorem dL_law_692 : decode cL_law 692 = .ok (.lcmp, 1) := by decide +kernel
theorem dL_law_693 : decode cL_law 693 = .ok (.ifCond .eq 5, 3) := by decide +kernel
theorem dL_law_696 : decode cL_law 696 = .ok (.iconst 0, 1) := by decide +kernel
theorem dL_law_697 : decode cL_law 697 = .ok (.ireturn, 1) := by decide +kernel
theorem dL_law_698 : decode cL_law 698 = .ok (.goto 700, 3) := by decide +kernel
theorem dL_law_701 : decode cL_law 701 = .ok (.aload_n 1, 1) := by decide +kernel
theorem dL_law_702 : decode cL_law 702 = .ok (.aload_n 0, 1) := by decide +kernel
theorem dL_law_703 : decode cL_law 703 = .ok (.iload 4, 2) := by decide +kernel
theorem dL_law_705 : decode cL_law 705 = .ok (.iconst 1, 1) := by decide +kernel
theorem dL_law_706 : decode cL_law 706 = .ok (.iadd, 1) := by decide +kernel
theorem dL_law_707 : decode cL_law 707 = .ok (.iaload, 1) := by decide +kernel
theorem dL_law_708 : decode cL_law 708 = .ok (.aload_n 3, 1) := by decide +kernel
theorem dL_law_709 : decode cL_law 709 = .ok (.invokestatic 123, 3) := by decide +kernel
theorem dL_law_712 : decode cL_law 712 = .ok (.istore 5, 2) := by decide +kernel
theorem dL_law_714 : decode cL_law 714 = .ok (.aload_n 2, 1) := by decide +kernel
theorem dL_law_715 : decode cL_law 715 = .ok (.aload_n 0, 1) := by decide +kernel
theorem dL_law_716 : decode cL_law 716 = .ok (.iload 4, 2) := by decide +kernel
theorem dL_law_718 : decode cL_law 718 = .ok (.iconst 1, 1) := by decide +kernel
theorem dL_law_719 : decode cL_law 719 = .ok (.iadd, 1) := by decide +kernel
theorem dL_law_720 : decode cL_law 720 = .ok (.iaload, 1) := by decide +kernel
theorem dL_law_721 : decode cL_law 721 = .ok (.invokevirtual 125, 3) := by decide +kernel
theorem dL_law_724 : decode cL_law 724 = .ok (.istore 6, 2) := by decide +kernel
theorem dL_law_726 : decode cL_law 726 = .ok (.aload_n 2, 1) := by decide +kernel
theorem dL_law_727 : decode cL_law 727 = .ok (.invokevirtual 90, 3) := by decide +kernel
theorem dL_law_730 : decode cL_law 730 = .ok (.iload 5, 2) := by decide +kernel
theorem dL_law_732 : decode cL_law 732 = .ok (.if_icmp .eq 5, 3) := by decide +kernel
theorem dL_law_735 : decode cL_law 735 = .ok (.iconst 0, 1) := by decide +kernel
theorem dL_law_736 : decode cL_law 736 = .ok (.ireturn, 1) := by decide +kernel
theorem dL_law_737 : decode cL_law 737 = .ok (.iload 5, 2) := by decide +kernel
theorem dL_law_739 : decode cL_law 739 = .ok (.ifCond .ne 15, 3) := by decide +kernel
theorem dL_law_742 : decode cL_law 742 = .ok (.aload_n 3, 1) := by decide +kernel
theorem dL_law_743 : decode cL_law 743 = .ok (.iconst 0, 1) := by decide +kernel
theorem dL_law_744 : decode cL_law 744 = .ok (.laload, 1) := by decide +kernel
theorem dL_law_745 : decode cL_law 745 = .ok (.iload 6, 2) := by decide +kernel
theorem dL_law_747 : decode cL_law 747 = .ok (.i2l, 1) := by decide +kernel
theorem dL_law_748 : decode cL_law 748 = .ok (.lcmp, 1) := by decide +kernel
theorem dL_law_749 : decode cL_law 749 = .ok (.ifCond .eq 5, 3) := by decide +kernel
theorem dL_law_752 : decode cL_law 752 = .ok (.iconst 0, 1) := by decide +kernel
theorem dL_law_753 : decode cL_law 753 = .ok (.ireturn, 1) := by decide +kernel
theorem dL_law_754 : decode cL_law 754 = .ok (.goto 644, 3) := by decide +kernel
theorem dL_law_757 : decode cL_law 757 = .ok (.aload_n 1, 1) := by decide +kernel
theorem dL_law_758 : decode cL_law 758 = .ok (.aload_n 0, 1) := by decide +kernel
theorem dL_law_759 : decode cL_law 759 = .ok (.iload 4, 2) := by decide +kernel
theorem dL_law_761 : decode cL_law 761 = .ok (.iconst 1, 1) := by decide +kernel
theorem dL_law_762 : decode cL_law 762 = .ok (.iadd, 1) := by decide +kernel
theorem dL_law_763 : decode cL_law 763 = .ok (.iaload, 1) := by decide +kernel
theorem dL_law_764 : decode cL_law 764 = .ok (.aload_n 3, 1) := by decide +kernel
theorem dL_law_765 : decode cL_law 765 = .ok (.invokestatic 126, 3) := by decide +kernel
theorem dL_law_768 : decode cL_law 768 = .ok (.istore 5, 2) := by decide +kernel
theorem dL_law_770 : decode cL_law 770 = .ok (.aload_n 2, 1) := by decide +kernel
theorem dL_law_771 : decode cL_law 771 = .ok (.aload_n 0, 1) := by decide +kernel
theorem dL_law_772 : decode cL_law 772 = .ok (.iload 4, 2) := by decide +kernel
theorem dL_law_774 : decode cL_law 774 = .ok (.iconst 1, 1) := by decide +kernel
theorem dL_law_775 : decode cL_law 775 = .ok (.iadd, 1) := by decide +kernel
theorem dL_law_776 : decode cL_law 776 = .ok (.iaload, 1) := by decide +kernel
theorem dL_law_777 : decode cL_law 777 = .ok (.invokevirtual 128, 3) := by decide +kernel
theorem dL_law_780 : decode cL_law 780 = .ok (.istore 6, 2) := by decide +kernel
theorem dL_law_782 : decode cL_law 782 = .ok (.aload_n 2, 1) := by decide +kernel
theorem dL_law_783 : decode cL_law 783 = .ok (.invokevirtual 90, 3) := by decide +kernel
theorem dL_law_786 : decode cL_law 786 = .ok (.iload 5, 2) := by decide +kernel
theorem dL_law_788 : decode cL_law 788 = .ok (.if_icmp .eq 5, 3) := by decide +kernel
theorem dL_law_791 : decode cL_law 791 = .ok (.iconst 0, 1) := by decide +kernel
theorem dL_law_792 : decode cL_law 792 = .ok (.ireturn, 1) := by decide +kernel
theorem dL_law_793 : decode cL_law 793 = .ok (.iload 5, 2) := by decide +kernel
theorem dL_law_795 : decode cL_law 795 = .ok (.ifCond .ne 15, 3) := by decide +kernel
theorem dL_law_798 : decode cL_law 798 = .ok (.aload_n 3, 1) := by decide +kernel
theorem dL_law_799 : decode cL_law 799 = .ok (.iconst 0, 1) := by decide +kernel
theorem dL_law_800 : decode cL_law 800 = .ok (.laload, 1) := by decide +kernel
theorem dL_law_801 : decode cL_law 801 = .ok (.iload 6, 2) := by decide +kernel
theorem dL_law_803 : decode cL_law 803 = .ok (.i2l, 1) := by decide +kernel
theorem dL_law_804 : decode cL_law 804 = .ok (.lcmp, 1) := by decide +kernel
theorem dL_law_805 : decode cL_law 805 = .ok (.ifCond .eq 5, 3) := by decide +kernel
theorem dL_law_808 : decode cL_law 808 = .ok (.iconst 0, 1) := by decide +kernel
theorem dL_law_809 : decode cL_law 809 = .ok (.ireturn, 1) := by decide +kernel
theorem dL_law_810 : decode cL_law 810 = .ok (.goto 588, 3) := by decide +kernel
theorem dL_law_813 : decode cL_law 813 = .ok (.aload_n 1, 1) := by decide +kernel
theorem dL_law_814 : decode cL_law 814 = .ok (.aload_n 0, 1) := by decide +kernel
theorem dL_law_815 : decode cL_law 815 = .ok (.iload 4, 2) := by decide +kernel
theorem dL_law_817 : decode cL_law 817 = .ok (.iconst 1, 1) := by decide +kernel
theorem dL_law_818 : decode cL_law 818 = .ok (.iadd, 1) := by decide +kernel
theorem dL_law_819 : decode cL_law 819 = .ok (.iaload, 1) := by decide +kernel
theorem dL_law_820 : decode cL_law 820 = .ok (.aload_n 3, 1) := by decide +kernel
theorem dL_law_821 : decode cL_law 821 = .ok (.invokestatic 129, 3) := by decide +kernel
theorem dL_law_824 : decode cL_law 824 = .ok (.istore 5, 2) := by decide +kernel
theorem dL_law_826 : decode cL_law 826 = .ok (.aload_n 2, 1) := by decide +kernel
theorem dL_law_827 : decode cL_law 827 = .ok (.aload_n 0, 1) := by decide +kernel
theorem dL_law_828 : decode cL_law 828 = .ok (.iload 4, 2) := by decide +kernel
theorem dL_law_830 : decode cL_law 830 = .ok (.iconst 1, 1) := by decide +kernel
theorem dL_law_831 : decode cL_law 831 = .ok (.iadd, 1) := by decide +kernel
theorem dL_law_832 : decode cL_law 832 = .ok (.iaload, 1) := by decide +kernel
theorem dL_law_833 : decode cL_law 833 = .ok (.invokevirtual 131, 3) := by decide +kernel
theorem dL_law_836 : decode cL_law 836 = .ok (.istore 6, 2) := by decide +kernel
theorem dL_law_838 : decode cL_law 838 = .ok (.aload_n 2, 1) := by decide +kernel
theorem dL_law_839 : decode cL_law 839 = .ok (.invokevirtual 90, 3) := by decide +kernel
theorem dL_law_842 : decode cL_law 842 = .ok (.iload 5, 2) := by decide +kernel
theorem dL_law_844 : decode cL_law 844 = .ok (.if_icmp .eq 5, 3) := by decide +kernel
theorem dL_law_847 : decode cL_law 847 = .ok (.iconst 0, 1) := by decide +kernel
theorem dL_law_848 : decode cL_law 848 = .ok (.ireturn, 1) := by decide +kernel
theorem dL_law_849 : decode cL_law 849 = .ok (.iload 5, 2) := by decide +kernel
theorem dL_law_851 : decode cL_law 851 = .ok (.ifCond .ne 15, 3) := by decide +kernel
theorem dL_law_854 : decode cL_law 854 = .ok (.aload_n 3, 1) := by decide +kernel
theorem dL_law_855 : decode cL_law 855 = .ok (.iconst 0, 1) := by decide +kernel
theorem dL_law_856 : decode cL_law 856 = .ok (.laload, 1) := by decide +kernel
theorem dL_law_857 : decode cL_law 857 = .ok (.iload 6, 2) := by decide +kernel
theorem dL_law_859 : decode cL_law 859 = .ok (.i2l, 1) := by decide +kernel
theorem dL_law_860 : decode cL_law 860 = .ok (.lcmp, 1) := by decide +kernel
theorem dL_law_861 : decode cL_law 861 = .ok (.ifCond .eq 5, 3) := by decide +kernel
theorem dL_law_864 : decode cL_law 864 = .ok (.iconst 0, 1) := by decide +kernel
theorem dL_law_865 : decode cL_law 865 = .ok (.ireturn, 1) := by decide +kernel
theorem dL_law_866 : decode cL_law 866 = .ok (.goto 532, 3) := by decide +kernel
theorem dL_law_869 : decode cL_law 869 = .ok (.aload_n 1, 1) := by decide +kernel
theorem dL_law_870 : decode cL_law 870 = .ok (.aload_n 0, 1) := by decide +kernel
theorem dL_law_871 : decode cL_law 871 = .ok (.iload 4, 2) := by decide +kernel
theorem dL_law_873 : decode cL_law 873 = .ok (.iconst 1, 1) := by decide +kernel
theorem dL_law_874 : decode cL_law 874 = .ok (.iadd, 1) := by decide +kernel
theorem dL_law_875 : decode cL_law 875 = .ok (.iaload, 1) := by decide +kernel
theorem dL_law_876 : decode cL_law 876 = .ok (.aload_n 3, 1) := by decide +kernel
theorem dL_law_877 : decode cL_law 877 = .ok (.invokestatic 132, 3) := by decide +kernel
theorem dL_law_880 : decode cL_law 880 = .ok (.istore 5, 2) := by decide +kernel
theorem dL_law_882 : decode cL_law 882 = .ok (.aload_n 2, 1) := by decide +kernel
theorem dL_law_883 : decode cL_law 883 = .ok (.aload_n 0, 1) := by decide +kernel
theorem dL_law_884 : decode cL_law 884 = .ok (.iload 4, 2) := by decide +kernel
theorem dL_law_886 : decode cL_law 886 = .ok (.iconst 1, 1) := by decide +kernel
theorem dL_law_887 : decode cL_law 887 = .ok (.iadd, 1) := by decide +kernel
theorem dL_law_888 : decode cL_law 888 = .ok (.iaload, 1) := by decide +kernel
theorem dL_law_889 : decode cL_law 889 = .ok (.invokevirtual 134, 3) := by decide +kernel
theorem dL_law_892 : decode cL_law 892 = .ok (.istore 6, 2) := by decide +kernel
theorem dL_law_894 : decode cL_law 894 = .ok (.aload_n 2, 1) := by decide +kernel
theorem dL_law_895 : decode cL_law 895 = .ok (.invokevirtual 90, 3) := by decide +kernel
theorem dL_law_898 : decode cL_law 898 = .ok (.iload 5, 2) := by decide +kernel
theorem dL_law_900 : decode cL_law 900 = .ok (.if_icmp .eq 5, 3) := by decide +kernel
theorem dL_law_903 : decode cL_law 903 = .ok (.iconst 0, 1) := by decide +kernel
theorem dL_law_904 : decode cL_law 904 = .ok (.ireturn, 1) := by decide +kernel
theorem dL_law_905 : decode cL_law 905 = .ok (.iload 5, 2) := by decide +kernel
theorem dL_law_907 : decode cL_law 907 = .ok (.ifCond .ne 15, 3) := by decide +kernel
theorem dL_law_910 : decode cL_law 910 = .ok (.aload_n 3, 1) := by decide +kernel
theorem dL_law_911 : decode cL_law 911 = .ok (.iconst 0, 1) := by decide +kernel
theorem dL_law_912 : decode cL_law 912 = .ok (.laload, 1) := by decide +kernel
theorem dL_law_913 : decode cL_law 913 = .ok (.iload 6, 2) := by decide +kernel
theorem dL_law_915 : decode cL_law 915 = .ok (.i2l, 1) := by decide +kernel
theorem dL_law_916 : decode cL_law 916 = .ok (.lcmp, 1) := by decide +kernel
theorem dL_law_917 : decode cL_law 917 = .ok (.ifCond .eq 5, 3) := by decide +kernel
theorem dL_law_920 : decode cL_law 920 = .ok (.iconst 0, 1) := by decide +kernel
theorem dL_law_921 : decode cL_law 921 = .ok (.ireturn, 1) := by decide +kernel
theorem dL_law_922 : decode cL_law 922 = .ok (.goto 476, 3) := by decide +kernel
theorem dL_law_925 : decode cL_law 925 = .ok (.aload_n 1, 1) := by decide +kernel
theorem dL_law_926 : decode cL_law 926 = .ok (.aload_n 0, 1) := by decide +kernel
theorem dL_law_927 : decode cL_law 927 = .ok (.iload 4, 2) := by decide +kernel
theorem dL_law_929 : decode cL_law 929 = .ok (.iconst 1, 1) := by decide +kernel
theorem dL_law_930 : decode cL_law 930 = .ok (.iadd, 1) := by decide +kernel
theorem dL_law_931 : decode cL_law 931 = .ok (.iaload, 1) := by decide +kernel
theorem dL_law_932 : decode cL_law 932 = .ok (.aload_n 3, 1) := by decide +kernel
theorem dL_law_933 : decode cL_law 933 = .ok (.invokestatic 135, 3) := by decide +kernel
theorem dL_law_936 : decode cL_law 936 = .ok (.istore 5, 2) := by decide +kernel
theorem dL_law_938 : decode cL_law 938 = .ok (.aload_n 2, 1) := by decide +kernel
theorem dL_law_939 : decode cL_law 939 = .ok (.aload_n 0, 1) := by decide +kernel
theorem dL_law_940 : decode cL_law 940 = .ok (.iload 4, 2) := by decide +kernel
theorem dL_law_942 : decode cL_law 942 = .ok (.iconst 1, 1) := by decide +kernel
theorem dL_law_943 : decode cL_law 943 = .ok (.iadd, 1) := by decide +kernel
theorem dL_law_944 : decode cL_law 944 = .ok (.iaload, 1) := by decide +kernel
theorem dL_law_945 : decode cL_law 945 = .ok (.invokevirtual 137, 3) := by decide +kernel
theorem dL_law_948 : decode cL_law 948 = .ok (.istore 6, 2) := by decide +kernel
theorem dL_law_950 : decode cL_law 950 = .ok (.aload_n 2, 1) := by decide +kernel
theorem dL_law_951 : decode cL_law 951 = .ok (.invokevirtual 90, 3) := by decide +kernel
theorem dL_law_954 : decode cL_law 954 = .ok (.iload 5, 2) := by decide +kernel
theorem dL_law_956 : decode cL_law 956 = .ok (.if_icmp .eq 5, 3) := by decide +kernel
theorem dL_law_959 : decode cL_law 959 = .ok (.iconst 0, 1) := by decide +kernel
theorem dL_law_960 : decode cL_law 960 = .ok (.ireturn, 1) := by decide +kernel
theorem dL_law_961 : decode cL_law 961 = .ok (.iload 5, 2) := by decide +kernel
theorem dL_law_963 : decode cL_law 963 = .ok (.ifCond .ne 15, 3) := by decide +kernel
theorem dL_law_966 : decode cL_law 966 = .ok (.aload_n 3, 1) := by decide +kernel
theorem dL_law_967 : decode cL_law 967 = .ok (.iconst 0, 1) := by decide +kernel
theorem dL_law_968 : decode cL_law 968 = .ok (.laload, 1) := by decide +kernel
theorem dL_law_969 : decode cL_law 969 = .ok (.iload 6, 2) := by decide +kernel
theorem dL_law_971 : decode cL_law 971 = .ok (.i2l, 1) := by decide +kernel
theorem dL_law_972 : decode cL_law 972 = .ok (.lcmp, 1) := by decide +kernel
theorem dL_law_973 : decode cL_law 973 = .ok (.ifCond .eq 5, 3) := by decide +kernel
theorem dL_law_976 : decode cL_law 976 = .ok (.iconst 0, 1) := by decide +kernel
theorem dL_law_977 : decode cL_law 977 = .ok (.ireturn, 1) := by decide +kernel
theorem dL_law_978 : decode cL_law 978 = .ok (.goto 420, 3) := by decide +kernel
theorem dL_law_981 : decode cL_law 981 = .ok (.aload_n 1, 1) := by decide +kernel
theorem dL_law_982 : decode cL_law 982 = .ok (.aload_n 0, 1) := by decide +kernel
theorem dL_law_983 : decode cL_law 983 = .ok (.iload 4, 2) := by decide +kernel
theorem dL_law_985 : decode cL_law 985 = .ok (.iconst 1, 1) := by decide +kernel
theorem dL_law_986 : decode cL_law 986 = .ok (.iadd, 1) := by decide +kernel
theorem dL_law_987 : decode cL_law 987 = .ok (.iaload, 1) := by decide +kernel
theorem dL_law_988 : decode cL_law 988 = .ok (.aload_n 3, 1) := by decide +kernel
theorem dL_law_989 : decode cL_law 989 = .ok (.invokestatic 138, 3) := by decide +kernel
theorem dL_law_992 : decode cL_law 992 = .ok (.istore 5, 2) := by decide +kernel
theorem dL_law_994 : decode cL_law 994 = .ok (.aload_n 2, 1) := by decide +kernel
theorem dL_law_995 : decode cL_law 995 = .ok (.aload_n 0, 1) := by decide +kernel
theorem dL_law_996 : decode cL_law 996 = .ok (.iload 4, 2) := by decide +kernel
theorem dL_law_998 : decode cL_law 998 = .ok (.iconst 1, 1) := by decide +kernel
theorem dL_law_999 : decode cL_law 999 = .ok (.iadd, 1) := by decide +kernel
theorem dL_law_1000 : decode cL_law 1000 = .ok (.iaload, 1) := by decide +kernel
theorem dL_law_1001 : decode cL_law 1001 = .ok (.invokevirtual 140, 3) := by decide +kernel
theorem dL_law_1004 : decode cL_law 1004 = .ok (.lstore 6, 2) := by decide +kernel
theorem dL_law_1006 : decode cL_law 1006 = .ok (.aload_n 2, 1) := by decide +kernel
theorem dL_law_1007 : decode cL_law 1007 = .ok (.invokevirtual 90, 3) := by decide +kernel
theorem dL_law_1010 : decode cL_law 1010 = .ok (.iload 5, 2) := by decide +kernel
theorem dL_law_1012 : decode cL_law 1012 = .ok (.if_icmp .eq 5, 3) := by decide +kernel
theorem dL_law_1015 : decode cL_law 1015 = .ok (.iconst 0, 1) := by decide +kernel
theorem dL_law_1016 : decode cL_law 1016 = .ok (.ireturn, 1) := by decide +kernel
theorem dL_law_1017 : decode cL_law 1017 = .ok (.iload 5, 2) := by decide +kernel
theorem dL_law_1019 : decode cL_law 1019 = .ok (.ifCond .ne 14, 3) := by decide +kernel
theorem dL_law_1022 : decode cL_law 1022 = .ok (.aload_n 3, 1) := by decide +kernel
theorem dL_law_1023 : decode cL_law 1023 = .ok (.iconst 0, 1) := by decide +kernel
theorem dL_law_1024 : decode cL_law 1024 = .ok (.laload, 1) := by decide +kernel
theorem dL_law_1025 : decode cL_law 1025 = .ok (.lload 6, 2) := by decide +kernel
theorem dL_law_1027 : decode cL_law 1027 = .ok (.lcmp, 1) := by decide +kernel
theorem dL_law_1028 : decode cL_law 1028 = .ok (.ifCond .eq 5, 3) := by decide +kernel
theorem dL_law_1031 : decode cL_law 1031 = .ok (.iconst 0, 1) := by decide +kernel
theorem dL_law_1032 : decode cL_law 1032 = .ok (.ireturn, 1) := by decide +kernel
theorem dL_law_1033 : decode cL_law 1033 = .ok (.goto 365, 3) := by decide +kernel
theorem dL_law_1036 : decode cL_law 1036 = .ok (.aload_n 1, 1) := by decide +kernel
theorem dL_law_1037 : decode cL_law 1037 = .ok (.invokevirtual 141, 3) := by decide +kernel
theorem dL_law_1040 : decode cL_law 1040 = .ok (.aload_n 2, 1) := by decide +kernel
theorem dL_law_1041 : decode cL_law 1041 = .ok (.invokevirtual 145, 3) := by decide +kernel
theorem dL_law_1044 : decode cL_law 1044 = .ok (.lcmp, 1) := by decide +kernel
theorem dL_law_1045 : decode cL_law 1045 = .ok (.ifCond .eq 353, 3) := by decide +kernel
theorem dL_law_1048 : decode cL_law 1048 = .ok (.iconst 0, 1) := by decide +kernel
theorem dL_law_1049 : decode cL_law 1049 = .ok (.ireturn, 1) := by decide +kernel
theorem dL_law_1050 : decode cL_law 1050 = .ok (.aload_n 1, 1) := by decide +kernel
theorem dL_law_1051 : decode cL_law 1051 = .ok (.aload_n 0, 1) := by decide +kernel
theorem dL_law_1052 : decode cL_law 1052 = .ok (.iload 4, 2) := by decide +kernel
theorem dL_law_1054 : decode cL_law 1054 = .ok (.iconst 1, 1) := by decide +kernel
theorem dL_law_1055 : decode cL_law 1055 = .ok (.iadd, 1) := by decide +kernel
theorem dL_law_1056 : decode cL_law 1056 = .ok (.iaload, 1) := by decide +kernel
theorem dL_law_1057 : decode cL_law 1057 = .ok (.aload_n 0, 1) := by decide +kernel
theorem dL_law_1058 : decode cL_law 1058 = .ok (.iload 4, 2) := by decide +kernel
theorem dL_law_1060 : decode cL_law 1060 = .ok (.iconst 2, 1) := by decide +kernel
theorem dL_law_1061 : decode cL_law 1061 = .ok (.iadd, 1) := by decide +kernel
theorem dL_law_1062 : decode cL_law 1062 = .ok (.iaload, 1) := by decide +kernel
theorem dL_law_1063 : decode cL_law 1063 = .ok (.aload_n 3, 1) := by decide +kernel
theorem dL_law_1064 : decode cL_law 1064 = .ok (.invokestatic 146, 3) := by decide +kernel
theorem dL_law_1067 : decode cL_law 1067 = .ok (.istore 5, 2) := by decide +kernel
theorem dL_law_1069 : decode cL_law 1069 = .ok (.aload_n 2, 1) := by decide +kernel
theorem dL_law_1070 : decode cL_law 1070 = .ok (.aload_n 0, 1) := by decide +kernel
theorem dL_law_1071 : decode cL_law 1071 = .ok (.iload 4, 2) := by decide +kernel
theorem dL_law_1073 : decode cL_law 1073 = .ok (.iconst 1, 1) := by decide +kernel
theorem dL_law_1074 : decode cL_law 1074 = .ok (.iadd, 1) := by decide +kernel
theorem dL_law_1075 : decode cL_law 1075 = .ok (.iaload, 1) := by decide +kernel
theorem dL_law_1076 : decode cL_law 1076 = .ok (.aload_n 0, 1) := by decide +kernel
theorem dL_law_1077 : decode cL_law 1077 = .ok (.iload 4, 2) := by decide +kernel
theorem dL_law_1079 : decode cL_law 1079 = .ok (.iconst 2, 1) := by decide +kernel
theorem dL_law_1080 : decode cL_law 1080 = .ok (.iadd, 1) := by decide +kernel
theorem dL_law_1081 : decode cL_law 1081 = .ok (.iaload, 1) := by decide +kernel
theorem dL_law_1082 : decode cL_law 1082 = .ok (.invokevirtual 148, 3) := by decide +kernel
theorem dL_law_1085 : decode cL_law 1085 = .ok (.istore 6, 2) := by decide +kernel
theorem dL_law_1087 : decode cL_law 1087 = .ok (.aload_n 2, 1) := by decide +kernel
theorem dL_law_1088 : decode cL_law 1088 = .ok (.invokevirtual 90, 3) := by decide +kernel
theorem dL_law_1091 : decode cL_law 1091 = .ok (.iload 5, 2) := by decide +kernel
theorem dL_law_1093 : decode cL_law 1093 = .ok (.if_icmp .eq 5, 3) := by decide +kernel
theorem dL_law_1096 : decode cL_law 1096 = .ok (.iconst 0, 1) := by decide +kernel
theorem dL_law_1097 : decode cL_law 1097 = .ok (.ireturn, 1) := by decide +kernel
theorem dL_law_1098 : decode cL_law 1098 = .ok (.iload 5, 2) := by decide +kernel
theorem dL_law_1100 : decode cL_law 1100 = .ok (.ifCond .ne 15, 3) := by decide +kernel
theorem dL_law_1103 : decode cL_law 1103 = .ok (.aload_n 3, 1) := by decide +kernel
theorem dL_law_1104 : decode cL_law 1104 = .ok (.iconst 0, 1) := by decide +kernel
theorem dL_law_1105 : decode cL_law 1105 = .ok (.laload, 1) := by decide +kernel
theorem dL_law_1106 : decode cL_law 1106 = .ok (.iload 6, 2) := by decide +kernel
theorem dL_law_1108 : decode cL_law 1108 = .ok (.i2l, 1) := by decide +kernel
theorem dL_law_1109 : decode cL_law 1109 = .ok (.lcmp, 1) := by decide +kernel
theorem dL_law_1110 : decode cL_law 1110 = .ok (.ifCond .eq 5, 3) := by decide +kernel
theorem dL_law_1113 : decode cL_law 1113 = .ok (.iconst 0, 1) := by decide +kernel
theorem dL_law_1114 : decode cL_law 1114 = .ok (.ireturn, 1) := by decide +kernel
theorem dL_law_1115 : decode cL_law 1115 = .ok (.goto 283, 3) := by decide +kernel
theorem dL_law_1118 : decode cL_law 1118 = .ok (.aload_n 1, 1) := by decide +kernel
theorem dL_law_1119 : decode cL_law 1119 = .ok (.aload_n 0, 1) := by decide +kernel
theorem dL_law_1120 : decode cL_law 1120 = .ok (.iload 4, 2) := by decide +kernel
theorem dL_law_1122 : decode cL_law 1122 = .ok (.iconst 1, 1) := by decide +kernel
theorem dL_law_1123 : decode cL_law 1123 = .ok (.iadd, 1) := by decide +kernel
theorem dL_law_1124 : decode cL_law 1124 = .ok (.iaload, 1) := by decide +kernel
theorem dL_law_1125 : decode cL_law 1125 = .ok (.aload_n 0, 1) := by decide +kernel
theorem dL_law_1126 : decode cL_law 1126 = .ok (.iload 4, 2) := by decide +kernel
theorem dL_law_1128 : decode cL_law 1128 = .ok (.iconst 2, 1) := by decide +kernel
theorem dL_law_1129 : decode cL_law 1129 = .ok (.iadd, 1) := by decide +kernel
theorem dL_law_1130 : decode cL_law 1130 = .ok (.iaload, 1) := by decide +kernel
theorem dL_law_1131 : decode cL_law 1131 = .ok (.aload_n 3, 1) := by decide +kernel
theorem dL_law_1132 : decode cL_law 1132 = .ok (.invokestatic 149, 3) := by decide +kernel
theorem dL_law_1135 : decode cL_law 1135 = .ok (.istore 5, 2) := by decide +kernel
theorem dL_law_1137 : decode cL_law 1137 = .ok (.aload_n 2, 1) := by decide +kernel
theorem dL_law_1138 : decode cL_law 1138 = .ok (.aload_n 0, 1) := by decide +kernel
theorem dL_law_1139 : decode cL_law 1139 = .ok (.iload 4, 2) := by decide +kernel
theorem dL_law_1141 : decode cL_law 1141 = .ok (.iconst 1, 1) := by decide +kernel
theorem dL_law_1142 : decode cL_law 1142 = .ok (.iadd, 1) := by decide +kernel
theorem dL_law_1143 : decode cL_law 1143 = .ok (.iaload, 1) := by decide +kernel
theorem dL_law_1144 : decode cL_law 1144 = .ok (.aload_n 0, 1) := by decide +kernel
theorem dL_law_1145 : decode cL_law 1145 = .ok (.iload 4, 2) := by decide +kernel
theorem dL_law_1147 : decode cL_law 1147 = .ok (.iconst 2, 1) := by decide +kernel
theorem dL_law_1148 : decode cL_law 1148 = .ok (.iadd, 1) := by decide +kernel
theorem dL_law_1149 : decode cL_law 1149 = .ok (.iaload, 1) := by decide +kernel
theorem dL_law_1150 : decode cL_law 1150 = .ok (.invokevirtual 151, 3) := by decide +kernel
theorem dL_law_1153 : decode cL_law 1153 = .ok (.istore 6, 2) := by decide +kernel
theorem dL_law_1155 : decode cL_law 1155 = .ok (.aload_n 2, 1) := by decide +kernel
theorem dL_law_1156 : decode cL_law 1156 = .ok (.invokevirtual 90, 3) := by decide +kernel
theorem dL_law_1159 : decode cL_law 1159 = .ok (.iload 5, 2) := by decide +kernel
theorem dL_law_1161 : decode cL_law 1161 = .ok (.if_icmp .eq 5, 3) := by decide +kernel
theorem dL_law_1164 : decode cL_law 1164 = .ok (.iconst 0, 1) := by decide +kernel
theorem dL_law_1165 : decode cL_law 1165 = .ok (.ireturn, 1) := by decide +kernel
theorem dL_law_1166 : decode cL_law 1166 = .ok (.iload 5, 2) := by decide +kernel
theorem dL_law_1168 : decode cL_law 1168 = .ok (.ifCond .ne 15, 3) := by decide +kernel
theorem dL_law_1171 : decode cL_law 1171 = .ok (.aload_n 3, 1) := by decide +kernel
theorem dL_law_1172 : decode cL_law 1172 = .ok (.iconst 0, 1) := by decide +kernel
theorem dL_law_1173 : decode cL_law 1173 = .ok (.laload, 1) := by decide +kernel
theorem dL_law_1174 : decode cL_law 1174 = .ok (.iload 6, 2) := by decide +kernel
theorem dL_law_1176 : decode cL_law 1176 = .ok (.i2l, 1) := by decide +kernel
theorem dL_law_1177 : decode cL_law 1177 = .ok (.lcmp, 1) := by decide +kernel
theorem dL_law_1178 : decode cL_law 1178 = .ok (.ifCond .eq 5, 3) := by decide +kernel
theorem dL_law_1181 : decode cL_law 1181 = .ok (.iconst 0, 1) := by decide +kernel
theorem dL_law_1182 : decode cL_law 1182 = .ok (.ireturn, 1) := by decide +kernel
theorem dL_law_1183 : decode cL_law 1183 = .ok (.goto 215, 3) := by decide +kernel
theorem dL_law_1186 : decode cL_law 1186 = .ok (.aload_n 1, 1) := by decide +kernel
theorem dL_law_1187 : decode cL_law 1187 = .ok (.invokevirtual 152, 3) := by decide +kernel
theorem dL_law_1190 : decode cL_law 1190 = .ok (.aload_n 2, 1) := by decide +kernel
theorem dL_law_1191 : decode cL_law 1191 = .ok (.invokevirtual 155, 3) := by decide +kernel
theorem dL_law_1194 : decode cL_law 1194 = .ok (.if_icmp .eq 204, 3) := by decide +kernel
theorem dL_law_1197 : decode cL_law 1197 = .ok (.iconst 0, 1) := by decide +kernel
theorem dL_law_1198 : decode cL_law 1198 = .ok (.ireturn, 1) := by decide +kernel
theorem dL_law_1199 : decode cL_law 1199 = .ok (.aload_n 1, 1) := by decide +kernel
theorem dL_law_1200 : decode cL_law 1200 = .ok (.aload_n 0, 1) := by decide +kernel
theorem dL_law_1201 : decode cL_law 1201 = .ok (.iload 4, 2) := by decide +kernel
theorem dL_law_1203 : decode cL_law 1203 = .ok (.iconst 1, 1) := by decide +kernel
theorem dL_law_1204 : decode cL_law 1204 = .ok (.iadd, 1) := by decide +kernel
theorem dL_law_1205 : decode cL_law 1205 = .ok (.iaload, 1) := by decide +kernel
theorem dL_law_1206 : decode cL_law 1206 = .ok (.aload_n 0, 1) := by decide +kernel
theorem dL_law_1207 : decode cL_law 1207 = .ok (.iload 4, 2) := by decide +kernel
theorem dL_law_1209 : decode cL_law 1209 = .ok (.iconst 2, 1) := by decide +kernel
theorem dL_law_1210 : decode cL_law 1210 = .ok (.iadd, 1) := by decide +kernel
theorem dL_law_1211 : decode cL_law 1211 = .ok (.iaload, 1) := by decide +kernel
theorem dL_law_1212 : decode cL_law 1212 = .ok (.aload_n 3, 1) := by decide +kernel
theorem dL_law_1213 : decode cL_law 1213 = .ok (.invokestatic 156, 3) := by decide +kernel
theorem dL_law_1216 : decode cL_law 1216 = .ok (.istore 5, 2) := by decide +kernel
theorem dL_law_1218 : decode cL_law 1218 = .ok (.aload_n 2, 1) := by decide +kernel
theorem dL_law_1219 : decode cL_law 1219 = .ok (.aload_n 0, 1) := by decide +kernel
theorem dL_law_1220 : decode cL_law 1220 = .ok (.iload 4, 2) := by decide +kernel
theorem dL_law_1222 : decode cL_law 1222 = .ok (.iconst 1, 1) := by decide +kernel
theorem dL_law_1223 : decode cL_law 1223 = .ok (.iadd, 1) := by decide +kernel
theorem dL_law_1224 : decode cL_law 1224 = .ok (.iaload, 1) := by decide +kernel
theorem dL_law_1225 : decode cL_law 1225 = .ok (.aload_n 0, 1) := by decide +kernel
theorem dL_law_1226 : decode cL_law 1226 = .ok (.iload 4, 2) := by decide +kernel
theorem dL_law_1228 : decode cL_law 1228 = .ok (.iconst 2, 1) := by decide +kernel
theorem dL_law_1229 : decode cL_law 1229 = .ok (.iadd, 1) := by decide +kernel
theorem dL_law_1230 : decode cL_law 1230 = .ok (.iaload, 1) := by decide +kernel
theorem dL_law_1231 : decode cL_law 1231 = .ok (.invokevirtual 158, 3) := by decide +kernel
theorem dL_law_1234 : decode cL_law 1234 = .ok (.istore 6, 2) := by decide +kernel
theorem dL_law_1236 : decode cL_law 1236 = .ok (.aload_n 2, 1) := by decide +kernel
theorem dL_law_1237 : decode cL_law 1237 = .ok (.invokevirtual 90, 3) := by decide +kernel
theorem dL_law_1240 : decode cL_law 1240 = .ok (.iload 5, 2) := by decide +kernel
theorem dL_law_1242 : decode cL_law 1242 = .ok (.if_icmp .eq 5, 3) := by decide +kernel
theorem dL_law_1245 : decode cL_law 1245 = .ok (.iconst 0, 1) := by decide +kernel
theorem dL_law_1246 : decode cL_law 1246 = .ok (.ireturn, 1) := by decide +kernel
theorem dL_law_1247 : decode cL_law 1247 = .ok (.iload 5, 2) := by decide +kernel
theorem dL_law_1249 : decode cL_law 1249 = .ok (.ifCond .ne 15, 3) := by decide +kernel
theorem dL_law_1252 : decode cL_law 1252 = .ok (.aload_n 3, 1) := by decide +kernel
theorem dL_law_1253 : decode cL_law 1253 = .ok (.iconst 0, 1) := by decide +kernel
theorem dL_law_1254 : decode cL_law 1254 = .ok (.laload, 1) := by decide +kernel
theorem dL_law_1255 : decode cL_law 1255 = .ok (.iload 6, 2) := by decide +kernel
theorem dL_law_1257 : decode cL_law 1257 = .ok (.i2l, 1) := by decide +kernel
theorem dL_law_1258 : decode cL_law 1258 = .ok (.lcmp, 1) := by decide +kernel
theorem dL_law_1259 : decode cL_law 1259 = .ok (.ifCond .eq 5, 3) := by decide +kernel
theorem dL_law_1262 : decode cL_law 1262 = .ok (.iconst 0, 1) := by decide +kernel
theorem dL_law_1263 : decode cL_law 1263 = .ok (.ireturn, 1) := by decide +kernel
theorem dL_law_1264 : decode cL_law 1264 = .ok (.goto 134, 3) := by decide +kernel
theorem dL_law_1267 : decode cL_law 1267 = .ok (.aload_n 1, 1) := by decide +kernel
theorem dL_law_1268 : decode cL_law 1268 = .ok (.aload_n 0, 1) := by decide +kernel
theorem dL_law_1269 : decode cL_law 1269 = .ok (.iload 4, 2) := by decide +kernel
theorem dL_law_1271 : decode cL_law 1271 = .ok (.iconst 1, 1) := by decide +kernel
theorem dL_law_1272 : decode cL_law 1272 = .ok (.iadd, 1) := by decide +kernel
theorem dL_law_1273 : decode cL_law 1273 = .ok (.iaload, 1) := by decide +kernel
theorem dL_law_1274 : decode cL_law 1274 = .ok (.aload_n 0, 1) := by decide +kernel
theorem dL_law_1275 : decode cL_law 1275 = .ok (.iload 4, 2) := by decide +kernel
theorem dL_law_1277 : decode cL_law 1277 = .ok (.iconst 2, 1) := by decide +kernel
theorem dL_law_1278 : decode cL_law 1278 = .ok (.iadd, 1) := by decide +kernel
theorem dL_law_1279 : decode cL_law 1279 = .ok (.iaload, 1) := by decide +kernel
theorem dL_law_1280 : decode cL_law 1280 = .ok (.aload_n 3, 1) := by decide +kernel
theorem dL_law_1281 : decode cL_law 1281 = .ok (.invokestatic 159, 3) := by decide +kernel
theorem dL_law_1284 : decode cL_law 1284 = .ok (.istore 5, 2) := by decide +kernel
theorem dL_law_1286 : decode cL_law 1286 = .ok (.aload_n 2, 1) := by decide +kernel
theorem dL_law_1287 : decode cL_law 1287 = .ok (.aload_n 0, 1) := by decide +kernel
theorem dL_law_1288 : decode cL_law 1288 = .ok (.iload 4, 2) := by decide +kernel
theorem dL_law_1290 : decode cL_law 1290 = .ok (.iconst 1, 1) := by decide +kernel
theorem dL_law_1291 : decode cL_law 1291 = .ok (.iadd, 1) := by decide +kernel
theorem dL_law_1292 : decode cL_law 1292 = .ok (.iaload, 1) := by decide +kernel
theorem dL_law_1293 : decode cL_law 1293 = .ok (.aload_n 0, 1) := by decide +kernel
theorem dL_law_1294 : decode cL_law 1294 = .ok (.iload 4, 2) := by decide +kernel
theorem dL_law_1296 : decode cL_law 1296 = .ok (.iconst 2, 1) := by decide +kernel
theorem dL_law_1297 : decode cL_law 1297 = .ok (.iadd, 1) := by decide +kernel
theorem dL_law_1298 : decode cL_law 1298 = .ok (.iaload, 1) := by decide +kernel
theorem dL_law_1299 : decode cL_law 1299 = .ok (.invokevirtual 161, 3) := by decide +kernel
theorem dL_law_1302 : decode cL_law 1302 = .ok (.istore 6, 2) := by decide +kernel
theorem dL_law_1304 : decode cL_law 1304 = .ok (.aload_n 2, 1) := by decide +kernel
theorem dL_law_1305 : decode cL_law 1305 = .ok (.invokevirtual 90, 3) := by decide +kernel
theorem dL_law_1308 : decode cL_law 1308 = .ok (.iload 5, 2) := by decide +kernel
theorem dL_law_1310 : decode cL_law 1310 = .ok (.if_icmp .eq 5, 3) := by decide +kernel
theorem dL_law_1313 : decode cL_law 1313 = .ok (.iconst 0, 1) := by decide +kernel
theorem dL_law_1314 : decode cL_law 1314 = .ok (.ireturn, 1) := by decide +kernel
theorem dL_law_1315 : decode cL_law 1315 = .ok (.iload 5, 2) := by decide +kernel
theorem dL_law_1317 : decode cL_law 1317 = .ok (.ifCond .ne 22, 3) := by decide +kernel
theorem dL_law_1320 : decode cL_law 1320 = .ok (.aload_n 3, 1) := by decide +kernel
theorem dL_law_1321 : decode cL_law 1321 = .ok (.iconst 0, 1) := by decide +kernel
theorem dL_law_1322 : decode cL_law 1322 = .ok (.laload, 1) := by decide +kernel
theorem dL_law_1323 : decode cL_law 1323 = .ok (.iload 6, 2) := by decide +kernel
theorem dL_law_1325 : decode cL_law 1325 = .ok (.ifCond .eq 7, 3) := by decide +kernel
theorem dL_law_1328 : decode cL_law 1328 = .ok (.lconst 1, 1) := by decide +kernel
theorem dL_law_1329 : decode cL_law 1329 = .ok (.goto 4, 3) := by decide +kernel
theorem dL_law_1332 : decode cL_law 1332 = .ok (.lconst 0, 1) := by decide +kernel
theorem dL_law_1333 : decode cL_law 1333 = .ok (.lcmp, 1) := by decide +kernel
theorem dL_law_1334 : decode cL_law 1334 = .ok (.ifCond .eq 5, 3) := by decide +kernel
theorem dL_law_1337 : decode cL_law 1337 = .ok (.iconst 0, 1) := by decide +kernel
theorem dL_law_1338 : decode cL_law 1338 = .ok (.ireturn, 1) := by decide +kernel
theorem dL_law_1339 : decode cL_law 1339 = .ok (.goto 59, 3) := by decide +kernel
theorem dL_law_1342 : decode cL_law 1342 = .ok (.aload_n 1, 1) := by decide +kernel
theorem dL_law_1343 : decode cL_law 1343 = .ok (.aload_n 0, 1) := by decide +kernel
theorem dL_law_1344 : decode cL_law 1344 = .ok (.iload 4, 2) := by decide +kernel
theorem dL_law_1346 : decode cL_law 1346 = .ok (.iconst 1, 1) := by decide +kernel
theorem dL_law_1347 : decode cL_law 1347 = .ok (.iadd, 1) := by decide +kernel
theorem dL_law_1348 : decode cL_law 1348 = .ok (.iaload, 1) := by decide +kernel
theorem dL_law_1349 : decode cL_law 1349 = .ok (.aload_n 3, 1) := by decide +kernel
theorem dL_law_1350 : decode cL_law 1350 = .ok (.invokestatic 162, 3) := by decide +kernel
theorem dL_law_1353 : decode cL_law 1353 = .ok (.istore 5, 2) := by decide +kernel
theorem dL_law_1355 : decode cL_law 1355 = .ok (.aload_n 2, 1) := by decide +kernel
theorem dL_law_1356 : decode cL_law 1356 = .ok (.aload_n 0, 1) := by decide +kernel
theorem dL_law_1357 : decode cL_law 1357 = .ok (.iload 4, 2) := by decide +kernel
theorem dL_law_1359 : decode cL_law 1359 = .ok (.iconst 1, 1) := by decide +kernel
theorem dL_law_1360 : decode cL_law 1360 = .ok (.iadd, 1) := by decide +kernel
theorem dL_law_1361 : decode cL_law 1361 = .ok (.iaload, 1) := by decide +kernel
theorem dL_law_1362 : decode cL_law 1362 = .ok (.invokevirtual 164, 3) := by decide +kernel
theorem dL_law_1365 : decode cL_law 1365 = .ok (.istore 6, 2) := by decide +kernel
theorem dL_law_1367 : decode cL_law 1367 = .ok (.aload_n 2, 1) := by decide +kernel
theorem dL_law_1368 : decode cL_law 1368 = .ok (.invokevirtual 90, 3) := by decide +kernel
theorem dL_law_1371 : decode cL_law 1371 = .ok (.iload 5, 2) := by decide +kernel
theorem dL_law_1373 : decode cL_law 1373 = .ok (.if_icmp .eq 5, 3) := by decide +kernel
theorem dL_law_1376 : decode cL_law 1376 = .ok (.iconst 0, 1) := by decide +kernel
theorem dL_law_1377 : decode cL_law 1377 = .ok (.ireturn, 1) := by decide +kernel
theorem dL_law_1378 : decode cL_law 1378 = .ok (.iload 5, 2) := by decide +kernel
theorem dL_law_1380 : decode cL_law 1380 = .ok (.ifCond .ne 15, 3) := by decide +kernel
theorem dL_law_1383 : decode cL_law 1383 = .ok (.aload_n 3, 1) := by decide +kernel
theorem dL_law_1384 : decode cL_law 1384 = .ok (.iconst 0, 1) := by decide +kernel
theorem dL_law_1385 : decode cL_law 1385 = .ok (.laload, 1) := by decide +kernel
theorem dL_law_1386 : decode cL_law 1386 = .ok (.iload 6, 2) := by decide +kernel
theorem dL_law_1388 : decode cL_law 1388 = .ok (.i2l, 1) := by decide +kernel
theorem dL_law_1389 : decode cL_law 1389 = .ok (.lcmp, 1) := by decide +kernel
theorem dL_law_1390 : decode cL_law 1390 = .ok (.ifCond .eq 5, 3) := by decide +kernel
theorem dL_law_1393 : decode cL_law 1393 = .ok (.iconst 0, 1) := by decide +kernel
theorem dL_law_1394 : decode cL_law 1394 = .ok (.ireturn, 1) := by decide +kernel
theorem dL_law_1395 : decode cL_law 1395 = .ok (.goto 3, 3) := by decide +kernel
theorem dL_law_1398 : decode cL_law 1398 = .ok (.iinc 4 5, 3) := by decide +kernel
theorem dL_law_1401 : decode cL_law 1401 = .ok (.goto (-1378), 3) := by decide +kernel
theorem dL_law_1404 : decode cL_law 1404 = .ok (.iconst 1, 1) := by decide +kernel
theorem dL_law_1405 : decode cL_law 1405 = .ok (.ireturn, 1) := by decide +kernel
end
section
/-! ===== THE MEMORY: what the cells of a region hold, as functions of address and place ===== -/
/-- kinds (0 to 8: an object of class vwCl; 9 int[], 10 boolean[], 11 Claim[], 12 Frame[], 13 Grain[], 14 Moon[], 15 long[]; 16 and on: no cell), lengths, ints, longs, references, the next address -/
abbrev Mem : Type := (Nat → Nat) × (Nat → Nat) × (Nat → Nat → Int32) × (Nat → Nat → Int64) × (Nat → Nat → Option Nat) × Nat
abbrev mm_N (M : Mem) (q : Nat) : Nat := M.2.1 q
abbrev mm_i (M : Mem) (q k : Nat) : Int32 := M.2.2.1 q k
abbrev mm_l (M : Mem) (q k : Nat) : Int64 := M.2.2.2.1 q k
abbrev mm_r (M : Mem) (q k : Nat) : Option Nat := M.2.2.2.2.1 q k
abbrev mm_x (M : Mem) : Nat := M.2.2.2.2.2
def up2 {α : Type} (f : Nat → Nat → α) (q k : Nat) (v : α) : Nat → Nat → α := fun a j => if a = q ∧ j = k then v else f a j
def zr2 {α : Type} (f : Nat → Nat → α) (q : Nat) (v : α) : Nat → Nat → α := fun a j => if a = q then v else f a j
def ms_i (M : Mem) (q k : Nat) (v : Int32) : Mem := (M.1, M.2.1, up2 M.2.2.1 q k v, M.2.2.2)
def ms_l (M : Mem) (q k : Nat) (v : Int64) : Mem := (M.1, M.2.1, M.2.2.1, up2 M.2.2.2.1 q k v, M.2.2.2.2)
def ms_r (M : Mem) (q k : Nat) (v : Option Nat) : Mem := (M.1, M.2.1, M.2.2.1, M.2.2.2.1, up2 M.2.2.2.2.1 q k v, M.2.2.2.2.2)
/-- a new cell at the next address, all zero -/
def ms_n (M : Mem) (κ n : Nat) : Mem := (va_up M.1 M.2.2.2.2.2 κ, va_up M.2.1 M.2.2.2.2.2 n, zr2 M.2.2.1 M.2.2.2.2.2 0, zr2 M.2.2.2.1 M.2.2.2.2.2 0, zr2 M.2.2.2.2.1 M.2.2.2.2.2 none, M.2.2.2.2.2 + 1)
/-- the steps of a read-off function: a guard, a binding, a reference, a call -/
def gd {α : Type} (c : Prop) [Decidable c] (g : Option α) : Option α := if c then g else none
def lt_ {α β : Type} (a : α) (F : α → Option β) : Option β := F a
def rd {α : Type} (o : Option Nat) (F : Nat → Option α) : Option α := match o with | none => none | some a => F a
def bd {α β : Type} (o : Option α) (F : α → Option β) : Option β := match o with | none => none | some a => F a
/-- a call that may throw: what it throws goes on -/
def bx {β γ : Type} (o : Option (Mem × (β ⊕ Nat))) (F : Mem → β → Option (Mem × (γ ⊕ Nat))) : Option (Mem × (γ ⊕ Nat)) := match o with | none => none | some (M, .inl v) => F M v | some (M, .inr e) => some (M, .inr e)
theorem gd_e {α : Type} {c : Prop} [Decidable c] {g : Option α} {r : α} (h : gd c g = some r) : c ∧ g = some r := by
  unfold gd at h
  split at h
  · exact ⟨by assumption, h⟩
  · cases h
theorem rd_e {α : Type} {o : Option Nat} {F : Nat → Option α} {r : α} (h : rd o F = some r) : ∃ a, o = some a ∧ F a = some r := by
  cases o with
  | none => cases h
  | some a => exact ⟨a, rfl, h⟩
theorem bd_e {α β : Type} {o : Option α} {F : α → Option β} {r : β} (h : bd o F = some r) : ∃ a, o = some a ∧ F a = some r := by
  cases o with
  | none => cases h
  | some a => exact ⟨a, rfl, h⟩
theorem it_t {α : Type} {c : Prop} [Decidable c] {a b : Option α} {r : α} (h : (if c then a else b) = some r) (hc : c) : a = some r := by rwa [if_pos hc] at h
theorem it_f {α : Type} {c : Prop} [Decidable c] {a b : Option α} {r : α} (h : (if c then a else b) = some r) (hc : ¬ c) : b = some r := by rwa [if_neg hc] at h
def ftT : List (List Nat) := [[0, 0, 0, 0], [2, 0], [0, 0, 0, 0, 0, 0, 0], [2, 2, 2, 0, 0, 0, 0], [0, 0, 0, 0, 0, 0, 0, 0, 1, 1, 1, 1, 1], [0, 0, 0], [0], [2, 2, 0, 2, 0, 2, 0, 0, 2, 2, 2], [0, 0, 0, 0, 0, 0, 0, 2, 2, 2, 2, 2, 2, 2, 0, 2, 2, 2, 0, 0, 0, 0, 0, 0, 0, 0, 1, 1, 1, 0, 2, 2, 0, 2, 2, 2, 2]]
def fty (κ k : Nat) : Nat := (ftT.getD κ []).getD k 0
/-- what an object of class κ holds at place k -/
def ov (M : Mem) (κ q k : Nat) : Value := if fty κ k = 0 then .int (mm_i M q k) else if fty κ k = 1 then .long (mm_l M q k) else va_rf (mm_r M q k)
/-- what an array of kind κ holds at place k -/
def av (M : Mem) (κ q k : Nat) : Value := if κ < 11 then .int (mm_i M q k) else if κ = 15 then .long (mm_l M q k) else va_rf (mm_r M q k)
def cOk (D : va_G) (ca : Nat → ClassId) (M : Mem) (q : Nat) (H : Heap) : Prop :=
  (M.1 q < 9 → ∃ r : vw_C, vwCl[M.1 q]? = some r ∧ t_OB q (D.1 (M.1 q)) r.2.2 (D.2 (M.1 q)) H (ov M (M.1 q) q)) ∧
  (9 ≤ M.1 q → M.1 q < 16 → H[q]? = some (arrV (ca (M.1 q)) (M.2.1 q) (av M (M.1 q) q)))
def Rg (D : va_G) (ca : Nat → ClassId) (M : Mem) (H : Heap) : Prop := ∀ q, cOk D ca M q H
theorem cOk.kept {D : va_G} {ca : Nat → ClassId} {M M1 : Mem} {q : Nat} {H H1 : Heap} (h : cOk D ca M q H) (hH : M.1 q < 16 → H1[q]? = H[q]?) (hk : M1.1 q = M.1 q) (hn : M1.2.1 q = M.2.1 q) (hi : ∀ k, mm_i M1 q k = mm_i M q k) (hl : ∀ k, mm_l M1 q k = mm_l M q k) (hr : ∀ k, mm_r M1 q k = mm_r M q k) : cOk D ca M1 q H1 := by
  have e1 : ∀ κ, ov M1 κ q = ov M κ q := fun κ => funext fun k => by unfold ov; rw [hi, hl, hr]
  have e2 : ∀ κ, av M1 κ q = av M κ q := fun κ => funext fun k => by unfold av; rw [hi, hl, hr]
  unfold cOk
  rw [hk, hn, e1, e2]
  refine ⟨fun h9 => ?_, fun h1 h2 => ?_⟩
  · obtain ⟨r, q1, q2⟩ := h.1 h9
    exact ⟨r, q1, q2.kept (hH (by omega))⟩
  · rw [hH h2]
    exact h.2 h1 h2
theorem Rg.kept {D : va_G} {ca : Nat → ClassId} {M : Mem} {H H1 : Heap} (h : Rg D ca M H) (hH : ∀ q, M.1 q < 16 → H1[q]? = H[q]?) : Rg D ca M H1 := fun q => (h q).kept (hH q) rfl rfl (fun _ => rfl) (fun _ => rfl) (fun _ => rfl)
theorem Rg.lt {D : va_G} {ca : Nat → ClassId} {M : Mem} {H : Heap} (h : Rg D ca M H) {q : Nat} (hq : M.1 q < 16) : q < H.size := by
  by_cases h9 : M.1 q < 9
  · obtain ⟨r, -, cell, q1, -⟩ := (h q).1 h9
    exact (Array.getElem?_eq_some_iff.mp q1).1
  · exact (Array.getElem?_eq_some_iff.mp ((h q).2 (by omega) hq)).1
theorem Rg.obj {D : va_G} {ca : Nat → ClassId} {M : Mem} {H : Heap} (h : Rg D ca M H) {q κ : Nat} (hk : M.1 q = κ) {C : String} {T : u_T} {N : Nat} (hc : vwCl[κ]? = some (C, T, N)) (h9 : κ < 9) : t_OB q (D.1 κ) N (D.2 κ) H (ov M κ q) := by
  subst hk
  obtain ⟨r, q1, q2⟩ := (h q).1 h9
  cases Option.some.inj (q1.symm.trans hc)
  exact q2
theorem Rg.arr {D : va_G} {ca : Nat → ClassId} {M : Mem} {H : Heap} (h : Rg D ca M H) {q κ : Nat} (hk : M.1 q = κ) (h9 : 9 ≤ κ) (h16 : κ < 16) : H[q]? = some (arrV (ca κ) (M.2.1 q) (av M κ q)) := by
  subst hk
  exact (h q).2 h9 h16
/-- the world of a method as it runs: the region, the next address where it is kept, the kinds lie in the frame set, what was written -/
def Wr (D : va_G) (ca : Nat → ClassId) (nx : Bool) (A : Nat → Prop) (M : Mem) (H : Heap) : Prop := Rg D ca M H ∧ (nx = true → mm_x M = H.size) ∧ ∀ q, M.1 q < 16 → A q
def Hp (D : va_G) (ca : Nat → ClassId) (nx : Bool) (A : Nat → Prop) (s : State) (M : Mem) (H : Heap) (locs : List Loc) : Prop := Wr D ca nx A M H ∧ va_S A s.heap H locs
theorem Hp.put {D : va_G} {ca : Nat → ClassId} {nx : Bool} {A : Nat → Prop} {s : State} {M M1 : Mem} {H H1 : Heap} {locs : List Loc} {a k : Nat} (h : Hp D ca nx A s M H locs) (ha : M.1 a < 16) (z : H1.size = H.size) (oq : ∀ q : Nat, q ≠ a → H1[q]? = H[q]?)
    (hk : M1.1 = M.1) (hn : M1.2.1 = M.2.1) (hx : mm_x M1 = mm_x M) (hi : ∀ q, q ≠ a → ∀ k, mm_i M1 q k = mm_i M q k) (hl : ∀ q, q ≠ a → ∀ k, mm_l M1 q k = mm_l M q k) (hr : ∀ q, q ≠ a → ∀ k, mm_r M1 q k = mm_r M q k) (hc : cOk D ca M1 a H1) : Hp D ca nx A s M1 H1 (locs ++ [⟨a, k⟩]) := by
  obtain ⟨⟨hR, hX, hA⟩, hS⟩ := h
  refine ⟨⟨fun q => ?_, fun hnx => by rw [hx, z]; exact hX hnx, fun q hq => hA q (by rw [← hk]; exact hq)⟩, hS.put z oq (hA a ha)⟩
  by_cases hqa : q = a
  · rw [hqa]; exact hc
  · exact (hR q).kept (fun _ => oq q hqa) (by rw [hk]) (by rw [hn]) (hi q hqa) (hl q hqa) (hr q hqa)
end
section
/-! ===== ROWS over the memory: each takes the read-off function's step and the machine's step together ===== -/
abbrev vi_ (i : Int32) (n : Nat) : Prop := ¬ (i < 0 ∨ n ≤ i.toNatClampNeg)
def tysL (ca : Nat → ClassId) : List (ClassId × FieldType) := [(ca 9, .int), (ca 10, .boolean), (ca 11, .object "RingHerd$Claim"), (ca 12, .object "RingHerd$Frame"), (ca 13, .object "RingHerd$Grain"), (ca 14, .object "RingHerd$Moon"), (ca 15, .long)]
theorem ov_i {M : Mem} {κ q k : Nat} {x : Int32} (h : fty κ k = 0) : ov (ms_i M q k x) κ q = updV (ov M κ q) k (.int x) := by
  funext j
  by_cases hj : j = k
  · subst hj; simp [ov, updV, ms_i, up2, mm_i, mm_l, mm_r, h]
  · simp [ov, updV, ms_i, up2, mm_i, mm_l, mm_r, hj]
theorem ov_l {M : Mem} {κ q k : Nat} {x : Int64} (h : fty κ k = 1) : ov (ms_l M q k x) κ q = updV (ov M κ q) k (.long x) := by
  funext j
  by_cases hj : j = k
  · subst hj; simp [ov, updV, ms_l, up2, mm_i, mm_l, mm_r, h]
  · simp [ov, updV, ms_l, up2, mm_i, mm_l, mm_r, hj]
theorem ov_r {M : Mem} {κ q k a : Nat} (h : fty κ k = 2) : ov (ms_r M q k (some a)) κ q = updV (ov M κ q) k (.ref a) := by
  funext j
  by_cases hj : j = k
  · subst hj; simp [ov, updV, ms_r, up2, mm_i, mm_l, mm_r, h, va_rf]
  · simp [ov, updV, ms_r, up2, mm_i, mm_l, mm_r, hj]
theorem av_i {M : Mem} {κ q k : Nat} {x : Int32} (h : κ < 11) : av (ms_i M q k x) κ q = updV (av M κ q) k (.int x) := by
  funext j
  by_cases hj : j = k
  · subst hj; simp [av, updV, ms_i, up2, mm_i, mm_l, mm_r, h]
  · simp [av, updV, ms_i, up2, mm_i, mm_l, mm_r, hj]
theorem av_l {M : Mem} {q k : Nat} {x : Int64} : av (ms_l M q k x) 15 q = updV (av M 15 q) k (.long x) := by
  funext j
  by_cases hj : j = k
  · subst hj; simp [av, updV, ms_l, up2, mm_i, mm_l, mm_r]
  · simp [av, updV, ms_l, up2, mm_i, mm_l, mm_r, hj]
theorem av_r {M : Mem} {κ q k a : Nat} (h : ¬ κ < 11) (h2 : κ ≠ 15) : av (ms_r M q k (some a)) κ q = updV (av M κ q) k (.ref a) := by
  funext j
  by_cases hj : j = k
  · subst hj; simp [av, updV, ms_r, up2, mm_i, mm_l, mm_r, h, h2, va_rf]
  · simp [av, updV, ms_r, up2, mm_i, mm_l, mm_r, hj]
theorem ms_i_off {M : Mem} {a k : Nat} {x : Int32} : ∀ q, q ≠ a → ∀ j, mm_i (ms_i M a k x) q j = mm_i M q j := fun q hq j => by simp [ms_i, up2, mm_i, mm_l, mm_r, hq]
theorem ms_l_off {M : Mem} {a k : Nat} {x : Int64} : ∀ q, q ≠ a → ∀ j, mm_l (ms_l M a k x) q j = mm_l M q j := fun q hq j => by simp [ms_l, up2, mm_i, mm_l, mm_r, hq]
theorem ms_r_off {M : Mem} {a k : Nat} {x : Option Nat} : ∀ q, q ≠ a → ∀ j, mm_r (ms_r M a k x) q j = mm_r M q j := fun q hq j => by simp [ms_r, up2, mm_i, mm_l, mm_r, hq]
section RG
variable {p : Program} {l : Launch} {e : Env} {R : Room} {s : State} {m : MethodId} {args : Array Value} {below : List Frame} {meth : Method} {c : Code} {H : Heap} {locs : List Loc} {cells slots : Nat} {Q : State → Prop}
variable {cc : ByteArray} {pc : Nat} {ls : Array Slot} {rest st0 : List Value} {D : va_G} {ca : Nat → ClassId} {nx : Bool} {A : Nat → Prop} {M : Mem} {α : Type} {r : α}
theorem rg_get (hx : p.tables.exec = Jvm.exec) (hb : c.code = cc) (hts : ∀ w ∈ aw, w.before args s = true) (hK : va_K D vwCl (tysL ca) s) (hR : Hp D ca nx A s M H locs) {own C : String} {T : u_T} {N κ index q : Nat} (hown : s.vm.findClass own = some m.cls) (hin : ∀ w ∈ u_ws C T N, w ∈ aw) (hc : vwCl[κ]? = some (C, T, N)) (h9 : κ < 9) (k : Nat) (hk : k < N)
    (hl : Cond.fieldLink own index (T k).1 (T k).2.1 (T k).2.2.1 ∈ aw) {v : Value} (hv : ov M κ q k = v) (hdg : decode cc pc = .ok (.getfield index, 3)) {g : Option α} (hf : gd (M.1 q = κ) g = some r)
    (kk : g = some r → W p l e R s m args below meth c H locs cells slots Q (F0 m (pc + 3) ls (v :: rest))) : W p l e R s m args below meth c H locs cells slots Q (F0 m pc ls (.ref q :: rest)) := by
  obtain ⟨hq, hf⟩ := gd_e hf
  obtain ⟨cell, q1, q2, q3, q4⟩ := hR.1.1.obj hq hc h9
  obtain ⟨hS, hfc, kC, hkC, hkind⟩ := hK.1 κ _ hc
  obtain ⟨cf, kf, fi, f, hi, hsl⟩ := hS k hk
  refine W.getf hx hb hown (hts _ hl) hi (u_facts hfc hkC (u_lays hts hin hk) hi).1 q1 (by rw [q3]; exact fun h => by cases h) (v := v) ?_ rfl rfl hdg (kk hf)
  rw [hsl, q4 k hk, hv]
theorem rg_getr (hx : p.tables.exec = Jvm.exec) (hb : c.code = cc) (hts : ∀ w ∈ aw, w.before args s = true) (hK : va_K D vwCl (tysL ca) s) (hR : Hp D ca nx A s M H locs) {own C : String} {T : u_T} {N κ index q : Nat} (hown : s.vm.findClass own = some m.cls) (hin : ∀ w ∈ u_ws C T N, w ∈ aw) (hc : vwCl[κ]? = some (C, T, N)) (h9 : κ < 9) (k : Nat) (hk : k < N)
    (hl : Cond.fieldLink own index (T k).1 (T k).2.1 (T k).2.2.1 ∈ aw) (hv : ov M κ q k = va_rf (mm_r M q k)) (hdg : decode cc pc = .ok (.getfield index, 3)) {F : Nat → Option α} (hf : gd (M.1 q = κ) (rd (mm_r M q k) F) = some r)
    (kk : ∀ a, F a = some r → W p l e R s m args below meth c H locs cells slots Q (F0 m (pc + 3) ls (.ref a :: rest))) : W p l e R s m args below meth c H locs cells slots Q (F0 m pc ls (.ref q :: rest)) := by
  obtain ⟨hq, hf⟩ := gd_e hf
  obtain ⟨a, ha, hf⟩ := rd_e hf
  have hf2 : gd (M.1 q = κ) (F a) = some r := by unfold gd; rw [if_pos hq]; exact hf
  exact rg_get hx hb hts hK hR hown hin hc h9 k hk hl (by rw [hv, ha]; rfl) hdg hf2 (kk a)
theorem rg_put (hx : p.tables.exec = Jvm.exec) (hb : c.code = cc) (hts : ∀ w ∈ aw, w.before args s = true) (hK : va_K D vwCl (tysL ca) s) (hR : Hp D ca nx A s M H locs) {own C : String} {T : u_T} {N κ index q : Nat} (hown : s.vm.findClass own = some m.cls) (hin : ∀ w ∈ u_ws C T N, w ∈ aw) (hc : vwCl[κ]? = some (C, T, N)) (h9 : κ < 9) (k : Nat) (hk : k < N)
    (hl : Cond.fieldLink own index (T k).1 (T k).2.1 (T k).2.2.1 ∈ aw) (ty0 : Nat → FieldType) (hty : ∀ k, k < N → parseFieldDescriptor (T k).2.2.1 = some (ty0 k)) (hnm : ∀ a, a < N → ∀ b, b < N → a ≠ b → (T a).2.1 ≠ (T b).2.1)
    (hfin : (T k).2.2.2 = false ∨ ((T k).2.2.2 = true ∧ meth.name = "<init>" ∧ (T k).1 = own)) {v : Value} (hn : narrow (ty0 k) v = v) (hfit : fits (ty0 k) v = true) (hq : M.1 q = κ) {M1 : Mem} (hk1 : M1.1 = M.1) (hn1 : M1.2.1 = M.2.1) (hx1 : mm_x M1 = mm_x M)
    (hi1 : ∀ z, z ≠ q → ∀ k, mm_i M1 z k = mm_i M z k) (hl1 : ∀ z, z ≠ q → ∀ k, mm_l M1 z k = mm_l M z k) (hr1 : ∀ z, z ≠ q → ∀ k, mm_r M1 z k = mm_r M z k) (hov : ov M1 κ q = updV (ov M κ q) k v) (hdg : decode cc pc = .ok (.putfield index, 3))
    (kk : ∀ (H1 : Heap) (locs1 : List Loc), Hp D ca nx A s M1 H1 locs1 → W p l e R s m args below meth c H1 locs1 cells slots Q (F0 m (pc + 3) ls rest)) : W p l e R s m args below meth c H locs cells slots Q (F0 m pc ls (v :: .ref q :: rest)) := by
  have hap := va_apart (own := own) hts hin ty0 hty hnm hK hc
  obtain ⟨cell, q1, q2, q3, q4⟩ := hR.1.1.obj hq hc h9
  obtain ⟨hS, hfc, kC, hkC, hkind⟩ := hK.1 κ _ hc
  obtain ⟨cf, kf, fi, f, hi, hsl⟩ := hS k hk
  have hlay := hts _ (hin _ (u_in_lay hk))
  unfold u_lay at hlay
  have hst := (u_facts hfc hkC (u_lays hts hin hk) hi).1
  have fin : ∀ H1 : Heap, H1[q]? = some (cell.setSlot f.slot v) → H1.size = H.size → (∀ z, z ≠ q → H1[z]? = H[z]?) → Hp D ca nx A s M1 H1 (locs ++ [⟨q, f.slot⟩]) := by
    intro H1 e1 e2 e3
    rw [hsl] at e1
    refine hR.put (by rw [hq]; omega) e2 e3 hk1 hn1 hx1 hi1 hl1 hr1 ⟨fun _ => ⟨(C, T, N), by rw [hk1, hq]; exact hc, ?_⟩, fun h => by rw [hk1, hq] at h; omega⟩
    rw [hk1, hq, hov]
    exact ⟨_, e1, q2, q3, t_set q4 hap hk v⟩
  rcases hfin with hfin | ⟨hfin, hin2, hdecl⟩
  · rw [if_neg (by rw [hfin]; decide)] at hlay
    have h6 := u_store hfc hkC hkind hlay hi (hty k hk) hn hfit
    exact W.putK hx hb (f := f) ⟨hown, hts _ hl, ⟨_, _, _, hi⟩, hst⟩ (by rw [q2]; exact h6) q1 q3 (by rw [hsl]; exact k2_hasslot (q4 k hk)) rfl rfl hdg fun H1 e1 e2 e3 => kk H1 _ (fin H1 e1 e2 e3)
  · rw [if_pos hfin] at hlay
    have h6 := u_fits hfc hkC hkind (Or.inr hlay) hi (hty k hk) hn hfit
    have hcf : m.cls = cf := by
      obtain ⟨_, _, c', _, _, _, -, -, hf', -, -, -, hown2, -⟩ := Cond.laysFinal_spec hlay
      have e1 : c' = cf := by have := hi.symm.trans hf'; simp at this; exact this.1.symm
      rw [hdecl] at hown2
      rw [← e1]; exact Option.some.inj (hown.symm.trans hown2)
    exact W.putFinK hx hb hown (hts _ hl) hi hst hcf hin2 (by rw [q2]; exact h6) q1 q3 (by rw [hsl]; exact k2_hasslot (q4 k hk)) rfl rfl hdg fun H1 e1 e2 e3 => kk H1 _ (fin H1 e1 e2 e3)
theorem rg_puti (hx : p.tables.exec = Jvm.exec) (hb : c.code = cc) (hts : ∀ w ∈ aw, w.before args s = true) (hK : va_K D vwCl (tysL ca) s) (hR : Hp D ca nx A s M H locs) {own C : String} {T : u_T} {N κ index q : Nat} (hown : s.vm.findClass own = some m.cls) (hin : ∀ w ∈ u_ws C T N, w ∈ aw) (hc : vwCl[κ]? = some (C, T, N)) (h9 : κ < 9) (k : Nat) (hk : k < N)
    (hl : Cond.fieldLink own index (T k).1 (T k).2.1 (T k).2.2.1 ∈ aw) (ty0 : Nat → FieldType) (hty : ∀ k, k < N → parseFieldDescriptor (T k).2.2.1 = some (ty0 k)) (hnm : ∀ a, a < N → ∀ b, b < N → a ≠ b → (T a).2.1 ≠ (T b).2.1)
    (hfin : (T k).2.2.2 = false) {x : Int32} (hn : narrow (ty0 k) (.int x) = .int x) (hfit : fits (ty0 k) (.int x) = true) (hft : fty κ k = 0) (hdg : decode cc pc = .ok (.putfield index, 3)) {F : Mem → Option α} (hf : gd (M.1 q = κ) (lt_ (ms_i M q k x) F) = some r)
    (kk : ∀ (M1 : Mem) (H1 : Heap) (locs1 : List Loc), F M1 = some r → Hp D ca nx A s M1 H1 locs1 → W p l e R s m args below meth c H1 locs1 cells slots Q (F0 m (pc + 3) ls rest)) : W p l e R s m args below meth c H locs cells slots Q (F0 m pc ls (.int x :: .ref q :: rest)) := by
  obtain ⟨hq, hf⟩ := gd_e hf
  exact rg_put (M1 := ms_i M q k x) hx hb hts hK hR hown hin hc h9 k hk hl ty0 hty hnm (Or.inl hfin) hn hfit hq rfl rfl rfl ms_i_off (fun _ _ _ => rfl) (fun _ _ _ => rfl) (ov_i hft) hdg (fun H1 locs1 h => kk _ H1 locs1 hf h)
theorem rg_putl (hx : p.tables.exec = Jvm.exec) (hb : c.code = cc) (hts : ∀ w ∈ aw, w.before args s = true) (hK : va_K D vwCl (tysL ca) s) (hR : Hp D ca nx A s M H locs) {own C : String} {T : u_T} {N κ index q : Nat} (hown : s.vm.findClass own = some m.cls) (hin : ∀ w ∈ u_ws C T N, w ∈ aw) (hc : vwCl[κ]? = some (C, T, N)) (h9 : κ < 9) (k : Nat) (hk : k < N)
    (hl : Cond.fieldLink own index (T k).1 (T k).2.1 (T k).2.2.1 ∈ aw) (ty0 : Nat → FieldType) (hty : ∀ k, k < N → parseFieldDescriptor (T k).2.2.1 = some (ty0 k)) (hnm : ∀ a, a < N → ∀ b, b < N → a ≠ b → (T a).2.1 ≠ (T b).2.1)
    (hfin : (T k).2.2.2 = false) {x : Int64} (hn : narrow (ty0 k) (.long x) = .long x) (hfit : fits (ty0 k) (.long x) = true) (hft : fty κ k = 1) (hdg : decode cc pc = .ok (.putfield index, 3)) {F : Mem → Option α} (hf : gd (M.1 q = κ) (lt_ (ms_l M q k x) F) = some r)
    (kk : ∀ (M1 : Mem) (H1 : Heap) (locs1 : List Loc), F M1 = some r → Hp D ca nx A s M1 H1 locs1 → W p l e R s m args below meth c H1 locs1 cells slots Q (F0 m (pc + 3) ls rest)) : W p l e R s m args below meth c H locs cells slots Q (F0 m pc ls (.long x :: .ref q :: rest)) := by
  obtain ⟨hq, hf⟩ := gd_e hf
  exact rg_put (M1 := ms_l M q k x) hx hb hts hK hR hown hin hc h9 k hk hl ty0 hty hnm (Or.inl hfin) hn hfit hq rfl rfl rfl (fun _ _ _ => rfl) ms_l_off (fun _ _ _ => rfl) (ov_l hft) hdg (fun H1 locs1 h => kk _ H1 locs1 hf h)
/-- a reference, in a constructor (final fields) -/
theorem rg_putr (hx : p.tables.exec = Jvm.exec) (hb : c.code = cc) (hts : ∀ w ∈ aw, w.before args s = true) (hK : va_K D vwCl (tysL ca) s) (hR : Hp D ca nx A s M H locs) {own C : String} {T : u_T} {N κ index q a : Nat} (hown : s.vm.findClass own = some m.cls) (hin : ∀ w ∈ u_ws C T N, w ∈ aw) (hc : vwCl[κ]? = some (C, T, N)) (h9 : κ < 9) (k : Nat) (hk : k < N)
    (hl : Cond.fieldLink own index (T k).1 (T k).2.1 (T k).2.2.1 ∈ aw) (ty0 : Nat → FieldType) (hty : ∀ k, k < N → parseFieldDescriptor (T k).2.2.1 = some (ty0 k)) (hnm : ∀ a, a < N → ∀ b, b < N → a ≠ b → (T a).2.1 ≠ (T b).2.1)
    (hfin : (T k).2.2.2 = true ∧ meth.name = "<init>" ∧ (T k).1 = own) (hn : narrow (ty0 k) (.ref a) = .ref a) (hfit : fits (ty0 k) (.ref a) = true) (hft : fty κ k = 2) (hdg : decode cc pc = .ok (.putfield index, 3)) {F : Mem → Option α} (hf : gd (M.1 q = κ) (lt_ (ms_r M q k (some a)) F) = some r)
    (kk : ∀ (M1 : Mem) (H1 : Heap) (locs1 : List Loc), F M1 = some r → Hp D ca nx A s M1 H1 locs1 → W p l e R s m args below meth c H1 locs1 cells slots Q (F0 m (pc + 3) ls rest)) : W p l e R s m args below meth c H locs cells slots Q (F0 m pc ls (.ref a :: .ref q :: rest)) := by
  obtain ⟨hq, hf⟩ := gd_e hf
  exact rg_put (M1 := ms_r M q k (some a)) hx hb hts hK hR hown hin hc h9 k hk hl ty0 hty hnm (Or.inr hfin) hn hfit hq rfl rfl rfl (fun _ _ _ => rfl) (fun _ _ _ => rfl) ms_r_off (ov_r hft) hdg (fun H1 locs1 h => kk _ H1 locs1 hf h)
-- arrays
theorem rg_iald (hx : p.tables.exec = Jvm.exec) (hb : c.code = cc) (hK : va_K D vwCl (tysL ca) s) (hR : Hp D ca nx A s M H locs) {q : Nat} {i : Int32} (hdg : decode cc pc = .ok (.iaload, 1)) {g : Option α} (hf : gd (M.1 q = 9 ∧ vi_ i (mm_N M q)) g = some r)
    (kk : g = some r → W p l e R s m args below meth c H locs cells slots Q (F0 m (pc + 1) ls (.int (mm_i M q i.toNatClampNeg) :: rest))) : W p l e R s m args below meth c H locs cells slots Q (F0 m pc ls (.int i :: .ref q :: rest)) := by
  obtain ⟨⟨hq, hin⟩, hf⟩ := gd_e hf
  have hlt : i.toNatClampNeg < M.2.1 q := Nat.not_le.mp fun z => hin (Or.inr z)
  exact W.iald (v := .int (mm_i M q i.toNatClampNeg)) hx hb (hR.1.1.arr hq (by decide) (by decide)) ((hK.2 0 _ rfl).1 _ _) (fun z => by cases z) (by rw [arrV_size]; exact hin) (by rw [arrV_read _ _ hlt]; rfl) rfl rfl hdg (kk hf)
theorem rg_zald (hx : p.tables.exec = Jvm.exec) (hb : c.code = cc) (hK : va_K D vwCl (tysL ca) s) (hR : Hp D ca nx A s M H locs) {q : Nat} {i : Int32} (hdg : decode cc pc = .ok (.baload, 1)) {g : Option α} (hf : gd (M.1 q = 10 ∧ vi_ i (mm_N M q)) g = some r)
    (kk : g = some r → W p l e R s m args below meth c H locs cells slots Q (F0 m (pc + 1) ls (.int (mm_i M q i.toNatClampNeg) :: rest))) : W p l e R s m args below meth c H locs cells slots Q (F0 m pc ls (.int i :: .ref q :: rest)) := by
  obtain ⟨⟨hq, hin⟩, hf⟩ := gd_e hf
  have hlt : i.toNatClampNeg < M.2.1 q := Nat.not_le.mp fun z => hin (Or.inr z)
  exact W.zald (v := .int (mm_i M q i.toNatClampNeg)) hx hb (hR.1.1.arr hq (by decide) (by decide)) ((hK.2 1 _ rfl).1 _ _) (fun z => by cases z) (by rw [arrV_size]; exact hin) (by rw [arrV_read _ _ hlt]; rfl) rfl rfl hdg (kk hf)
theorem rg_lald (hx : p.tables.exec = Jvm.exec) (hb : c.code = cc) (hK : va_K D vwCl (tysL ca) s) (hR : Hp D ca nx A s M H locs) {q : Nat} {i : Int32} (hdg : decode cc pc = .ok (.laload, 1)) {g : Option α} (hf : gd (M.1 q = 15 ∧ vi_ i (mm_N M q)) g = some r)
    (kk : g = some r → W p l e R s m args below meth c H locs cells slots Q (F0 m (pc + 1) ls (.long (mm_l M q i.toNatClampNeg) :: rest))) : W p l e R s m args below meth c H locs cells slots Q (F0 m pc ls (.int i :: .ref q :: rest)) := by
  obtain ⟨⟨hq, hin⟩, hf⟩ := gd_e hf
  have hlt : i.toNatClampNeg < M.2.1 q := Nat.not_le.mp fun z => hin (Or.inr z)
  exact W.lald (v := .long (mm_l M q i.toNatClampNeg)) hx hb (hR.1.1.arr hq (by decide) (by decide)) ((hK.2 6 _ rfl).1 _ _) (fun z => by cases z) (by rw [arrV_size]; exact hin) (by rw [arrV_read _ _ hlt]; rfl) rfl rfl hdg (kk hf)
/-- an element of an array of references, κ 11 to 14 -/
theorem rg_aald (hx : p.tables.exec = Jvm.exec) (hb : c.code = cc) (hK : va_K D vwCl (tysL ca) s) (hR : Hp D ca nx A s M H locs) {q : Nat} {i : Int32} {κ : Nat} (t0 : Nat) {C : String} (ht : (tysL ca)[t0]? = some (ca κ, .object C)) (hκ : 11 ≤ κ ∧ κ < 15) (hdg : decode cc pc = .ok (.aaload, 1)) {F : Nat → Option α} (hf : gd (M.1 q = κ ∧ vi_ i (mm_N M q)) (rd (mm_r M q i.toNatClampNeg) F) = some r)
    (kk : ∀ a, F a = some r → W p l e R s m args below meth c H locs cells slots Q (F0 m (pc + 1) ls (.ref a :: rest))) : W p l e R s m args below meth c H locs cells slots Q (F0 m pc ls (.int i :: .ref q :: rest)) := by
  obtain ⟨⟨hq, hin⟩, hf⟩ := gd_e hf
  obtain ⟨a, ha, hf⟩ := rd_e hf
  have hlt : i.toNatClampNeg < M.2.1 q := Nat.not_le.mp fun z => hin (Or.inr z)
  have hv : av M κ q i.toNatClampNeg = .ref a := by unfold av; rw [if_neg (by omega), if_neg (by omega), ha]; rfl
  exact W.aald (v := .ref a) (ty := .object C) hx hb (hR.1.1.arr hq (by omega) (by omega)) ((hK.2 t0 _ ht).1 _ _) rfl (fun z => by cases z) (by rw [arrV_size]; exact hin) (by rw [arrV_read _ _ hlt, hv]) rfl rfl hdg (kk a hf)
theorem rg_alen (hx : p.tables.exec = Jvm.exec) (hb : c.code = cc) (hK : va_K D vwCl (tysL ca) s) (hR : Hp D ca nx A s M H locs) {q κ : Nat} (t0 : Nat) {ty : FieldType} (ht : (tysL ca)[t0]? = some (ca κ, ty)) (hκ : 9 ≤ κ ∧ κ < 16) (hdg : decode cc pc = .ok (.arraylength, 1)) {g : Option α} (hf : gd (M.1 q = κ) g = some r)
    (kk : g = some r → W p l e R s m args below meth c H locs cells slots Q (F0 m (pc + 1) ls (.int (nI (mm_N M q)) :: rest))) : W p l e R s m args below meth c H locs cells slots Q (F0 m pc ls (.ref q :: rest)) := by
  obtain ⟨hq, hf⟩ := gd_e hf
  exact W.alen (n := Int32.ofNat (mm_N M q)) hx hb (hR.1.1.arr hq hκ.1 hκ.2) ((hK.2 t0 _ ht).1 _ _) (by rw [arrV_size] <;> rfl) rfl rfl hdg (kk hf)
theorem rg_ast {M1 : Mem} {q κ k : Nat} {v : Value} {H1 : Heap} (hR : Hp D ca nx A s M H locs) (hq : M.1 q = κ) (h1 : 9 ≤ κ) (h2 : κ < 16) (hk1 : M1.1 = M.1) (hn1 : M1.2.1 = M.2.1) (hx1 : mm_x M1 = mm_x M)
    (hi1 : ∀ z, z ≠ q → ∀ k, mm_i M1 z k = mm_i M z k) (hl1 : ∀ z, z ≠ q → ∀ k, mm_l M1 z k = mm_l M z k) (hr1 : ∀ z, z ≠ q → ∀ k, mm_r M1 z k = mm_r M z k) (hav : av M1 κ q = updV (av M κ q) k v)
    (e1 : H1[q]? = some ((arrV (ca κ) (M.2.1 q) (av M κ q)).setSlot k v)) (e2 : H1.size = H.size) (e3 : ∀ z, z ≠ q → H1[z]? = H[z]?) : Hp D ca nx A s M1 H1 (locs ++ [⟨q, k⟩]) := by
  refine hR.put (by rw [hq]; omega) e2 e3 hk1 hn1 hx1 hi1 hl1 hr1 ⟨fun h => by rw [hk1, hq] at h; omega, fun _ _ => ?_⟩
  rw [hk1, hn1, hq, hav, e1, arrV_store]
theorem rg_iast (hx : p.tables.exec = Jvm.exec) (hb : c.code = cc) (hK : va_K D vwCl (tysL ca) s) (hR : Hp D ca nx A s M H locs) {q : Nat} {i x : Int32} (hdg : decode cc pc = .ok (.iastore, 1)) {F : Mem → Option α} (hf : gd (M.1 q = 9 ∧ vi_ i (mm_N M q)) (lt_ (ms_i M q i.toNatClampNeg x) F) = some r)
    (kk : ∀ (M1 : Mem) (H1 : Heap) (locs1 : List Loc), F M1 = some r → Hp D ca nx A s M1 H1 locs1 → W p l e R s m args below meth c H1 locs1 cells slots Q (F0 m (pc + 1) ls rest)) : W p l e R s m args below meth c H locs cells slots Q (F0 m pc ls (.int x :: .int i :: .ref q :: rest)) := by
  obtain ⟨⟨hq, hin⟩, hf⟩ := gd_e hf
  exact W.iast hx hb (hR.1.1.arr hq (by decide) (by decide)) ((hK.2 0 _ rfl).1 _ _) (fun z => by cases z) (by rw [arrV_size]; exact hin) rfl rfl hdg fun H1 e1 e2 e3 => kk _ H1 _ hf (rg_ast hR hq (by decide) (by decide) rfl rfl rfl ms_i_off (fun _ _ _ => rfl) (fun _ _ _ => rfl) (av_i (by decide)) e1 e2 e3)
theorem rg_zast (hx : p.tables.exec = Jvm.exec) (hb : c.code = cc) (hK : va_K D vwCl (tysL ca) s) (hR : Hp D ca nx A s M H locs) {q : Nat} {i x : Int32} (hn : narrow .boolean (.int x) = .int x) (hdg : decode cc pc = .ok (.bastore, 1)) {F : Mem → Option α} (hf : gd (M.1 q = 10 ∧ vi_ i (mm_N M q)) (lt_ (ms_i M q i.toNatClampNeg x) F) = some r)
    (kk : ∀ (M1 : Mem) (H1 : Heap) (locs1 : List Loc), F M1 = some r → Hp D ca nx A s M1 H1 locs1 → W p l e R s m args below meth c H1 locs1 cells slots Q (F0 m (pc + 1) ls rest)) : W p l e R s m args below meth c H locs cells slots Q (F0 m pc ls (.int x :: .int i :: .ref q :: rest)) := by
  obtain ⟨⟨hq, hin⟩, hf⟩ := gd_e hf
  exact W.zast hx hb (hR.1.1.arr hq (by decide) (by decide)) ((hK.2 1 _ rfl).1 _ _) (fun z => by cases z) (by rw [arrV_size]; exact hin) rfl rfl hdg fun H1 e1 e2 e3 => kk _ H1 _ hf (rg_ast hR hq (by decide) (by decide) rfl rfl rfl ms_i_off (fun _ _ _ => rfl) (fun _ _ _ => rfl) (av_i (by decide)) (by rw [hn] at e1; exact e1) e2 e3)
theorem rg_last (hx : p.tables.exec = Jvm.exec) (hb : c.code = cc) (hK : va_K D vwCl (tysL ca) s) (hR : Hp D ca nx A s M H locs) {q : Nat} {i : Int32} {x : Int64} (hdg : decode cc pc = .ok (.lastore, 1)) {F : Mem → Option α} (hf : gd (M.1 q = 15 ∧ vi_ i (mm_N M q)) (lt_ (ms_l M q i.toNatClampNeg x) F) = some r)
    (kk : ∀ (M1 : Mem) (H1 : Heap) (locs1 : List Loc), F M1 = some r → Hp D ca nx A s M1 H1 locs1 → W p l e R s m args below meth c H1 locs1 cells slots Q (F0 m (pc + 1) ls rest)) : W p l e R s m args below meth c H locs cells slots Q (F0 m pc ls (.long x :: .int i :: .ref q :: rest)) := by
  obtain ⟨⟨hq, hin⟩, hf⟩ := gd_e hf
  exact W.last hx hb (hR.1.1.arr hq (by decide) (by decide)) ((hK.2 6 _ rfl).1 _ _) (fun z => by cases z) (by rw [arrV_size]; exact hin) rfl rfl hdg fun H1 e1 e2 e3 => kk _ H1 _ hf (rg_ast hR hq (by decide) (by decide) rfl rfl rfl (fun _ _ _ => rfl) ms_l_off (fun _ _ _ => rfl) av_l e1 e2 e3)
-- names and branches
theorem nm_i {x : Int32} {F : Int32 → Option α} (hf : lt_ x F = some r) (kk : ∀ y : Int32, F y = some r → W p l e R s m args below meth c H locs cells slots Q (F0 m pc ls (.int y :: rest))) : W p l e R s m args below meth c H locs cells slots Q (F0 m pc ls (.int x :: rest)) := kk x hf
theorem nm_l {x : Int64} {F : Int64 → Option α} (hf : lt_ x F = some r) (kk : ∀ y : Int64, F y = some r → W p l e R s m args below meth c H locs cells slots Q (F0 m pc ls (.long y :: rest))) : W p l e R s m args below meth c H locs cells slots Q (F0 m pc ls (.long x :: rest)) := kk x hf
end RG
end
section
/-! ===== CONTRACTS: what a state gives beside its region; calls, ends, throws ===== -/
def nwL : List Cond := [(Cond.methodLinkNest "RingHerd$Herd" (11 : Nat) ({ cls := "RingHerd$Planet", name := "<init>", desc := "()V" } : Jvm.MethodName) "RingHerd"), (Cond.methodLinkNest "RingHerd$Herd" (20 : Nat) ({ cls := "RingHerd$Ledger", name := "<init>", desc := "()V" } : Jvm.MethodName) "RingHerd"), (Cond.methodLinkNest "RingHerd$Herd" (31 : Nat) ({ cls := "RingHerd$Grain", name := "<init>", desc := "()V" } : Jvm.MethodName) "RingHerd"), (Cond.methodLinkNest "RingHerd" (22 : Nat) ({ cls := "RingHerd$Moon", name := "<init>", desc := "()V" } : Jvm.MethodName) "RingHerd"), (Cond.methodLinkNest "RingHerd" (29 : Nat) ({ cls := "RingHerd$Frame", name := "<init>", desc := "()V" } : Jvm.MethodName) "RingHerd"), (Cond.methodLinkNest "RingHerd" (36 : Nat) ({ cls := "RingHerd$Claim", name := "<init>", desc := "()V" } : Jvm.MethodName) "RingHerd"), (Cond.castable "java/lang/IllegalArgumentException" "java/lang/IllegalArgumentException"), (Cond.declares ({ cls := "java/lang/RuntimeException", name := "<init>", desc := "()V" } : Jvm.MethodName)), (Cond.declares ({ cls := "java/lang/RuntimeException", name := "<init>", desc := "(Ljava/lang/String;)V" } : Jvm.MethodName)), (Cond.declares ({ cls := "java/lang/Exception", name := "<init>", desc := "()V" } : Jvm.MethodName)), (Cond.declares ({ cls := "java/lang/Exception", name := "<init>", desc := "(Ljava/lang/String;)V" } : Jvm.MethodName)), (Cond.declares ({ cls := "java/lang/Throwable", name := "<init>", desc := "()V" } : Jvm.MethodName)), (Cond.declares ({ cls := "java/lang/Throwable", name := "<init>", desc := "(Ljava/lang/String;)V" } : Jvm.MethodName)), (Cond.castable "java/lang/IllegalStateException" "java/lang/IllegalStateException"), (Cond.methodLinkNest "RingHerd$Planet" (9 : Nat) ({ cls := "RingHerd", name := "radiusOf", desc := "(I)I" } : Jvm.MethodName) "RingHerd"), (Cond.methodLinkNest "RingHerd$Herd" (76 : Nat) ({ cls := "RingHerd", name := "turned", desc := "(II)I" } : Jvm.MethodName) "RingHerd"), (Cond.methodLinkNest "RingHerd$Grain" (27 : Nat) ({ cls := "RingHerd", name := "anglesApart", desc := "(II)I" } : Jvm.MethodName) "RingHerd"), (Cond.castable "java/lang/IndexOutOfBoundsException" "java/lang/IndexOutOfBoundsException")]
def ncL : List (String × String) := [("java/lang/IllegalArgumentException", "java/lang/IllegalStateException"), ("java/lang/IllegalArgumentException", "java/lang/IndexOutOfBoundsException"), ("java/lang/IllegalStateException", "java/lang/IllegalArgumentException"), ("java/lang/IllegalStateException", "java/lang/IndexOutOfBoundsException"), ("java/lang/IndexOutOfBoundsException", "java/lang/IllegalArgumentException"), ("java/lang/IndexOutOfBoundsException", "java/lang/IllegalStateException")]
def stL : List (Nat × String) := [(264, "an argument is out of its range"), (60, "there were 80 grains"), (72, "there are 6 moons"), (108, "the tick would be above 2000"), (116, "there are 20 frames"), (269, "there is none with this number"), (140, "there are 40 claims"), (177, "what is 0 to 5"), (208, "what is 0 to 6"), (222, "what is 0 to 3"), (258, "what is 0 to 2")]
def aoL : List String := ["RingHerd$Grain", "RingHerd$Moon", "RingHerd$Frame", "RingHerd$Claim"]
def isNW : Cond → Bool := fun w => match w with
  | .methodLinkNest .. => true
  | .castable .. => true
  | .declares .. => true
  | _ => false
theorem nwL_ok : ∀ w ∈ nwL, isNW w = true := by decide +kernel
theorem nw_warm {w : Cond} (h : isNW w = true) {s U : State} (hW : s.WarmedH U.vm) (hZ : va_Nw w s) : va_Nw w U := by
  cases w <;> first | exact va_Nw.warmM hW hZ | exact va_Nw.warmC hW hZ | exact va_Nw.warmD hW hZ | (exact absurd h (by simp [isNW]))
def Xe (D : va_G) (ca : Nat → ClassId) (b : Nat) (U : State) (H : Heap) : Prop :=
  va_K D vwCl (tysL ca) U ∧ (∀ w ∈ nwL, va_Nw w U) ∧ (∀ q ∈ ncL, va_Nc q.1 q.2 U) ∧ (∀ q ∈ stL, ∃ sa, vk_R "RingHerd" q.1 q.2 sa U) ∧ (∀ C ∈ aoL, va_AO C U) ∧
  vx_Zq Bundle.tN "UNASSIGNED_STACK" Bundle.steD (fun q => b ≤ q) U H ∧ vx_Zq Bundle.tN "SUPPRESSED_SENTINEL" Bundle.listD (fun q => b ≤ q) U H
theorem Xe.warm {D : va_G} {ca : Nat → ClassId} {b : Nat} {s U : State} {H H1 : Heap} (h : Xe D ca b s H) (hW : s.WarmedH U.vm) (hH : ∀ a : Nat, a < H.size → ¬ b ≤ a → H1[a]? = H[a]?) : Xe D ca b U H1 := by
  obtain ⟨h1, h2, h3, h4, h5, h6, h7⟩ := h
  exact ⟨va_K.moved hW.alike h1, fun w hw => nw_warm (nwL_ok w hw) hW (h2 w hw), fun q hq => (h3 q hq).moved hW.alike, fun q hq => by obtain ⟨sa, hs⟩ := h4 q hq; exact ⟨sa, vk_R.warm hW hs⟩, fun C hC => (h5 C hC).moved hW.alike, (h6.moved hW.alike).kept hH, (h7.moved hW.alike).kept hH⟩
def Pw (D : va_G) (ca : Nat → ClassId) (nx : Bool) (b sz : Nat) (M : Mem) (U : State) : Prop :=
  U.heap.size = sz ∧ b ≤ sz ∧ (∀ q, M.1 q < 16 → b ≤ q) ∧ Rg D ca M U.heap ∧ (nx = true → mm_x M = U.heap.size) ∧ Xe D ca b U U.heap
theorem Pw_blind {D : va_G} {ca : Nat → ClassId} {nx : Bool} {b sz : Nat} {M : Mem} {As : List Value} : FrameBlind (va_Pc As (Pw D ca nx b sz M)) := by
  intro a U g mk h
  obtain ⟨h0, h1, h2, h3, h4, h5, h6⟩ := h
  have hW : U.WarmedH (U.calling g mk a).vm := State.WarmedH.refl U
  exact ⟨h0, h1, h2, h3, h4, h5, h6.warm hW (fun _ _ _ => rfl)⟩
def fA (M : Mem) (sz : Nat) : Nat → Prop := fun q => M.1 q < 16 ∨ sz ≤ q
def cvI (D : va_G) (ca : Nat → ClassId) (nx : Bool) (A : Nat → Prop) (r : Mem × Int32) : Array Value → State → Outcome → State → Prop := va_Qi (S := Unit) (fun v _ => v = r.2) (fun _ t => Wr D ca nx A r.1 t.heap) A
def cvL (D : va_G) (ca : Nat → ClassId) (nx : Bool) (A : Nat → Prop) (r : Mem × Int64) : Array Value → State → Outcome → State → Prop := va_Ql (S := Unit) (fun v _ => v = r.2) (fun _ t => Wr D ca nx A r.1 t.heap) A
def cvV (D : va_G) (ca : Nat → ClassId) (nx : Bool) (A : Nat → Prop) (r : Mem) : Array Value → State → Outcome → State → Prop := va_Qv (S := Unit) (fun _ => True) (fun _ t => Wr D ca nx A r t.heap) A
def exN : Nat → String := fun k => match k with
  | 0 => "java/lang/IllegalArgumentException"
  | 1 => "java/lang/IllegalStateException"
  | _ => "java/lang/IndexOutOfBoundsException"
def cxI (D : va_G) (ca : Nat → ClassId) (A : Nat → Prop) (r : Mem × (Int32 ⊕ Nat)) : Array Value → State → Outcome → State → Prop := va_Qi (S := Unit) (fun v _ => r.2 = .inl v) (fun _ t => Wr D ca false A r.1 t.heap) A
def cxL (D : va_G) (ca : Nat → ClassId) (A : Nat → Prop) (r : Mem × (Int64 ⊕ Nat)) : Array Value → State → Outcome → State → Prop := va_Ql (S := Unit) (fun v _ => r.2 = .inl v) (fun _ t => Wr D ca false A r.1 t.heap) A
def cxV (D : va_G) (ca : Nat → ClassId) (A : Nat → Prop) (r : Mem × (Unit ⊕ Nat)) : Array Value → State → Outcome → State → Prop := va_Qv (S := Unit) (fun _ => r.2 = .inl ()) (fun _ t => Wr D ca false A r.1 t.heap) A
def cxX {γ : Type} (D : va_G) (ca : Nat → ClassId) (A : Nat → Prop) (r : Mem × (γ ⊕ Nat)) : String → State → State → Prop := vx_X (S := Unit) (fun _ => True) (fun E _ t => (∃ k, r.2 = .inr k ∧ E = exN k) ∧ Wr D ca false A r.1 t.heap) A
/-- a method's contract, by what it hands back: int (boolean), long, nothing; .. or throws -/
def CtI (l : Launch) (y : MethodName) (cc : ByteArray) (maxL : Nat) (ret : Option FieldType) (rm : Room) (D : va_G) (ca : Nat → ClassId) (b : Nat) (nx : Bool) (As : List Value) (M : Mem) (r : Mem × Int32) : Prop := ∀ sz, Met l y (Cond.code y cc maxL ret :: aw) rm (va_Pc As (Pw D ca nx b sz M)) (cvI D ca nx (fA M sz) r) 0 0 (fA M sz)
def CtL (l : Launch) (y : MethodName) (cc : ByteArray) (maxL : Nat) (ret : Option FieldType) (rm : Room) (D : va_G) (ca : Nat → ClassId) (b : Nat) (nx : Bool) (As : List Value) (M : Mem) (r : Mem × Int64) : Prop := ∀ sz, Met l y (Cond.code y cc maxL ret :: aw) rm (va_Pc As (Pw D ca nx b sz M)) (cvL D ca nx (fA M sz) r) 0 0 (fA M sz)
def CtV (l : Launch) (y : MethodName) (cc : ByteArray) (maxL : Nat) (ret : Option FieldType) (rm : Room) (D : va_G) (ca : Nat → ClassId) (b : Nat) (nx : Bool) (As : List Value) (M : Mem) (r : Mem) (mc ms : Nat) : Prop := ∀ sz, Met l y (Cond.code y cc maxL ret :: aw) rm (va_Pc As (Pw D ca nx b sz M)) (cvV D ca nx (fA M sz) r) mc ms (fA M sz)
def CxI (l : Launch) (y : MethodName) (cc : ByteArray) (maxL : Nat) (ret : Option FieldType) (rm : Room) (D : va_G) (ca : Nat → ClassId) (b : Nat) (As : List Value) (M : Mem) (r : Mem × (Int32 ⊕ Nat)) (mc ms : Nat) : Prop := ∀ sz, vx_Met l y (Cond.code y cc maxL ret :: aw) rm (va_Pc As (Pw D ca false b sz M)) (cxI D ca (fA M sz) r) (cxX D ca (fA M sz) r) mc ms (fA M sz)
def CxL (l : Launch) (y : MethodName) (cc : ByteArray) (maxL : Nat) (ret : Option FieldType) (rm : Room) (D : va_G) (ca : Nat → ClassId) (b : Nat) (As : List Value) (M : Mem) (r : Mem × (Int64 ⊕ Nat)) (mc ms : Nat) : Prop := ∀ sz, vx_Met l y (Cond.code y cc maxL ret :: aw) rm (va_Pc As (Pw D ca false b sz M)) (cxL D ca (fA M sz) r) (cxX D ca (fA M sz) r) mc ms (fA M sz)
def CxV (l : Launch) (y : MethodName) (cc : ByteArray) (maxL : Nat) (ret : Option FieldType) (rm : Room) (D : va_G) (ca : Nat → ClassId) (b : Nat) (As : List Value) (M : Mem) (r : Mem × (Unit ⊕ Nat)) (mc ms : Nat) : Prop := ∀ sz, vx_Met l y (Cond.code y cc maxL ret :: aw) rm (va_Pc As (Pw D ca false b sz M)) (cxV D ca (fA M sz) r) (cxX D ca (fA M sz) r) mc ms (fA M sz)
/-- what every body has from its start -/
def Cx (cc : ByteArray) (maxL : Nat) (y : MethodName) (D : va_G) (ca : Nat → ClassId) (b : Nat) (A : Nat → Prop) (p : Program) (s : State) (m : MethodId) (args : Array Value) (meth : Method) (c : Code) : Prop :=
  p.tables.exec = Jvm.exec ∧ c.code = cc ∧ c.maxLocals = maxL ∧ (∀ w ∈ aw, w.before args s = true) ∧ s.vm.findClass y.cls = some m.cls ∧ meth.locks = false ∧ Xe D ca b s s.heap ∧ (∀ q, s.heap.size ≤ q → A q) ∧ (∀ q, A q → b ≤ q) ∧ meth.name = y.name
section BODY
variable {l : Launch} {y : MethodName} {cc : ByteArray} {maxL : Nat} {ret : Option FieldType} {rm : Room} {D : va_G} {ca : Nat → ClassId} {b : Nat} {nx : Bool} {As : List Value} {M : Mem}
theorem body_start {sz mc ms : Nat} {Qc : (Nat → Prop) → Array Value → State → Outcome → State → Prop} (hy : plainName y.cls = true) (hn : (lg_sl As).length ≤ maxL)
    (body : ∀ (p : Program) (e : Env) (s : State) (m : MethodId) (args : Array Value) (below : List Frame) (meth : Method) (c : Code) (A : Nat → Prop), Cx cc maxL y D ca b A p s m args meth c → meth.sig.returnType = ret → Hp D ca nx A s M s.heap [] → ∀ ls : Array Slot, lv_has ls maxL (lv_args 0 As) →
      W p l e rm s m args below meth c s.heap [] 0 0 (MQ below (Qc A) args s mc ms A) (F0 m 0 ls [])) : Met l y (Cond.code y cc maxL ret :: aw) rm (va_Pc As (Pw D ca nx b sz M)) (Qc (fA M sz)) mc ms (fA M sz) := by
  refine Met.ofW (cc := cc) (maxL := maxL) (ret := ret) hy rfl ?_
  intro p e s m args below meth c s₁ B hml hv
  obtain ⟨rfl, hsz, hbs, hkb, hR, hX, hXe⟩ := hv
  subst hsz
  have hts := atoms_spec (ws := Cond.code y cc maxL ret :: aw) B.pre
  have hown : s.vm.findClass y.cls = some m.cls := findClass_of_methodNamed B.named
  have hnm : meth.name = y.name := (name_of_methodNamed B.named B.method).1
  have hl := lv_entry As (n := maxL) hn
  rw [lg_entry_eq]
  exact body p e s m As.toArray below meth c (fA M s.heap.size) ⟨B.exec, B.bytes, hml, fun w hw => hts w (List.mem_cons_of_mem _ hw), hown, B.notSynchronized, hXe, fun q hq => Or.inr hq, fun q hq => hq.elim (hkb q) (fun h => Nat.le_trans hbs h), hnm⟩ B.returns ⟨⟨hR, hX, fun q hq => Or.inl hq⟩, va_S.rf⟩ _ hl
theorem bodyx_start {sz mc ms : Nat} {Qc : (Nat → Prop) → Array Value → State → Outcome → State → Prop} {XC : (Nat → Prop) → String → State → State → Prop} (hy : plainName y.cls = true) (hn : (lg_sl As).length ≤ maxL)
    (body : ∀ (p : Program) (e : Env) (s : State) (m : MethodId) (args : Array Value) (below : List Frame) (meth : Method) (c : Code) (A : Nat → Prop), Cx cc maxL y D ca b A p s m args meth c → (∀ x ∈ c.exceptionTable.toList, False) → meth.sig.returnType = ret → Hp D ca nx A s M s.heap [] → ∀ ls : Array Slot, lv_has ls maxL (lv_args 0 As) →
      W p l e rm s m args below meth c s.heap [] 0 0 (vx_MQ below (Qc A) (XC A) args s mc ms A) (F0 m 0 ls [])) : vx_Met l y (Cond.code y cc maxL ret :: aw) rm (va_Pc As (Pw D ca nx b sz M)) (Qc (fA M sz)) (XC (fA M sz)) mc ms (fA M sz) := by
  refine vx_ofW (cc := cc) (maxL := maxL) (ret := ret) hy rfl ?_
  intro p e s m args below meth c s₁ B hml htab hv
  obtain ⟨rfl, hsz, hbs, hkb, hR, hX, hXe⟩ := hv
  subst hsz
  have hts := atoms_spec (ws := Cond.code y cc maxL ret :: aw) B.pre
  have hown : s.vm.findClass y.cls = some m.cls := findClass_of_methodNamed B.named
  have hnm : meth.name = y.name := (name_of_methodNamed B.named B.method).1
  have hl := lv_entry As (n := maxL) hn
  rw [lg_entry_eq]
  exact body p e s m As.toArray below meth c (fA M s.heap.size) ⟨B.exec, B.bytes, hml, fun w hw => hts w (List.mem_cons_of_mem _ hw), hown, B.notSynchronized, hXe, fun q hq => Or.inr hq, fun q hq => hq.elim (hkb q) (fun h => Nat.le_trans hbs h), hnm⟩ htab B.returns ⟨⟨hR, hX, fun q hq => Or.inl hq⟩, va_S.rf⟩ _ hl
end BODY
theorem aw_good : ∀ w ∈ aw, (w.onTables && w.keeps) = true ∨ ∃ ty, w = .arrayClass ty := fun w hw => good_of_word (List.mem_filter.mp hw).2
theorem gi_aw {w : Cond} (h : w ∈ aw) : GoodIn aw (w :: aw) := fun v hv => by
  rcases List.mem_cons.mp hv with e | hv
  · subst e; exact ⟨h, aw_good _ h⟩
  · exact ⟨hv, aw_good _ hv⟩
section CALLS
variable {p : Program} {l : Launch} {e : Env} {R : Room} {s : State} {m : MethodId} {args : Array Value} {below : List Frame} {meth : Method} {c : Code} {H : Heap} {locs : List Loc} {cells slots : Nat} {Q : State → Prop}
variable {cc : ByteArray} {pc maxL : Nat} {ls : Array Slot} {rest st0 : List Value} {D : va_G} {ca : Nat → ClassId} {nx : Bool} {A : Nat → Prop} {M : Mem} {α : Type} {r : α} {b : Nat} {yo : MethodName}
theorem pw_call (C : Cx cc maxL yo D ca b A p s m args meth c) (hR : Hp D ca nx A s M H locs) : ∀ U : State, U.heap = H → s.WarmedH U.vm → Pw D ca nx b H.size M U := by
  obtain ⟨-, -, -, -, -, -, hXe, hA, hAb, -⟩ := C
  intro U hU hW
  refine ⟨by rw [hU], Nat.le_trans (hAb _ (hA _ (Nat.le_refl _))) hR.2.1, fun q hq => hAb q (hR.1.2.2 q hq), by rw [hU]; exact hR.1.1, by rw [hU]; exact hR.1.2.1, by rw [hU]; exact hXe.warm hW (fun a h1 h2 => hR.2.2.1 a h1 (fun h => h2 (hAb a h)))⟩
variable {y : MethodName} {bytes : ByteArray} {maxL' mc ms n index : Nat} {ret : Option FieldType} {rm : Room} {Qc : Array Value → State → Outcome → State → Prop} {XC : String → State → State → Prop} {free : Addr → Prop} {As : List Value} {o : Nat}
theorem rn_cb (C : Cx cc maxL yo D ca b A p s m args meth c) (h1 : Cond.methodLink yo.cls index y ∈ aw) (h3 : Cond.initialized y.cls ∈ aw) (h4 : Cond.code y bytes maxL' ret ∈ aw) (hd : y.cls ≠ "java/lang/invoke/MethodHandle" ∧ y.cls ≠ "java/lang/invoke/VarHandle" ∧ (parseMethodDescriptor y.desc).map (fun d => d.parameters.length) = some n) (hRm : rm.cells = mc ∧ rm.slots = ms ∧ rm.frames + 1 ≤ R.frames ∧ 8 + (maxL' + 11) + rm.locals ≤ R.locals) :
    CallB R s args yo.cls index y bytes maxL' ret (Cond.code y bytes maxL' ret :: aw) rm mc ms n := by
  obtain ⟨-, -, -, hts, -⟩ := C
  exact callB_of n hts (gi_aw h4) rfl hRm.1 hRm.2.1 (hts _ h3) (hts _ h1) hd hRm.2.2
/-- a static method of the same class -/
theorem rn_S (C : Cx cc maxL yo D ca b A p s m args meth c) (hR : Hp D ca nx A s M H locs) (hM : Met l y (Cond.code y bytes maxL' ret :: aw) rm (va_Pc As (Pw D ca nx b H.size M)) Qc mc ms free) (h1 : Cond.methodLink yo.cls index y ∈ aw) (h2 : Cond.static y ∈ aw) (h3 : Cond.initialized y.cls ∈ aw) (h4 : Cond.code y bytes maxL' ret ∈ aw)
    (hd : y.cls ≠ "java/lang/invoke/MethodHandle" ∧ y.cls ≠ "java/lang/invoke/VarHandle" ∧ (parseMethodDescriptor y.desc).map (fun d => d.parameters.length) = some n) (hRm : rm.cells = mc ∧ rm.slots = ms ∧ rm.frames + 1 ≤ R.frames ∧ 8 + (maxL' + 11) + rm.locals ≤ R.locals)
    (hn : As.length = n) (hl : ls.size = maxL) (hst : st0 = As.reverse ++ rest) (hW : (rest.map fun v => v.category).sum ≤ 8) (hdg : decode cc pc = .ok (.invokestatic index, 3)) (hf : cells + mc ≤ R.cells ∧ slots + ms ≤ R.slots) :
    va_Run p l e R s m args below meth c H locs cells slots mc ms (F0 m pc ls st0) rest (Qc As.toArray) free := by
  have C0 := C
  obtain ⟨hx, hb, hml, hts, hown, -⟩ := C
  exact va_runS ⟨hx, hb, hml, hown, hts⟩ hM ⟨rn_cb C0 h1 h3 h4 hd hRm, hts _ h2⟩ ⟨Pw_blind, fun U hU hW9 => ⟨rfl, pw_call C0 hR U hU hW9⟩⟩ rfl hn hl hst (lv_room hW) hdg hf
/-- a static method of a nest mate -/
theorem rn_SN {host : String} (C : Cx cc maxL yo D ca b A p s m args meth c) (hR : Hp D ca nx A s M H locs) (hM : Met l y (Cond.code y bytes maxL' ret :: aw) rm (va_Pc As (Pw D ca nx b H.size M)) Qc mc ms free) (h1 : Cond.methodLinkNest yo.cls index y host ∈ nwL) (h2 : Cond.static y ∈ aw) (h3 : Cond.initialized y.cls ∈ aw) (h4 : Cond.code y bytes maxL' ret ∈ aw)
    (hd : y.cls ≠ "java/lang/invoke/MethodHandle" ∧ y.cls ≠ "java/lang/invoke/VarHandle" ∧ (parseMethodDescriptor y.desc).map (fun d => d.parameters.length) = some n) (hRm : rm.cells = mc ∧ rm.slots = ms ∧ rm.frames + 1 ≤ R.frames ∧ 8 + (maxL' + 11) + rm.locals ≤ R.locals)
    (hn : As.length = n) (hl : ls.size = maxL) (hst : st0 = As.reverse ++ rest) (hW : (rest.map fun v => v.category).sum ≤ 8) (hdg : decode cc pc = .ok (.invokestatic index, 3)) (hf : cells + mc ≤ R.cells ∧ slots + ms ≤ R.slots) :
    va_Run p l e R s m args below meth c H locs cells slots mc ms (F0 m pc ls st0) rest (Qc As.toArray) free := by
  have C0 := C
  obtain ⟨hx, hb, hml, hts, hown, -, hXe, -⟩ := C
  exact va_runSN ⟨hx, hb, hml, hown, hts⟩ hM ⟨va_cnB n hts (gi_aw h4) rfl hRm.1 hRm.2.1 (hXe.2.1 _ h1) (hts _ h3) hd hRm.2.2, hts _ h2, trivial⟩ ⟨Pw_blind, fun U hU hW9 => ⟨rfl, pw_call C0 hR U hU hW9⟩⟩ rfl hn hl hst (lv_room hW) hdg hf
theorem rg_rec {C : String} {T : u_T} {N κ : Nat} (hK : va_K D vwCl (tysL ca) s) (hR : Hp D ca nx A s M H locs) (hc : vwCl[κ]? = some (C, T, N)) (h9 : κ < 9) (hq : M.1 o = κ) : ∃ cell : Cell, H[o]? = some cell ∧ cell.vm.isStatics = false ∧ s.vm.findClass C = some cell.cls := by
  obtain ⟨cell, q1, q2, q3, -⟩ := hR.1.1.obj hq hc h9
  exact ⟨cell, q1, by rw [q3]; rfl, by rw [q2]; exact (hK.1 κ _ hc).2.1⟩
/-- a method of an object -/
theorem rn_V {T : u_T} {N κ : Nat} (C : Cx cc maxL yo D ca b A p s m args meth c) (hR : Hp D ca nx A s M H locs) (hc : vwCl[κ]? = some (y.cls, T, N)) (h9 : κ < 9) (hq : M.1 o = κ) (hM : Met l y (Cond.code y bytes maxL' ret :: aw) rm (va_Pc (.ref o :: As) (Pw D ca nx b H.size M)) Qc mc ms free) (h1 : Cond.methodLink yo.cls index y ∈ aw) (h2 : Cond.instanceMethod y ∈ aw) (h5 : Cond.selects y.cls y y ∈ aw) (h3 : Cond.initialized y.cls ∈ aw) (h4 : Cond.code y bytes maxL' ret ∈ aw)
    (hd : y.cls ≠ "java/lang/invoke/MethodHandle" ∧ y.cls ≠ "java/lang/invoke/VarHandle" ∧ (parseMethodDescriptor y.desc).map (fun d => d.parameters.length) = some n) (hRm : rm.cells = mc ∧ rm.slots = ms ∧ rm.frames + 1 ≤ R.frames ∧ 8 + (maxL' + 11) + rm.locals ≤ R.locals)
    (hn : As.length = n) (hl : ls.size = maxL) (hst : st0 = As.reverse ++ .ref o :: rest) (hW : (rest.map fun v => v.category).sum ≤ 8) (hdg : decode cc pc = .ok (.invokevirtual index, 3)) (hf : cells + mc ≤ R.cells ∧ slots + ms ≤ R.slots) :
    va_Run p l e R s m args below meth c H locs cells slots mc ms (F0 m pc ls st0) rest (Qc (Value.ref o :: As).toArray) free := by
  have C0 := C
  obtain ⟨hx, hb, hml, hts, hown, -, hXe, -⟩ := C
  exact va_runV ⟨hx, hb, hml, hown, hts⟩ hM ⟨rn_cb C0 h1 h3 h4 hd hRm, hts _ h2, hts _ h5⟩ ⟨Pw_blind, rg_rec hXe.1 hR hc h9 hq, fun U hU hW9 => ⟨rfl, pw_call C0 hR U hU hW9⟩⟩ rfl hn hl hst (lv_room hW) hdg hf
/-- a nest mate's constructor -/
theorem rn_IN {host : String} (C : Cx cc maxL yo D ca b A p s m args meth c) (hR : Hp D ca nx A s M H locs) (hM : Met l y (Cond.code y bytes maxL' none :: aw) rm (va_Pc (.ref o :: As) (Pw D ca nx b H.size M)) Qc mc ms free) (h1 : Cond.methodLinkNest yo.cls index y host ∈ nwL) (h2 : Cond.instanceMethod y ∈ aw) (h3 : Cond.initialized y.cls ∈ aw) (h4 : Cond.code y bytes maxL' none ∈ aw) (hy1 : y.name = "<init>")
    (hd : y.cls ≠ "java/lang/invoke/MethodHandle" ∧ y.cls ≠ "java/lang/invoke/VarHandle" ∧ (parseMethodDescriptor y.desc).map (fun d => d.parameters.length) = some n) (hRm : rm.cells = mc ∧ rm.slots = ms ∧ rm.frames + 1 ≤ R.frames ∧ 8 + (maxL' + 11) + rm.locals ≤ R.locals)
    (hn : As.length = n) (hl : ls.size = maxL) (hst : st0 = As.reverse ++ .ref o :: rest) (hW : (rest.map fun v => v.category).sum ≤ 8) (hdg : decode cc pc = .ok (.invokespecial index, 3)) (hf : cells + mc ≤ R.cells ∧ slots + ms ≤ R.slots) :
    va_Run p l e R s m args below meth c H locs cells slots mc ms (F0 m pc ls st0) rest (Qc (Value.ref o :: As).toArray) free := by
  have C0 := C
  obtain ⟨hx, hb, hml, hts, hown, -, hXe, -⟩ := C
  exact va_runIN ⟨hx, hb, hml, hown, hts⟩ hM ⟨va_cnB n hts (gi_aw h4) rfl hRm.1 hRm.2.1 (hXe.2.1 _ h1) (hts _ h3) hd hRm.2.2, hy1, hts _ h2⟩ ⟨Pw_blind, fun U hU hW9 => ⟨rfl, pw_call C0 hR U hU hW9⟩⟩ rfl hn hl hst (lv_room hW) hdg hf
/-- a constructor of an open class -/
theorem rn_Ic (C : Cx cc maxL yo D ca b A p s m args meth c) (hR : Hp D ca nx A s M H locs) (hM : Met l y (Cond.code y bytes maxL' none :: aw) rm (va_Pc (.ref o :: As) (Pw D ca nx b H.size M)) Qc mc ms free) (h1 : Cond.methodLink yo.cls index y ∈ aw) (h2 : Cond.instanceMethod y ∈ aw) (h3 : Cond.initialized y.cls ∈ aw) (h4 : Cond.code y bytes maxL' none ∈ aw) (hy1 : y.name = "<init>")
    (hd : y.cls ≠ "java/lang/invoke/MethodHandle" ∧ y.cls ≠ "java/lang/invoke/VarHandle" ∧ (parseMethodDescriptor y.desc).map (fun d => d.parameters.length) = some n) (hRm : rm.cells = mc ∧ rm.slots = ms ∧ rm.frames + 1 ≤ R.frames ∧ 8 + (maxL' + 11) + rm.locals ≤ R.locals)
    (hn : As.length = n) (hl : ls.size = maxL) (hst : st0 = As.reverse ++ .ref o :: rest) (hW : (rest.map fun v => v.category).sum ≤ 8) (hdg : decode cc pc = .ok (.invokespecial index, 3)) (hf : cells + mc ≤ R.cells ∧ slots + ms ≤ R.slots) :
    va_Run p l e R s m args below meth c H locs cells slots mc ms (F0 m pc ls st0) rest (Qc (Value.ref o :: As).toArray) free := by
  have C0 := C
  obtain ⟨hx, hb, hml, hts, hown, -, hXe, -⟩ := C
  exact va_runI ⟨hx, hb, hml, hown, hts⟩ hM ⟨rn_cb C0 h1 h3 h4 hd hRm, hy1, hts _ h2⟩ ⟨Pw_blind, fun U hU hW9 => ⟨rfl, pw_call C0 hR U hU hW9⟩⟩ rfl hn hl hst (lv_room hW) hdg hf
theorem fA_A (hR : Hp D ca nx A s M H locs) (hA : ∀ q, s.heap.size ≤ q → A q) : ∀ q, fA M H.size q → A q := fun q h => h.elim (hR.1.2.2 q) (fun h => hA q (Nat.le_trans hR.2.1 h))
theorem Wr.up {A1 : Nat → Prop} {M1 : Mem} {H1 : Heap} (h : Wr D ca nx A1 M1 H1) (hA : ∀ q, A1 q → A q) : Wr D ca nx A M1 H1 := ⟨h.1, h.2.1, fun q hq => hA q (h.2.2 q hq)⟩
/-- a call goes on, by what comes back -/
theorem rg_I {a : Array Value} {fy : Option (Mem × Int32)} {F : Mem × Int32 → Option α} (hf : bd fy F = some r) (hR : Hp D ca nx A s M H locs) (hA : ∀ q, s.heap.size ≤ q → A q) (hr : ∀ z, fy = some z → va_Run p l e R s m args below meth c H locs cells slots mc ms (F0 m pc ls st0) rest (cvI D ca nx (fA M H.size) z a) (fA M H.size))
    (kk : ∀ (z : Mem × Int32) (H1 : Heap) (locs1 : List Loc), F z = some r → Hp D ca nx A s z.1 H1 locs1 → W p l e R s m args below meth c H1 locs1 (cells + mc) (slots + ms) Q (F0 m (pc + 3) ls (.int z.2 :: rest))) : W p l e R s m args below meth c H locs cells slots Q (F0 m pc ls st0) := by
  obtain ⟨z, hz, hf⟩ := bd_e hf
  have hAA := fA_A hR hA
  refine va_calli (hr z hz) hR.2 (fun q _ h => hAA q h) hAA (fun v u t H1 locs1 ht hvm hw hB hz1 hk1 hS => ?_)
  rw [ht] at hB
  rw [hw]
  exact kk z H1 locs1 hf ⟨hB.up hAA, hS⟩
theorem rg_L {a : Array Value} {fy : Option (Mem × Int64)} {F : Mem × Int64 → Option α} (hf : bd fy F = some r) (hR : Hp D ca nx A s M H locs) (hA : ∀ q, s.heap.size ≤ q → A q) (hr : ∀ z, fy = some z → va_Run p l e R s m args below meth c H locs cells slots mc ms (F0 m pc ls st0) rest (cvL D ca nx (fA M H.size) z a) (fA M H.size))
    (kk : ∀ (z : Mem × Int64) (H1 : Heap) (locs1 : List Loc), F z = some r → Hp D ca nx A s z.1 H1 locs1 → W p l e R s m args below meth c H1 locs1 (cells + mc) (slots + ms) Q (F0 m (pc + 3) ls (.long z.2 :: rest))) : W p l e R s m args below meth c H locs cells slots Q (F0 m pc ls st0) := by
  obtain ⟨z, hz, hf⟩ := bd_e hf
  have hAA := fA_A hR hA
  refine va_calll (hr z hz) hR.2 (fun q _ h => hAA q h) hAA (fun v u t H1 locs1 ht hvm hw hB hz1 hk1 hS => ?_)
  rw [ht] at hB
  rw [hw]
  exact kk z H1 locs1 hf ⟨hB.up hAA, hS⟩
theorem rg_V {a : Array Value} {fy : Option Mem} {F : Mem → Option α} (hf : bd fy F = some r) (hR : Hp D ca nx A s M H locs) (hA : ∀ q, s.heap.size ≤ q → A q) (hr : ∀ z, fy = some z → va_Run p l e R s m args below meth c H locs cells slots mc ms (F0 m pc ls st0) rest (cvV D ca nx (fA M H.size) z a) (fA M H.size))
    (kk : ∀ (z : Mem) (H1 : Heap) (locs1 : List Loc), F z = some r → Hp D ca nx A s z H1 locs1 → W p l e R s m args below meth c H1 locs1 (cells + mc) (slots + ms) Q (F0 m (pc + 3) ls rest)) : W p l e R s m args below meth c H locs cells slots Q (F0 m pc ls st0) := by
  obtain ⟨z, hz, hf⟩ := bd_e hf
  have hAA := fA_A hR hA
  refine va_callv (hr z hz) hR.2 (fun q _ h => hAA q h) hAA (fun u t H1 locs1 ht hvm hw hB hz1 hk1 hS => ?_)
  rw [ht] at hB
  exact kk z H1 locs1 hf ⟨hB.up hAA, hS⟩
/-- ends -/
theorem rg_iret (hx : p.tables.exec = Jvm.exec) (hb : c.code = cc) (hlocks : meth.locks = false) (hr : meth.sig.returnType = some .int) {v : Int32} {z : Mem × Int32} (hf : some (M, v) = some z) (hR : Hp D ca nx A s M H locs) (hdg : decode cc pc = .ok (.ireturn, 1)) :
    W p l e R s m args below meth c H locs cells slots (MQ below (cvI D ca nx A z) args s cells slots A) (F0 m pc ls [.int v]) := by
  cases hf
  exact W.iret (v := v) hx hb hr (fun t ht hW => ⟨⟨v, (), rfl, rfl, by show Wr _ _ _ _ _ t.heap; rw [ht]; exact hR.1⟩, hR.2.F ht⟩) hR.2.2.2 hdg
theorem rg_zret (hx : p.tables.exec = Jvm.exec) (hb : c.code = cc) (hlocks : meth.locks = false) (hr : meth.sig.returnType = some .boolean) {v : Int32} {z : Mem × Int32} (hf : gd (v = 0 ∨ v = 1) (some (M, v)) = some z) (hR : Hp D ca nx A s M H locs) (hdg : decode cc pc = .ok (.ireturn, 1)) :
    W p l e R s m args below meth c H locs cells slots (MQ below (cvI D ca nx A z) args s cells slots A) (F0 m pc ls [.int v]) := by
  obtain ⟨hv, hf⟩ := gd_e hf
  cases hf
  exact W.zret (v := v) hx hb hr (by rcases hv with rfl | rfl <;> rfl) (fun t ht hW => ⟨⟨v, (), rfl, rfl, by show Wr _ _ _ _ _ t.heap; rw [ht]; exact hR.1⟩, hR.2.F ht⟩) hR.2.2.2 hdg
theorem rg_lret (hx : p.tables.exec = Jvm.exec) (hb : c.code = cc) (hlocks : meth.locks = false) (hr : meth.sig.returnType = some .long) {v : Int64} {z : Mem × Int64} (hf : some (M, v) = some z) (hR : Hp D ca nx A s M H locs) (hdg : decode cc pc = .ok (.lreturn, 1)) :
    W p l e R s m args below meth c H locs cells slots (MQ below (cvL D ca nx A z) args s cells slots A) (F0 m pc ls [.long v]) := by
  cases hf
  exact W.lret (v := v) hx hb hr (fun t ht hW => ⟨⟨v, (), rfl, rfl, by show Wr _ _ _ _ _ t.heap; rw [ht]; exact hR.1⟩, hR.2.F ht⟩) hR.2.2.2 hdg
theorem rg_vret (hx : p.tables.exec = Jvm.exec) (hb : c.code = cc) (hlocks : meth.locks = false) (hr : meth.sig.returnType = none) {z : Mem} (hf : some M = some z) (hR : Hp D ca nx A s M H locs) (hdg : decode cc pc = .ok (.return_, 1)) :
    W p l e R s m args below meth c H locs cells slots (MQ below (cvV D ca nx A z) args s cells slots A) (F0 m pc ls []) := by
  cases hf
  exact W.vret hx hb hr (fun t ht hW => ⟨⟨(), rfl, trivial, by show Wr _ _ _ _ _ t.heap; rw [ht]; exact hR.1⟩, hR.2.F ht⟩) hR.2.2.2 hdg
end CALLS
end
section
/-! ===== THROWS, and calls of what throws (no traces kept) ===== -/
section XR
variable {p : Program} {l : Launch} {e : Env} {R : Room} {s : State} {m : MethodId} {args : Array Value} {below : List Frame} {meth : Method} {c : Code} {H : Heap} {locs : List Loc} {cells slots : Nat}
variable {cc : ByteArray} {pc maxL : Nat} {ls : Array Slot} {rest st0 : List Value} {D : va_G} {ca : Nat → ClassId} {A : Nat → Prop} {M : Mem} {b : Nat} {yo : MethodName}
variable {γ : Type} {r : Mem × (γ ⊕ Nat)} {Qc : Array Value → State → Outcome → State → Prop} {mcT msT mc ms : Nat} {a : Array Value}
theorem rg_xout {β : Type} {z : Mem × (β ⊕ Nat)} {k : Nat} {E : String} {ce : Cell} {q9 : Addr} {H1 : Heap} {locs1 : List Loc} (htab : ∀ x ∈ c.exceptionTable.toList, False) (hlocks : meth.locks = false) (he : E = exN k) (hr : r = (z.1, .inr k)) (hW : Wr D ca false A z.1 H1) (hS : va_S A s.heap H1 locs1) (hce : H1[q9]? = some ce) (hcv : ce.vm = .none) (hcl : s.vm.findClass E = some ce.cls) (hc : cells ≤ mcT) (hs : slots ≤ msT) :
    vx_W p l e R s m args below meth c H1 locs1 cells slots (vx_MQ below Qc (cxX D ca A r) args s mcT msT A) (F0 m pc ls rest) q9 := by
  refine vx_out (fun x hx => (htab x hx).elim) hlocks hce hcv hcl (fun t ht hvm => ?_) hS.2.2 hc hs
  subst hr
  exact ⟨(), trivial, ⟨⟨k, rfl, he⟩, by show Wr _ _ _ _ _ t.heap; rw [ht]; exact hW⟩, hS.F ht⟩
theorem rg_xI {fy : Option (Mem × (Int32 ⊕ Nat))} {F : Mem → Int32 → Option (Mem × (γ ⊕ Nat))} (hf : bx fy F = some r) (hR : Hp D ca false A s M H locs) (hA : ∀ q, s.heap.size ≤ q → A q) (htab : ∀ x ∈ c.exceptionTable.toList, False) (hlocks : meth.locks = false) (hc : cells + mc ≤ mcT) (hs : slots + ms ≤ msT)
    (hr : ∀ z, fy = some z → vx_Run p l e R s m args below meth c H locs cells slots mc ms (F0 m pc ls st0) rest (cxI D ca (fA M H.size) z a) (cxX D ca (fA M H.size) z) (fA M H.size))
    (kk : ∀ (v : Int32) (M1 : Mem) (H1 : Heap) (locs1 : List Loc), F M1 v = some r → Hp D ca false A s M1 H1 locs1 → W p l e R s m args below meth c H1 locs1 (cells + mc) (slots + ms) (vx_MQ below Qc (cxX D ca A r) args s mcT msT A) (F0 m (pc + 3) ls (.int v :: rest))) : W p l e R s m args below meth c H locs cells slots (vx_MQ below Qc (cxX D ca A r) args s mcT msT A) (F0 m pc ls st0) := by
  cases fy with
  | none => cases hf
  | some z =>
    have hAA := fA_A hR hA
    refine vx_calli (hr z rfl) hR.2 (fun q _ h => hAA q h) hAA (fun q _ h => hAA q h) (fun E ce q9 u t H1 locs1 ht hvm hp hB hz hk hS hce hcv hcl => ?_) (fun v u t H1 locs1 ht hvm hw hB hz1 hk1 hS => ?_)
    · obtain ⟨⟨k, hk2, he⟩, hB⟩ := hB
      rw [ht] at hB
      obtain ⟨z1, z2⟩ := z
      subst hk2
      exact rg_xout (z := (z1, (.inr k : Int32 ⊕ Nat))) htab hlocks he (Option.some.inj hf).symm (hB.up hAA) hS hce hcv hcl hc hs
    · rw [ht] at hB
      obtain ⟨z1, z2⟩ := z
      subst hw
      exact kk v z1 H1 locs1 hf ⟨hB.up hAA, hS⟩
theorem rg_xV {fy : Option (Mem × (Unit ⊕ Nat))} {F : Mem → Unit → Option (Mem × (γ ⊕ Nat))} (hf : bx fy F = some r) (hR : Hp D ca false A s M H locs) (hA : ∀ q, s.heap.size ≤ q → A q) (htab : ∀ x ∈ c.exceptionTable.toList, False) (hlocks : meth.locks = false) (hc : cells + mc ≤ mcT) (hs : slots + ms ≤ msT)
    (hr : ∀ z, fy = some z → vx_Run p l e R s m args below meth c H locs cells slots mc ms (F0 m pc ls st0) rest (cxV D ca (fA M H.size) z a) (cxX D ca (fA M H.size) z) (fA M H.size))
    (kk : ∀ (M1 : Mem) (H1 : Heap) (locs1 : List Loc), F M1 () = some r → Hp D ca false A s M1 H1 locs1 → W p l e R s m args below meth c H1 locs1 (cells + mc) (slots + ms) (vx_MQ below Qc (cxX D ca A r) args s mcT msT A) (F0 m (pc + 3) ls rest)) : W p l e R s m args below meth c H locs cells slots (vx_MQ below Qc (cxX D ca A r) args s mcT msT A) (F0 m pc ls st0) := by
  cases fy with
  | none => cases hf
  | some z =>
    have hAA := fA_A hR hA
    refine vx_callv (hr z rfl) hR.2 (fun q _ h => hAA q h) hAA (fun q _ h => hAA q h) (fun E ce q9 u t H1 locs1 ht hvm hp hB hz hk hS hce hcv hcl => ?_) (fun u t H1 locs1 ht hvm hw hB hz1 hk1 hS => ?_)
    · obtain ⟨⟨k, hk2, he⟩, hB⟩ := hB
      rw [ht] at hB
      obtain ⟨z1, z2⟩ := z
      subst hk2
      exact rg_xout (z := (z1, (.inr k : Unit ⊕ Nat))) htab hlocks he (Option.some.inj hf).symm (hB.up hAA) hS hce hcv hcl hc hs
    · rw [ht] at hB
      obtain ⟨z1, z2⟩ := z
      subst hw
      exact kk z1 H1 locs1 hf ⟨hB.up hAA, hS⟩
variable {y : MethodName} {bytes : ByteArray} {maxL' n index : Nat} {ret : Option FieldType} {rm : Room} {Qd : Array Value → State → Outcome → State → Prop} {XC : String → State → State → Prop} {free : Addr → Prop} {As : List Value} {o : Nat}
theorem xn_S (C : Cx cc maxL yo D ca b A p s m args meth c) (hR : Hp D ca false A s M H locs) (hM : vx_Met l y (Cond.code y bytes maxL' ret :: aw) rm (va_Pc As (Pw D ca false b H.size M)) Qd XC mc ms free) (h1 : Cond.methodLink yo.cls index y ∈ aw) (h2 : Cond.static y ∈ aw) (h3 : Cond.initialized y.cls ∈ aw) (h4 : Cond.code y bytes maxL' ret ∈ aw)
    (hd : y.cls ≠ "java/lang/invoke/MethodHandle" ∧ y.cls ≠ "java/lang/invoke/VarHandle" ∧ (parseMethodDescriptor y.desc).map (fun d => d.parameters.length) = some n) (hRm : rm.cells = mc ∧ rm.slots = ms ∧ rm.frames + 1 ≤ R.frames ∧ 8 + (maxL' + 11) + rm.locals ≤ R.locals)
    (hn : As.length = n) (hl : ls.size = maxL) (hst : st0 = As.reverse ++ rest) (hW : (rest.map fun v => v.category).sum ≤ 8) (hdg : decode cc pc = .ok (.invokestatic index, 3)) (hf : cells + mc ≤ R.cells ∧ slots + ms ≤ R.slots) :
    vx_Run p l e R s m args below meth c H locs cells slots mc ms (F0 m pc ls st0) rest (Qd As.toArray) XC free := by
  have C0 := C
  obtain ⟨hx, hb, hml, hts, hown, -⟩ := C
  exact vx_runS ⟨hx, hb, hml, hown, hts⟩ hM ⟨rn_cb C0 h1 h3 h4 hd hRm, hts _ h2⟩ ⟨Pw_blind, fun U hU hW9 => ⟨rfl, pw_call C0 hR U hU hW9⟩⟩ rfl hn hl hst (lv_room hW) hdg hf
theorem xn_V {T : u_T} {N κ : Nat} (C : Cx cc maxL yo D ca b A p s m args meth c) (hR : Hp D ca false A s M H locs) (hc : vwCl[κ]? = some (y.cls, T, N)) (h9 : κ < 9) (hq : M.1 o = κ) (hM : vx_Met l y (Cond.code y bytes maxL' ret :: aw) rm (va_Pc (.ref o :: As) (Pw D ca false b H.size M)) Qd XC mc ms free) (h1 : Cond.methodLink yo.cls index y ∈ aw) (h2 : Cond.instanceMethod y ∈ aw) (h5 : Cond.selects y.cls y y ∈ aw) (h3 : Cond.initialized y.cls ∈ aw) (h4 : Cond.code y bytes maxL' ret ∈ aw)
    (hd : y.cls ≠ "java/lang/invoke/MethodHandle" ∧ y.cls ≠ "java/lang/invoke/VarHandle" ∧ (parseMethodDescriptor y.desc).map (fun d => d.parameters.length) = some n) (hRm : rm.cells = mc ∧ rm.slots = ms ∧ rm.frames + 1 ≤ R.frames ∧ 8 + (maxL' + 11) + rm.locals ≤ R.locals)
    (hn : As.length = n) (hl : ls.size = maxL) (hst : st0 = As.reverse ++ .ref o :: rest) (hW : (rest.map fun v => v.category).sum ≤ 8) (hdg : decode cc pc = .ok (.invokevirtual index, 3)) (hf : cells + mc ≤ R.cells ∧ slots + ms ≤ R.slots) :
    vx_Run p l e R s m args below meth c H locs cells slots mc ms (F0 m pc ls st0) rest (Qd (Value.ref o :: As).toArray) XC free := by
  have C0 := C
  obtain ⟨hx, hb, hml, hts, hown, -, hXe, -⟩ := C
  exact vx_runV ⟨hx, hb, hml, hown, hts⟩ hM ⟨rn_cb C0 h1 h3 h4 hd hRm, hts _ h2, hts _ h5⟩ ⟨Pw_blind, rg_rec hXe.1 hR hc h9 hq, fun U hU hW9 => ⟨rfl, pw_call C0 hR U hU hW9⟩⟩ rfl hn hl hst (lv_room hW) hdg hf
/-- ends of a method that may throw -/
theorem rg_xiret (hx : p.tables.exec = Jvm.exec) (hb : c.code = cc) (hlocks : meth.locks = false) (hr : meth.sig.returnType = some .int) {v : Int32} {z : Mem × (Int32 ⊕ Nat)} (hf : some (M, .inl v) = some z) (hR : Hp D ca false A s M H locs) (hc : cells ≤ mcT) (hs : slots ≤ msT) (hdg : decode cc pc = .ok (.ireturn, 1)) :
    W p l e R s m args below meth c H locs cells slots (vx_MQ below (cxI D ca A z) (cxX D ca A z) args s mcT msT A) (F0 m pc ls [.int v]) := by
  cases hf
  exact W.widen hc hs (vx_ret (W.iret (v := v) hx hb hr (fun t ht hW => ⟨⟨v, (), rfl, rfl, by show Wr _ _ _ _ _ t.heap; rw [ht]; exact hR.1⟩, hR.2.F ht⟩) hR.2.2.2 hdg))
theorem rg_xzret (hx : p.tables.exec = Jvm.exec) (hb : c.code = cc) (hlocks : meth.locks = false) (hr : meth.sig.returnType = some .boolean) {v : Int32} {z : Mem × (Int32 ⊕ Nat)} (hf : gd (v = 0 ∨ v = 1) (some (M, .inl v)) = some z) (hR : Hp D ca false A s M H locs) (hc : cells ≤ mcT) (hs : slots ≤ msT) (hdg : decode cc pc = .ok (.ireturn, 1)) :
    W p l e R s m args below meth c H locs cells slots (vx_MQ below (cxI D ca A z) (cxX D ca A z) args s mcT msT A) (F0 m pc ls [.int v]) := by
  obtain ⟨hv, hf⟩ := gd_e hf
  cases hf
  exact W.widen hc hs (vx_ret (W.zret (v := v) hx hb hr (by rcases hv with rfl | rfl <;> rfl) (fun t ht hW => ⟨⟨v, (), rfl, rfl, by show Wr _ _ _ _ _ t.heap; rw [ht]; exact hR.1⟩, hR.2.F ht⟩) hR.2.2.2 hdg))
theorem rg_xlret (hx : p.tables.exec = Jvm.exec) (hb : c.code = cc) (hlocks : meth.locks = false) (hr : meth.sig.returnType = some .long) {v : Int64} {z : Mem × (Int64 ⊕ Nat)} (hf : some (M, .inl v) = some z) (hR : Hp D ca false A s M H locs) (hc : cells ≤ mcT) (hs : slots ≤ msT) (hdg : decode cc pc = .ok (.lreturn, 1)) :
    W p l e R s m args below meth c H locs cells slots (vx_MQ below (cxL D ca A z) (cxX D ca A z) args s mcT msT A) (F0 m pc ls [.long v]) := by
  cases hf
  exact W.widen hc hs (vx_ret (W.lret (v := v) hx hb hr (fun t ht hW => ⟨⟨v, (), rfl, rfl, by show Wr _ _ _ _ _ t.heap; rw [ht]; exact hR.1⟩, hR.2.F ht⟩) hR.2.2.2 hdg))
theorem rg_xvret (hx : p.tables.exec = Jvm.exec) (hb : c.code = cc) (hlocks : meth.locks = false) (hr : meth.sig.returnType = none) {z : Mem × (Unit ⊕ Nat)} (hf : some (M, .inl ()) = some z) (hR : Hp D ca false A s M H locs) (hc : cells ≤ mcT) (hs : slots ≤ msT) (hdg : decode cc pc = .ok (.return_, 1)) :
    W p l e R s m args below meth c H locs cells slots (vx_MQ below (cxV D ca A z) (cxX D ca A z) args s mcT msT A) (F0 m pc ls []) := by
  cases hf
  exact W.widen hc hs (vx_ret (W.vret hx hb hr (fun t ht hW => ⟨⟨(), rfl, rfl, by show Wr _ _ _ _ _ t.heap; rw [ht]; exact hR.1⟩, hR.2.F ht⟩) hR.2.2.2 hdg))
def exC : Nat → Nat := fun k => match k with
  | 0 => 179
  | 1 => 62
  | _ => 271
abbrev exS : List String := ["java/lang/RuntimeException", "java/lang/Exception"]
theorem at_ok : ∀ k, k < 3 → (vx_atS "RingHerd" (exC k) (exN k) exS).all (fun w => decide (w ∈ aw) || decide (w ∈ nwL)) = true := by decide +kernel
theorem at_ot : ∀ k, k < 3 → (vx_atS "RingHerd" (exC k) (exN k) exS).all vx_ot = true := by decide +kernel
theorem ex_fit : ∀ k, k < 3 → Bundle.fit (exN k) = true := by decide +kernel
theorem ex_fitS : ∀ n ∈ exS, Bundle.fit n = true := by decide +kernel
theorem ex_ini : ∀ k, k < 3 → Cond.initialized (exN k) ∈ aw := by decide +kernel
theorem at_ws {k : Nat} (hk : k < 3) (hts : ∀ w ∈ aw, w.before args s = true) (hnw : ∀ w ∈ nwL, va_Nw w s) : ∀ w ∈ vx_atS "RingHerd" (exC k) (exN k) exS, w.before args s = true := by
  intro w hw
  have h := List.all_eq_true.mp (at_ok k hk) w hw
  rw [Bool.or_eq_true] at h
  rcases h with h | h
  · exact hts w (of_decide_eq_true h)
  · have h2 := of_decide_eq_true h
    have h3 := nwL_ok w h2
    refine va_Nw.use ?_ (hnw w h2)
    cases w <;> first | rfl | (exact absurd h3 (by simp [isNW]))
theorem rg_thr (k : Nat) (hk3 : k < 3) {ik is : Nat} {text : String} (C : Cx cc maxL yo D ca b A p s m args meth c) (htab : ∀ x ∈ c.exceptionTable.toList, False) (hlt : l.stackTraces = false) (hls : ls.size = maxL) (hyo : yo.cls = "RingHerd") (hik : Cond.classLink "RingHerd" ik (exN k) ∈ aw) (hst : (is, text) ∈ stL) (hf : some (M, .inr k) = some r) (hR : Hp D ca false A s M H locs)
    (d0 : decode cc pc = .ok (.new ik, 3)) (d3 : decode cc (pc + 3) = .ok (.dup, 1)) (d4 : decode cc (pc + 4) = .ok (.ldc is, 2)) (d6 : decode cc (pc + 6) = .ok (.invokespecial (exC k), 3)) (d9 : decode cc (pc + 9) = .ok (.athrow, 1))
    (hRf : 6 ≤ R.frames) (hRl : (rest.map fun v => v.category).sum + 82 ≤ R.locals) (hRc : cells + 1 ≤ R.cells) (hRs : slots + 6 ≤ R.slots) (hc : cells + 1 ≤ mcT) (hs : slots + 6 ≤ msT) :
    W p l e R s m args below meth c H locs cells slots (vx_MQ below Qc (cxX D ca A r) args s mcT msT A) (F0 m pc ls rest) := by
  cases hf
  obtain ⟨hx, hb, hml, hts, hown, hlocks, hXe, hA, hAb, -⟩ := C
  obtain ⟨sa, hstr⟩ := hXe.2.2.2.1 _ hst
  have hats := at_ws hk3 hts hXe.2.1
  rw [hyo] at hown
  refine vx_throwS (A := A) (own := "RingHerd") (cls := exN k) (names := exS) hx hb hlt hown (ex_fit k hk3) ex_fitS (hts _ hik) (hts _ (ex_ini k hk3)) hstr hats ?_ (hXe.2.2.2.2.2.1.narrow hAb) (hXe.2.2.2.2.2.2.narrow hAb) hR.2 (hls.trans hml.symm) d0 d3 d4 d6 d9 (fun x hx => (htab x hx).elim) hRf (by show _ + 82 ≤ _; exact hRl) hRc hRs hlocks (fun t hvm h1 h2 => ?_) hR.2.2.2 hc hs
  · intro w hw
    rcases List.mem_cons.mp hw with e | hw
    · subst e; rfl
    · rcases List.mem_cons.mp hw with e | hw
      · subst e; rfl
      · exact List.all_eq_true.mp (at_ot k hk3) w hw
  · exact ⟨(), trivial, ⟨⟨k, rfl, rfl⟩, hR.1.1.kept (fun q hq => h2 q (hR.1.1.lt hq)), fun h => (by cases h), hR.1.2.2⟩, Nat.le_trans hR.2.1 h1, fun q hq hnq => (h2 q (Nat.lt_of_lt_of_le hq hR.2.1)).trans (hR.2.2.1 q hq hnq)⟩
theorem rg_thrW (k : Nat) (hk3 : k < 3) {ik is : Nat} {text : String} (C : Cx cc maxL yo D ca b A p s m args meth c) (htab : ∀ x ∈ c.exceptionTable.toList, False) (hlt : l.stackTraces = false) (hls : ls.size = maxL) (hyo : yo.cls = "RingHerd") (hik : Cond.classLink "RingHerd" ik (exN k) ∈ aw) (hst : (is, text) ∈ stL) (hf : some (M, .inr k) = some r) (hR : Hp D ca false A s M H locs)
    (d0 : decode cc pc = .ok (.new ik, 3)) (d3 : decode cc (pc + 3) = .ok (.dup, 1)) (d4 : decode cc (pc + 4) = .ok (.ldc_w is, 3)) (d7 : decode cc (pc + 7) = .ok (.invokespecial (exC k), 3)) (d10 : decode cc (pc + 10) = .ok (.athrow, 1))
    (hRf : 6 ≤ R.frames) (hRl : (rest.map fun v => v.category).sum + 82 ≤ R.locals) (hRc : cells + 1 ≤ R.cells) (hRs : slots + 6 ≤ R.slots) (hc : cells + 1 ≤ mcT) (hs : slots + 6 ≤ msT) :
    W p l e R s m args below meth c H locs cells slots (vx_MQ below Qc (cxX D ca A r) args s mcT msT A) (F0 m pc ls rest) := by
  cases hf
  obtain ⟨hx, hb, hml, hts, hown, hlocks, hXe, hA, hAb, -⟩ := C
  obtain ⟨sa, hstr⟩ := hXe.2.2.2.1 _ hst
  have hats := at_ws hk3 hts hXe.2.1
  rw [hyo] at hown
  refine vx_throwSW (A := A) (own := "RingHerd") (cls := exN k) (names := exS) hx hb hlt hown (ex_fit k hk3) ex_fitS (hts _ hik) (hts _ (ex_ini k hk3)) hstr hats ?_ (hXe.2.2.2.2.2.1.narrow hAb) (hXe.2.2.2.2.2.2.narrow hAb) hR.2 (hls.trans hml.symm) d0 d3 d4 d7 d10 (fun x hx => (htab x hx).elim) hRf (by show _ + 82 ≤ _; exact hRl) hRc hRs hlocks (fun t hvm h1 h2 => ?_) hR.2.2.2 hc hs
  · intro w hw
    rcases List.mem_cons.mp hw with e | hw
    · subst e; rfl
    · rcases List.mem_cons.mp hw with e | hw
      · subst e; rfl
      · exact List.all_eq_true.mp (at_ot k hk3) w hw
  · exact ⟨(), trivial, ⟨⟨k, rfl, rfl⟩, hR.1.1.kept (fun q hq => h2 q (hR.1.1.lt hq)), fun h => (by cases h), hR.1.2.2⟩, Nat.le_trans hR.2.1 h1, fun q hq hnq => (h2 q (Nat.lt_of_lt_of_le hq hR.2.1)).trans (hR.2.2.1 q hq hnq)⟩
end XR
/-! ===== WHAT IS MADE: objects and arrays, in constructors ===== -/
def dv_ (κ j : Nat) : Value := if fty κ j = 0 then .int 0 else if fty κ j = 1 then .long 0 else .null
theorem df_0 : ∀ j, j < 4 → defaultValue (tyX0 j) = dv_ 0 j := by
  intro j hj
  rcases (show j = 0 ∨ j = 1 ∨ j = 2 ∨ j = 3 by omega) with rfl | rfl | rfl | rfl <;> rfl
theorem in_0 : ∀ w ∈ u_ws RX0 TX0 4, w ∈ aw := by decide +kernel
theorem df_1 : ∀ j, j < 2 → defaultValue (tyX1 j) = dv_ 1 j := by
  intro j hj
  rcases (show j = 0 ∨ j = 1 by omega) with rfl | rfl <;> rfl
theorem in_1 : ∀ w ∈ u_ws RX1 TX1 2, w ∈ aw := by decide +kernel
theorem df_2 : ∀ j, j < 7 → defaultValue (tyX2 j) = dv_ 2 j := by
  intro j hj
  rcases (show j = 0 ∨ j = 1 ∨ j = 2 ∨ j = 3 ∨ j = 4 ∨ j = 5 ∨ j = 6 by omega) with rfl | rfl | rfl | rfl | rfl | rfl | rfl <;> rfl
theorem in_2 : ∀ w ∈ u_ws RX2 TX2 7, w ∈ aw := by decide +kernel
theorem df_3 : ∀ j, j < 7 → defaultValue (tyX3 j) = dv_ 3 j := by
  intro j hj
  rcases (show j = 0 ∨ j = 1 ∨ j = 2 ∨ j = 3 ∨ j = 4 ∨ j = 5 ∨ j = 6 by omega) with rfl | rfl | rfl | rfl | rfl | rfl | rfl <;> rfl
theorem in_3 : ∀ w ∈ u_ws RX3 TX3 7, w ∈ aw := by decide +kernel
theorem df_4 : ∀ j, j < 13 → defaultValue (tyX4 j) = dv_ 4 j := by
  intro j hj
  rcases (show j = 0 ∨ j = 1 ∨ j = 2 ∨ j = 3 ∨ j = 4 ∨ j = 5 ∨ j = 6 ∨ j = 7 ∨ j = 8 ∨ j = 9 ∨ j = 10 ∨ j = 11 ∨ j = 12 by omega) with rfl | rfl | rfl | rfl | rfl | rfl | rfl | rfl | rfl | rfl | rfl | rfl | rfl <;> rfl
theorem in_4 : ∀ w ∈ u_ws RX4 TX4 13, w ∈ aw := by decide +kernel
theorem df_5 : ∀ j, j < 3 → defaultValue (tyX5 j) = dv_ 5 j := by
  intro j hj
  rcases (show j = 0 ∨ j = 1 ∨ j = 2 by omega) with rfl | rfl | rfl <;> rfl
theorem in_5 : ∀ w ∈ u_ws RX5 TX5 3, w ∈ aw := by decide +kernel
theorem df_6 : ∀ j, j < 1 → defaultValue (tyX6 j) = dv_ 6 j := by
  intro j hj
  rcases (show j = 0 by omega) with rfl <;> rfl
theorem in_6 : ∀ w ∈ u_ws RX6 TX6 1, w ∈ aw := by decide +kernel
theorem df_7 : ∀ j, j < 11 → defaultValue (tyX7 j) = dv_ 7 j := by
  intro j hj
  rcases (show j = 0 ∨ j = 1 ∨ j = 2 ∨ j = 3 ∨ j = 4 ∨ j = 5 ∨ j = 6 ∨ j = 7 ∨ j = 8 ∨ j = 9 ∨ j = 10 by omega) with rfl | rfl | rfl | rfl | rfl | rfl | rfl | rfl | rfl | rfl | rfl <;> rfl
theorem in_7 : ∀ w ∈ u_ws RX7 TX7 11, w ∈ aw := by decide +kernel
theorem df_8 : ∀ j, j < 37 → defaultValue (tyX8 j) = dv_ 8 j := by
  intro j hj
  rcases (show j = 0 ∨ j = 1 ∨ j = 2 ∨ j = 3 ∨ j = 4 ∨ j = 5 ∨ j = 6 ∨ j = 7 ∨ j = 8 ∨ j = 9 ∨ j = 10 ∨ j = 11 ∨ j = 12 ∨ j = 13 ∨ j = 14 ∨ j = 15 ∨ j = 16 ∨ j = 17 ∨ j = 18 ∨ j = 19 ∨ j = 20 ∨ j = 21 ∨ j = 22 ∨ j = 23 ∨ j = 24 ∨ j = 25 ∨ j = 26 ∨ j = 27 ∨ j = 28 ∨ j = 29 ∨ j = 30 ∨ j = 31 ∨ j = 32 ∨ j = 33 ∨ j = 34 ∨ j = 35 ∨ j = 36 by omega) with rfl | rfl | rfl | rfl | rfl | rfl | rfl | rfl | rfl | rfl | rfl | rfl | rfl | rfl | rfl | rfl | rfl | rfl | rfl | rfl | rfl | rfl | rfl | rfl | rfl | rfl | rfl | rfl | rfl | rfl | rfl | rfl | rfl | rfl | rfl | rfl | rfl <;> rfl
theorem in_8 : ∀ w ∈ u_ws RX8 TX8 37, w ∈ aw := by decide +kernel
theorem ov_n {M : Mem} {κ n : Nat} (j : Nat) : ov (ms_n M κ n) κ (mm_x M) j = dv_ κ j := by
  simp [ov, dv_, ms_n, zr2, mm_i, mm_l, mm_r, mm_x, va_rf]
theorem Rg.new {D : va_G} {ca : Nat → ClassId} {M : Mem} {H H1 : Heap} {κ n : Nat} (h : Rg D ca M H) (hx : mm_x M = H.size) (o1 : ∀ q, q < H.size → H1[q]? = H[q]?) (hc : cOk D ca (ms_n M κ n) (mm_x M) H1) : Rg D ca (ms_n M κ n) H1 := by
  intro q
  by_cases hq : q = mm_x M
  · rw [hq]; exact hc
  · refine (h q).kept (fun hk => o1 q (h.lt hk)) (va_up_ne _ _ hq) (va_up_ne _ _ hq) (fun k => ?_) (fun k => ?_) (fun k => ?_)
    · have hq' : ¬ q = M.2.2.2.2.2 := hq
      simp [ms_n, zr2, mm_i, hq']
    · have hq' : ¬ q = M.2.2.2.2.2 := hq
      simp [ms_n, zr2, mm_l, hq']
    · have hq' : ¬ q = M.2.2.2.2.2 := hq
      simp [ms_n, zr2, mm_r, hq']
section MK
variable {p : Program} {l : Launch} {e : Env} {R : Room} {s : State} {m : MethodId} {args : Array Value} {below : List Frame} {meth : Method} {c : Code} {H : Heap} {locs : List Loc} {cells slots : Nat} {Q : State → Prop}
variable {cc : ByteArray} {pc : Nat} {ls : Array Slot} {rest st0 : List Value} {D : va_G} {ca : Nat → ClassId} {A : Nat → Prop} {M : Mem} {α : Type} {r : α}
theorem Hp.new {H1 : Heap} {κ n : Nat} (hR : Hp D ca true A s M H locs) (hA : ∀ q, s.heap.size ≤ q → A q) (z1 : H1.size = H.size + 1) (o1 : ∀ q, q < H.size → H1[q]? = H[q]?) (hc : cOk D ca (ms_n M κ n) (mm_x M) H1) : Hp D ca true A s (ms_n M κ n) H1 locs := by
  obtain ⟨⟨h1, h2, h3⟩, hS⟩ := hR
  have hx := h2 rfl
  refine ⟨⟨h1.new hx o1 hc, fun _ => ?_, fun q hq => ?_⟩, ⟨Nat.le_trans hS.1 (by omega), fun x q1 q2 => (o1 x (Nat.lt_of_lt_of_le q1 hS.1)).trans (hS.2.1 x q1 q2), hS.2.2⟩⟩
  · show mm_x M + 1 = H1.size
    rw [hx, z1]
  · by_cases hqx : q = mm_x M
    · rw [hqx, hx]; exact hA _ hS.1
    · refine h3 q ?_
      have e1 : (ms_n M κ n).1 q = M.1 q := va_up_ne _ _ hqx
      rwa [e1] at hq
theorem rg_new (hx : p.tables.exec = Jvm.exec) (hb : c.code = cc) (hts : ∀ w ∈ aw, w.before args s = true) (hK : va_K D vwCl (tysL ca) s) (hR : Hp D ca true A s M H locs) (hA : ∀ q, s.heap.size ≤ q → A q) {own C : String} {T : u_T} {N κ index : Nat} (hown : s.vm.findClass own = some m.cls) (hin : ∀ w ∈ u_ws C T N, w ∈ aw) (hc : vwCl[κ]? = some (C, T, N)) (h9 : κ < 9)
    (ty : Nat → FieldType) (hty : ∀ k, k < N → parseFieldDescriptor (T k).2.2.1 = some (ty k)) (hdf : ∀ j, j < N → defaultValue (ty j) = dv_ κ j) (hcl : Cond.classLink own index C ∈ aw) (hinst : Cond.instantiable C N ∈ aw) (hini : Cond.initialized C ∈ aw) (hcells : cells + 1 ≤ R.cells) (hslots : slots + N ≤ R.slots) (hdg : decode cc pc = .ok (.new index, 3))
    {F : Nat → Mem → Option α} (hf : lt_ (mm_x M) (fun a => lt_ (ms_n M κ 0) (F a)) = some r)
    (kk : ∀ (a : Nat) (M1 : Mem) (H1 : Heap), F a M1 = some r → Hp D ca true A s M1 H1 locs → W p l e R s m args below meth c H1 locs (cells + 1) (slots + N) Q (F0 m (pc + 3) ls (.ref a :: rest))) : W p l e R s m args below meth c H locs cells slots Q (F0 m pc ls rest) := by
  have hKn := hK.1 κ _ hc
  have hxx := hR.1.2.1 rfl
  refine W.newcK hx hb hown (hts _ hcl) (hts _ hinst) (hts _ hini) rfl hdg hcells hslots hKn.2.1 hxx.symm fun H1 kC hkC e1 z1 o1 => ?_
  rw [hxx] at z1 o1
  refine kk _ _ H1 hf (hR.new hA z1 o1 ⟨fun _ => ⟨(C, T, N), ?_, ?_⟩, fun h => ?_⟩)
  · show vwCl[va_up M.1 _ κ _]? = _
    rw [va_up_self]; exact hc
  · show t_OB _ (D.1 (va_up M.1 _ κ _)) _ (D.2 (va_up M.1 _ κ _)) _ (ov _ (va_up M.1 _ κ _) _)
    rw [va_up_self]
    exact (u_born ty hts hin hKn hkC e1 hty).to (fun k hk => by rw [ov_n]; exact hdf k hk)
  · have : 9 ≤ va_up M.1 (mm_x M) κ (mm_x M) := h
    rw [va_up_self] at this
    omega
theorem rg_newa (hx : p.tables.exec = Jvm.exec) (hb : c.code = cc) (hts : ∀ w ∈ aw, w.before args s = true) (hK : va_K D vwCl (tysL ca) s) (hR : Hp D ca true A s M H locs) (hA : ∀ q, s.heap.size ≤ q → A q) {atype : ArrayType} {κ N : Nat} (t0 : Nat) (ht : (tysL ca)[t0]? = some (ca κ, newarray.typeOf atype)) (hκ : κ = 9 ∧ atype = .int ∨ κ = 10 ∧ atype = .boolean ∨ κ = 15 ∧ atype = .long)
    (harr : Cond.arrayClass (newarray.typeOf atype) ∈ aw) {n : Int32} (hn : ¬ n < 0) (hN : n.toNatClampNeg = N) (hbytes : N * componentBytes (newarray.typeOf atype) ≤ 536870912) (hcells : cells + 1 ≤ R.cells) (hslots : slots + N ≤ R.slots) (hdg : decode cc pc = .ok (.newarray atype, 2))
    {F : Nat → Mem → Option α} (hf : lt_ (mm_x M) (fun a => lt_ (ms_n M κ N) (F a)) = some r)
    (kk : ∀ (a : Nat) (M1 : Mem) (H1 : Heap), F a M1 = some r → Hp D ca true A s M1 H1 locs → W p l e R s m args below meth c H1 locs (cells + 1) (slots + N) Q (F0 m (pc + 2) ls (.ref a :: rest))) : W p l e R s m args below meth c H locs cells slots Q (F0 m pc ls (.int n :: rest)) := by
  have hxx := hR.1.2.1 rfl
  refine va_newaK hx hb (hts _ harr) rfl hdg rfl hn hN hbytes hcells hslots hxx.symm fun H1 cA e1 z1 o1 hAr hNm => ?_
  rw [hxx] at z1 o1
  have hra := (hK.2 t0 _ ht).2
  have hcA : cA = ca κ := by
    rcases hκ with ⟨rfl, rfl⟩ | ⟨rfl, rfl⟩ | ⟨rfl, rfl⟩ <;> exact Option.some.inj (hNm.symm.trans hra)
  refine kk _ _ H1 hf (hR.new hA z1 o1 ⟨fun h => ?_, fun _ _ => ?_⟩)
  · have : va_up M.1 (mm_x M) κ (mm_x M) < 9 := h
    rw [va_up_self] at this
    omega
  · show H1[mm_x M]? = some (arrV (ca (va_up M.1 _ κ _)) (va_up M.2.1 _ N _) (av _ (va_up M.1 _ κ _) _))
    rw [va_up_self, va_up_self, e1, hcA]
    have : av (ms_n M κ N) κ (mm_x M) = fun _ => defaultValue (newarray.typeOf atype) := by
      funext j
      rcases hκ with ⟨rfl, rfl⟩ | ⟨rfl, rfl⟩ | ⟨rfl, rfl⟩ <;> simp [av, ms_n, zr2, mm_i, mm_l, mm_x, newarray.typeOf, defaultValue]
    rw [this]
theorem rg_newq (hx : p.tables.exec = Jvm.exec) (hb : c.code = cc) (hts : ∀ w ∈ aw, w.before args s = true) (hK : va_K D vwCl (tysL ca) s) (hR : Hp D ca true A s M H locs) (hA : ∀ q, s.heap.size ≤ q → A q) {own C : String} {index κ N : Nat} (hown : s.vm.findClass own = some m.cls) (t0 : Nat) (ht : (tysL ca)[t0]? = some (ca κ, .object C)) (hκ : 11 ≤ κ ∧ κ < 15)
    (hcl : Cond.classLink own index C ∈ aw) (hover : va_AO C s) {n : Int32} (hn : ¬ n < 0) (hN : n.toNatClampNeg = N) (hbytes : N * 4 ≤ 536870912) (hcells : cells + 1 ≤ R.cells) (hslots : slots + N ≤ R.slots) (hdg : decode cc pc = .ok (.anewarray index, 3))
    {F : Nat → Mem → Option α} (hf : lt_ (mm_x M) (fun a => lt_ (ms_n M κ N) (F a)) = some r)
    (kk : ∀ (a : Nat) (M1 : Mem) (H1 : Heap), F a M1 = some r → Hp D ca true A s M1 H1 locs → W p l e R s m args below meth c H1 locs (cells + 1) (slots + N) Q (F0 m (pc + 3) ls (.ref a :: rest))) : W p l e R s m args below meth c H locs cells slots Q (F0 m pc ls (.int n :: rest)) := by
  have hxx := hR.1.2.1 rfl
  subst hN
  refine W.anew hx hb hown (hts _ hcl) (va_AO.use hover) rfl hdg rfl hn hbytes hcells hslots fun cA kA comp f1 f2 f3 f4 => ?_
  generalize hH1 : H.push ({ cls := cA, slots := Array.replicate n.toNatClampNeg .null, vm := .none } : Cell) = H1
  have z1 : H1.size = H.size + 1 := by rw [← hH1, Array.size_push]
  have e1 : H1[H.size]? = some (arrV cA n.toNatClampNeg (fun _ => .null)) := by rw [← hH1, Array.getElem?_push_size, ← arrV_new]
  have o1 : ∀ q : Nat, q < H.size → H1[q]? = H[q]? := fun q hq => by rw [← hH1, Array.getElem?_push, if_neg (Nat.ne_of_lt hq)]
  obtain ⟨kA', comp', k1, k2, k3, k4⟩ := (hK.2 t0 _ ht).2
  have hcA : cA = ca κ := Option.some.inj (f1.symm.trans k4)
  rw [← hxx] at e1 ⊢
  refine kk _ _ H1 hf (hR.new hA z1 o1 ⟨fun h => ?_, fun _ _ => ?_⟩)
  · have : va_up M.1 (mm_x M) κ (mm_x M) < 9 := h
    rw [va_up_self] at this
    omega
  · show H1[mm_x M]? = some (arrV (ca (va_up M.1 _ κ _)) (va_up M.2.1 _ n.toNatClampNeg _) (av _ (va_up M.1 _ κ _) _))
    rw [va_up_self, va_up_self, e1, hcA]
    have : av (ms_n M κ n.toNatClampNeg) κ (mm_x M) = fun _ => Value.null := by
      funext j
      have h1 : ¬ κ < 11 := by omega
      have h2 : ¬ κ = 15 := by omega
      simp [av, ms_n, zr2, mm_r, mm_x, va_rf, h1, h2]
    rw [this]
/-- an object into an array of its class -/
theorem rg_aast (hx : p.tables.exec = Jvm.exec) (hb : c.code = cc) {nx : Bool} (hK : va_K D vwCl (tysL ca) s) (hR : Hp D ca nx A s M H locs) {q o κ κo : Nat} {i : Int32} (t0 : Nat) {qc : vw_C} (ht : (tysL ca)[t0]? = some (ca κ, .object qc.1)) (hκ : 11 ≤ κ ∧ κ < 15) (hc : vwCl[κo]? = some qc) (h9 : κo < 9) (hdg : decode cc pc = .ok (.aastore, 1)) {F : Mem → Option α} (hf : gd ((M.1 q = κ ∧ M.1 o = κo) ∧ vi_ i (mm_N M q)) (lt_ (ms_r M q i.toNatClampNeg (some o)) F) = some r)
    (kk : ∀ (M1 : Mem) (H1 : Heap) (locs1 : List Loc), F M1 = some r → Hp D ca nx A s M1 H1 locs1 → W p l e R s m args below meth c H1 locs1 cells slots Q (F0 m (pc + 1) ls rest)) : W p l e R s m args below meth c H locs cells slots Q (F0 m pc ls (.ref o :: .int i :: .ref q :: rest)) := by
  obtain ⟨⟨⟨hq, ho⟩, hin⟩, hf⟩ := gd_e hf
  have hlt : i.toNatClampNeg < M.2.1 q := Nat.not_le.mp fun z => hin (Or.inr z)
  have h0 : ¬ i < 0 := fun z => hin (Or.inl z)
  obtain ⟨C, T, N⟩ := qc
  obtain ⟨cellV, g1, g2, g3, -⟩ := hR.1.1.obj ho hc h9
  have hcls := (hK.1 κo _ hc).2
  obtain ⟨kA, comp, k1, k2, k3, -⟩ := (hK.2 t0 _ ht).2
  have hcomp : comp = D.1 κo := Option.some.inj (k3.symm.trans hcls.1)
  subst hcomp
  obtain ⟨kC, hkC, -⟩ := hcls.2
  refine W.aast hx hb (hR.1.1.arr hq (by omega) (by omega)) (fun q h => by cases h) (fun h => by cases h) k1 k2 rfl hkC ⟨h0, by rw [arrV_size]; exact hlt⟩ g1 (fun q h => by rw [g3] at h; cases h) (by rw [g2]; exact hkC) (by rw [g2]; exact va_assign hcls) rfl rfl hdg fun H1 e1 e2 e3 => ?_
  exact kk _ H1 _ hf (rg_ast hR hq (by omega) (by omega) rfl rfl rfl (fun _ _ _ => rfl) (fun _ _ _ => rfl) ms_r_off (av_r (by omega) (by omega)) e1 e2 e3)
end MK
end
