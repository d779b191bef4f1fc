-- X8_endOf
def f_X8_endOf_b2 (k2 : Nat → Int32 → Mem → Option (Mem × Int32)) (v0 : Nat) (v2 : Int32) (M : Mem) : Option (Mem × Int32) := gd (M.1 v0 = 8) <| bd (f_X8_isEmpty v0 (v2 + (1 : Int32)) M) fun z1 => if z1.2 = 0 then (some (z1.1, v2)) else (lt_ (v2 + (1 : Int32)) fun x2 => k2 v0 x2 z1.1)
def f_X8_endOf_L2  : Nat → Nat → Int32 → Mem → Option (Mem × Int32)
  | 0 => fun _ _ _ => none
  | n + 1 => f_X8_endOf_b2  (f_X8_endOf_L2  n)
def f_X8_endOf (v0 : Nat) (v1 : Int32) (M : Mem) : Option (Mem × Int32) := f_X8_endOf_L2 200 v0 v1 M
abbrev rm_X8_endOf : Room := { frames := 1, cells := 0, slots := 0, locals := 23 }
theorem hd_X8_endOf : yX8_endOf.cls ≠ "java/lang/invoke/MethodHandle" ∧ yX8_endOf.cls ≠ "java/lang/invoke/VarHandle" ∧ (parseMethodDescriptor yX8_endOf.desc).map (fun d => d.parameters.length) = some 1 := by decide +kernel
set_option maxHeartbeats 8000000 in
set_option maxRecDepth 100000 in
theorem c_X8_endOf {l : Launch} {D : va_G} {ca : Nat → ClassId} {b : Nat} {nx : Bool} {v0 : Nat} {v1 : Int32} {M : Mem} {r : Mem × Int32} (hf : f_X8_endOf v0 v1 M = some r) : CtI l yX8_endOf cX8_endOf 3 (some .int) rm_X8_endOf D ca b nx [.ref v0, .int v1] M r := by
  intro sz
  refine body_start (Qc := fun A => cvI D ca nx A r) (by decide +kernel) (Nat.le_of_ble_eq_true rfl) ?_
  intro p e s m args below meth c A hC hr hR ls hl
  obtain ⟨hx, hb, hml, hts, hown, hlocks, hXe, hA, hAb, hnm⟩ := id hC
  have hK := hXe.1
  have hl : lv_has ls 3 [(0, .ref v0), (1, .int v1)] := hl
  have hB2 : ∀ (k2 : Nat → Int32 → Mem → Option (Mem × Int32)) (hk2 : ∀ (v0 : Nat) (v2 : Int32) (M : Mem) (H : Heap) (locs : List Loc) (ls : Array Slot), k2 v0 v2 M = some r → Hp D ca nx A s M H locs → lv_has ls 3 [(0, .ref v0), (2, .int v2)] → W p l e rm_X8_endOf s m args below meth c H locs 0 0 (MQ below (cvI D ca nx A r) args s 0 0 A) (F0 m 2 ls [])) (v0 : Nat) (v2 : Int32) (M : Mem) (H : Heap) (locs : List Loc) (ls : Array Slot), f_X8_endOf_b2 k2 v0 v2 M = some r → Hp D ca nx A s M H locs → lv_has ls 3 [(0, .ref v0), (2, .int v2)] → W p l e rm_X8_endOf s m args below meth c H locs 0 0 (MQ below (cvI D ca nx A r) args s 0 0 A) (F0 m 2 ls []) := by
    intro k2 hk2 v0 v2 M H locs ls hf hR hl
    unfold f_X8_endOf_b2 at hf
    refine lv_aload_n (pc := 2) hx hb dX8_endOf_2 rfl (lv_at hl 0 rfl) ?_
    refine lv_iload_n (pc := 3) hx hb dX8_endOf_3 rfl (lv_at hl 1 rfl) ?_
    refine lv_iconst (pc := 4) (v := (1 : Int32)) hx hb dX8_endOf_4 (by decide) ?_
    refine lv_iadd (pc := 5) hx hb dX8_endOf_5 ?_
    obtain ⟨hq, hf⟩ := gd_e hf
    refine rg_I (pc := 6) hf hR hA (fun z hz => rn_V (κ := 8) (As := [.int (v2 + (1 : Int32))]) (rest := []) hC hR rfl (by decide) hq (c_X8_isEmpty  hz _) m_949 m_951 ms_29 m_9 m_952 hd_X8_isEmpty ⟨rfl, rfl, Nat.le_of_ble_eq_true rfl, Nat.le_of_ble_eq_true rfl⟩ rfl hl.1 rfl (Nat.le_of_ble_eq_true rfl) dX8_endOf_6 ⟨Nat.le_of_ble_eq_true rfl, Nat.le_of_ble_eq_true rfl⟩) (fun z1 H locs hf hR => ?_)
    refine lv_if_eq (pc := 9) (tgt := 18) hx hb dX8_endOf_9 (by decide) (fun hc => ?_) (fun hc => ?_)
    · replace hf := it_t hf hc
      refine lv_iload_n (pc := 18) hx hb dX8_endOf_18 rfl (lv_at hl 1 rfl) ?_
      exact rg_iret (pc := 19) hx hb hlocks hr hf hR dX8_endOf_19
    · replace hf := it_f hf hc
      refine rg_iinc (pc := 12) hx hb dX8_endOf_12 hl (k := 1) rfl rfl (by decide) hf (fun x2 ls hf hl => ?_)
      have hl : lv_has ls 3 [(2, .int x2), (0, .ref v0)] := hl
      refine lv_goto (pc := 15) (tgt := 2) hx hb dX8_endOf_15 (by decide) ?_
      exact hk2 v0 x2 z1.1 _ _ _ hf hR (lv_sub hl [1, 0] rfl)
  have hL2 : ∀  (n : Nat) (v0 : Nat) (v2 : Int32) (M : Mem) (H : Heap) (locs : List Loc) (ls : Array Slot), f_X8_endOf_L2  n v0 v2 M = some r → Hp D ca nx A s M H locs → lv_has ls 3 [(0, .ref v0), (2, .int v2)] → W p l e rm_X8_endOf s m args below meth c H locs 0 0 (MQ below (cvI D ca nx A r) args s 0 0 A) (F0 m 2 ls []) := by
    intro  n
    induction n with
    | zero => intro v0 v2 M H locs ls hf; exact nomatch (show (none : Option (Mem × Int32)) = some r from hf)
    | succ n ih => intro v0 v2 M H locs ls hf hR hl; exact hB2  (f_X8_endOf_L2  n) ih v0 v2 M H locs ls hf hR hl
  unfold f_X8_endOf at hf
  refine lv_iload_n (pc := 0) hx hb dX8_endOf_0 rfl (lv_at hl 1 rfl) ?_
  refine lv_istore_n (pc := 1) (lv' := [(2, .int v1), (0, .ref v0), (1, .int v1)]) hx hb dX8_endOf_1 rfl hl (by decide) rfl (fun ls hl => ?_)
  exact hL2 200 v0 v1 M _ _ _ hf hR (lv_sub hl [1, 0] rfl)
-- X8_gapAt
def f_X8_gapAt_b36  (v2 : Int32) (M : Mem) : Option (Mem × Int32) := some (M, v2)
def f_X8_gapAt_b8 (k8 : Nat → Int32 → Int32 → Int32 → Mem → Option (Mem × Int32)) (v0 : Nat) (v1 : Int32) (v2 : Int32) (v3 : Int32) (M : Mem) : Option (Mem × Int32) := if v1 ≤ v3 then (f_X8_gapAt_b36 v2 M) else (if v2 = (-1 : Int32) then (f_X8_gapAt_b36 v2 M) else (gd (M.1 v0 = 8) <| bd (f_X8_endOf v0 v2 M) fun z1 => gd (z1.1.1 v0 = 8) <| bd (f_X8_gapFrom v0 (z1.2 + (2 : Int32)) z1.1) fun z2 => lt_ (v3 + (1 : Int32)) fun x3 => k8 v0 v1 z2.2 x3 z2.1))
def f_X8_gapAt_L8  : Nat → Nat → Int32 → Int32 → Int32 → Mem → Option (Mem × Int32)
  | 0 => fun _ _ _ _ _ => none
  | n + 1 => f_X8_gapAt_b8  (f_X8_gapAt_L8  n)
def f_X8_gapAt (v0 : Nat) (v1 : Int32) (M : Mem) : Option (Mem × Int32) := gd (M.1 v0 = 8) <| bd (f_X8_gapFrom v0 (0 : Int32) M) fun z4 => f_X8_gapAt_L8 200 v0 v1 z4.2 (0 : Int32) z4.1
abbrev rm_X8_gapAt : Room := { frames := 2, cells := 0, slots := 0, locals := 47 }
theorem hd_X8_gapAt : yX8_gapAt.cls ≠ "java/lang/invoke/MethodHandle" ∧ yX8_gapAt.cls ≠ "java/lang/invoke/VarHandle" ∧ (parseMethodDescriptor yX8_gapAt.desc).map (fun d => d.parameters.length) = some 1 := by decide +kernel
set_option maxHeartbeats 8000000 in
set_option maxRecDepth 100000 in
theorem c_X8_gapAt {l : Launch} {D : va_G} {ca : Nat → ClassId} {b : Nat} {nx : Bool} {v0 : Nat} {v1 : Int32} {M : Mem} {r : Mem × Int32} (hf : f_X8_gapAt v0 v1 M = some r) : CtI l yX8_gapAt cX8_gapAt 4 (some .int) rm_X8_gapAt D ca b nx [.ref v0, .int v1] M r := by
  intro sz
  refine body_start (Qc := fun A => cvI D ca nx A r) (by decide +kernel) (Nat.le_of_ble_eq_true rfl) ?_
  intro p e s m args below meth c A hC hr hR ls hl
  obtain ⟨hx, hb, hml, hts, hown, hlocks, hXe, hA, hAb, hnm⟩ := id hC
  have hK := hXe.1
  have hl : lv_has ls 4 [(0, .ref v0), (1, .int v1)] := hl
  have hB36 : ∀  (v2 : Int32) (M : Mem) (H : Heap) (locs : List Loc) (ls : Array Slot), f_X8_gapAt_b36  v2 M = some r → Hp D ca nx A s M H locs → lv_has ls 4 [(2, .int v2)] → W p l e rm_X8_gapAt s m args below meth c H locs 0 0 (MQ below (cvI D ca nx A r) args s 0 0 A) (F0 m 36 ls []) := by
    intro  v2 M H locs ls hf hR hl
    unfold f_X8_gapAt_b36 at hf
    refine lv_iload_n (pc := 36) hx hb dX8_gapAt_36 rfl (lv_at hl 0 rfl) ?_
    exact rg_iret (pc := 37) hx hb hlocks hr hf hR dX8_gapAt_37
  have hB8 : ∀ (k8 : Nat → Int32 → Int32 → Int32 → Mem → Option (Mem × Int32)) (hk8 : ∀ (v0 : Nat) (v1 : Int32) (v2 : Int32) (v3 : Int32) (M : Mem) (H : Heap) (locs : List Loc) (ls : Array Slot), k8 v0 v1 v2 v3 M = some r → Hp D ca nx A s M H locs → lv_has ls 4 [(0, .ref v0), (1, .int v1), (2, .int v2), (3, .int v3)] → W p l e rm_X8_gapAt s m args below meth c H locs 0 0 (MQ below (cvI D ca nx A r) args s 0 0 A) (F0 m 8 ls [])) (v0 : Nat) (v1 : Int32) (v2 : Int32) (v3 : Int32) (M : Mem) (H : Heap) (locs : List Loc) (ls : Array Slot), f_X8_gapAt_b8 k8 v0 v1 v2 v3 M = some r → Hp D ca nx A s M H locs → lv_has ls 4 [(0, .ref v0), (1, .int v1), (2, .int v2), (3, .int v3)] → W p l e rm_X8_gapAt s m args below meth c H locs 0 0 (MQ below (cvI D ca nx A r) args s 0 0 A) (F0 m 8 ls []) := by
    intro k8 hk8 v0 v1 v2 v3 M H locs ls hf hR hl
    unfold f_X8_gapAt_b8 at hf
    refine lv_iload_n (pc := 8) hx hb dX8_gapAt_8 rfl (lv_at hl 3 rfl) ?_
    refine lv_iload_n (pc := 9) hx hb dX8_gapAt_9 rfl (lv_at hl 1 rfl) ?_
    refine lv_icmp_ge (pc := 10) (tgt := 36) hx hb dX8_gapAt_10 (by decide) (fun hc => ?_) (fun hc => ?_)
    · replace hf := it_t hf hc
      exact hB36 v2 M _ _ _ hf hR (lv_sub hl [2] rfl)
    · replace hf := it_f hf hc
      refine lv_iload_n (pc := 13) hx hb dX8_gapAt_13 rfl (lv_at hl 2 rfl) ?_
      refine lv_iconst (pc := 14) (v := (-1 : Int32)) hx hb dX8_gapAt_14 (by decide) ?_
      refine lv_icmp_eq (pc := 15) (tgt := 36) hx hb dX8_gapAt_15 (by decide) (fun hc => ?_) (fun hc => ?_)
      · replace hf := it_t hf hc
        exact hB36 v2 M _ _ _ hf hR (lv_sub hl [2] rfl)
      · replace hf := it_f hf hc
        refine lv_aload_n (pc := 18) hx hb dX8_gapAt_18 rfl (lv_at hl 0 rfl) ?_
        refine lv_aload_n (pc := 19) hx hb dX8_gapAt_19 rfl (lv_at hl 0 rfl) ?_
        refine lv_iload_n (pc := 20) hx hb dX8_gapAt_20 rfl (lv_at hl 2 rfl) ?_
        obtain ⟨hq, hf⟩ := gd_e hf
        refine rg_I (pc := 21) hf hR hA (fun z hz => rn_V (κ := 8) (As := [.int v2]) (rest := [.ref v0]) hC hR rfl (by decide) hq (c_X8_endOf  hz _) m_953 m_955 ms_30 m_9 m_956 hd_X8_endOf ⟨rfl, rfl, Nat.le_of_ble_eq_true rfl, Nat.le_of_ble_eq_true rfl⟩ rfl hl.1 rfl (Nat.le_of_ble_eq_true rfl) dX8_gapAt_21 ⟨Nat.le_of_ble_eq_true rfl, Nat.le_of_ble_eq_true rfl⟩) (fun z1 H locs hf hR => ?_)
        refine lv_iconst (pc := 24) (v := (2 : Int32)) hx hb dX8_gapAt_24 (by decide) ?_
        refine lv_iadd (pc := 25) hx hb dX8_gapAt_25 ?_
        obtain ⟨hq, hf⟩ := gd_e hf
        refine rg_I (pc := 26) hf hR hA (fun z hz => rn_V (κ := 8) (As := [.int (z1.2 + (2 : Int32))]) (rest := []) hC hR rfl (by decide) hq (c_X8_gapFrom  hz _) m_945 m_947 ms_28 m_9 m_948 hd_X8_gapFrom ⟨rfl, rfl, Nat.le_of_ble_eq_true rfl, Nat.le_of_ble_eq_true rfl⟩ rfl hl.1 rfl (Nat.le_of_ble_eq_true rfl) dX8_gapAt_26 ⟨Nat.le_of_ble_eq_true rfl, Nat.le_of_ble_eq_true rfl⟩) (fun z2 H locs hf hR => ?_)
        refine lv_istore_n (pc := 29) (lv' := [(2, .int z2.2), (0, .ref v0), (1, .int v1), (3, .int v3)]) hx hb dX8_gapAt_29 rfl hl (by decide) rfl (fun ls hl => ?_)
        refine rg_iinc (pc := 30) hx hb dX8_gapAt_30 hl (k := 3) rfl rfl (by decide) hf (fun x3 ls hf hl => ?_)
        have hl : lv_has ls 4 [(3, .int x3), (2, .int z2.2), (0, .ref v0), (1, .int v1)] := hl
        refine lv_goto (pc := 33) (tgt := 8) hx hb dX8_gapAt_33 (by decide) ?_
        exact hk8 v0 v1 z2.2 x3 z2.1 _ _ _ hf hR (lv_sub hl [2, 3, 1, 0] rfl)
  have hL8 : ∀  (n : Nat) (v0 : Nat) (v1 : Int32) (v2 : Int32) (v3 : Int32) (M : Mem) (H : Heap) (locs : List Loc) (ls : Array Slot), f_X8_gapAt_L8  n v0 v1 v2 v3 M = some r → Hp D ca nx A s M H locs → lv_has ls 4 [(0, .ref v0), (1, .int v1), (2, .int v2), (3, .int v3)] → W p l e rm_X8_gapAt s m args below meth c H locs 0 0 (MQ below (cvI D ca nx A r) args s 0 0 A) (F0 m 8 ls []) := by
    intro  n
    induction n with
    | zero => intro v0 v1 v2 v3 M H locs ls hf; exact nomatch (show (none : Option (Mem × Int32)) = some r from hf)
    | succ n ih => intro v0 v1 v2 v3 M H locs ls hf hR hl; exact hB8  (f_X8_gapAt_L8  n) ih v0 v1 v2 v3 M H locs ls hf hR hl
  unfold f_X8_gapAt at hf
  refine lv_aload_n (pc := 0) hx hb dX8_gapAt_0 rfl (lv_at hl 0 rfl) ?_
  refine lv_iconst (pc := 1) (v := (0 : Int32)) hx hb dX8_gapAt_1 (by decide) ?_
  obtain ⟨hq, hf⟩ := gd_e hf
  refine rg_I (pc := 2) hf hR hA (fun z hz => rn_V (κ := 8) (As := [.int (0 : Int32)]) (rest := []) hC hR rfl (by decide) hq (c_X8_gapFrom  hz _) m_945 m_947 ms_28 m_9 m_948 hd_X8_gapFrom ⟨rfl, rfl, Nat.le_of_ble_eq_true rfl, Nat.le_of_ble_eq_true rfl⟩ rfl hl.1 rfl (Nat.le_of_ble_eq_true rfl) dX8_gapAt_2 ⟨Nat.le_of_ble_eq_true rfl, Nat.le_of_ble_eq_true rfl⟩) (fun z4 H locs hf hR => ?_)
  refine lv_istore_n (pc := 5) (lv' := [(2, .int z4.2), (0, .ref v0), (1, .int v1)]) hx hb dX8_gapAt_5 rfl hl (by decide) rfl (fun ls hl => ?_)
  refine lv_iconst (pc := 6) (v := (0 : Int32)) hx hb dX8_gapAt_6 (by decide) ?_
  refine lv_istore_n (pc := 7) (lv' := [(3, .int (0 : Int32)), (2, .int z4.2), (0, .ref v0), (1, .int v1)]) hx hb dX8_gapAt_7 rfl hl (by decide) rfl (fun ls hl => ?_)
  exact hL8 200 v0 v1 z4.2 (0 : Int32) z4.1 _ _ _ hf hR (lv_sub hl [2, 3, 1, 0] rfl)
-- X8_isNear
def f_X8_isNear_b33  (s0 : Int32) (M : Mem) : Option (Mem × Int32) := gd (s0 = 0 ∨ s0 = 1) <| some (M, s0)
def f_X8_isNear_b32   (M : Mem) : Option (Mem × Int32) := f_X8_isNear_b33 (0 : Int32) M
def f_X8_isNear (v0 : Nat) (v1 : Int32) (v2 : Int32) (M : Mem) : Option (Mem × Int32) := gd (M.1 v0 = 8) <| bd (f_X8_resonanceOf v0 v1 v2 M) fun z1 => if z1.2 = (-1 : Int32) then (f_X8_isNear_b32  z1.1) else (bd (f_X8_size ((z1.2 / (10 : Int32)) - (z1.2 - z1.2 / (10 : Int32) * (10 : Int32))) z1.1) fun z2 => if (2 : Int32) < z2.2 then (f_X8_isNear_b32  z2.1) else (f_X8_isNear_b33 (1 : Int32) z2.1))
abbrev rm_X8_isNear : Room := { frames := 2, cells := 0, slots := 0, locals := 49 }
theorem hd_X8_isNear : yX8_isNear.cls ≠ "java/lang/invoke/MethodHandle" ∧ yX8_isNear.cls ≠ "java/lang/invoke/VarHandle" ∧ (parseMethodDescriptor yX8_isNear.desc).map (fun d => d.parameters.length) = some 2 := by decide +kernel
set_option maxHeartbeats 8000000 in
set_option maxRecDepth 100000 in
theorem c_X8_isNear {l : Launch} {D : va_G} {ca : Nat → ClassId} {b : Nat} {nx : Bool} {v0 : Nat} {v1 : Int32} {v2 : Int32} {M : Mem} {r : Mem × Int32} (hf : f_X8_isNear v0 v1 v2 M = some r) : CtI l yX8_isNear cX8_isNear 4 (some .boolean) rm_X8_isNear D ca b nx [.ref v0, .int v1, .int v2] M r := by
  intro sz
  refine body_start (Qc := fun A => cvI D ca nx A r) (by decide +kernel) (Nat.le_of_ble_eq_true rfl) ?_
  intro p e s m args below meth c A hC hr hR ls hl
  obtain ⟨hx, hb, hml, hts, hown, hlocks, hXe, hA, hAb, hnm⟩ := id hC
  have hK := hXe.1
  have hl : lv_has ls 4 [(0, .ref v0), (1, .int v1), (2, .int v2)] := hl
  have hB33 : ∀  (s0 : Int32) (M : Mem) (H : Heap) (locs : List Loc) (ls : Array Slot), f_X8_isNear_b33  s0 M = some r → Hp D ca nx A s M H locs → lv_has ls 4 [] → W p l e rm_X8_isNear s m args below meth c H locs 0 0 (MQ below (cvI D ca nx A r) args s 0 0 A) (F0 m 33 ls [.int s0]) := by
    intro  s0 M H locs ls hf hR hl
    unfold f_X8_isNear_b33 at hf
    exact rg_zret (pc := 33) hx hb hlocks hr hf hR dX8_isNear_33
  have hB32 : ∀   (M : Mem) (H : Heap) (locs : List Loc) (ls : Array Slot), f_X8_isNear_b32   M = some r → Hp D ca nx A s M H locs → lv_has ls 4 [] → W p l e rm_X8_isNear s m args below meth c H locs 0 0 (MQ below (cvI D ca nx A r) args s 0 0 A) (F0 m 32 ls []) := by
    intro   M H locs ls hf hR hl
    unfold f_X8_isNear_b32 at hf
    refine lv_iconst (pc := 32) (v := (0 : Int32)) hx hb dX8_isNear_32 (by decide) ?_
    exact hB33 (0 : Int32) M _ _ _ hf hR (lv_sub hl [] rfl)
  unfold f_X8_isNear at hf
  refine lv_aload_n (pc := 0) hx hb dX8_isNear_0 rfl (lv_at hl 0 rfl) ?_
  refine lv_iload_n (pc := 1) hx hb dX8_isNear_1 rfl (lv_at hl 1 rfl) ?_
  refine lv_iload_n (pc := 2) hx hb dX8_isNear_2 rfl (lv_at hl 2 rfl) ?_
  obtain ⟨hq, hf⟩ := gd_e hf
  refine rg_I (pc := 3) hf hR hA (fun z hz => rn_V (κ := 8) (As := [.int v1, .int v2]) (rest := []) hC hR rfl (by decide) hq (c_X8_resonanceOf  hz _) m_933 m_935 ms_26 m_9 m_936 hd_X8_resonanceOf ⟨rfl, rfl, Nat.le_of_ble_eq_true rfl, Nat.le_of_ble_eq_true rfl⟩ rfl hl.1 rfl (Nat.le_of_ble_eq_true rfl) dX8_isNear_3 ⟨Nat.le_of_ble_eq_true rfl, Nat.le_of_ble_eq_true rfl⟩) (fun z1 H locs hf hR => ?_)
  refine lv_istore_n (pc := 6) (lv' := [(3, .int z1.2), (0, .ref v0), (1, .int v1), (2, .int v2)]) hx hb dX8_isNear_6 rfl hl (by decide) rfl (fun ls hl => ?_)
  refine lv_iload_n (pc := 7) hx hb dX8_isNear_7 rfl (lv_at hl 0 rfl) ?_
  refine lv_iconst (pc := 8) (v := (-1 : Int32)) hx hb dX8_isNear_8 (by decide) ?_
  refine lv_icmp_eq (pc := 9) (tgt := 32) hx hb dX8_isNear_9 (by decide) (fun hc => ?_) (fun hc => ?_)
  · replace hf := it_t hf hc
    exact hB32  z1.1 _ _ _ hf hR (lv_sub hl [] rfl)
  · replace hf := it_f hf hc
    refine lv_iload_n (pc := 12) hx hb dX8_isNear_12 rfl (lv_at hl 0 rfl) ?_
    refine lv_bipush (pc := 13) (v := (10 : Int32)) hx hb dX8_isNear_13 (by decide) ?_
    refine lv_idiv (pc := 15) hx hb dX8_isNear_15 (by decide) ?_
    refine lv_iload_n (pc := 16) hx hb dX8_isNear_16 rfl (lv_at hl 0 rfl) ?_
    refine lv_bipush (pc := 17) (v := (10 : Int32)) hx hb dX8_isNear_17 (by decide) ?_
    refine lv_irem (pc := 19) hx hb dX8_isNear_19 (by decide) ?_
    refine lv_isub (pc := 20) hx hb dX8_isNear_20 ?_
    refine rg_I (pc := 21) hf hR hA (fun z hz => rn_S (As := [.int ((z1.2 / (10 : Int32)) - (z1.2 - z1.2 / (10 : Int32) * (10 : Int32)))]) (rest := []) hC hR (c_X8_size  hz _) m_832 m_833 m_9 m_834 hd_X8_size ⟨rfl, rfl, Nat.le_of_ble_eq_true rfl, Nat.le_of_ble_eq_true rfl⟩ rfl hl.1 rfl (Nat.le_of_ble_eq_true rfl) dX8_isNear_21 ⟨Nat.le_of_ble_eq_true rfl, Nat.le_of_ble_eq_true rfl⟩) (fun z2 H locs hf hR => ?_)
    refine lv_iconst (pc := 24) (v := (2 : Int32)) hx hb dX8_isNear_24 (by decide) ?_
    refine lv_icmp_gt (pc := 25) (tgt := 32) hx hb dX8_isNear_25 (by decide) (fun hc => ?_) (fun hc => ?_)
    · replace hf := it_t hf hc
      exact hB32  z2.1 _ _ _ hf hR (lv_sub hl [] rfl)
    · replace hf := it_f hf hc
      refine lv_iconst (pc := 28) (v := (1 : Int32)) hx hb dX8_isNear_28 (by decide) ?_
      refine lv_goto (pc := 29) (tgt := 33) hx hb dX8_isNear_29 (by decide) ?_
      exact hB33 (1 : Int32) z2.1 _ _ _ hf hR (lv_sub hl [] rfl)
-- X8_keeper
def f_X8_keeper_b110  (s0 : Int32) (M : Mem) : Option (Mem × Int32) := some (M, s0)
def f_X8_keeper_b90 (k63 : Nat → Int32 → Int32 → Int32 → Int32 → Int32 → Mem → Option (Mem × Int32)) (s0 : Int32) (v0 : Nat) (v1 : Int32) (v2 : Int32) (v3 : Int32) (v5 : Int32) (M : Mem) : Option (Mem × Int32) := lt_ (v5 + (-1 : Int32)) fun x1 => k63 v0 v1 v2 v3 s0 x1 M
def f_X8_keeper_b63 (k63 : Nat → Int32 → Int32 → Int32 → Int32 → Int32 → Mem → Option (Mem × Int32)) (v0 : Nat) (v1 : Int32) (v2 : Int32) (v3 : Int32) (v4 : Int32) (v5 : Int32) (M : Mem) : Option (Mem × Int32) := if v5 < 0 then (if v4 = (-1 : Int32) then (f_X8_keeper_b110 v3 M) else (f_X8_keeper_b110 v4 M)) else (gd (M.1 v0 = 8) <| rd (mm_r M v0 15) fun a2 => gd (M.1 a2 = 9 ∧ vi_ v5 (mm_N M a2)) <| bd (f_X8_isIn (mm_i M a2 (v5).toNatClampNeg) v1 v2 M) fun z3 => if z3.2 = 0 then (f_X8_keeper_b90 k63 v4 v0 v1 v2 v3 v5 z3.1) else (f_X8_keeper_b90 k63 v5 v0 v1 v2 v3 v5 z3.1))
def f_X8_keeper_L63  : Nat → Nat → Int32 → Int32 → Int32 → Int32 → Int32 → Mem → Option (Mem × Int32)
  | 0 => fun _ _ _ _ _ _ _ => none
  | n + 1 => f_X8_keeper_b63  (f_X8_keeper_L63  n)
def f_X8_keeper_b45 (k10 : Nat → Int32 → Int32 → Int32 → Int32 → Mem → Option (Mem × Int32)) (s0 : Int32) (v0 : Nat) (v1 : Int32) (v2 : Int32) (v4 : Int32) (M : Mem) : Option (Mem × Int32) := lt_ (v4 + (-1 : Int32)) fun x4 => k10 v0 v1 v2 s0 x4 M
def f_X8_keeper_b39 (k10 : Nat → Int32 → Int32 → Int32 → Int32 → Mem → Option (Mem × Int32)) (v0 : Nat) (v1 : Int32) (v2 : Int32) (v4 : Int32) (M : Mem) : Option (Mem × Int32) := f_X8_keeper_b45 k10 v4 v0 v1 v2 v4 M
def f_X8_keeper_b10 (k10 : Nat → Int32 → Int32 → Int32 → Int32 → Mem → Option (Mem × Int32)) (v0 : Nat) (v1 : Int32) (v2 : Int32) (v3 : Int32) (v4 : Int32) (M : Mem) : Option (Mem × Int32) := if v4 < 0 then (gd (M.1 v0 = 8) <| lt_ (((mm_i M v0 14) - (1 : Int32))) fun x5 => f_X8_keeper_L63 200 v0 v1 v2 v3 (-1 : Int32) x5 M) else (gd (M.1 v0 = 8) <| bd (f_X8_isNear v0 v4 (v1 - (1 : Int32)) M) fun z6 => if z6.2 = 0 then (gd (z6.1.1 v0 = 8) <| bd (f_X8_isNear v0 v4 (v2 + (1 : Int32)) z6.1) fun z7 => if z7.2 = 0 then (f_X8_keeper_b45 k10 v3 v0 v1 v2 v4 z7.1) else (f_X8_keeper_b39 k10 v0 v1 v2 v4 z7.1)) else (f_X8_keeper_b39 k10 v0 v1 v2 v4 z6.1))
def f_X8_keeper_L10  : Nat → Nat → Int32 → Int32 → Int32 → Int32 → Mem → Option (Mem × Int32)
  | 0 => fun _ _ _ _ _ _ => none
  | n + 1 => f_X8_keeper_b10  (f_X8_keeper_L10  n)
def f_X8_keeper (v0 : Nat) (v1 : Int32) (v2 : Int32) (M : Mem) : Option (Mem × Int32) := gd (M.1 v0 = 8) <| lt_ (((mm_i M v0 14) - (1 : Int32))) fun x8 => f_X8_keeper_L10 200 v0 v1 v2 (-1 : Int32) x8 M
abbrev rm_X8_keeper : Room := { frames := 3, cells := 0, slots := 0, locals := 72 }
theorem hd_X8_keeper : yX8_keeper.cls ≠ "java/lang/invoke/MethodHandle" ∧ yX8_keeper.cls ≠ "java/lang/invoke/VarHandle" ∧ (parseMethodDescriptor yX8_keeper.desc).map (fun d => d.parameters.length) = some 2 := by decide +kernel
set_option maxHeartbeats 8000000 in
set_option maxRecDepth 100000 in
theorem c_X8_keeper {l : Launch} {D : va_G} {ca : Nat → ClassId} {b : Nat} {nx : Bool} {v0 : Nat} {v1 : Int32} {v2 : Int32} {M : Mem} {r : Mem × Int32} (hf : f_X8_keeper v0 v1 v2 M = some r) : CtI l yX8_keeper cX8_keeper 6 (some .int) rm_X8_keeper D ca b nx [.ref v0, .int v1, .int v2] M r := by
  intro sz
  refine body_start (Qc := fun A => cvI D ca nx A r) (by decide +kernel) (Nat.le_of_ble_eq_true rfl) ?_
  intro p e s m args below meth c A hC hr hR ls hl
  obtain ⟨hx, hb, hml, hts, hown, hlocks, hXe, hA, hAb, hnm⟩ := id hC
  have hK := hXe.1
  have hl : lv_has ls 6 [(0, .ref v0), (1, .int v1), (2, .int v2)] := hl
  have hB110 : ∀  (s0 : Int32) (M : Mem) (H : Heap) (locs : List Loc) (ls : Array Slot), f_X8_keeper_b110  s0 M = some r → Hp D ca nx A s M H locs → lv_has ls 6 [] → W p l e rm_X8_keeper s m args below meth c H locs 0 0 (MQ below (cvI D ca nx A r) args s 0 0 A) (F0 m 110 ls [.int s0]) := by
    intro  s0 M H locs ls hf hR hl
    unfold f_X8_keeper_b110 at hf
    exact rg_iret (pc := 110) hx hb hlocks hr hf hR dX8_keeper_110
  have hB90 : ∀ (k63 : Nat → Int32 → Int32 → Int32 → Int32 → Int32 → Mem → Option (Mem × Int32)) (hk63 : ∀ (v0 : Nat) (v1 : Int32) (v2 : Int32) (v3 : Int32) (v4 : Int32) (v5 : Int32) (M : Mem) (H : Heap) (locs : List Loc) (ls : Array Slot), k63 v0 v1 v2 v3 v4 v5 M = some r → Hp D ca nx A s M H locs → lv_has ls 6 [(0, .ref v0), (1, .int v1), (2, .int v2), (3, .int v3), (4, .int v4), (5, .int v5)] → W p l e rm_X8_keeper s m args below meth c H locs 0 0 (MQ below (cvI D ca nx A r) args s 0 0 A) (F0 m 63 ls [])) (s0 : Int32) (v0 : Nat) (v1 : Int32) (v2 : Int32) (v3 : Int32) (v5 : Int32) (M : Mem) (H : Heap) (locs : List Loc) (ls : Array Slot), f_X8_keeper_b90 k63 s0 v0 v1 v2 v3 v5 M = some r → Hp D ca nx A s M H locs → lv_has ls 6 [(0, .ref v0), (1, .int v1), (2, .int v2), (3, .int v3), (5, .int v5)] → W p l e rm_X8_keeper s m args below meth c H locs 0 0 (MQ below (cvI D ca nx A r) args s 0 0 A) (F0 m 90 ls [.int s0]) := by
    intro k63 hk63 s0 v0 v1 v2 v3 v5 M H locs ls hf hR hl
    unfold f_X8_keeper_b90 at hf
    refine lv_istore (pc := 90) (lv' := [(4, .int s0), (0, .ref v0), (1, .int v1), (2, .int v2), (3, .int v3), (5, .int v5)]) hx hb dX8_keeper_90 hl (by decide) rfl (fun ls hl => ?_)
    refine rg_iinc (pc := 92) hx hb dX8_keeper_92 hl (k := 5) rfl rfl (by decide) hf (fun x1 ls hf hl => ?_)
    have hl : lv_has ls 6 [(5, .int x1), (4, .int s0), (0, .ref v0), (1, .int v1), (2, .int v2), (3, .int v3)] := hl
    refine lv_goto (pc := 95) (tgt := 63) hx hb dX8_keeper_95 (by decide) ?_
    exact hk63 v0 v1 v2 v3 s0 x1 M _ _ _ hf hR (lv_sub hl [2, 3, 4, 5, 1, 0] rfl)
  have hB63 : ∀ (k63 : Nat → Int32 → Int32 → Int32 → Int32 → Int32 → Mem → Option (Mem × Int32)) (hk63 : ∀ (v0 : Nat) (v1 : Int32) (v2 : Int32) (v3 : Int32) (v4 : Int32) (v5 : Int32) (M : Mem) (H : Heap) (locs : List Loc) (ls : Array Slot), k63 v0 v1 v2 v3 v4 v5 M = some r → Hp D ca nx A s M H locs → lv_has ls 6 [(0, .ref v0), (1, .int v1), (2, .int v2), (3, .int v3), (4, .int v4), (5, .int v5)] → W p l e rm_X8_keeper s m args below meth c H locs 0 0 (MQ below (cvI D ca nx A r) args s 0 0 A) (F0 m 63 ls [])) (v0 : Nat) (v1 : Int32) (v2 : Int32) (v3 : Int32) (v4 : Int32) (v5 : Int32) (M : Mem) (H : Heap) (locs : List Loc) (ls : Array Slot), f_X8_keeper_b63 k63 v0 v1 v2 v3 v4 v5 M = some r → Hp D ca nx A s M H locs → lv_has ls 6 [(0, .ref v0), (1, .int v1), (2, .int v2), (3, .int v3), (4, .int v4), (5, .int v5)] → W p l e rm_X8_keeper s m args below meth c H locs 0 0 (MQ below (cvI D ca nx A r) args s 0 0 A) (F0 m 63 ls []) := by
    intro k63 hk63 v0 v1 v2 v3 v4 v5 M H locs ls hf hR hl
    unfold f_X8_keeper_b63 at hf
    refine lv_iload (pc := 63) hx hb dX8_keeper_63 (lv_at hl 5 rfl) ?_
    refine lv_if_lt (pc := 65) (tgt := 98) hx hb dX8_keeper_65 (by decide) (fun hc => ?_) (fun hc => ?_)
    · replace hf := it_t hf hc
      refine lv_iload (pc := 98) hx hb dX8_keeper_98 (lv_at hl 4 rfl) ?_
      refine lv_iconst (pc := 100) (v := (-1 : Int32)) hx hb dX8_keeper_100 (by decide) ?_
      refine lv_icmp_ne (pc := 101) (tgt := 108) hx hb dX8_keeper_101 (by decide) (fun hc => ?_) (fun hc => ?_)
      · replace hf := it_f hf hc
        refine lv_iload (pc := 108) hx hb dX8_keeper_108 (lv_at hl 4 rfl) ?_
        exact hB110 v4 M _ _ _ hf hR (lv_sub hl [] rfl)
      · replace hf := it_t hf hc
        refine lv_iload_n (pc := 104) hx hb dX8_keeper_104 rfl (lv_at hl 3 rfl) ?_
        refine lv_goto (pc := 105) (tgt := 110) hx hb dX8_keeper_105 (by decide) ?_
        exact hB110 v3 M _ _ _ hf hR (lv_sub hl [] rfl)
    · replace hf := it_f hf hc
      refine lv_aload_n (pc := 68) hx hb dX8_keeper_68 rfl (lv_at hl 0 rfl) ?_
      refine rg_getr (pc := 69) (C := RX8) (T := TX8) (N := 37) (κ := 8) hx hb hts hK hR hown in_8 rfl (by decide) 15 (by decide) m_683 rfl dX8_keeper_69 hf (fun a2 hf => ?_)
      refine lv_iload (pc := 72) hx hb dX8_keeper_72 (lv_at hl 5 rfl) ?_
      refine rg_iald (pc := 74) hx hb hK hR dX8_keeper_74 hf (fun hf => ?_)
      refine lv_iload_n (pc := 75) hx hb dX8_keeper_75 rfl (lv_at hl 1 rfl) ?_
      refine lv_iload_n (pc := 76) hx hb dX8_keeper_76 rfl (lv_at hl 2 rfl) ?_
      refine rg_I (pc := 77) hf hR hA (fun z hz => rn_S (As := [.int (mm_i M a2 (v5).toNatClampNeg), .int v1, .int v2]) (rest := []) hC hR (c_X8_isIn  hz _) m_792 m_793 m_9 m_794 hd_X8_isIn ⟨rfl, rfl, Nat.le_of_ble_eq_true rfl, Nat.le_of_ble_eq_true rfl⟩ rfl hl.1 rfl (Nat.le_of_ble_eq_true rfl) dX8_keeper_77 ⟨Nat.le_of_ble_eq_true rfl, Nat.le_of_ble_eq_true rfl⟩) (fun z3 H locs hf hR => ?_)
      refine lv_if_eq (pc := 80) (tgt := 88) hx hb dX8_keeper_80 (by decide) (fun hc => ?_) (fun hc => ?_)
      · replace hf := it_t hf hc
        refine lv_iload (pc := 88) hx hb dX8_keeper_88 (lv_at hl 4 rfl) ?_
        exact hB90 k63 hk63 v4 v0 v1 v2 v3 v5 z3.1 _ _ _ hf hR (lv_sub hl [0, 1, 2, 3, 5] rfl)
      · replace hf := it_f hf hc
        refine lv_iload (pc := 83) hx hb dX8_keeper_83 (lv_at hl 5 rfl) ?_
        refine lv_goto (pc := 85) (tgt := 90) hx hb dX8_keeper_85 (by decide) ?_
        exact hB90 k63 hk63 v5 v0 v1 v2 v3 v5 z3.1 _ _ _ hf hR (lv_sub hl [0, 1, 2, 3, 5] rfl)
  have hL63 : ∀  (n : Nat) (v0 : Nat) (v1 : Int32) (v2 : Int32) (v3 : Int32) (v4 : Int32) (v5 : Int32) (M : Mem) (H : Heap) (locs : List Loc) (ls : Array Slot), f_X8_keeper_L63  n v0 v1 v2 v3 v4 v5 M = some r → Hp D ca nx A s M H locs → lv_has ls 6 [(0, .ref v0), (1, .int v1), (2, .int v2), (3, .int v3), (4, .int v4), (5, .int v5)] → W p l e rm_X8_keeper s m args below meth c H locs 0 0 (MQ below (cvI D ca nx A r) args s 0 0 A) (F0 m 63 ls []) := by
    intro  n
    induction n with
    | zero => intro v0 v1 v2 v3 v4 v5 M H locs ls hf; exact nomatch (show (none : Option (Mem × Int32)) = some r from hf)
    | succ n ih => intro v0 v1 v2 v3 v4 v5 M H locs ls hf hR hl; exact hB63  (f_X8_keeper_L63  n) ih v0 v1 v2 v3 v4 v5 M H locs ls hf hR hl
  have hB45 : ∀ (k10 : Nat → Int32 → Int32 → Int32 → Int32 → Mem → Option (Mem × Int32)) (hk10 : ∀ (v0 : Nat) (v1 : Int32) (v2 : Int32) (v3 : Int32) (v4 : Int32) (M : Mem) (H : Heap) (locs : List Loc) (ls : Array Slot), k10 v0 v1 v2 v3 v4 M = some r → Hp D ca nx A s M H locs → lv_has ls 6 [(0, .ref v0), (1, .int v1), (2, .int v2), (3, .int v3), (4, .int v4)] → W p l e rm_X8_keeper s m args below meth c H locs 0 0 (MQ below (cvI D ca nx A r) args s 0 0 A) (F0 m 10 ls [])) (s0 : Int32) (v0 : Nat) (v1 : Int32) (v2 : Int32) (v4 : Int32) (M : Mem) (H : Heap) (locs : List Loc) (ls : Array Slot), f_X8_keeper_b45 k10 s0 v0 v1 v2 v4 M = some r → Hp D ca nx A s M H locs → lv_has ls 6 [(0, .ref v0), (1, .int v1), (2, .int v2), (4, .int v4)] → W p l e rm_X8_keeper s m args below meth c H locs 0 0 (MQ below (cvI D ca nx A r) args s 0 0 A) (F0 m 45 ls [.int s0]) := by
    intro k10 hk10 s0 v0 v1 v2 v4 M H locs ls hf hR hl
    unfold f_X8_keeper_b45 at hf
    refine lv_istore_n (pc := 45) (lv' := [(3, .int s0), (0, .ref v0), (1, .int v1), (2, .int v2), (4, .int v4)]) hx hb dX8_keeper_45 rfl hl (by decide) rfl (fun ls hl => ?_)
    refine rg_iinc (pc := 46) hx hb dX8_keeper_46 hl (k := 4) rfl rfl (by decide) hf (fun x4 ls hf hl => ?_)
    have hl : lv_has ls 6 [(4, .int x4), (3, .int s0), (0, .ref v0), (1, .int v1), (2, .int v2)] := hl
    refine lv_goto (pc := 49) (tgt := 10) hx hb dX8_keeper_49 (by decide) ?_
    exact hk10 v0 v1 v2 s0 x4 M _ _ _ hf hR (lv_sub hl [2, 3, 4, 1, 0] rfl)
  have hB39 : ∀ (k10 : Nat → Int32 → Int32 → Int32 → Int32 → Mem → Option (Mem × Int32)) (hk10 : ∀ (v0 : Nat) (v1 : Int32) (v2 : Int32) (v3 : Int32) (v4 : Int32) (M : Mem) (H : Heap) (locs : List Loc) (ls : Array Slot), k10 v0 v1 v2 v3 v4 M = some r → Hp D ca nx A s M H locs → lv_has ls 6 [(0, .ref v0), (1, .int v1), (2, .int v2), (3, .int v3), (4, .int v4)] → W p l e rm_X8_keeper s m args below meth c H locs 0 0 (MQ below (cvI D ca nx A r) args s 0 0 A) (F0 m 10 ls [])) (v0 : Nat) (v1 : Int32) (v2 : Int32) (v4 : Int32) (M : Mem) (H : Heap) (locs : List Loc) (ls : Array Slot), f_X8_keeper_b39 k10 v0 v1 v2 v4 M = some r → Hp D ca nx A s M H locs → lv_has ls 6 [(0, .ref v0), (1, .int v1), (2, .int v2), (4, .int v4)] → W p l e rm_X8_keeper s m args below meth c H locs 0 0 (MQ below (cvI D ca nx A r) args s 0 0 A) (F0 m 39 ls []) := by
    intro k10 hk10 v0 v1 v2 v4 M H locs ls hf hR hl
    unfold f_X8_keeper_b39 at hf
    refine lv_iload (pc := 39) hx hb dX8_keeper_39 (lv_at hl 3 rfl) ?_
    refine lv_goto (pc := 41) (tgt := 45) hx hb dX8_keeper_41 (by decide) ?_
    exact hB45 k10 hk10 v4 v0 v1 v2 v4 M _ _ _ hf hR (lv_sub hl [0, 1, 2, 3] rfl)
  have hB10 : ∀ (k10 : Nat → Int32 → Int32 → Int32 → Int32 → Mem → Option (Mem × Int32)) (hk10 : ∀ (v0 : Nat) (v1 : Int32) (v2 : Int32) (v3 : Int32) (v4 : Int32) (M : Mem) (H : Heap) (locs : List Loc) (ls : Array Slot), k10 v0 v1 v2 v3 v4 M = some r → Hp D ca nx A s M H locs → lv_has ls 6 [(0, .ref v0), (1, .int v1), (2, .int v2), (3, .int v3), (4, .int v4)] → W p l e rm_X8_keeper s m args below meth c H locs 0 0 (MQ below (cvI D ca nx A r) args s 0 0 A) (F0 m 10 ls [])) (v0 : Nat) (v1 : Int32) (v2 : Int32) (v3 : Int32) (v4 : Int32) (M : Mem) (H : Heap) (locs : List Loc) (ls : Array Slot), f_X8_keeper_b10 k10 v0 v1 v2 v3 v4 M = some r → Hp D ca nx A s M H locs → lv_has ls 6 [(0, .ref v0), (1, .int v1), (2, .int v2), (3, .int v3), (4, .int v4)] → W p l e rm_X8_keeper s m args below meth c H locs 0 0 (MQ below (cvI D ca nx A r) args s 0 0 A) (F0 m 10 ls []) := by
    intro k10 hk10 v0 v1 v2 v3 v4 M H locs ls hf hR hl
    unfold f_X8_keeper_b10 at hf
    refine lv_iload (pc := 10) hx hb dX8_keeper_10 (lv_at hl 4 rfl) ?_
    refine lv_if_lt (pc := 12) (tgt := 52) hx hb dX8_keeper_12 (by decide) (fun hc => ?_) (fun hc => ?_)
    · replace hf := it_t hf hc
      refine lv_iconst (pc := 52) (v := (-1 : Int32)) hx hb dX8_keeper_52 (by decide) ?_
      refine lv_istore (pc := 53) (lv' := [(4, .int (-1 : Int32)), (0, .ref v0), (1, .int v1), (2, .int v2), (3, .int v3)]) hx hb dX8_keeper_53 hl (by decide) rfl (fun ls hl => ?_)
      refine lv_aload_n (pc := 55) hx hb dX8_keeper_55 rfl (lv_at hl 1 rfl) ?_
      refine rg_get (pc := 56) (C := RX8) (T := TX8) (N := 37) (κ := 8) (v := .int (mm_i M v0 14)) hx hb hts hK hR hown in_8 rfl (by decide) 14 (by decide) m_682 rfl dX8_keeper_56 hf (fun hf => ?_)
      refine lv_iconst (pc := 59) (v := (1 : Int32)) hx hb dX8_keeper_59 (by decide) ?_
      refine lv_isub (pc := 60) hx hb dX8_keeper_60 ?_
      refine nm_i hf (fun x5 hf => ?_)
      refine lv_istore (pc := 61) (lv' := [(5, .int x5), (4, .int (-1 : Int32)), (0, .ref v0), (1, .int v1), (2, .int v2), (3, .int v3)]) hx hb dX8_keeper_61 hl (by decide) rfl (fun ls hl => ?_)
      exact hL63 200 v0 v1 v2 v3 (-1 : Int32) x5 M _ _ _ hf hR (lv_sub hl [2, 3, 4, 5, 1, 0] rfl)
    · replace hf := it_f hf hc
      refine lv_aload_n (pc := 15) hx hb dX8_keeper_15 rfl (lv_at hl 0 rfl) ?_
      refine lv_iload (pc := 16) hx hb dX8_keeper_16 (lv_at hl 4 rfl) ?_
      refine lv_iload_n (pc := 18) hx hb dX8_keeper_18 rfl (lv_at hl 1 rfl) ?_
      refine lv_iconst (pc := 19) (v := (1 : Int32)) hx hb dX8_keeper_19 (by decide) ?_
      refine lv_isub (pc := 20) hx hb dX8_keeper_20 ?_
      obtain ⟨hq, hf⟩ := gd_e hf
      refine rg_I (pc := 21) hf hR hA (fun z hz => rn_V (κ := 8) (As := [.int v4, .int (v1 - (1 : Int32))]) (rest := []) hC hR rfl (by decide) hq (c_X8_isNear  hz _) m_961 m_963 ms_32 m_9 m_964 hd_X8_isNear ⟨rfl, rfl, Nat.le_of_ble_eq_true rfl, Nat.le_of_ble_eq_true rfl⟩ rfl hl.1 rfl (Nat.le_of_ble_eq_true rfl) dX8_keeper_21 ⟨Nat.le_of_ble_eq_true rfl, Nat.le_of_ble_eq_true rfl⟩) (fun z6 H locs hf hR => ?_)
      refine lv_if_ne (pc := 24) (tgt := 39) hx hb dX8_keeper_24 (by decide) (fun hc => ?_) (fun hc => ?_)
      · replace hf := it_f hf hc
        exact hB39 k10 hk10 v0 v1 v2 v4 z6.1 _ _ _ hf hR (lv_sub hl [0, 1, 2, 4] rfl)
      · replace hf := it_t hf hc
        refine lv_aload_n (pc := 27) hx hb dX8_keeper_27 rfl (lv_at hl 0 rfl) ?_
        refine lv_iload (pc := 28) hx hb dX8_keeper_28 (lv_at hl 4 rfl) ?_
        refine lv_iload_n (pc := 30) hx hb dX8_keeper_30 rfl (lv_at hl 2 rfl) ?_
        refine lv_iconst (pc := 31) (v := (1 : Int32)) hx hb dX8_keeper_31 (by decide) ?_
        refine lv_iadd (pc := 32) hx hb dX8_keeper_32 ?_
        obtain ⟨hq, hf⟩ := gd_e hf
        refine rg_I (pc := 33) hf hR hA (fun z hz => rn_V (κ := 8) (As := [.int v4, .int (v2 + (1 : Int32))]) (rest := []) hC hR rfl (by decide) hq (c_X8_isNear  hz _) m_961 m_963 ms_32 m_9 m_964 hd_X8_isNear ⟨rfl, rfl, Nat.le_of_ble_eq_true rfl, Nat.le_of_ble_eq_true rfl⟩ rfl hl.1 rfl (Nat.le_of_ble_eq_true rfl) dX8_keeper_33 ⟨Nat.le_of_ble_eq_true rfl, Nat.le_of_ble_eq_true rfl⟩) (fun z7 H locs hf hR => ?_)
        refine lv_if_eq (pc := 36) (tgt := 44) hx hb dX8_keeper_36 (by decide) (fun hc => ?_) (fun hc => ?_)
        · replace hf := it_t hf hc
          refine lv_iload_n (pc := 44) hx hb dX8_keeper_44 rfl (lv_at hl 3 rfl) ?_
          exact hB45 k10 hk10 v3 v0 v1 v2 v4 z7.1 _ _ _ hf hR (lv_sub hl [0, 1, 2, 4] rfl)
        · replace hf := it_f hf hc
          exact hB39 k10 hk10 v0 v1 v2 v4 z7.1 _ _ _ hf hR (lv_sub hl [0, 1, 2, 4] rfl)
  have hL10 : ∀  (n : Nat) (v0 : Nat) (v1 : Int32) (v2 : Int32) (v3 : Int32) (v4 : Int32) (M : Mem) (H : Heap) (locs : List Loc) (ls : Array Slot), f_X8_keeper_L10  n v0 v1 v2 v3 v4 M = some r → Hp D ca nx A s M H locs → lv_has ls 6 [(0, .ref v0), (1, .int v1), (2, .int v2), (3, .int v3), (4, .int v4)] → W p l e rm_X8_keeper s m args below meth c H locs 0 0 (MQ below (cvI D ca nx A r) args s 0 0 A) (F0 m 10 ls []) := by
    intro  n
    induction n with
    | zero => intro v0 v1 v2 v3 v4 M H locs ls hf; exact nomatch (show (none : Option (Mem × Int32)) = some r from hf)
    | succ n ih => intro v0 v1 v2 v3 v4 M H locs ls hf hR hl; exact hB10  (f_X8_keeper_L10  n) ih v0 v1 v2 v3 v4 M H locs ls hf hR hl
  unfold f_X8_keeper at hf
  refine lv_iconst (pc := 0) (v := (-1 : Int32)) hx hb dX8_keeper_0 (by decide) ?_
  refine lv_istore_n (pc := 1) (lv' := [(3, .int (-1 : Int32)), (0, .ref v0), (1, .int v1), (2, .int v2)]) hx hb dX8_keeper_1 rfl hl (by decide) rfl (fun ls hl => ?_)
  refine lv_aload_n (pc := 2) hx hb dX8_keeper_2 rfl (lv_at hl 1 rfl) ?_
  refine rg_get (pc := 3) (C := RX8) (T := TX8) (N := 37) (κ := 8) (v := .int (mm_i M v0 14)) hx hb hts hK hR hown in_8 rfl (by decide) 14 (by decide) m_682 rfl dX8_keeper_3 hf (fun hf => ?_)
  refine lv_iconst (pc := 6) (v := (1 : Int32)) hx hb dX8_keeper_6 (by decide) ?_
  refine lv_isub (pc := 7) hx hb dX8_keeper_7 ?_
  refine nm_i hf (fun x8 hf => ?_)
  refine lv_istore (pc := 8) (lv' := [(4, .int x8), (3, .int (-1 : Int32)), (0, .ref v0), (1, .int v1), (2, .int v2)]) hx hb dX8_keeper_8 hl (by decide) rfl (fun ls hl => ?_)
  exact hL10 200 v0 v1 v2 (-1 : Int32) x8 M _ _ _ hf hR (lv_sub hl [2, 3, 4, 1, 0] rfl)
-- X8_gap
def f_X8_gap_b82  (s0 : Int32) (M : Mem) : Option (Mem × Int32) := some (M, s0)
def f_X8_gap_b38  (s0 : Int32) (s1 : Nat) (v0 : Nat) (v2 : Int32) (v3 : Int32) (M : Mem) : Option (Mem × Int32) := gd (M.1 s1 = 8) <| lt_ (ms_i M s1 0 s0) fun M1 => gd (M1.1 v0 = 8) <| if (mm_i M1 v0 0) ≤ 0 then (gd (M1.1 v0 = 8) <| bd (f_X8_endOf v0 v3 M1) fun z2 => if v2 = 0 then (f_X8_gap_b82 v3 z2.1) else (if v2 = (1 : Int32) then (f_X8_gap_b82 z2.2 z2.1) else (gd (z2.1.1 v0 = 8) <| bd (f_X8_keeper v0 v3 z2.2 z2.1) fun z3 => f_X8_gap_b82 z3.2 z3.1))) else (some (M1, (0 : Int32)))
def f_X8_gap_b13  (s0 : Int32) (v0 : Nat) (v2 : Int32) (M : Mem) : Option (Mem × Int32) := if s0 = (-1 : Int32) then (f_X8_gap_b38 (1 : Int32) v0 v0 v2 s0 M) else (bd (f_X8_isIn v2 (0 : Int32) (2 : Int32) M) fun z4 => if z4.2 = 0 then (f_X8_gap_b38 (2 : Int32) v0 v0 v2 s0 z4.1) else (f_X8_gap_b38 (0 : Int32) v0 v0 v2 s0 z4.1))
def f_X8_gap (v0 : Nat) (v1 : Int32) (v2 : Int32) (M : Mem) : Option (Mem × Int32) := if 0 ≤ v1 then (gd (M.1 v0 = 8) <| bd (f_X8_gapAt v0 v1 M) fun z5 => f_X8_gap_b13 z5.2 v0 v2 z5.1) else (f_X8_gap_b13 (-1 : Int32) v0 v2 M)
abbrev rm_X8_gap : Room := { frames := 4, cells := 0, slots := 0, locals := 97 }
theorem hd_X8_gap : yX8_gap.cls ≠ "java/lang/invoke/MethodHandle" ∧ yX8_gap.cls ≠ "java/lang/invoke/VarHandle" ∧ (parseMethodDescriptor yX8_gap.desc).map (fun d => d.parameters.length) = some 2 := by decide +kernel
set_option maxHeartbeats 8000000 in
set_option maxRecDepth 100000 in
theorem c_X8_gap {l : Launch} {D : va_G} {ca : Nat → ClassId} {b : Nat} {nx : Bool} {v0 : Nat} {v1 : Int32} {v2 : Int32} {M : Mem} {r : Mem × Int32} (hf : f_X8_gap v0 v1 v2 M = some r) : CtI l yX8_gap cX8_gap 5 (some .int) rm_X8_gap D ca b nx [.ref v0, .int v1, .int v2] M r := by
  intro sz
  refine body_start (Qc := fun A => cvI D ca nx A r) (by decide +kernel) (Nat.le_of_ble_eq_true rfl) ?_
  intro p e s m args below meth c A hC hr hR ls hl
  obtain ⟨hx, hb, hml, hts, hown, hlocks, hXe, hA, hAb, hnm⟩ := id hC
  have hK := hXe.1
  have hl : lv_has ls 5 [(0, .ref v0), (1, .int v1), (2, .int v2)] := hl
  have hB82 : ∀  (s0 : Int32) (M : Mem) (H : Heap) (locs : List Loc) (ls : Array Slot), f_X8_gap_b82  s0 M = some r → Hp D ca nx A s M H locs → lv_has ls 5 [] → W p l e rm_X8_gap s m args below meth c H locs 0 0 (MQ below (cvI D ca nx A r) args s 0 0 A) (F0 m 82 ls [.int s0]) := by
    intro  s0 M H locs ls hf hR hl
    unfold f_X8_gap_b82 at hf
    exact rg_iret (pc := 82) hx hb hlocks hr hf hR dX8_gap_82
  have hB38 : ∀  (s0 : Int32) (s1 : Nat) (v0 : Nat) (v2 : Int32) (v3 : Int32) (M : Mem) (H : Heap) (locs : List Loc) (ls : Array Slot), f_X8_gap_b38  s0 s1 v0 v2 v3 M = some r → Hp D ca nx A s M H locs → lv_has ls 5 [(0, .ref v0), (2, .int v2), (3, .int v3)] → W p l e rm_X8_gap s m args below meth c H locs 0 0 (MQ below (cvI D ca nx A r) args s 0 0 A) (F0 m 38 ls [.int s0, .ref s1]) := by
    intro  s0 s1 v0 v2 v3 M H locs ls hf hR hl
    unfold f_X8_gap_b38 at hf
    refine rg_puti (pc := 38) (C := RX8) (T := TX8) (N := 37) (κ := 8) hx hb hts hK hR hown in_8 rfl (by decide) 0 (by decide) m_668 tyX8 tyX8_ok nmX8 rfl rfl rfl rfl dX8_gap_38 hf (fun M1 H locs hf hR => ?_)
    refine lv_aload_n (pc := 41) hx hb dX8_gap_41 rfl (lv_at hl 0 rfl) ?_
    refine rg_get (pc := 42) (C := RX8) (T := TX8) (N := 37) (κ := 8) (v := .int (mm_i M1 v0 0)) hx hb hts hK hR hown in_8 rfl (by decide) 0 (by decide) m_668 rfl dX8_gap_42 hf (fun hf => ?_)
    refine lv_if_le (pc := 45) (tgt := 50) hx hb dX8_gap_45 (by decide) (fun hc => ?_) (fun hc => ?_)
    · replace hf := it_t hf hc
      refine lv_aload_n (pc := 50) hx hb dX8_gap_50 rfl (lv_at hl 0 rfl) ?_
      refine lv_iload_n (pc := 51) hx hb dX8_gap_51 rfl (lv_at hl 2 rfl) ?_
      obtain ⟨hq, hf⟩ := gd_e hf
      refine rg_I (pc := 52) hf hR hA (fun z hz => rn_V (κ := 8) (As := [.int v3]) (rest := []) hC hR rfl (by decide) hq (c_X8_endOf  hz _) m_953 m_955 ms_30 m_9 m_956 hd_X8_endOf ⟨rfl, rfl, Nat.le_of_ble_eq_true rfl, Nat.le_of_ble_eq_true rfl⟩ rfl hl.1 rfl (Nat.le_of_ble_eq_true rfl) dX8_gap_52 ⟨Nat.le_of_ble_eq_true rfl, Nat.le_of_ble_eq_true rfl⟩) (fun z2 H locs hf hR => ?_)
      refine lv_istore (pc := 55) (lv' := [(4, .int z2.2), (0, .ref v0), (2, .int v2), (3, .int v3)]) hx hb dX8_gap_55 hl (by decide) rfl (fun ls hl => ?_)
      refine lv_iload_n (pc := 57) hx hb dX8_gap_57 rfl (lv_at hl 2 rfl) ?_
      refine lv_if_ne (pc := 58) (tgt := 65) hx hb dX8_gap_58 (by decide) (fun hc => ?_) (fun hc => ?_)
      · replace hf := it_f hf hc
        refine lv_iload_n (pc := 65) hx hb dX8_gap_65 rfl (lv_at hl 2 rfl) ?_
        refine lv_iconst (pc := 66) (v := (1 : Int32)) hx hb dX8_gap_66 (by decide) ?_
        refine lv_icmp_ne (pc := 67) (tgt := 75) hx hb dX8_gap_67 (by decide) (fun hc => ?_) (fun hc => ?_)
        · replace hf := it_f hf hc
          refine lv_aload_n (pc := 75) hx hb dX8_gap_75 rfl (lv_at hl 1 rfl) ?_
          refine lv_iload_n (pc := 76) hx hb dX8_gap_76 rfl (lv_at hl 3 rfl) ?_
          refine lv_iload (pc := 77) hx hb dX8_gap_77 (lv_at hl 0 rfl) ?_
          obtain ⟨hq, hf⟩ := gd_e hf
          refine rg_I (pc := 79) hf hR hA (fun z hz => rn_V (κ := 8) (As := [.int v3, .int z2.2]) (rest := []) hC hR rfl (by decide) hq (c_X8_keeper  hz _) m_957 m_959 ms_31 m_9 m_960 hd_X8_keeper ⟨rfl, rfl, Nat.le_of_ble_eq_true rfl, Nat.le_of_ble_eq_true rfl⟩ rfl hl.1 rfl (Nat.le_of_ble_eq_true rfl) dX8_gap_79 ⟨Nat.le_of_ble_eq_true rfl, Nat.le_of_ble_eq_true rfl⟩) (fun z3 H locs hf hR => ?_)
          exact hB82 z3.2 z3.1 _ _ _ hf hR (lv_sub hl [] rfl)
        · replace hf := it_t hf hc
          refine lv_iload (pc := 70) hx hb dX8_gap_70 (lv_at hl 0 rfl) ?_
          refine lv_goto (pc := 72) (tgt := 82) hx hb dX8_gap_72 (by decide) ?_
          exact hB82 z2.2 z2.1 _ _ _ hf hR (lv_sub hl [] rfl)
      · replace hf := it_t hf hc
        refine lv_iload_n (pc := 61) hx hb dX8_gap_61 rfl (lv_at hl 3 rfl) ?_
        refine lv_goto (pc := 62) (tgt := 82) hx hb dX8_gap_62 (by decide) ?_
        exact hB82 v3 z2.1 _ _ _ hf hR (lv_sub hl [] rfl)
    · replace hf := it_f hf hc
      refine lv_iconst (pc := 48) (v := (0 : Int32)) hx hb dX8_gap_48 (by decide) ?_
      exact rg_iret (pc := 49) hx hb hlocks hr hf hR dX8_gap_49
  have hB13 : ∀  (s0 : Int32) (v0 : Nat) (v2 : Int32) (M : Mem) (H : Heap) (locs : List Loc) (ls : Array Slot), f_X8_gap_b13  s0 v0 v2 M = some r → Hp D ca nx A s M H locs → lv_has ls 5 [(0, .ref v0), (2, .int v2)] → W p l e rm_X8_gap s m args below meth c H locs 0 0 (MQ below (cvI D ca nx A r) args s 0 0 A) (F0 m 13 ls [.int s0]) := by
    intro  s0 v0 v2 M H locs ls hf hR hl
    unfold f_X8_gap_b13 at hf
    refine lv_istore_n (pc := 13) (lv' := [(3, .int s0), (0, .ref v0), (2, .int v2)]) hx hb dX8_gap_13 rfl hl (by decide) rfl (fun ls hl => ?_)
    refine lv_aload_n (pc := 14) hx hb dX8_gap_14 rfl (lv_at hl 1 rfl) ?_
    refine lv_iload_n (pc := 15) hx hb dX8_gap_15 rfl (lv_at hl 0 rfl) ?_
    refine lv_iconst (pc := 16) (v := (-1 : Int32)) hx hb dX8_gap_16 (by decide) ?_
    refine lv_icmp_ne (pc := 17) (tgt := 24) hx hb dX8_gap_17 (by decide) (fun hc => ?_) (fun hc => ?_)
    · replace hf := it_f hf hc
      refine lv_iload_n (pc := 24) hx hb dX8_gap_24 rfl (lv_at hl 2 rfl) ?_
      refine lv_iconst (pc := 25) (v := (0 : Int32)) hx hb dX8_gap_25 (by decide) ?_
      refine lv_iconst (pc := 26) (v := (2 : Int32)) hx hb dX8_gap_26 (by decide) ?_
      refine rg_I (pc := 27) hf hR hA (fun z hz => rn_S (As := [.int v2, .int (0 : Int32), .int (2 : Int32)]) (rest := [.ref v0]) hC hR (c_X8_isIn  hz _) m_792 m_793 m_9 m_794 hd_X8_isIn ⟨rfl, rfl, Nat.le_of_ble_eq_true rfl, Nat.le_of_ble_eq_true rfl⟩ rfl hl.1 rfl (Nat.le_of_ble_eq_true rfl) dX8_gap_27 ⟨Nat.le_of_ble_eq_true rfl, Nat.le_of_ble_eq_true rfl⟩) (fun z4 H locs hf hR => ?_)
      refine lv_if_ne (pc := 30) (tgt := 37) hx hb dX8_gap_30 (by decide) (fun hc => ?_) (fun hc => ?_)
      · replace hf := it_f hf hc
        refine lv_iconst (pc := 37) (v := (0 : Int32)) hx hb dX8_gap_37 (by decide) ?_
        exact hB38 (0 : Int32) v0 v0 v2 s0 z4.1 _ _ _ hf hR (lv_sub hl [1, 2, 0] rfl)
      · replace hf := it_t hf hc
        refine lv_iconst (pc := 33) (v := (2 : Int32)) hx hb dX8_gap_33 (by decide) ?_
        refine lv_goto (pc := 34) (tgt := 38) hx hb dX8_gap_34 (by decide) ?_
        exact hB38 (2 : Int32) v0 v0 v2 s0 z4.1 _ _ _ hf hR (lv_sub hl [1, 2, 0] rfl)
    · replace hf := it_t hf hc
      refine lv_iconst (pc := 20) (v := (1 : Int32)) hx hb dX8_gap_20 (by decide) ?_
      refine lv_goto (pc := 21) (tgt := 38) hx hb dX8_gap_21 (by decide) ?_
      exact hB38 (1 : Int32) v0 v0 v2 s0 M _ _ _ hf hR (lv_sub hl [1, 2, 0] rfl)
  unfold f_X8_gap at hf
  refine lv_iload_n (pc := 0) hx hb dX8_gap_0 rfl (lv_at hl 1 rfl) ?_
  refine lv_if_ge (pc := 1) (tgt := 8) hx hb dX8_gap_1 (by decide) (fun hc => ?_) (fun hc => ?_)
  · replace hf := it_t hf hc
    refine lv_aload_n (pc := 8) hx hb dX8_gap_8 rfl (lv_at hl 0 rfl) ?_
    refine lv_iload_n (pc := 9) hx hb dX8_gap_9 rfl (lv_at hl 1 rfl) ?_
    obtain ⟨hq, hf⟩ := gd_e hf
    refine rg_I (pc := 10) hf hR hA (fun z hz => rn_V (κ := 8) (As := [.int v1]) (rest := []) hC hR rfl (by decide) hq (c_X8_gapAt  hz _) m_941 m_943 ms_27 m_9 m_944 hd_X8_gapAt ⟨rfl, rfl, Nat.le_of_ble_eq_true rfl, Nat.le_of_ble_eq_true rfl⟩ rfl hl.1 rfl (Nat.le_of_ble_eq_true rfl) dX8_gap_10 ⟨Nat.le_of_ble_eq_true rfl, Nat.le_of_ble_eq_true rfl⟩) (fun z5 H locs hf hR => ?_)
    exact hB13 z5.2 v0 v2 z5.1 _ _ _ hf hR (lv_sub hl [0, 2] rfl)
  · replace hf := it_f hf hc
    refine lv_iconst (pc := 4) (v := (-1 : Int32)) hx hb dX8_gap_4 (by decide) ?_
    refine lv_goto (pc := 5) (tgt := 13) hx hb dX8_gap_5 (by decide) ?_
    exact hB13 (-1 : Int32) v0 v2 M _ _ _ hf hR (lv_sub hl [0, 2] rfl)
-- X8_gaps
def f_X8_gaps_b13 (k13 : Nat → Int32 → Int32 → Mem → Option (Mem × Int32)) (v0 : Nat) (v1 : Int32) (v2 : Int32) (M : Mem) : Option (Mem × Int32) := if v2 = (-1 : Int32) then (some (M, v1)) else (lt_ (v1 + (1 : Int32)) fun x1 => gd (M.1 v0 = 8) <| bd (f_X8_endOf v0 v2 M) fun z2 => gd (z2.1.1 v0 = 8) <| bd (f_X8_gapFrom v0 (z2.2 + (2 : Int32)) z2.1) fun z3 => k13 v0 x1 z3.2 z3.1)
def f_X8_gaps_L13  : Nat → Nat → Int32 → Int32 → Mem → Option (Mem × Int32)
  | 0 => fun _ _ _ _ => none
  | n + 1 => f_X8_gaps_b13  (f_X8_gaps_L13  n)
def f_X8_gaps (v0 : Nat) (M : Mem) : Option (Mem × Int32) := gd (M.1 v0 = 8) <| lt_ (ms_i M v0 0 (0 : Int32)) fun M4 => gd (M4.1 v0 = 8) <| bd (f_X8_gapFrom v0 (0 : Int32) M4) fun z5 => f_X8_gaps_L13 200 v0 (0 : Int32) z5.2 z5.1
abbrev rm_X8_gaps : Room := { frames := 2, cells := 0, slots := 0, locals := 47 }
theorem hd_X8_gaps : yX8_gaps.cls ≠ "java/lang/invoke/MethodHandle" ∧ yX8_gaps.cls ≠ "java/lang/invoke/VarHandle" ∧ (parseMethodDescriptor yX8_gaps.desc).map (fun d => d.parameters.length) = some 0 := by decide +kernel
set_option maxHeartbeats 8000000 in
set_option maxRecDepth 100000 in
theorem c_X8_gaps {l : Launch} {D : va_G} {ca : Nat → ClassId} {b : Nat} {nx : Bool} {v0 : Nat} {M : Mem} {r : Mem × Int32} (hf : f_X8_gaps v0 M = some r) : CtI l yX8_gaps cX8_gaps 3 (some .int) rm_X8_gaps D ca b nx [.ref v0] M r := by
  intro sz
  refine body_start (Qc := fun A => cvI D ca nx A r) (by decide +kernel) (Nat.le_of_ble_eq_true rfl) ?_
  intro p e s m args below meth c A hC hr hR ls hl
  obtain ⟨hx, hb, hml, hts, hown, hlocks, hXe, hA, hAb, hnm⟩ := id hC
  have hK := hXe.1
  have hl : lv_has ls 3 [(0, .ref v0)] := hl
  have hB13 : ∀ (k13 : Nat → Int32 → Int32 → Mem → Option (Mem × Int32)) (hk13 : ∀ (v0 : Nat) (v1 : Int32) (v2 : Int32) (M : Mem) (H : Heap) (locs : List Loc) (ls : Array Slot), k13 v0 v1 v2 M = some r → Hp D ca nx A s M H locs → lv_has ls 3 [(0, .ref v0), (1, .int v1), (2, .int v2)] → W p l e rm_X8_gaps s m args below meth c H locs 0 0 (MQ below (cvI D ca nx A r) args s 0 0 A) (F0 m 13 ls [])) (v0 : Nat) (v1 : Int32) (v2 : Int32) (M : Mem) (H : Heap) (locs : List Loc) (ls : Array Slot), f_X8_gaps_b13 k13 v0 v1 v2 M = some r → Hp D ca nx A s M H locs → lv_has ls 3 [(0, .ref v0), (1, .int v1), (2, .int v2)] → W p l e rm_X8_gaps s m args below meth c H locs 0 0 (MQ below (cvI D ca nx A r) args s 0 0 A) (F0 m 13 ls []) := by
    intro k13 hk13 v0 v1 v2 M H locs ls hf hR hl
    unfold f_X8_gaps_b13 at hf
    refine lv_iload_n (pc := 13) hx hb dX8_gaps_13 rfl (lv_at hl 2 rfl) ?_
    refine lv_iconst (pc := 14) (v := (-1 : Int32)) hx hb dX8_gaps_14 (by decide) ?_
    refine lv_icmp_eq (pc := 15) (tgt := 36) hx hb dX8_gaps_15 (by decide) (fun hc => ?_) (fun hc => ?_)
    · replace hf := it_t hf hc
      refine lv_iload_n (pc := 36) hx hb dX8_gaps_36 rfl (lv_at hl 1 rfl) ?_
      exact rg_iret (pc := 37) hx hb hlocks hr hf hR dX8_gaps_37
    · replace hf := it_f hf hc
      refine rg_iinc (pc := 18) hx hb dX8_gaps_18 hl (k := 1) rfl rfl (by decide) hf (fun x1 ls hf hl => ?_)
      have hl : lv_has ls 3 [(1, .int x1), (0, .ref v0), (2, .int v2)] := hl
      refine lv_aload_n (pc := 21) hx hb dX8_gaps_21 rfl (lv_at hl 1 rfl) ?_
      refine lv_aload_n (pc := 22) hx hb dX8_gaps_22 rfl (lv_at hl 1 rfl) ?_
      refine lv_iload_n (pc := 23) hx hb dX8_gaps_23 rfl (lv_at hl 2 rfl) ?_
      obtain ⟨hq, hf⟩ := gd_e hf
      refine rg_I (pc := 24) hf hR hA (fun z hz => rn_V (κ := 8) (As := [.int v2]) (rest := [.ref v0]) hC hR rfl (by decide) hq (c_X8_endOf  hz _) m_953 m_955 ms_30 m_9 m_956 hd_X8_endOf ⟨rfl, rfl, Nat.le_of_ble_eq_true rfl, Nat.le_of_ble_eq_true rfl⟩ rfl hl.1 rfl (Nat.le_of_ble_eq_true rfl) dX8_gaps_24 ⟨Nat.le_of_ble_eq_true rfl, Nat.le_of_ble_eq_true rfl⟩) (fun z2 H locs hf hR => ?_)
      refine lv_iconst (pc := 27) (v := (2 : Int32)) hx hb dX8_gaps_27 (by decide) ?_
      refine lv_iadd (pc := 28) hx hb dX8_gaps_28 ?_
      obtain ⟨hq, hf⟩ := gd_e hf
      refine rg_I (pc := 29) hf hR hA (fun z hz => rn_V (κ := 8) (As := [.int (z2.2 + (2 : Int32))]) (rest := []) hC hR rfl (by decide) hq (c_X8_gapFrom  hz _) m_945 m_947 ms_28 m_9 m_948 hd_X8_gapFrom ⟨rfl, rfl, Nat.le_of_ble_eq_true rfl, Nat.le_of_ble_eq_true rfl⟩ rfl hl.1 rfl (Nat.le_of_ble_eq_true rfl) dX8_gaps_29 ⟨Nat.le_of_ble_eq_true rfl, Nat.le_of_ble_eq_true rfl⟩) (fun z3 H locs hf hR => ?_)
      refine lv_istore_n (pc := 32) (lv' := [(2, .int z3.2), (1, .int x1), (0, .ref v0)]) hx hb dX8_gaps_32 rfl hl (by decide) rfl (fun ls hl => ?_)
      refine lv_goto (pc := 33) (tgt := 13) hx hb dX8_gaps_33 (by decide) ?_
      exact hk13 v0 x1 z3.2 z3.1 _ _ _ hf hR (lv_sub hl [2, 1, 0] rfl)
  have hL13 : ∀  (n : Nat) (v0 : Nat) (v1 : Int32) (v2 : Int32) (M : Mem) (H : Heap) (locs : List Loc) (ls : Array Slot), f_X8_gaps_L13  n v0 v1 v2 M = some r → Hp D ca nx A s M H locs → lv_has ls 3 [(0, .ref v0), (1, .int v1), (2, .int v2)] → W p l e rm_X8_gaps s m args below meth c H locs 0 0 (MQ below (cvI D ca nx A r) args s 0 0 A) (F0 m 13 ls []) := by
    intro  n
    induction n with
    | zero => intro v0 v1 v2 M H locs ls hf; exact nomatch (show (none : Option (Mem × Int32)) = some r from hf)
    | succ n ih => intro v0 v1 v2 M H locs ls hf hR hl; exact hB13  (f_X8_gaps_L13  n) ih v0 v1 v2 M H locs ls hf hR hl
  unfold f_X8_gaps at hf
  refine lv_aload_n (pc := 0) hx hb dX8_gaps_0 rfl (lv_at hl 0 rfl) ?_
  refine lv_iconst (pc := 1) (v := (0 : Int32)) hx hb dX8_gaps_1 (by decide) ?_
  refine rg_puti (pc := 2) (C := RX8) (T := TX8) (N := 37) (κ := 8) hx hb hts hK hR hown in_8 rfl (by decide) 0 (by decide) m_668 tyX8 tyX8_ok nmX8 rfl rfl rfl rfl dX8_gaps_2 hf (fun M4 H locs hf hR => ?_)
  refine lv_iconst (pc := 5) (v := (0 : Int32)) hx hb dX8_gaps_5 (by decide) ?_
  refine lv_istore_n (pc := 6) (lv' := [(1, .int (0 : Int32)), (0, .ref v0)]) hx hb dX8_gaps_6 rfl hl (by decide) rfl (fun ls hl => ?_)
  refine lv_aload_n (pc := 7) hx hb dX8_gaps_7 rfl (lv_at hl 1 rfl) ?_
  refine lv_iconst (pc := 8) (v := (0 : Int32)) hx hb dX8_gaps_8 (by decide) ?_
  obtain ⟨hq, hf⟩ := gd_e hf
  refine rg_I (pc := 9) hf hR hA (fun z hz => rn_V (κ := 8) (As := [.int (0 : Int32)]) (rest := []) hC hR rfl (by decide) hq (c_X8_gapFrom  hz _) m_945 m_947 ms_28 m_9 m_948 hd_X8_gapFrom ⟨rfl, rfl, Nat.le_of_ble_eq_true rfl, Nat.le_of_ble_eq_true rfl⟩ rfl hl.1 rfl (Nat.le_of_ble_eq_true rfl) dX8_gaps_9 ⟨Nat.le_of_ble_eq_true rfl, Nat.le_of_ble_eq_true rfl⟩) (fun z5 H locs hf hR => ?_)
  refine lv_istore_n (pc := 12) (lv' := [(2, .int z5.2), (1, .int (0 : Int32)), (0, .ref v0)]) hx hb dX8_gaps_12 rfl hl (by decide) rfl (fun ls hl => ?_)
  exact hL13 200 v0 (0 : Int32) z5.2 z5.1 _ _ _ hf hR (lv_sub hl [2, 1, 0] rfl)
-- X8_framed
def f_X8_framed_b50  (s0 : Int32) (M : Mem) : Option (Mem × Int32) := some (M, s0)
def f_X8_framed_b25  (s0 : Int32) (s1 : Nat) (v0 : Nat) (v1 : Int32) (v2 : Int32) (M : Mem) : Option (Mem × Int32) := gd (M.1 s1 = 8) <| lt_ (ms_i M s1 0 s0) fun M1 => gd (M1.1 v0 = 8) <| if (mm_i M1 v0 0) ≤ 0 then (gd (M1.1 v0 = 8) <| rd (mm_r M1 v0 30) fun a2 => gd (M1.1 a2 = 9 ∧ vi_ (((64 : Int32) * v1) + v2) (mm_N M1 a2)) <| f_X8_framed_b50 (mm_i M1 a2 ((((64 : Int32) * v1) + v2)).toNatClampNeg) M1) else (f_X8_framed_b50 (0 : Int32) M1)
def f_X8_framed (v0 : Nat) (v1 : Int32) (v2 : Int32) (M : Mem) : Option (Mem × Int32) := gd (M.1 v0 = 8) <| bd (f_X8_isFrame v0 v1 M) fun z3 => if z3.2 = 0 then (f_X8_framed_b25 (1 : Int32) v0 v0 v1 v2 z3.1) else (bd (f_X8_isLane v2 z3.1) fun z4 => if z4.2 = 0 then (f_X8_framed_b25 (2 : Int32) v0 v0 v1 v2 z4.1) else (f_X8_framed_b25 (0 : Int32) v0 v0 v1 v2 z4.1))
abbrev rm_X8_framed : Room := { frames := 2, cells := 0, slots := 0, locals := 43 }
theorem hd_X8_framed : yX8_framed.cls ≠ "java/lang/invoke/MethodHandle" ∧ yX8_framed.cls ≠ "java/lang/invoke/VarHandle" ∧ (parseMethodDescriptor yX8_framed.desc).map (fun d => d.parameters.length) = some 2 := by decide +kernel
set_option maxHeartbeats 8000000 in
set_option maxRecDepth 100000 in
theorem c_X8_framed {l : Launch} {D : va_G} {ca : Nat → ClassId} {b : Nat} {nx : Bool} {v0 : Nat} {v1 : Int32} {v2 : Int32} {M : Mem} {r : Mem × Int32} (hf : f_X8_framed v0 v1 v2 M = some r) : CtI l yX8_framed cX8_framed 3 (some .int) rm_X8_framed D ca b nx [.ref v0, .int v1, .int v2] M r := by
  intro sz
  refine body_start (Qc := fun A => cvI D ca nx A r) (by decide +kernel) (Nat.le_of_ble_eq_true rfl) ?_
  intro p e s m args below meth c A hC hr hR ls hl
  obtain ⟨hx, hb, hml, hts, hown, hlocks, hXe, hA, hAb, hnm⟩ := id hC
  have hK := hXe.1
  have hl : lv_has ls 3 [(0, .ref v0), (1, .int v1), (2, .int v2)] := hl
  have hB50 : ∀  (s0 : Int32) (M : Mem) (H : Heap) (locs : List Loc) (ls : Array Slot), f_X8_framed_b50  s0 M = some r → Hp D ca nx A s M H locs → lv_has ls 3 [] → W p l e rm_X8_framed s m args below meth c H locs 0 0 (MQ below (cvI D ca nx A r) args s 0 0 A) (F0 m 50 ls [.int s0]) := by
    intro  s0 M H locs ls hf hR hl
    unfold f_X8_framed_b50 at hf
    exact rg_iret (pc := 50) hx hb hlocks hr hf hR dX8_framed_50
  have hB25 : ∀  (s0 : Int32) (s1 : Nat) (v0 : Nat) (v1 : Int32) (v2 : Int32) (M : Mem) (H : Heap) (locs : List Loc) (ls : Array Slot), f_X8_framed_b25  s0 s1 v0 v1 v2 M = some r → Hp D ca nx A s M H locs → lv_has ls 3 [(0, .ref v0), (1, .int v1), (2, .int v2)] → W p l e rm_X8_framed s m args below meth c H locs 0 0 (MQ below (cvI D ca nx A r) args s 0 0 A) (F0 m 25 ls [.int s0, .ref s1]) := by
    intro  s0 s1 v0 v1 v2 M H locs ls hf hR hl
    unfold f_X8_framed_b25 at hf
    refine rg_puti (pc := 25) (C := RX8) (T := TX8) (N := 37) (κ := 8) hx hb hts hK hR hown in_8 rfl (by decide) 0 (by decide) m_668 tyX8 tyX8_ok nmX8 rfl rfl rfl rfl dX8_framed_25 hf (fun M1 H locs hf hR => ?_)
    refine lv_aload_n (pc := 28) hx hb dX8_framed_28 rfl (lv_at hl 0 rfl) ?_
    refine rg_get (pc := 29) (C := RX8) (T := TX8) (N := 37) (κ := 8) (v := .int (mm_i M1 v0 0)) hx hb hts hK hR hown in_8 rfl (by decide) 0 (by decide) m_668 rfl dX8_framed_29 hf (fun hf => ?_)
    refine lv_if_le (pc := 32) (tgt := 39) hx hb dX8_framed_32 (by decide) (fun hc => ?_) (fun hc => ?_)
    · replace hf := it_t hf hc
      refine lv_aload_n (pc := 39) hx hb dX8_framed_39 rfl (lv_at hl 0 rfl) ?_
      refine rg_getr (pc := 40) (C := RX8) (T := TX8) (N := 37) (κ := 8) hx hb hts hK hR hown in_8 rfl (by decide) 30 (by decide) m_698 rfl dX8_framed_40 hf (fun a2 hf => ?_)
      refine lv_bipush (pc := 43) (v := (64 : Int32)) hx hb dX8_framed_43 (by decide) ?_
      refine lv_iload_n (pc := 45) hx hb dX8_framed_45 rfl (lv_at hl 1 rfl) ?_
      refine lv_imul (pc := 46) hx hb dX8_framed_46 ?_
      refine lv_iload_n (pc := 47) hx hb dX8_framed_47 rfl (lv_at hl 2 rfl) ?_
      refine lv_iadd (pc := 48) hx hb dX8_framed_48 ?_
      refine rg_iald (pc := 49) hx hb hK hR dX8_framed_49 hf (fun hf => ?_)
      exact hB50 (mm_i M1 a2 ((((64 : Int32) * v1) + v2)).toNatClampNeg) M1 _ _ _ hf hR (lv_sub hl [] rfl)
    · replace hf := it_f hf hc
      refine lv_iconst (pc := 35) (v := (0 : Int32)) hx hb dX8_framed_35 (by decide) ?_
      refine lv_goto (pc := 36) (tgt := 50) hx hb dX8_framed_36 (by decide) ?_
      exact hB50 (0 : Int32) M1 _ _ _ hf hR (lv_sub hl [] rfl)
  unfold f_X8_framed at hf
  refine lv_aload_n (pc := 0) hx hb dX8_framed_0 rfl (lv_at hl 0 rfl) ?_
  refine lv_aload_n (pc := 1) hx hb dX8_framed_1 rfl (lv_at hl 0 rfl) ?_
  refine lv_iload_n (pc := 2) hx hb dX8_framed_2 rfl (lv_at hl 1 rfl) ?_
  obtain ⟨hq, hf⟩ := gd_e hf
  refine rg_I (pc := 3) hf hR hA (fun z hz => rn_V (κ := 8) (As := [.int v1]) (rest := [.ref v0]) hC hR rfl (by decide) hq (c_X8_isFrame  hz _) m_879 m_881 ms_23 m_9 m_882 hd_X8_isFrame ⟨rfl, rfl, Nat.le_of_ble_eq_true rfl, Nat.le_of_ble_eq_true rfl⟩ rfl hl.1 rfl (Nat.le_of_ble_eq_true rfl) dX8_framed_3 ⟨Nat.le_of_ble_eq_true rfl, Nat.le_of_ble_eq_true rfl⟩) (fun z3 H locs hf hR => ?_)
  refine lv_if_ne (pc := 6) (tgt := 13) hx hb dX8_framed_6 (by decide) (fun hc => ?_) (fun hc => ?_)
  · replace hf := it_f hf hc
    refine lv_iload_n (pc := 13) hx hb dX8_framed_13 rfl (lv_at hl 2 rfl) ?_
    refine rg_I (pc := 14) hf hR hA (fun z hz => rn_S (As := [.int v2]) (rest := [.ref v0]) hC hR (c_X8_isLane  hz _) m_789 m_790 m_9 m_791 hd_X8_isLane ⟨rfl, rfl, Nat.le_of_ble_eq_true rfl, Nat.le_of_ble_eq_true rfl⟩ rfl hl.1 rfl (Nat.le_of_ble_eq_true rfl) dX8_framed_14 ⟨Nat.le_of_ble_eq_true rfl, Nat.le_of_ble_eq_true rfl⟩) (fun z4 H locs hf hR => ?_)
    refine lv_if_ne (pc := 17) (tgt := 24) hx hb dX8_framed_17 (by decide) (fun hc => ?_) (fun hc => ?_)
    · replace hf := it_f hf hc
      refine lv_iconst (pc := 24) (v := (0 : Int32)) hx hb dX8_framed_24 (by decide) ?_
      exact hB25 (0 : Int32) v0 v0 v1 v2 z4.1 _ _ _ hf hR (lv_sub hl [0, 1, 2] rfl)
    · replace hf := it_t hf hc
      refine lv_iconst (pc := 20) (v := (2 : Int32)) hx hb dX8_framed_20 (by decide) ?_
      refine lv_goto (pc := 21) (tgt := 25) hx hb dX8_framed_21 (by decide) ?_
      exact hB25 (2 : Int32) v0 v0 v1 v2 z4.1 _ _ _ hf hR (lv_sub hl [0, 1, 2] rfl)
  · replace hf := it_t hf hc
    refine lv_iconst (pc := 9) (v := (1 : Int32)) hx hb dX8_framed_9 (by decide) ?_
    refine lv_goto (pc := 10) (tgt := 25) hx hb dX8_framed_10 (by decide) ?_
    exact hB25 (1 : Int32) v0 v0 v1 v2 z3.1 _ _ _ hf hR (lv_sub hl [0, 1, 2] rfl)
-- X8_holdsBy
def f_X8_holdsBy_b51 (k10 : Nat → Int32 → Int32 → Int32 → Int32 → Mem → Option (Mem × Int32)) (s0 : Int32) (v0 : Nat) (v1 : Int32) (v2 : Int32) (v4 : Int32) (M : Mem) : Option (Mem × Int32) := lt_ (v4 + (1 : Int32)) fun x1 => k10 v0 v1 v2 s0 x1 M
def f_X8_holdsBy_b50 (k10 : Nat → Int32 → Int32 → Int32 → Int32 → Mem → Option (Mem × Int32)) (v0 : Nat) (v1 : Int32) (v2 : Int32) (v4 : Int32) (M : Mem) : Option (Mem × Int32) := f_X8_holdsBy_b51 k10 (0 : Int32) v0 v1 v2 v4 M
def f_X8_holdsBy_b10 (k10 : Nat → Int32 → Int32 → Int32 → Int32 → Mem → Option (Mem × Int32)) (v0 : Nat) (v1 : Int32) (v2 : Int32) (v3 : Int32) (v4 : Int32) (M : Mem) : Option (Mem × Int32) := gd (M.1 v0 = 8) <| rd (mm_r M v0 35) fun a2 => gd (M.1 a2 = 9 ∧ vi_ v1 (mm_N M a2)) <| if (mm_i M a2 (v1).toNatClampNeg) < v4 then (gd (v3 = 0 ∨ v3 = 1) <| some (M, v3)) else (if v3 = 0 then (f_X8_holdsBy_b50 k10 v0 v1 v2 v4 M) else (gd (M.1 v0 = 8) <| rd (mm_r M v0 30) fun a3 => gd (M.1 a3 = 9 ∧ vi_ (((64 : Int32) * v2) + v4) (mm_N M a3)) <| gd (M.1 v0 = 8) <| rd (mm_r M v0 36) fun a4 => gd (M.1 a4 = 9 ∧ vi_ v1 (mm_N M a4)) <| if (mm_i M a4 (v1).toNatClampNeg) < (mm_i M a3 ((((64 : Int32) * v2) + v4)).toNatClampNeg) then (f_X8_holdsBy_b50 k10 v0 v1 v2 v4 M) else (f_X8_holdsBy_b51 k10 (1 : Int32) v0 v1 v2 v4 M)))
def f_X8_holdsBy_L10  : Nat → Nat → Int32 → Int32 → Int32 → Int32 → Mem → Option (Mem × Int32)
  | 0 => fun _ _ _ _ _ _ => none
  | n + 1 => f_X8_holdsBy_b10  (f_X8_holdsBy_L10  n)
def f_X8_holdsBy (v0 : Nat) (v1 : Int32) (v2 : Int32) (M : Mem) : Option (Mem × Int32) := gd (M.1 v0 = 8) <| rd (mm_r M v0 34) fun a5 => gd (M.1 a5 = 9 ∧ vi_ v1 (mm_N M a5)) <| lt_ ((mm_i M a5 (v1).toNatClampNeg)) fun x6 => f_X8_holdsBy_L10 200 v0 v1 v2 (1 : Int32) x6 M
abbrev rm_X8_holdsBy : Room := { frames := 0, cells := 0, slots := 0, locals := 0 }
theorem hd_X8_holdsBy : yX8_holdsBy.cls ≠ "java/lang/invoke/MethodHandle" ∧ yX8_holdsBy.cls ≠ "java/lang/invoke/VarHandle" ∧ (parseMethodDescriptor yX8_holdsBy.desc).map (fun d => d.parameters.length) = some 2 := by decide +kernel
set_option maxHeartbeats 8000000 in
set_option maxRecDepth 100000 in
theorem c_X8_holdsBy {l : Launch} {D : va_G} {ca : Nat → ClassId} {b : Nat} {nx : Bool} {v0 : Nat} {v1 : Int32} {v2 : Int32} {M : Mem} {r : Mem × Int32} (hf : f_X8_holdsBy v0 v1 v2 M = some r) : CtI l yX8_holdsBy cX8_holdsBy 5 (some .boolean) rm_X8_holdsBy D ca b nx [.ref v0, .int v1, .int v2] M r := by
  intro sz
  refine body_start (Qc := fun A => cvI D ca nx A r) (by decide +kernel) (Nat.le_of_ble_eq_true rfl) ?_
  intro p e s m args below meth c A hC hr hR ls hl
  obtain ⟨hx, hb, hml, hts, hown, hlocks, hXe, hA, hAb, hnm⟩ := id hC
  have hK := hXe.1
  have hl : lv_has ls 5 [(0, .ref v0), (1, .int v1), (2, .int v2)] := hl
  have hB51 : ∀ (k10 : Nat → Int32 → Int32 → Int32 → Int32 → Mem → Option (Mem × Int32)) (hk10 : ∀ (v0 : Nat) (v1 : Int32) (v2 : Int32) (v3 : Int32) (v4 : Int32) (M : Mem) (H : Heap) (locs : List Loc) (ls : Array Slot), k10 v0 v1 v2 v3 v4 M = some r → Hp D ca nx A s M H locs → lv_has ls 5 [(0, .ref v0), (1, .int v1), (2, .int v2), (3, .int v3), (4, .int v4)] → W p l e rm_X8_holdsBy s m args below meth c H locs 0 0 (MQ below (cvI D ca nx A r) args s 0 0 A) (F0 m 10 ls [])) (s0 : Int32) (v0 : Nat) (v1 : Int32) (v2 : Int32) (v4 : Int32) (M : Mem) (H : Heap) (locs : List Loc) (ls : Array Slot), f_X8_holdsBy_b51 k10 s0 v0 v1 v2 v4 M = some r → Hp D ca nx A s M H locs → lv_has ls 5 [(0, .ref v0), (1, .int v1), (2, .int v2), (4, .int v4)] → W p l e rm_X8_holdsBy s m args below meth c H locs 0 0 (MQ below (cvI D ca nx A r) args s 0 0 A) (F0 m 51 ls [.int s0]) := by
    intro k10 hk10 s0 v0 v1 v2 v4 M H locs ls hf hR hl
    unfold f_X8_holdsBy_b51 at hf
    refine lv_istore_n (pc := 51) (lv' := [(3, .int s0), (0, .ref v0), (1, .int v1), (2, .int v2), (4, .int v4)]) hx hb dX8_holdsBy_51 rfl hl (by decide) rfl (fun ls hl => ?_)
    refine rg_iinc (pc := 52) hx hb dX8_holdsBy_52 hl (k := 4) rfl rfl (by decide) hf (fun x1 ls hf hl => ?_)
    have hl : lv_has ls 5 [(4, .int x1), (3, .int s0), (0, .ref v0), (1, .int v1), (2, .int v2)] := hl
    refine lv_goto (pc := 55) (tgt := 10) hx hb dX8_holdsBy_55 (by decide) ?_
    exact hk10 v0 v1 v2 s0 x1 M _ _ _ hf hR (lv_sub hl [2, 3, 4, 1, 0] rfl)
  have hB50 : ∀ (k10 : Nat → Int32 → Int32 → Int32 → Int32 → Mem → Option (Mem × Int32)) (hk10 : ∀ (v0 : Nat) (v1 : Int32) (v2 : Int32) (v3 : Int32) (v4 : Int32) (M : Mem) (H : Heap) (locs : List Loc) (ls : Array Slot), k10 v0 v1 v2 v3 v4 M = some r → Hp D ca nx A s M H locs → lv_has ls 5 [(0, .ref v0), (1, .int v1), (2, .int v2), (3, .int v3), (4, .int v4)] → W p l e rm_X8_holdsBy s m args below meth c H locs 0 0 (MQ below (cvI D ca nx A r) args s 0 0 A) (F0 m 10 ls [])) (v0 : Nat) (v1 : Int32) (v2 : Int32) (v4 : Int32) (M : Mem) (H : Heap) (locs : List Loc) (ls : Array Slot), f_X8_holdsBy_b50 k10 v0 v1 v2 v4 M = some r → Hp D ca nx A s M H locs → lv_has ls 5 [(0, .ref v0), (1, .int v1), (2, .int v2), (4, .int v4)] → W p l e rm_X8_holdsBy s m args below meth c H locs 0 0 (MQ below (cvI D ca nx A r) args s 0 0 A) (F0 m 50 ls []) := by
    intro k10 hk10 v0 v1 v2 v4 M H locs ls hf hR hl
    unfold f_X8_holdsBy_b50 at hf
    refine lv_iconst (pc := 50) (v := (0 : Int32)) hx hb dX8_holdsBy_50 (by decide) ?_
    exact hB51 k10 hk10 (0 : Int32) v0 v1 v2 v4 M _ _ _ hf hR (lv_sub hl [0, 1, 2, 3] rfl)
  have hB10 : ∀ (k10 : Nat → Int32 → Int32 → Int32 → Int32 → Mem → Option (Mem × Int32)) (hk10 : ∀ (v0 : Nat) (v1 : Int32) (v2 : Int32) (v3 : Int32) (v4 : Int32) (M : Mem) (H : Heap) (locs : List Loc) (ls : Array Slot), k10 v0 v1 v2 v3 v4 M = some r → Hp D ca nx A s M H locs → lv_has ls 5 [(0, .ref v0), (1, .int v1), (2, .int v2), (3, .int v3), (4, .int v4)] → W p l e rm_X8_holdsBy s m args below meth c H locs 0 0 (MQ below (cvI D ca nx A r) args s 0 0 A) (F0 m 10 ls [])) (v0 : Nat) (v1 : Int32) (v2 : Int32) (v3 : Int32) (v4 : Int32) (M : Mem) (H : Heap) (locs : List Loc) (ls : Array Slot), f_X8_holdsBy_b10 k10 v0 v1 v2 v3 v4 M = some r → Hp D ca nx A s M H locs → lv_has ls 5 [(0, .ref v0), (1, .int v1), (2, .int v2), (3, .int v3), (4, .int v4)] → W p l e rm_X8_holdsBy s m args below meth c H locs 0 0 (MQ below (cvI D ca nx A r) args s 0 0 A) (F0 m 10 ls []) := by
    intro k10 hk10 v0 v1 v2 v3 v4 M H locs ls hf hR hl
    unfold f_X8_holdsBy_b10 at hf
    refine lv_iload (pc := 10) hx hb dX8_holdsBy_10 (lv_at hl 4 rfl) ?_
    refine lv_aload_n (pc := 12) hx hb dX8_holdsBy_12 rfl (lv_at hl 0 rfl) ?_
    refine rg_getr (pc := 13) (C := RX8) (T := TX8) (N := 37) (κ := 8) hx hb hts hK hR hown in_8 rfl (by decide) 35 (by decide) m_703 rfl dX8_holdsBy_13 hf (fun a2 hf => ?_)
    refine lv_iload_n (pc := 16) hx hb dX8_holdsBy_16 rfl (lv_at hl 1 rfl) ?_
    refine rg_iald (pc := 17) hx hb hK hR dX8_holdsBy_17 hf (fun hf => ?_)
    refine lv_icmp_gt (pc := 18) (tgt := 58) hx hb dX8_holdsBy_18 (by decide) (fun hc => ?_) (fun hc => ?_)
    · replace hf := it_t hf hc
      refine lv_iload_n (pc := 58) hx hb dX8_holdsBy_58 rfl (lv_at hl 3 rfl) ?_
      exact rg_zret (pc := 59) hx hb hlocks hr hf hR dX8_holdsBy_59
    · replace hf := it_f hf hc
      refine lv_iload_n (pc := 21) hx hb dX8_holdsBy_21 rfl (lv_at hl 3 rfl) ?_
      refine lv_if_eq (pc := 22) (tgt := 50) hx hb dX8_holdsBy_22 (by decide) (fun hc => ?_) (fun hc => ?_)
      · replace hf := it_t hf hc
        exact hB50 k10 hk10 v0 v1 v2 v4 M _ _ _ hf hR (lv_sub hl [0, 1, 2, 4] rfl)
      · replace hf := it_f hf hc
        refine lv_aload_n (pc := 25) hx hb dX8_holdsBy_25 rfl (lv_at hl 0 rfl) ?_
        refine rg_getr (pc := 26) (C := RX8) (T := TX8) (N := 37) (κ := 8) hx hb hts hK hR hown in_8 rfl (by decide) 30 (by decide) m_698 rfl dX8_holdsBy_26 hf (fun a3 hf => ?_)
        refine lv_bipush (pc := 29) (v := (64 : Int32)) hx hb dX8_holdsBy_29 (by decide) ?_
        refine lv_iload_n (pc := 31) hx hb dX8_holdsBy_31 rfl (lv_at hl 2 rfl) ?_
        refine lv_imul (pc := 32) hx hb dX8_holdsBy_32 ?_
        refine lv_iload (pc := 33) hx hb dX8_holdsBy_33 (lv_at hl 4 rfl) ?_
        refine lv_iadd (pc := 35) hx hb dX8_holdsBy_35 ?_
        refine rg_iald (pc := 36) hx hb hK hR dX8_holdsBy_36 hf (fun hf => ?_)
        refine lv_aload_n (pc := 37) hx hb dX8_holdsBy_37 rfl (lv_at hl 0 rfl) ?_
        refine rg_getr (pc := 38) (C := RX8) (T := TX8) (N := 37) (κ := 8) hx hb hts hK hR hown in_8 rfl (by decide) 36 (by decide) m_704 rfl dX8_holdsBy_38 hf (fun a4 hf => ?_)
        refine lv_iload_n (pc := 41) hx hb dX8_holdsBy_41 rfl (lv_at hl 1 rfl) ?_
        refine rg_iald (pc := 42) hx hb hK hR dX8_holdsBy_42 hf (fun hf => ?_)
        refine lv_icmp_gt (pc := 43) (tgt := 50) hx hb dX8_holdsBy_43 (by decide) (fun hc => ?_) (fun hc => ?_)
        · replace hf := it_t hf hc
          exact hB50 k10 hk10 v0 v1 v2 v4 M _ _ _ hf hR (lv_sub hl [0, 1, 2, 4] rfl)
        · replace hf := it_f hf hc
          refine lv_iconst (pc := 46) (v := (1 : Int32)) hx hb dX8_holdsBy_46 (by decide) ?_
          refine lv_goto (pc := 47) (tgt := 51) hx hb dX8_holdsBy_47 (by decide) ?_
          exact hB51 k10 hk10 (1 : Int32) v0 v1 v2 v4 M _ _ _ hf hR (lv_sub hl [0, 1, 2, 4] rfl)
  have hL10 : ∀  (n : Nat) (v0 : Nat) (v1 : Int32) (v2 : Int32) (v3 : Int32) (v4 : Int32) (M : Mem) (H : Heap) (locs : List Loc) (ls : Array Slot), f_X8_holdsBy_L10  n v0 v1 v2 v3 v4 M = some r → Hp D ca nx A s M H locs → lv_has ls 5 [(0, .ref v0), (1, .int v1), (2, .int v2), (3, .int v3), (4, .int v4)] → W p l e rm_X8_holdsBy s m args below meth c H locs 0 0 (MQ below (cvI D ca nx A r) args s 0 0 A) (F0 m 10 ls []) := by
    intro  n
    induction n with
    | zero => intro v0 v1 v2 v3 v4 M H locs ls hf; exact nomatch (show (none : Option (Mem × Int32)) = some r from hf)
    | succ n ih => intro v0 v1 v2 v3 v4 M H locs ls hf hR hl; exact hB10  (f_X8_holdsBy_L10  n) ih v0 v1 v2 v3 v4 M H locs ls hf hR hl
  unfold f_X8_holdsBy at hf
  refine lv_iconst (pc := 0) (v := (1 : Int32)) hx hb dX8_holdsBy_0 (by decide) ?_
  refine lv_istore_n (pc := 1) (lv' := [(3, .int (1 : Int32)), (0, .ref v0), (1, .int v1), (2, .int v2)]) hx hb dX8_holdsBy_1 rfl hl (by decide) rfl (fun ls hl => ?_)
  refine lv_aload_n (pc := 2) hx hb dX8_holdsBy_2 rfl (lv_at hl 1 rfl) ?_
  refine rg_getr (pc := 3) (C := RX8) (T := TX8) (N := 37) (κ := 8) hx hb hts hK hR hown in_8 rfl (by decide) 34 (by decide) m_702 rfl dX8_holdsBy_3 hf (fun a5 hf => ?_)
  refine lv_iload_n (pc := 6) hx hb dX8_holdsBy_6 rfl (lv_at hl 2 rfl) ?_
  refine rg_iald (pc := 7) hx hb hK hR dX8_holdsBy_7 hf (fun hf => ?_)
  refine nm_i hf (fun x6 hf => ?_)
  refine lv_istore (pc := 8) (lv' := [(4, .int x6), (3, .int (1 : Int32)), (0, .ref v0), (1, .int v1), (2, .int v2)]) hx hb dX8_holdsBy_8 hl (by decide) rfl (fun ls hl => ?_)
  exact hL10 200 v0 v1 v2 (1 : Int32) x6 M _ _ _ hf hR (lv_sub hl [2, 3, 4, 1, 0] rfl)
-- X8_isClaim
def f_X8_isClaim (v0 : Nat) (v1 : Int32) (M : Mem) : Option (Mem × Int32) := gd (M.1 v0 = 8) <| bd (f_X8_isIn v1 (0 : Int32) ((mm_i M v0 32) - (1 : Int32)) M) fun z1 => gd (z1.2 = 0 ∨ z1.2 = 1) <| some (z1.1, z1.2)
abbrev rm_X8_isClaim : Room := { frames := 1, cells := 0, slots := 0, locals := 22 }
theorem hd_X8_isClaim : yX8_isClaim.cls ≠ "java/lang/invoke/MethodHandle" ∧ yX8_isClaim.cls ≠ "java/lang/invoke/VarHandle" ∧ (parseMethodDescriptor yX8_isClaim.desc).map (fun d => d.parameters.length) = some 1 := by decide +kernel
set_option maxHeartbeats 8000000 in
set_option maxRecDepth 100000 in
theorem c_X8_isClaim {l : Launch} {D : va_G} {ca : Nat → ClassId} {b : Nat} {nx : Bool} {v0 : Nat} {v1 : Int32} {M : Mem} {r : Mem × Int32} (hf : f_X8_isClaim v0 v1 M = some r) : CtI l yX8_isClaim cX8_isClaim 2 (some .boolean) rm_X8_isClaim D ca b nx [.ref v0, .int v1] M r := by
  intro sz
  refine body_start (Qc := fun A => cvI D ca nx A r) (by decide +kernel) (Nat.le_of_ble_eq_true rfl) ?_
  intro p e s m args below meth c A hC hr hR ls hl
  obtain ⟨hx, hb, hml, hts, hown, hlocks, hXe, hA, hAb, hnm⟩ := id hC
  have hK := hXe.1
  have hl : lv_has ls 2 [(0, .ref v0), (1, .int v1)] := hl
  unfold f_X8_isClaim at hf
  refine lv_iload_n (pc := 0) hx hb dX8_isClaim_0 rfl (lv_at hl 1 rfl) ?_
  refine lv_iconst (pc := 1) (v := (0 : Int32)) hx hb dX8_isClaim_1 (by decide) ?_
  refine lv_aload_n (pc := 2) hx hb dX8_isClaim_2 rfl (lv_at hl 0 rfl) ?_
  refine rg_get (pc := 3) (C := RX8) (T := TX8) (N := 37) (κ := 8) (v := .int (mm_i M v0 32)) hx hb hts hK hR hown in_8 rfl (by decide) 32 (by decide) m_700 rfl dX8_isClaim_3 hf (fun hf => ?_)
  refine lv_iconst (pc := 6) (v := (1 : Int32)) hx hb dX8_isClaim_6 (by decide) ?_
  refine lv_isub (pc := 7) hx hb dX8_isClaim_7 ?_
  refine rg_I (pc := 8) hf hR hA (fun z hz => rn_S (As := [.int v1, .int (0 : Int32), .int ((mm_i M v0 32) - (1 : Int32))]) (rest := []) hC hR (c_X8_isIn  hz _) m_792 m_793 m_9 m_794 hd_X8_isIn ⟨rfl, rfl, Nat.le_of_ble_eq_true rfl, Nat.le_of_ble_eq_true rfl⟩ rfl hl.1 rfl (Nat.le_of_ble_eq_true rfl) dX8_isClaim_8 ⟨Nat.le_of_ble_eq_true rfl, Nat.le_of_ble_eq_true rfl⟩) (fun z1 H locs hf hR => ?_)
  exact rg_zret (pc := 11) hx hb hlocks hr hf hR dX8_isClaim_11
-- X8_holds
def f_X8_holds_b65  (s0 : Int32) (M : Mem) : Option (Mem × Int32) := gd (s0 = 0 ∨ s0 = 1) <| some (M, s0)
def f_X8_holds_b64   (M : Mem) : Option (Mem × Int32) := f_X8_holds_b65 (0 : Int32) M
def f_X8_holds_b54  (s0 : Int32) (s1 : Int32) (s2 : Nat) (M : Mem) : Option (Mem × Int32) := gd (M.1 s2 = 8) <| bd (f_X8_holdsBy s2 s1 s0 M) fun z1 => if z1.2 = 0 then (f_X8_holds_b64  z1.1) else (f_X8_holds_b65 (1 : Int32) z1.1)
def f_X8_holds_b27  (s0 : Int32) (s1 : Nat) (v0 : Nat) (v1 : Int32) (v2 : Int32) (M : Mem) : Option (Mem × Int32) := gd (M.1 s1 = 8) <| lt_ (ms_i M s1 0 s0) fun M2 => gd (M2.1 v0 = 8) <| if (mm_i M2 v0 0) = 0 then (if v2 = (-1 : Int32) then (gd (M2.1 v0 = 8) <| rd (mm_r M2 v0 33) fun a3 => gd (M2.1 a3 = 9 ∧ vi_ v1 (mm_N M2 a3)) <| f_X8_holds_b54 (mm_i M2 a3 (v1).toNatClampNeg) v1 v0 M2) else (f_X8_holds_b54 v2 v1 v0 M2)) else (f_X8_holds_b64  M2)
def f_X8_holds_b26  (s0 : Nat) (v0 : Nat) (v1 : Int32) (v2 : Int32) (M : Mem) : Option (Mem × Int32) := f_X8_holds_b27 (1 : Int32) s0 v0 v1 v2 M
def f_X8_holds_b22  (s0 : Nat) (v0 : Nat) (v1 : Int32) (v2 : Int32) (M : Mem) : Option (Mem × Int32) := f_X8_holds_b27 (0 : Int32) s0 v0 v1 v2 M
def f_X8_holds (v0 : Nat) (v1 : Int32) (v2 : Int32) (M : Mem) : Option (Mem × Int32) := gd (M.1 v0 = 8) <| bd (f_X8_isClaim v0 v1 M) fun z4 => if z4.2 = 0 then (f_X8_holds_b26 v0 v0 v1 v2 z4.1) else (if v2 = (-1 : Int32) then (f_X8_holds_b22 v0 v0 v1 v2 z4.1) else (gd (z4.1.1 v0 = 8) <| bd (f_X8_isFrame v0 v2 z4.1) fun z5 => if z5.2 = 0 then (f_X8_holds_b26 v0 v0 v1 v2 z5.1) else (f_X8_holds_b22 v0 v0 v1 v2 z5.1)))
abbrev rm_X8_holds : Room := { frames := 2, cells := 0, slots := 0, locals := 43 }
theorem hd_X8_holds : yX8_holds.cls ≠ "java/lang/invoke/MethodHandle" ∧ yX8_holds.cls ≠ "java/lang/invoke/VarHandle" ∧ (parseMethodDescriptor yX8_holds.desc).map (fun d => d.parameters.length) = some 2 := by decide +kernel
set_option maxHeartbeats 8000000 in
set_option maxRecDepth 100000 in
theorem c_X8_holds {l : Launch} {D : va_G} {ca : Nat → ClassId} {b : Nat} {nx : Bool} {v0 : Nat} {v1 : Int32} {v2 : Int32} {M : Mem} {r : Mem × Int32} (hf : f_X8_holds v0 v1 v2 M = some r) : CtI l yX8_holds cX8_holds 3 (some .boolean) rm_X8_holds D ca b nx [.ref v0, .int v1, .int v2] M r := by
  intro sz
  refine body_start (Qc := fun A => cvI D ca nx A r) (by decide +kernel) (Nat.le_of_ble_eq_true rfl) ?_
  intro p e s m args below meth c A hC hr hR ls hl
  obtain ⟨hx, hb, hml, hts, hown, hlocks, hXe, hA, hAb, hnm⟩ := id hC
  have hK := hXe.1
  have hl : lv_has ls 3 [(0, .ref v0), (1, .int v1), (2, .int v2)] := hl
  have hB65 : ∀  (s0 : Int32) (M : Mem) (H : Heap) (locs : List Loc) (ls : Array Slot), f_X8_holds_b65  s0 M = some r → Hp D ca nx A s M H locs → lv_has ls 3 [] → W p l e rm_X8_holds s m args below meth c H locs 0 0 (MQ below (cvI D ca nx A r) args s 0 0 A) (F0 m 65 ls [.int s0]) := by
    intro  s0 M H locs ls hf hR hl
    unfold f_X8_holds_b65 at hf
    exact rg_zret (pc := 65) hx hb hlocks hr hf hR dX8_holds_65
  have hB64 : ∀   (M : Mem) (H : Heap) (locs : List Loc) (ls : Array Slot), f_X8_holds_b64   M = some r → Hp D ca nx A s M H locs → lv_has ls 3 [] → W p l e rm_X8_holds s m args below meth c H locs 0 0 (MQ below (cvI D ca nx A r) args s 0 0 A) (F0 m 64 ls []) := by
    intro   M H locs ls hf hR hl
    unfold f_X8_holds_b64 at hf
    refine lv_iconst (pc := 64) (v := (0 : Int32)) hx hb dX8_holds_64 (by decide) ?_
    exact hB65 (0 : Int32) M _ _ _ hf hR (lv_sub hl [] rfl)
  have hB54 : ∀  (s0 : Int32) (s1 : Int32) (s2 : Nat) (M : Mem) (H : Heap) (locs : List Loc) (ls : Array Slot), f_X8_holds_b54  s0 s1 s2 M = some r → Hp D ca nx A s M H locs → lv_has ls 3 [] → W p l e rm_X8_holds s m args below meth c H locs 0 0 (MQ below (cvI D ca nx A r) args s 0 0 A) (F0 m 54 ls [.int s0, .int s1, .ref s2]) := by
    intro  s0 s1 s2 M H locs ls hf hR hl
    unfold f_X8_holds_b54 at hf
    obtain ⟨hq, hf⟩ := gd_e hf
    refine rg_I (pc := 54) hf hR hA (fun z hz => rn_V (κ := 8) (As := [.int s1, .int s0]) (rest := []) hC hR rfl (by decide) hq (c_X8_holdsBy  hz _) m_981 m_983 ms_34 m_9 m_984 hd_X8_holdsBy ⟨rfl, rfl, Nat.le_of_ble_eq_true rfl, Nat.le_of_ble_eq_true rfl⟩ rfl hl.1 rfl (Nat.le_of_ble_eq_true rfl) dX8_holds_54 ⟨Nat.le_of_ble_eq_true rfl, Nat.le_of_ble_eq_true rfl⟩) (fun z1 H locs hf hR => ?_)
    refine lv_if_eq (pc := 57) (tgt := 64) hx hb dX8_holds_57 (by decide) (fun hc => ?_) (fun hc => ?_)
    · replace hf := it_t hf hc
      exact hB64  z1.1 _ _ _ hf hR (lv_sub hl [] rfl)
    · replace hf := it_f hf hc
      refine lv_iconst (pc := 60) (v := (1 : Int32)) hx hb dX8_holds_60 (by decide) ?_
      refine lv_goto (pc := 61) (tgt := 65) hx hb dX8_holds_61 (by decide) ?_
      exact hB65 (1 : Int32) z1.1 _ _ _ hf hR (lv_sub hl [] rfl)
  have hB27 : ∀  (s0 : Int32) (s1 : Nat) (v0 : Nat) (v1 : Int32) (v2 : Int32) (M : Mem) (H : Heap) (locs : List Loc) (ls : Array Slot), f_X8_holds_b27  s0 s1 v0 v1 v2 M = some r → Hp D ca nx A s M H locs → lv_has ls 3 [(0, .ref v0), (1, .int v1), (2, .int v2)] → W p l e rm_X8_holds s m args below meth c H locs 0 0 (MQ below (cvI D ca nx A r) args s 0 0 A) (F0 m 27 ls [.int s0, .ref s1]) := by
    intro  s0 s1 v0 v1 v2 M H locs ls hf hR hl
    unfold f_X8_holds_b27 at hf
    refine rg_puti (pc := 27) (C := RX8) (T := TX8) (N := 37) (κ := 8) hx hb hts hK hR hown in_8 rfl (by decide) 0 (by decide) m_668 tyX8 tyX8_ok nmX8 rfl rfl rfl rfl dX8_holds_27 hf (fun M2 H locs hf hR => ?_)
    refine lv_aload_n (pc := 30) hx hb dX8_holds_30 rfl (lv_at hl 0 rfl) ?_
    refine rg_get (pc := 31) (C := RX8) (T := TX8) (N := 37) (κ := 8) (v := .int (mm_i M2 v0 0)) hx hb hts hK hR hown in_8 rfl (by decide) 0 (by decide) m_668 rfl dX8_holds_31 hf (fun hf => ?_)
    refine lv_if_ne (pc := 34) (tgt := 64) hx hb dX8_holds_34 (by decide) (fun hc => ?_) (fun hc => ?_)
    · replace hf := it_f hf hc
      exact hB64  M2 _ _ _ hf hR (lv_sub hl [] rfl)
    · replace hf := it_t hf hc
      refine lv_aload_n (pc := 37) hx hb dX8_holds_37 rfl (lv_at hl 0 rfl) ?_
      refine lv_iload_n (pc := 38) hx hb dX8_holds_38 rfl (lv_at hl 1 rfl) ?_
      refine lv_iload_n (pc := 39) hx hb dX8_holds_39 rfl (lv_at hl 2 rfl) ?_
      refine lv_iconst (pc := 40) (v := (-1 : Int32)) hx hb dX8_holds_40 (by decide) ?_
      refine lv_icmp_ne (pc := 41) (tgt := 53) hx hb dX8_holds_41 (by decide) (fun hc => ?_) (fun hc => ?_)
      · replace hf := it_f hf hc
        refine lv_iload_n (pc := 53) hx hb dX8_holds_53 rfl (lv_at hl 2 rfl) ?_
        exact hB54 v2 v1 v0 M2 _ _ _ hf hR (lv_sub hl [] rfl)
      · replace hf := it_t hf hc
        refine lv_aload_n (pc := 44) hx hb dX8_holds_44 rfl (lv_at hl 0 rfl) ?_
        refine rg_getr (pc := 45) (C := RX8) (T := TX8) (N := 37) (κ := 8) hx hb hts hK hR hown in_8 rfl (by decide) 33 (by decide) m_701 rfl dX8_holds_45 hf (fun a3 hf => ?_)
        refine lv_iload_n (pc := 48) hx hb dX8_holds_48 rfl (lv_at hl 1 rfl) ?_
        refine rg_iald (pc := 49) hx hb hK hR dX8_holds_49 hf (fun hf => ?_)
        refine lv_goto (pc := 50) (tgt := 54) hx hb dX8_holds_50 (by decide) ?_
        exact hB54 (mm_i M2 a3 (v1).toNatClampNeg) v1 v0 M2 _ _ _ hf hR (lv_sub hl [] rfl)
  have hB26 : ∀  (s0 : Nat) (v0 : Nat) (v1 : Int32) (v2 : Int32) (M : Mem) (H : Heap) (locs : List Loc) (ls : Array Slot), f_X8_holds_b26  s0 v0 v1 v2 M = some r → Hp D ca nx A s M H locs → lv_has ls 3 [(0, .ref v0), (1, .int v1), (2, .int v2)] → W p l e rm_X8_holds s m args below meth c H locs 0 0 (MQ below (cvI D ca nx A r) args s 0 0 A) (F0 m 26 ls [.ref s0]) := by
    intro  s0 v0 v1 v2 M H locs ls hf hR hl
    unfold f_X8_holds_b26 at hf
    refine lv_iconst (pc := 26) (v := (1 : Int32)) hx hb dX8_holds_26 (by decide) ?_
    exact hB27 (1 : Int32) s0 v0 v1 v2 M _ _ _ hf hR (lv_sub hl [0, 1, 2] rfl)
  have hB22 : ∀  (s0 : Nat) (v0 : Nat) (v1 : Int32) (v2 : Int32) (M : Mem) (H : Heap) (locs : List Loc) (ls : Array Slot), f_X8_holds_b22  s0 v0 v1 v2 M = some r → Hp D ca nx A s M H locs → lv_has ls 3 [(0, .ref v0), (1, .int v1), (2, .int v2)] → W p l e rm_X8_holds s m args below meth c H locs 0 0 (MQ below (cvI D ca nx A r) args s 0 0 A) (F0 m 22 ls [.ref s0]) := by
    intro  s0 v0 v1 v2 M H locs ls hf hR hl
    unfold f_X8_holds_b22 at hf
    refine lv_iconst (pc := 22) (v := (0 : Int32)) hx hb dX8_holds_22 (by decide) ?_
    refine lv_goto (pc := 23) (tgt := 27) hx hb dX8_holds_23 (by decide) ?_
    exact hB27 (0 : Int32) s0 v0 v1 v2 M _ _ _ hf hR (lv_sub hl [0, 1, 2] rfl)
  unfold f_X8_holds at hf
  refine lv_aload_n (pc := 0) hx hb dX8_holds_0 rfl (lv_at hl 0 rfl) ?_
  refine lv_aload_n (pc := 1) hx hb dX8_holds_1 rfl (lv_at hl 0 rfl) ?_
  refine lv_iload_n (pc := 2) hx hb dX8_holds_2 rfl (lv_at hl 1 rfl) ?_
  obtain ⟨hq, hf⟩ := gd_e hf
  refine rg_I (pc := 3) hf hR hA (fun z hz => rn_V (κ := 8) (As := [.int v1]) (rest := [.ref v0]) hC hR rfl (by decide) hq (c_X8_isClaim  hz _) m_977 m_979 ms_33 m_9 m_980 hd_X8_isClaim ⟨rfl, rfl, Nat.le_of_ble_eq_true rfl, Nat.le_of_ble_eq_true rfl⟩ rfl hl.1 rfl (Nat.le_of_ble_eq_true rfl) dX8_holds_3 ⟨Nat.le_of_ble_eq_true rfl, Nat.le_of_ble_eq_true rfl⟩) (fun z4 H locs hf hR => ?_)
  refine lv_if_eq (pc := 6) (tgt := 26) hx hb dX8_holds_6 (by decide) (fun hc => ?_) (fun hc => ?_)
  · replace hf := it_t hf hc
    exact hB26 v0 v0 v1 v2 z4.1 _ _ _ hf hR (lv_sub hl [0, 1, 2] rfl)
  · replace hf := it_f hf hc
    refine lv_iload_n (pc := 9) hx hb dX8_holds_9 rfl (lv_at hl 2 rfl) ?_
    refine lv_iconst (pc := 10) (v := (-1 : Int32)) hx hb dX8_holds_10 (by decide) ?_
    refine lv_icmp_eq (pc := 11) (tgt := 22) hx hb dX8_holds_11 (by decide) (fun hc => ?_) (fun hc => ?_)
    · replace hf := it_t hf hc
      exact hB22 v0 v0 v1 v2 z4.1 _ _ _ hf hR (lv_sub hl [0, 1, 2] rfl)
    · replace hf := it_f hf hc
      refine lv_aload_n (pc := 14) hx hb dX8_holds_14 rfl (lv_at hl 0 rfl) ?_
      refine lv_iload_n (pc := 15) hx hb dX8_holds_15 rfl (lv_at hl 2 rfl) ?_
      obtain ⟨hq, hf⟩ := gd_e hf
      refine rg_I (pc := 16) hf hR hA (fun z hz => rn_V (κ := 8) (As := [.int v2]) (rest := [.ref v0]) hC hR rfl (by decide) hq (c_X8_isFrame  hz _) m_879 m_881 ms_23 m_9 m_882 hd_X8_isFrame ⟨rfl, rfl, Nat.le_of_ble_eq_true rfl, Nat.le_of_ble_eq_true rfl⟩ rfl hl.1 rfl (Nat.le_of_ble_eq_true rfl) dX8_holds_16 ⟨Nat.le_of_ble_eq_true rfl, Nat.le_of_ble_eq_true rfl⟩) (fun z5 H locs hf hR => ?_)
      refine lv_if_eq (pc := 19) (tgt := 26) hx hb dX8_holds_19 (by decide) (fun hc => ?_) (fun hc => ?_)
      · replace hf := it_t hf hc
        exact hB26 v0 v0 v1 v2 z5.1 _ _ _ hf hR (lv_sub hl [0, 1, 2] rfl)
      · replace hf := it_f hf hc
        exact hB22 v0 v0 v1 v2 z5.1 _ _ _ hf hR (lv_sub hl [0, 1, 2] rfl)
-- X8_disputes
def f_X8_disputes_b79  (v2 : Int32) (M : Mem) : Option (Mem × Int32) := some (M, v2)
def f_X8_disputes_b71 (k21 : Nat → Int32 → Int32 → Int32 → Mem → Option (Mem × Int32)) (s0 : Int32) (s1 : Int32) (v0 : Nat) (v1 : Int32) (v3 : Int32) (M : Mem) : Option (Mem × Int32) := lt_ ((s1 + s0)) fun x1 => lt_ (v3 + (1 : Int32)) fun x2 => k21 v0 v1 x1 x2 M
def f_X8_disputes_b70 (k21 : Nat → Int32 → Int32 → Int32 → Mem → Option (Mem × Int32)) (s0 : Int32) (v0 : Nat) (v1 : Int32) (v3 : Int32) (M : Mem) : Option (Mem × Int32) := f_X8_disputes_b71 k21 (0 : Int32) s0 v0 v1 v3 M
def f_X8_disputes_b21 (k21 : Nat → Int32 → Int32 → Int32 → Mem → Option (Mem × Int32)) (v0 : Nat) (v1 : Int32) (v2 : Int32) (v3 : Int32) (M : Mem) : Option (Mem × Int32) := gd (M.1 v0 = 8) <| if (mm_i M v0 29) ≤ v3 then (f_X8_disputes_b79 v2 M) else (gd (M.1 v0 = 8) <| if (mm_i M v0 0) = 0 then (gd (M.1 v0 = 8) <| rd (mm_r M v0 31) fun a3 => gd (M.1 a3 = 9 ∧ vi_ v3 (mm_N M a3)) <| gd (M.1 v0 = 8) <| rd (mm_r M v0 31) fun a4 => gd (M.1 v0 = 8) <| rd (mm_r M v0 33) fun a5 => gd (M.1 a5 = 9 ∧ vi_ v1 (mm_N M a5)) <| gd (M.1 a4 = 9 ∧ vi_ (mm_i M a5 (v1).toNatClampNeg) (mm_N M a4)) <| if (mm_i M a3 (v3).toNatClampNeg) < (mm_i M a4 ((mm_i M a5 (v1).toNatClampNeg)).toNatClampNeg) then (f_X8_disputes_b70 k21 v2 v0 v1 v3 M) else (gd (M.1 v0 = 8) <| bd (f_X8_holdsBy v0 v1 v3 M) fun z6 => if z6.2 = 0 then (f_X8_disputes_b71 k21 (1 : Int32) v2 v0 v1 v3 z6.1) else (f_X8_disputes_b70 k21 v2 v0 v1 v3 z6.1))) else (f_X8_disputes_b79 v2 M))
def f_X8_disputes_L21  : Nat → Nat → Int32 → Int32 → Int32 → Mem → Option (Mem × Int32)
  | 0 => fun _ _ _ _ _ => none
  | n + 1 => f_X8_disputes_b21  (f_X8_disputes_L21  n)
def f_X8_disputes_b14  (s0 : Int32) (s1 : Nat) (v0 : Nat) (v1 : Int32) (M : Mem) : Option (Mem × Int32) := gd (M.1 s1 = 8) <| lt_ (ms_i M s1 0 s0) fun M7 => f_X8_disputes_L21 200 v0 v1 (0 : Int32) (0 : Int32) M7
def f_X8_disputes (v0 : Nat) (v1 : Int32) (M : Mem) : Option (Mem × Int32) := gd (M.1 v0 = 8) <| bd (f_X8_isClaim v0 v1 M) fun z8 => if z8.2 = 0 then (f_X8_disputes_b14 (1 : Int32) v0 v0 v1 z8.1) else (f_X8_disputes_b14 (0 : Int32) v0 v0 v1 z8.1)
abbrev rm_X8_disputes : Room := { frames := 2, cells := 0, slots := 0, locals := 43 }
theorem hd_X8_disputes : yX8_disputes.cls ≠ "java/lang/invoke/MethodHandle" ∧ yX8_disputes.cls ≠ "java/lang/invoke/VarHandle" ∧ (parseMethodDescriptor yX8_disputes.desc).map (fun d => d.parameters.length) = some 1 := by decide +kernel
set_option maxHeartbeats 8000000 in
set_option maxRecDepth 100000 in
theorem c_X8_disputes {l : Launch} {D : va_G} {ca : Nat → ClassId} {b : Nat} {nx : Bool} {v0 : Nat} {v1 : Int32} {M : Mem} {r : Mem × Int32} (hf : f_X8_disputes v0 v1 M = some r) : CtI l yX8_disputes cX8_disputes 4 (some .int) rm_X8_disputes D ca b nx [.ref v0, .int v1] M r := by
  intro sz
  refine body_start (Qc := fun A => cvI D ca nx A r) (by decide +kernel) (Nat.le_of_ble_eq_true rfl) ?_
  intro p e s m args below meth c A hC hr hR ls hl
  obtain ⟨hx, hb, hml, hts, hown, hlocks, hXe, hA, hAb, hnm⟩ := id hC
  have hK := hXe.1
  have hl : lv_has ls 4 [(0, .ref v0), (1, .int v1)] := hl
  have hB79 : ∀  (v2 : Int32) (M : Mem) (H : Heap) (locs : List Loc) (ls : Array Slot), f_X8_disputes_b79  v2 M = some r → Hp D ca nx A s M H locs → lv_has ls 4 [(2, .int v2)] → W p l e rm_X8_disputes s m args below meth c H locs 0 0 (MQ below (cvI D ca nx A r) args s 0 0 A) (F0 m 79 ls []) := by
    intro  v2 M H locs ls hf hR hl
    unfold f_X8_disputes_b79 at hf
    refine lv_iload_n (pc := 79) hx hb dX8_disputes_79 rfl (lv_at hl 0 rfl) ?_
    exact rg_iret (pc := 80) hx hb hlocks hr hf hR dX8_disputes_80
  have hB71 : ∀ (k21 : Nat → Int32 → Int32 → Int32 → Mem → Option (Mem × Int32)) (hk21 : ∀ (v0 : Nat) (v1 : Int32) (v2 : Int32) (v3 : Int32) (M : Mem) (H : Heap) (locs : List Loc) (ls : Array Slot), k21 v0 v1 v2 v3 M = some r → Hp D ca nx A s M H locs → lv_has ls 4 [(0, .ref v0), (1, .int v1), (2, .int v2), (3, .int v3)] → W p l e rm_X8_disputes s m args below meth c H locs 0 0 (MQ below (cvI D ca nx A r) args s 0 0 A) (F0 m 21 ls [])) (s0 : Int32) (s1 : Int32) (v0 : Nat) (v1 : Int32) (v3 : Int32) (M : Mem) (H : Heap) (locs : List Loc) (ls : Array Slot), f_X8_disputes_b71 k21 s0 s1 v0 v1 v3 M = some r → Hp D ca nx A s M H locs → lv_has ls 4 [(0, .ref v0), (1, .int v1), (3, .int v3)] → W p l e rm_X8_disputes s m args below meth c H locs 0 0 (MQ below (cvI D ca nx A r) args s 0 0 A) (F0 m 71 ls [.int s0, .int s1]) := by
    intro k21 hk21 s0 s1 v0 v1 v3 M H locs ls hf hR hl
    unfold f_X8_disputes_b71 at hf
    refine lv_iadd (pc := 71) hx hb dX8_disputes_71 ?_
    refine nm_i hf (fun x1 hf => ?_)
    refine lv_istore_n (pc := 72) (lv' := [(2, .int x1), (0, .ref v0), (1, .int v1), (3, .int v3)]) hx hb dX8_disputes_72 rfl hl (by decide) rfl (fun ls hl => ?_)
    refine rg_iinc (pc := 73) hx hb dX8_disputes_73 hl (k := 3) rfl rfl (by decide) hf (fun x2 ls hf hl => ?_)
    have hl : lv_has ls 4 [(3, .int x2), (2, .int x1), (0, .ref v0), (1, .int v1)] := hl
    refine lv_goto (pc := 76) (tgt := 21) hx hb dX8_disputes_76 (by decide) ?_
    exact hk21 v0 v1 x1 x2 M _ _ _ hf hR (lv_sub hl [2, 3, 1, 0] rfl)
  have hB70 : ∀ (k21 : Nat → Int32 → Int32 → Int32 → Mem → Option (Mem × Int32)) (hk21 : ∀ (v0 : Nat) (v1 : Int32) (v2 : Int32) (v3 : Int32) (M : Mem) (H : Heap) (locs : List Loc) (ls : Array Slot), k21 v0 v1 v2 v3 M = some r → Hp D ca nx A s M H locs → lv_has ls 4 [(0, .ref v0), (1, .int v1), (2, .int v2), (3, .int v3)] → W p l e rm_X8_disputes s m args below meth c H locs 0 0 (MQ below (cvI D ca nx A r) args s 0 0 A) (F0 m 21 ls [])) (s0 : Int32) (v0 : Nat) (v1 : Int32) (v3 : Int32) (M : Mem) (H : Heap) (locs : List Loc) (ls : Array Slot), f_X8_disputes_b70 k21 s0 v0 v1 v3 M = some r → Hp D ca nx A s M H locs → lv_has ls 4 [(0, .ref v0), (1, .int v1), (3, .int v3)] → W p l e rm_X8_disputes s m args below meth c H locs 0 0 (MQ below (cvI D ca nx A r) args s 0 0 A) (F0 m 70 ls [.int s0]) := by
    intro k21 hk21 s0 v0 v1 v3 M H locs ls hf hR hl
    unfold f_X8_disputes_b70 at hf
    refine lv_iconst (pc := 70) (v := (0 : Int32)) hx hb dX8_disputes_70 (by decide) ?_
    exact hB71 k21 hk21 (0 : Int32) s0 v0 v1 v3 M _ _ _ hf hR (lv_sub hl [0, 1, 2] rfl)
  have hB21 : ∀ (k21 : Nat → Int32 → Int32 → Int32 → Mem → Option (Mem × Int32)) (hk21 : ∀ (v0 : Nat) (v1 : Int32) (v2 : Int32) (v3 : Int32) (M : Mem) (H : Heap) (locs : List Loc) (ls : Array Slot), k21 v0 v1 v2 v3 M = some r → Hp D ca nx A s M H locs → lv_has ls 4 [(0, .ref v0), (1, .int v1), (2, .int v2), (3, .int v3)] → W p l e rm_X8_disputes s m args below meth c H locs 0 0 (MQ below (cvI D ca nx A r) args s 0 0 A) (F0 m 21 ls [])) (v0 : Nat) (v1 : Int32) (v2 : Int32) (v3 : Int32) (M : Mem) (H : Heap) (locs : List Loc) (ls : Array Slot), f_X8_disputes_b21 k21 v0 v1 v2 v3 M = some r → Hp D ca nx A s M H locs → lv_has ls 4 [(0, .ref v0), (1, .int v1), (2, .int v2), (3, .int v3)] → W p l e rm_X8_disputes s m args below meth c H locs 0 0 (MQ below (cvI D ca nx A r) args s 0 0 A) (F0 m 21 ls []) := by
    intro k21 hk21 v0 v1 v2 v3 M H locs ls hf hR hl
    unfold f_X8_disputes_b21 at hf
    refine lv_iload_n (pc := 21) hx hb dX8_disputes_21 rfl (lv_at hl 3 rfl) ?_
    refine lv_aload_n (pc := 22) hx hb dX8_disputes_22 rfl (lv_at hl 0 rfl) ?_
    refine rg_get (pc := 23) (C := RX8) (T := TX8) (N := 37) (κ := 8) (v := .int (mm_i M v0 29)) hx hb hts hK hR hown in_8 rfl (by decide) 29 (by decide) m_697 rfl dX8_disputes_23 hf (fun hf => ?_)
    refine lv_icmp_ge (pc := 26) (tgt := 79) hx hb dX8_disputes_26 (by decide) (fun hc => ?_) (fun hc => ?_)
    · replace hf := it_t hf hc
      exact hB79 v2 M _ _ _ hf hR (lv_sub hl [2] rfl)
    · replace hf := it_f hf hc
      refine lv_aload_n (pc := 29) hx hb dX8_disputes_29 rfl (lv_at hl 0 rfl) ?_
      refine rg_get (pc := 30) (C := RX8) (T := TX8) (N := 37) (κ := 8) (v := .int (mm_i M v0 0)) hx hb hts hK hR hown in_8 rfl (by decide) 0 (by decide) m_668 rfl dX8_disputes_30 hf (fun hf => ?_)
      refine lv_if_ne (pc := 33) (tgt := 79) hx hb dX8_disputes_33 (by decide) (fun hc => ?_) (fun hc => ?_)
      · replace hf := it_f hf hc
        exact hB79 v2 M _ _ _ hf hR (lv_sub hl [2] rfl)
      · replace hf := it_t hf hc
        refine lv_iload_n (pc := 36) hx hb dX8_disputes_36 rfl (lv_at hl 2 rfl) ?_
        refine lv_aload_n (pc := 37) hx hb dX8_disputes_37 rfl (lv_at hl 0 rfl) ?_
        refine rg_getr (pc := 38) (C := RX8) (T := TX8) (N := 37) (κ := 8) hx hb hts hK hR hown in_8 rfl (by decide) 31 (by decide) m_699 rfl dX8_disputes_38 hf (fun a3 hf => ?_)
        refine lv_iload_n (pc := 41) hx hb dX8_disputes_41 rfl (lv_at hl 3 rfl) ?_
        refine rg_iald (pc := 42) hx hb hK hR dX8_disputes_42 hf (fun hf => ?_)
        refine lv_aload_n (pc := 43) hx hb dX8_disputes_43 rfl (lv_at hl 0 rfl) ?_
        refine rg_getr (pc := 44) (C := RX8) (T := TX8) (N := 37) (κ := 8) hx hb hts hK hR hown in_8 rfl (by decide) 31 (by decide) m_699 rfl dX8_disputes_44 hf (fun a4 hf => ?_)
        refine lv_aload_n (pc := 47) hx hb dX8_disputes_47 rfl (lv_at hl 0 rfl) ?_
        refine rg_getr (pc := 48) (C := RX8) (T := TX8) (N := 37) (κ := 8) hx hb hts hK hR hown in_8 rfl (by decide) 33 (by decide) m_701 rfl dX8_disputes_48 hf (fun a5 hf => ?_)
        refine lv_iload_n (pc := 51) hx hb dX8_disputes_51 rfl (lv_at hl 1 rfl) ?_
        refine rg_iald (pc := 52) hx hb hK hR dX8_disputes_52 hf (fun hf => ?_)
        refine rg_iald (pc := 53) hx hb hK hR dX8_disputes_53 hf (fun hf => ?_)
        refine lv_icmp_lt (pc := 54) (tgt := 70) hx hb dX8_disputes_54 (by decide) (fun hc => ?_) (fun hc => ?_)
        · replace hf := it_t hf hc
          exact hB70 k21 hk21 v2 v0 v1 v3 M _ _ _ hf hR (lv_sub hl [0, 1, 3] rfl)
        · replace hf := it_f hf hc
          refine lv_aload_n (pc := 57) hx hb dX8_disputes_57 rfl (lv_at hl 0 rfl) ?_
          refine lv_iload_n (pc := 58) hx hb dX8_disputes_58 rfl (lv_at hl 1 rfl) ?_
          refine lv_iload_n (pc := 59) hx hb dX8_disputes_59 rfl (lv_at hl 3 rfl) ?_
          obtain ⟨hq, hf⟩ := gd_e hf
          refine rg_I (pc := 60) hf hR hA (fun z hz => rn_V (κ := 8) (As := [.int v1, .int v3]) (rest := [.int v2]) hC hR rfl (by decide) hq (c_X8_holdsBy  hz _) m_981 m_983 ms_34 m_9 m_984 hd_X8_holdsBy ⟨rfl, rfl, Nat.le_of_ble_eq_true rfl, Nat.le_of_ble_eq_true rfl⟩ rfl hl.1 rfl (Nat.le_of_ble_eq_true rfl) dX8_disputes_60 ⟨Nat.le_of_ble_eq_true rfl, Nat.le_of_ble_eq_true rfl⟩) (fun z6 H locs hf hR => ?_)
          refine lv_if_ne (pc := 63) (tgt := 70) hx hb dX8_disputes_63 (by decide) (fun hc => ?_) (fun hc => ?_)
          · replace hf := it_f hf hc
            exact hB70 k21 hk21 v2 v0 v1 v3 z6.1 _ _ _ hf hR (lv_sub hl [0, 1, 3] rfl)
          · replace hf := it_t hf hc
            refine lv_iconst (pc := 66) (v := (1 : Int32)) hx hb dX8_disputes_66 (by decide) ?_
            refine lv_goto (pc := 67) (tgt := 71) hx hb dX8_disputes_67 (by decide) ?_
            exact hB71 k21 hk21 (1 : Int32) v2 v0 v1 v3 z6.1 _ _ _ hf hR (lv_sub hl [0, 1, 3] rfl)
  have hL21 : ∀  (n : Nat) (v0 : Nat) (v1 : Int32) (v2 : Int32) (v3 : Int32) (M : Mem) (H : Heap) (locs : List Loc) (ls : Array Slot), f_X8_disputes_L21  n v0 v1 v2 v3 M = some r → Hp D ca nx A s M H locs → lv_has ls 4 [(0, .ref v0), (1, .int v1), (2, .int v2), (3, .int v3)] → W p l e rm_X8_disputes s m args below meth c H locs 0 0 (MQ below (cvI D ca nx A r) args s 0 0 A) (F0 m 21 ls []) := by
    intro  n
    induction n with
    | zero => intro v0 v1 v2 v3 M H locs ls hf; exact nomatch (show (none : Option (Mem × Int32)) = some r from hf)
    | succ n ih => intro v0 v1 v2 v3 M H locs ls hf hR hl; exact hB21  (f_X8_disputes_L21  n) ih v0 v1 v2 v3 M H locs ls hf hR hl
  have hB14 : ∀  (s0 : Int32) (s1 : Nat) (v0 : Nat) (v1 : Int32) (M : Mem) (H : Heap) (locs : List Loc) (ls : Array Slot), f_X8_disputes_b14  s0 s1 v0 v1 M = some r → Hp D ca nx A s M H locs → lv_has ls 4 [(0, .ref v0), (1, .int v1)] → W p l e rm_X8_disputes s m args below meth c H locs 0 0 (MQ below (cvI D ca nx A r) args s 0 0 A) (F0 m 14 ls [.int s0, .ref s1]) := by
    intro  s0 s1 v0 v1 M H locs ls hf hR hl
    unfold f_X8_disputes_b14 at hf
    refine rg_puti (pc := 14) (C := RX8) (T := TX8) (N := 37) (κ := 8) hx hb hts hK hR hown in_8 rfl (by decide) 0 (by decide) m_668 tyX8 tyX8_ok nmX8 rfl rfl rfl rfl dX8_disputes_14 hf (fun M7 H locs hf hR => ?_)
    refine lv_iconst (pc := 17) (v := (0 : Int32)) hx hb dX8_disputes_17 (by decide) ?_
    refine lv_istore_n (pc := 18) (lv' := [(2, .int (0 : Int32)), (0, .ref v0), (1, .int v1)]) hx hb dX8_disputes_18 rfl hl (by decide) rfl (fun ls hl => ?_)
    refine lv_iconst (pc := 19) (v := (0 : Int32)) hx hb dX8_disputes_19 (by decide) ?_
    refine lv_istore_n (pc := 20) (lv' := [(3, .int (0 : Int32)), (2, .int (0 : Int32)), (0, .ref v0), (1, .int v1)]) hx hb dX8_disputes_20 rfl hl (by decide) rfl (fun ls hl => ?_)
    exact hL21 200 v0 v1 (0 : Int32) (0 : Int32) M7 _ _ _ hf hR (lv_sub hl [2, 3, 1, 0] rfl)
  unfold f_X8_disputes at hf
  refine lv_aload_n (pc := 0) hx hb dX8_disputes_0 rfl (lv_at hl 0 rfl) ?_
  refine lv_aload_n (pc := 1) hx hb dX8_disputes_1 rfl (lv_at hl 0 rfl) ?_
  refine lv_iload_n (pc := 2) hx hb dX8_disputes_2 rfl (lv_at hl 1 rfl) ?_
  obtain ⟨hq, hf⟩ := gd_e hf
  refine rg_I (pc := 3) hf hR hA (fun z hz => rn_V (κ := 8) (As := [.int v1]) (rest := [.ref v0]) hC hR rfl (by decide) hq (c_X8_isClaim  hz _) m_977 m_979 ms_33 m_9 m_980 hd_X8_isClaim ⟨rfl, rfl, Nat.le_of_ble_eq_true rfl, Nat.le_of_ble_eq_true rfl⟩ rfl hl.1 rfl (Nat.le_of_ble_eq_true rfl) dX8_disputes_3 ⟨Nat.le_of_ble_eq_true rfl, Nat.le_of_ble_eq_true rfl⟩) (fun z8 H locs hf hR => ?_)
  refine lv_if_eq (pc := 6) (tgt := 13) hx hb dX8_disputes_6 (by decide) (fun hc => ?_) (fun hc => ?_)
  · replace hf := it_t hf hc
    refine lv_iconst (pc := 13) (v := (1 : Int32)) hx hb dX8_disputes_13 (by decide) ?_
    exact hB14 (1 : Int32) v0 v0 v1 z8.1 _ _ _ hf hR (lv_sub hl [0, 1] rfl)
  · replace hf := it_f hf hc
    refine lv_iconst (pc := 9) (v := (0 : Int32)) hx hb dX8_disputes_9 (by decide) ?_
    refine lv_goto (pc := 10) (tgt := 14) hx hb dX8_disputes_10 (by decide) ?_
    exact hB14 (0 : Int32) v0 v0 v1 z8.1 _ _ _ hf hR (lv_sub hl [0, 1] rfl)
