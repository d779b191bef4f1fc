-- L_low
def f_L_low (v0 : Int32) (v1 : Int32) (M : Mem) : Option (Mem × Int32) := gd (¬ v1 = 0) <| some (M, ((v0 &&& (2147483647 : Int32)) - (v0 &&& (2147483647 : Int32)) / v1 * v1))
abbrev rm_L_low : Room := { frames := 0, cells := 0, slots := 0, locals := 0 }
theorem hd_L_low : yL_low.cls ≠ "java/lang/invoke/MethodHandle" ∧ yL_low.cls ≠ "java/lang/invoke/VarHandle" ∧ (parseMethodDescriptor yL_low.desc).map (fun d => d.parameters.length) = some 2 := by decide +kernel
set_option maxHeartbeats 8000000 in
set_option maxRecDepth 100000 in
theorem c_L_low {l : Launch} {D : va_G} {ca : Nat → ClassId} {b : Nat} {nx : Bool} {v0 : Int32} {v1 : Int32} {M : Mem} {r : Mem × Int32} (hf : f_L_low v0 v1 M = some r) : CtI l yL_low cL_low 2 (some .int) rm_L_low D ca b nx [.int v0, .int v1] M r := by
  intro sz
  refine body_start (Qc := fun A => cvI D ca nx A r) (by decide +kernel) (Nat.le_of_ble_eq_true rfl) ?_
  intro p e s m args below meth c A hC hr hR ls hl
  obtain ⟨hx, hb, hml, hts, hown, hlocks, hXe, hA, hAb, hnm⟩ := id hC
  have hK := hXe.1
  have hl : lv_has ls 2 [(0, .int v0), (1, .int v1)] := hl
  unfold f_L_low at hf
  refine lv_iload_n (pc := 0) hx hb dL_low_0 rfl (lv_at hl 0 rfl) ?_
  refine lv_ldc (pc := 1) hx hb hown (hts _ m_538) dL_low_1 ?_
  refine lv_iand (pc := 3) hx hb dL_low_3 ?_
  refine lv_iload_n (pc := 4) hx hb dL_low_4 rfl (lv_at hl 1 rfl) ?_
  obtain ⟨hz, hf⟩ := gd_e hf
  refine lv_irem (pc := 5) hx hb dL_low_5 hz ?_
  exact rg_iret (pc := 6) hx hb hlocks hr hf hR dL_low_6
-- L_speed
def f_L_speed (v0 : Nat) (v1 : Int32) (M : Mem) : Option (Mem × Int32) := lt_ ((v1 + (20 : Int32))) fun x1 => gd (¬ x1 = 0) <| gd (M.1 v0 = 9 ∧ vi_ (6 : Int32) (mm_N M v0)) <| gd (¬ (x1 * x1) = 0) <| some (M, (((36000 : Int32) / x1) + (((100 : Int32) * (mm_i M v0 ((6 : Int32)).toNatClampNeg)) / (x1 * x1))))
abbrev rm_L_speed : Room := { frames := 0, cells := 0, slots := 0, locals := 0 }
theorem hd_L_speed : yL_speed.cls ≠ "java/lang/invoke/MethodHandle" ∧ yL_speed.cls ≠ "java/lang/invoke/VarHandle" ∧ (parseMethodDescriptor yL_speed.desc).map (fun d => d.parameters.length) = some 2 := by decide +kernel
set_option maxHeartbeats 8000000 in
set_option maxRecDepth 100000 in
theorem c_L_speed {l : Launch} {D : va_G} {ca : Nat → ClassId} {b : Nat} {nx : Bool} {v0 : Nat} {v1 : Int32} {M : Mem} {r : Mem × Int32} (hf : f_L_speed v0 v1 M = some r) : CtI l yL_speed cL_speed 3 (some .int) rm_L_speed D ca b nx [.ref v0, .int v1] M r := by
  intro sz
  refine body_start (Qc := fun A => cvI D ca nx A r) (by decide +kernel) (Nat.le_of_ble_eq_true rfl) ?_
  intro p e s m args below meth c A hC hr hR ls hl
  obtain ⟨hx, hb, hml, hts, hown, hlocks, hXe, hA, hAb, hnm⟩ := id hC
  have hK := hXe.1
  have hl : lv_has ls 3 [(0, .ref v0), (1, .int v1)] := hl
  unfold f_L_speed at hf
  refine lv_iload_n (pc := 0) hx hb dL_speed_0 rfl (lv_at hl 1 rfl) ?_
  refine lv_bipush (pc := 1) (v := (20 : Int32)) hx hb dL_speed_1 (by decide) ?_
  refine lv_iadd (pc := 3) hx hb dL_speed_3 ?_
  refine nm_i hf (fun x1 hf => ?_)
  refine lv_istore_n (pc := 4) (lv' := [(2, .int x1), (0, .ref v0), (1, .int v1)]) hx hb dL_speed_4 rfl hl (by decide) rfl (fun ls hl => ?_)
  refine lv_ldc (pc := 5) hx hb hown (hts _ m_542) dL_speed_5 ?_
  refine lv_iload_n (pc := 7) hx hb dL_speed_7 rfl (lv_at hl 0 rfl) ?_
  obtain ⟨hz, hf⟩ := gd_e hf
  refine lv_idiv (pc := 8) hx hb dL_speed_8 hz ?_
  refine lv_bipush (pc := 9) (v := (100 : Int32)) hx hb dL_speed_9 (by decide) ?_
  refine lv_aload_n (pc := 11) hx hb dL_speed_11 rfl (lv_at hl 1 rfl) ?_
  refine lv_bipush (pc := 12) (v := (6 : Int32)) hx hb dL_speed_12 (by decide) ?_
  refine rg_iald (pc := 14) hx hb hK hR dL_speed_14 hf (fun hf => ?_)
  refine lv_imul (pc := 15) hx hb dL_speed_15 ?_
  refine lv_iload_n (pc := 16) hx hb dL_speed_16 rfl (lv_at hl 0 rfl) ?_
  refine lv_iload_n (pc := 17) hx hb dL_speed_17 rfl (lv_at hl 0 rfl) ?_
  refine lv_imul (pc := 18) hx hb dL_speed_18 ?_
  obtain ⟨hz, hf⟩ := gd_e hf
  refine lv_idiv (pc := 19) hx hb dL_speed_19 hz ?_
  refine lv_iadd (pc := 20) hx hb dL_speed_20 ?_
  exact rg_iret (pc := 21) hx hb hlocks hr hf hR dL_speed_21
-- L_apart
def f_L_apart_b31  (s0 : Int32) (M : Mem) : Option (Mem × Int32) := some (M, s0)
def f_L_apart_b14  (s0 : Int32) (M : Mem) : Option (Mem × Int32) := if ((36000 : Int32) - s0) ≤ s0 then (f_L_apart_b31 ((36000 : Int32) - s0) M) else (f_L_apart_b31 s0 M)
def f_L_apart (v0 : Int32) (v1 : Int32) (M : Mem) : Option (Mem × Int32) := if v1 ≤ v0 then (f_L_apart_b14 (v0 - v1) M) else (f_L_apart_b14 (v1 - v0) M)
abbrev rm_L_apart : Room := { frames := 0, cells := 0, slots := 0, locals := 0 }
theorem hd_L_apart : yL_apart.cls ≠ "java/lang/invoke/MethodHandle" ∧ yL_apart.cls ≠ "java/lang/invoke/VarHandle" ∧ (parseMethodDescriptor yL_apart.desc).map (fun d => d.parameters.length) = some 2 := by decide +kernel
set_option maxHeartbeats 8000000 in
set_option maxRecDepth 100000 in
theorem c_L_apart {l : Launch} {D : va_G} {ca : Nat → ClassId} {b : Nat} {nx : Bool} {v0 : Int32} {v1 : Int32} {M : Mem} {r : Mem × Int32} (hf : f_L_apart v0 v1 M = some r) : CtI l yL_apart cL_apart 3 (some .int) rm_L_apart D ca b nx [.int v0, .int v1] M r := by
  intro sz
  refine body_start (Qc := fun A => cvI D ca nx A r) (by decide +kernel) (Nat.le_of_ble_eq_true rfl) ?_
  intro p e s m args below meth c A hC hr hR ls hl
  obtain ⟨hx, hb, hml, hts, hown, hlocks, hXe, hA, hAb, hnm⟩ := id hC
  have hK := hXe.1
  have hl : lv_has ls 3 [(0, .int v0), (1, .int v1)] := hl
  have hB31 : ∀  (s0 : Int32) (M : Mem) (H : Heap) (locs : List Loc) (ls : Array Slot), f_L_apart_b31  s0 M = some r → Hp D ca nx A s M H locs → lv_has ls 3 [] → W p l e rm_L_apart s m args below meth c H locs 0 0 (MQ below (cvI D ca nx A r) args s 0 0 A) (F0 m 31 ls [.int s0]) := by
    intro  s0 M H locs ls hf hR hl
    unfold f_L_apart_b31 at hf
    exact rg_iret (pc := 31) hx hb hlocks hr hf hR dL_apart_31
  have hB14 : ∀  (s0 : Int32) (M : Mem) (H : Heap) (locs : List Loc) (ls : Array Slot), f_L_apart_b14  s0 M = some r → Hp D ca nx A s M H locs → lv_has ls 3 [] → W p l e rm_L_apart s m args below meth c H locs 0 0 (MQ below (cvI D ca nx A r) args s 0 0 A) (F0 m 14 ls [.int s0]) := by
    intro  s0 M H locs ls hf hR hl
    unfold f_L_apart_b14 at hf
    refine lv_istore_n (pc := 14) (lv' := [(2, .int s0)]) hx hb dL_apart_14 rfl hl (by decide) rfl (fun ls hl => ?_)
    refine lv_iload_n (pc := 15) hx hb dL_apart_15 rfl (lv_at hl 0 rfl) ?_
    refine lv_ldc (pc := 16) hx hb hown (hts _ m_542) dL_apart_16 ?_
    refine lv_iload_n (pc := 18) hx hb dL_apart_18 rfl (lv_at hl 0 rfl) ?_
    refine lv_isub (pc := 19) hx hb dL_apart_19 ?_
    refine lv_icmp_ge (pc := 20) (tgt := 27) hx hb dL_apart_20 (by decide) (fun hc => ?_) (fun hc => ?_)
    · replace hf := it_t hf hc
      refine lv_ldc (pc := 27) hx hb hown (hts _ m_542) dL_apart_27 ?_
      refine lv_iload_n (pc := 29) hx hb dL_apart_29 rfl (lv_at hl 0 rfl) ?_
      refine lv_isub (pc := 30) hx hb dL_apart_30 ?_
      exact hB31 ((36000 : Int32) - s0) M _ _ _ hf hR (lv_sub hl [] rfl)
    · replace hf := it_f hf hc
      refine lv_iload_n (pc := 23) hx hb dL_apart_23 rfl (lv_at hl 0 rfl) ?_
      refine lv_goto (pc := 24) (tgt := 31) hx hb dL_apart_24 (by decide) ?_
      exact hB31 s0 M _ _ _ hf hR (lv_sub hl [] rfl)
  unfold f_L_apart at hf
  refine lv_iload_n (pc := 0) hx hb dL_apart_0 rfl (lv_at hl 0 rfl) ?_
  refine lv_iload_n (pc := 1) hx hb dL_apart_1 rfl (lv_at hl 1 rfl) ?_
  refine lv_icmp_ge (pc := 2) (tgt := 11) hx hb dL_apart_2 (by decide) (fun hc => ?_) (fun hc => ?_)
  · replace hf := it_t hf hc
    refine lv_iload_n (pc := 11) hx hb dL_apart_11 rfl (lv_at hl 0 rfl) ?_
    refine lv_iload_n (pc := 12) hx hb dL_apart_12 rfl (lv_at hl 1 rfl) ?_
    refine lv_isub (pc := 13) hx hb dL_apart_13 ?_
    exact hB14 (v0 - v1) M _ _ _ hf hR (lv_sub hl [] rfl)
  · replace hf := it_f hf hc
    refine lv_iload_n (pc := 5) hx hb dL_apart_5 rfl (lv_at hl 1 rfl) ?_
    refine lv_iload_n (pc := 6) hx hb dL_apart_6 rfl (lv_at hl 0 rfl) ?_
    refine lv_isub (pc := 7) hx hb dL_apart_7 ?_
    refine lv_goto (pc := 8) (tgt := 14) hx hb dL_apart_8 (by decide) ?_
    exact hB14 (v1 - v0) M _ _ _ hf hR (lv_sub hl [] rfl)
-- L_comes
def f_L_comes_b51  (v1 : Nat) (v4 : Int32) (v5 : Int32) (M : Mem) : Option (Mem × Int64) := gd (M.1 v1 = 9 ∧ vi_ v4 (mm_N M v1)) <| some (M, (((mm_i M v1 (v4).toNatClampNeg)).toInt64 * ((v5 + (20 : Int32))).toInt64))
def f_L_comes_b46  (v1 : Nat) (v2 : Nat) (v4 : Int32) (v5 : Int32) (M : Mem) : Option (Mem × Int64) := gd (M.1 v2 = 9 ∧ vi_ v4 (mm_N M v2)) <| lt_ (ms_i M v2 (v4).toNatClampNeg (0 : Int32)) fun M1 => f_L_comes_b51 v1 v4 v5 M1
def f_L_comes_b33  (v1 : Nat) (v2 : Nat) (v4 : Int32) (v5 : Int32) (M : Mem) : Option (Mem × Int64) := if v5 = (-1 : Int32) then (f_L_comes_b46 v1 v2 v4 v5 M) else (if v5 = (64 : Int32) then (f_L_comes_b46 v1 v2 v4 v5 M) else (f_L_comes_b51 v1 v4 v5 M))
def f_L_comes_b19  (v1 : Nat) (v2 : Nat) (v3 : Nat) (v4 : Int32) (v5 : Int32) (M : Mem) : Option (Mem × Int64) := if v5 = (64 : Int32) then (gd (M.1 v3 = 9 ∧ vi_ (5 : Int32) (mm_N M v3)) <| gd (M.1 v3 = 9 ∧ vi_ (5 : Int32) (mm_N M v3)) <| lt_ (ms_i M v3 ((5 : Int32)).toNatClampNeg ((mm_i M v3 ((5 : Int32)).toNatClampNeg) + (1 : Int32))) fun M2 => f_L_comes_b33 v1 v2 v4 v5 M2) else (f_L_comes_b33 v1 v2 v4 v5 M)
def f_L_comes (v0 : Nat) (v1 : Nat) (v2 : Nat) (v3 : Nat) (v4 : Int32) (v5 : Int32) (M : Mem) : Option (Mem × Int64) := gd (M.1 v0 = 9 ∧ vi_ v4 (mm_N M v0)) <| lt_ (ms_i M v0 (v4).toNatClampNeg v5) fun M3 => if v5 = (-1 : Int32) then (gd (M3.1 v3 = 9 ∧ vi_ (4 : Int32) (mm_N M3 v3)) <| gd (M3.1 v3 = 9 ∧ vi_ (4 : Int32) (mm_N M3 v3)) <| lt_ (ms_i M3 v3 ((4 : Int32)).toNatClampNeg ((mm_i M3 v3 ((4 : Int32)).toNatClampNeg) + (1 : Int32))) fun M4 => f_L_comes_b19 v1 v2 v3 v4 v5 M4) else (f_L_comes_b19 v1 v2 v3 v4 v5 M3)
abbrev rm_L_comes : Room := { frames := 0, cells := 0, slots := 0, locals := 0 }
theorem hd_L_comes : yL_comes.cls ≠ "java/lang/invoke/MethodHandle" ∧ yL_comes.cls ≠ "java/lang/invoke/VarHandle" ∧ (parseMethodDescriptor yL_comes.desc).map (fun d => d.parameters.length) = some 6 := by decide +kernel
set_option maxHeartbeats 8000000 in
set_option maxRecDepth 100000 in
theorem c_L_comes {l : Launch} {D : va_G} {ca : Nat → ClassId} {b : Nat} {nx : Bool} {v0 : Nat} {v1 : Nat} {v2 : Nat} {v3 : Nat} {v4 : Int32} {v5 : Int32} {M : Mem} {r : Mem × Int64} (hf : f_L_comes v0 v1 v2 v3 v4 v5 M = some r) : CtL l yL_comes cL_comes 6 (some .long) rm_L_comes D ca b nx [.ref v0, .ref v1, .ref v2, .ref v3, .int v4, .int v5] M r := by
  intro sz
  refine body_start (Qc := fun A => cvL D ca nx A r) (by decide +kernel) (Nat.le_of_ble_eq_true rfl) ?_
  intro p e s m args below meth c A hC hr hR ls hl
  obtain ⟨hx, hb, hml, hts, hown, hlocks, hXe, hA, hAb, hnm⟩ := id hC
  have hK := hXe.1
  have hl : lv_has ls 6 [(0, .ref v0), (1, .ref v1), (2, .ref v2), (3, .ref v3), (4, .int v4), (5, .int v5)] := hl
  have hB51 : ∀  (v1 : Nat) (v4 : Int32) (v5 : Int32) (M : Mem) (H : Heap) (locs : List Loc) (ls : Array Slot), f_L_comes_b51  v1 v4 v5 M = some r → Hp D ca nx A s M H locs → lv_has ls 6 [(1, .ref v1), (4, .int v4), (5, .int v5)] → W p l e rm_L_comes s m args below meth c H locs 0 0 (MQ below (cvL D ca nx A r) args s 0 0 A) (F0 m 51 ls []) := by
    intro  v1 v4 v5 M H locs ls hf hR hl
    unfold f_L_comes_b51 at hf
    refine lv_aload_n (pc := 51) hx hb dL_comes_51 rfl (lv_at hl 0 rfl) ?_
    refine lv_iload (pc := 52) hx hb dL_comes_52 (lv_at hl 1 rfl) ?_
    refine rg_iald (pc := 54) hx hb hK hR dL_comes_54 hf (fun hf => ?_)
    refine lv_i2l (pc := 55) hx hb dL_comes_55 rfl ?_
    refine lv_iload (pc := 56) hx hb dL_comes_56 (lv_at hl 2 rfl) ?_
    refine lv_bipush (pc := 58) (v := (20 : Int32)) hx hb dL_comes_58 (by decide) ?_
    refine lv_iadd (pc := 60) hx hb dL_comes_60 ?_
    refine lv_i2l (pc := 61) hx hb dL_comes_61 rfl ?_
    refine lv_lmul (pc := 62) hx hb dL_comes_62 ?_
    exact rg_lret (pc := 63) hx hb hlocks hr hf hR dL_comes_63
  have hB46 : ∀  (v1 : Nat) (v2 : Nat) (v4 : Int32) (v5 : Int32) (M : Mem) (H : Heap) (locs : List Loc) (ls : Array Slot), f_L_comes_b46  v1 v2 v4 v5 M = some r → Hp D ca nx A s M H locs → lv_has ls 6 [(1, .ref v1), (2, .ref v2), (4, .int v4), (5, .int v5)] → W p l e rm_L_comes s m args below meth c H locs 0 0 (MQ below (cvL D ca nx A r) args s 0 0 A) (F0 m 46 ls []) := by
    intro  v1 v2 v4 v5 M H locs ls hf hR hl
    unfold f_L_comes_b46 at hf
    refine lv_aload_n (pc := 46) hx hb dL_comes_46 rfl (lv_at hl 1 rfl) ?_
    refine lv_iload (pc := 47) hx hb dL_comes_47 (lv_at hl 2 rfl) ?_
    refine lv_iconst (pc := 49) (v := (0 : Int32)) hx hb dL_comes_49 (by decide) ?_
    refine rg_iast (pc := 50) hx hb hK hR dL_comes_50 hf (fun M1 H locs hf hR => ?_)
    exact hB51 v1 v4 v5 M1 _ _ _ hf hR (lv_sub hl [0, 2, 3] rfl)
  have hB33 : ∀  (v1 : Nat) (v2 : Nat) (v4 : Int32) (v5 : Int32) (M : Mem) (H : Heap) (locs : List Loc) (ls : Array Slot), f_L_comes_b33  v1 v2 v4 v5 M = some r → Hp D ca nx A s M H locs → lv_has ls 6 [(1, .ref v1), (2, .ref v2), (4, .int v4), (5, .int v5)] → W p l e rm_L_comes s m args below meth c H locs 0 0 (MQ below (cvL D ca nx A r) args s 0 0 A) (F0 m 33 ls []) := by
    intro  v1 v2 v4 v5 M H locs ls hf hR hl
    unfold f_L_comes_b33 at hf
    refine lv_iload (pc := 33) hx hb dL_comes_33 (lv_at hl 3 rfl) ?_
    refine lv_iconst (pc := 35) (v := (-1 : Int32)) hx hb dL_comes_35 (by decide) ?_
    refine lv_icmp_eq (pc := 36) (tgt := 46) hx hb dL_comes_36 (by decide) (fun hc => ?_) (fun hc => ?_)
    · replace hf := it_t hf hc
      exact hB46 v1 v2 v4 v5 M _ _ _ hf hR (lv_sub hl [0, 1, 2, 3] rfl)
    · replace hf := it_f hf hc
      refine lv_iload (pc := 39) hx hb dL_comes_39 (lv_at hl 3 rfl) ?_
      refine lv_bipush (pc := 41) (v := (64 : Int32)) hx hb dL_comes_41 (by decide) ?_
      refine lv_icmp_ne (pc := 43) (tgt := 51) hx hb dL_comes_43 (by decide) (fun hc => ?_) (fun hc => ?_)
      · replace hf := it_f hf hc
        exact hB51 v1 v4 v5 M _ _ _ hf hR (lv_sub hl [0, 2, 3] rfl)
      · replace hf := it_t hf hc
        exact hB46 v1 v2 v4 v5 M _ _ _ hf hR (lv_sub hl [0, 1, 2, 3] rfl)
  have hB19 : ∀  (v1 : Nat) (v2 : Nat) (v3 : Nat) (v4 : Int32) (v5 : Int32) (M : Mem) (H : Heap) (locs : List Loc) (ls : Array Slot), f_L_comes_b19  v1 v2 v3 v4 v5 M = some r → Hp D ca nx A s M H locs → lv_has ls 6 [(1, .ref v1), (2, .ref v2), (3, .ref v3), (4, .int v4), (5, .int v5)] → W p l e rm_L_comes s m args below meth c H locs 0 0 (MQ below (cvL D ca nx A r) args s 0 0 A) (F0 m 19 ls []) := by
    intro  v1 v2 v3 v4 v5 M H locs ls hf hR hl
    unfold f_L_comes_b19 at hf
    refine lv_iload (pc := 19) hx hb dL_comes_19 (lv_at hl 4 rfl) ?_
    refine lv_bipush (pc := 21) (v := (64 : Int32)) hx hb dL_comes_21 (by decide) ?_
    refine lv_icmp_ne (pc := 23) (tgt := 33) hx hb dL_comes_23 (by decide) (fun hc => ?_) (fun hc => ?_)
    · replace hf := it_f hf hc
      exact hB33 v1 v2 v4 v5 M _ _ _ hf hR (lv_sub hl [0, 1, 3, 4] rfl)
    · replace hf := it_t hf hc
      refine lv_aload_n (pc := 26) hx hb dL_comes_26 rfl (lv_at hl 2 rfl) ?_
      refine lv_iconst (pc := 27) (v := (5 : Int32)) hx hb dL_comes_27 (by decide) ?_
      refine lv_dup2_11 (pc := 28) hx hb dL_comes_28 rfl rfl ?_
      refine rg_iald (pc := 29) hx hb hK hR dL_comes_29 hf (fun hf => ?_)
      refine lv_iconst (pc := 30) (v := (1 : Int32)) hx hb dL_comes_30 (by decide) ?_
      refine lv_iadd (pc := 31) hx hb dL_comes_31 ?_
      refine rg_iast (pc := 32) hx hb hK hR dL_comes_32 hf (fun M2 H locs hf hR => ?_)
      exact hB33 v1 v2 v4 v5 M2 _ _ _ hf hR (lv_sub hl [0, 1, 3, 4] rfl)
  unfold f_L_comes at hf
  refine lv_aload_n (pc := 0) hx hb dL_comes_0 rfl (lv_at hl 0 rfl) ?_
  refine lv_iload (pc := 1) hx hb dL_comes_1 (lv_at hl 4 rfl) ?_
  refine lv_iload (pc := 3) hx hb dL_comes_3 (lv_at hl 5 rfl) ?_
  refine rg_iast (pc := 5) hx hb hK hR dL_comes_5 hf (fun M3 H locs hf hR => ?_)
  refine lv_iload (pc := 6) hx hb dL_comes_6 (lv_at hl 5 rfl) ?_
  refine lv_iconst (pc := 8) (v := (-1 : Int32)) hx hb dL_comes_8 (by decide) ?_
  refine lv_icmp_ne (pc := 9) (tgt := 19) hx hb dL_comes_9 (by decide) (fun hc => ?_) (fun hc => ?_)
  · replace hf := it_f hf hc
    exact hB19 v1 v2 v3 v4 v5 M3 _ _ _ hf hR (lv_sub hl [1, 2, 3, 4, 5] rfl)
  · replace hf := it_t hf hc
    refine lv_aload_n (pc := 12) hx hb dL_comes_12 rfl (lv_at hl 3 rfl) ?_
    refine lv_iconst (pc := 13) (v := (4 : Int32)) hx hb dL_comes_13 (by decide) ?_
    refine lv_dup2_11 (pc := 14) hx hb dL_comes_14 rfl rfl ?_
    refine rg_iald (pc := 15) hx hb hK hR dL_comes_15 hf (fun hf => ?_)
    refine lv_iconst (pc := 16) (v := (1 : Int32)) hx hb dL_comes_16 (by decide) ?_
    refine lv_iadd (pc := 17) hx hb dL_comes_17 ?_
    refine rg_iast (pc := 18) hx hb hK hR dL_comes_18 hf (fun M4 H locs hf hR => ?_)
    exact hB19 v1 v2 v3 v4 v5 M4 _ _ _ hf hR (lv_sub hl [1, 2, 3, 4, 5] rfl)
-- L_moment
def f_L_moment (v0 : Nat) (v1 : Nat) (v2 : Int32) (M : Mem) : Option (Mem × Int64) := gd (M.1 v1 = 9 ∧ vi_ v2 (mm_N M v1)) <| gd (M.1 v0 = 9 ∧ vi_ v2 (mm_N M v0)) <| some (M, (((mm_i M v1 (v2).toNatClampNeg)).toInt64 * (((mm_i M v0 (v2).toNatClampNeg) + (20 : Int32))).toInt64))
abbrev rm_L_moment : Room := { frames := 0, cells := 0, slots := 0, locals := 0 }
theorem hd_L_moment : yL_moment.cls ≠ "java/lang/invoke/MethodHandle" ∧ yL_moment.cls ≠ "java/lang/invoke/VarHandle" ∧ (parseMethodDescriptor yL_moment.desc).map (fun d => d.parameters.length) = some 3 := by decide +kernel
set_option maxHeartbeats 8000000 in
set_option maxRecDepth 100000 in
theorem c_L_moment {l : Launch} {D : va_G} {ca : Nat → ClassId} {b : Nat} {nx : Bool} {v0 : Nat} {v1 : Nat} {v2 : Int32} {M : Mem} {r : Mem × Int64} (hf : f_L_moment v0 v1 v2 M = some r) : CtL l yL_moment cL_moment 3 (some .long) rm_L_moment D ca b nx [.ref v0, .ref v1, .int v2] M r := by
  intro sz
  refine body_start (Qc := fun A => cvL D ca nx A r) (by decide +kernel) (Nat.le_of_ble_eq_true rfl) ?_
  intro p e s m args below meth c A hC hr hR ls hl
  obtain ⟨hx, hb, hml, hts, hown, hlocks, hXe, hA, hAb, hnm⟩ := id hC
  have hK := hXe.1
  have hl : lv_has ls 3 [(0, .ref v0), (1, .ref v1), (2, .int v2)] := hl
  unfold f_L_moment at hf
  refine lv_aload_n (pc := 0) hx hb dL_moment_0 rfl (lv_at hl 1 rfl) ?_
  refine lv_iload_n (pc := 1) hx hb dL_moment_1 rfl (lv_at hl 2 rfl) ?_
  refine rg_iald (pc := 2) hx hb hK hR dL_moment_2 hf (fun hf => ?_)
  refine lv_i2l (pc := 3) hx hb dL_moment_3 rfl ?_
  refine lv_aload_n (pc := 4) hx hb dL_moment_4 rfl (lv_at hl 0 rfl) ?_
  refine lv_iload_n (pc := 5) hx hb dL_moment_5 rfl (lv_at hl 2 rfl) ?_
  refine rg_iald (pc := 6) hx hb hK hR dL_moment_6 hf (fun hf => ?_)
  refine lv_bipush (pc := 7) (v := (20 : Int32)) hx hb dL_moment_7 (by decide) ?_
  refine lv_iadd (pc := 9) hx hb dL_moment_9 ?_
  refine lv_i2l (pc := 10) hx hb dL_moment_10 rfl ?_
  refine lv_lmul (pc := 11) hx hb dL_moment_11 ?_
  exact rg_lret (pc := 12) hx hb hlocks hr hf hR dL_moment_12
