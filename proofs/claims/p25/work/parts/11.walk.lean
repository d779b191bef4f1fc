-- X3_partnerOf
def f_X3_partnerOf_b58 (k12 : Nat → Int32 → Nat → Int32 → Mem → Option (Mem × Int32)) (v0 : Nat) (v2 : Int32) (v3 : Nat) (v4 : Int32) (M : Mem) : Option (Mem × Int32) := lt_ (v4 + (1 : Int32)) fun x1 => k12 v0 v2 v3 x1 M
def f_X3_partnerOf_b12 (k12 : Nat → Int32 → Nat → Int32 → Mem → Option (Mem × Int32)) (v0 : Nat) (v2 : Int32) (v3 : Nat) (v4 : Int32) (M : Mem) : Option (Mem × Int32) := if v2 ≤ v4 then (some (M, (-1 : Int32))) else (gd (M.1 v0 = 3) <| rd (mm_r M v0 2) fun a2 => gd (M.1 a2 = 13 ∧ vi_ v4 (mm_N M a2)) <| rd (mm_r M a2 (v4).toNatClampNeg) fun a3 => gd (M.1 a3 = 2) <| bd (f_X2_mayMeet a3 M) fun z4 => if z4.2 = 0 then (f_X3_partnerOf_b58 k12 v0 v2 v3 v4 z4.1) else (gd (z4.1.1 a3 = 2) <| gd (z4.1.1 a3 = 2) <| gd (z4.1.1 v3 = 2) <| bd (f_X2_isNear v3 (mm_i z4.1 a3 0) (mm_i z4.1 a3 1) (1 : Int32) (100 : Int32) z4.1) fun z5 => if z5.2 = 0 then (f_X3_partnerOf_b58 k12 v0 v2 v3 v4 z5.1) else (some (z5.1, v4))))
def f_X3_partnerOf_L12  : Nat → Nat → Int32 → Nat → Int32 → Mem → Option (Mem × Int32)
  | 0 => fun _ _ _ _ _ => none
  | n + 1 => f_X3_partnerOf_b12  (f_X3_partnerOf_L12  n)
def f_X3_partnerOf (v0 : Nat) (v1 : Int32) (v2 : Int32) (M : Mem) : Option (Mem × Int32) := gd (M.1 v0 = 3) <| rd (mm_r M v0 2) fun a6 => gd (M.1 a6 = 13 ∧ vi_ v1 (mm_N M a6)) <| rd (mm_r M a6 (v1).toNatClampNeg) fun a7 => lt_ ((v1 + (1 : Int32))) fun x8 => f_X3_partnerOf_L12 200 v0 v2 a7 x8 M
abbrev rm_X3_partnerOf : Room := { frames := 3, cells := 0, slots := 0, locals := 70 }
theorem hd_X3_partnerOf : yX3_partnerOf.cls ≠ "java/lang/invoke/MethodHandle" ∧ yX3_partnerOf.cls ≠ "java/lang/invoke/VarHandle" ∧ (parseMethodDescriptor yX3_partnerOf.desc).map (fun d => d.parameters.length) = some 2 := by decide +kernel
set_option maxHeartbeats 8000000 in
set_option maxRecDepth 100000 in
theorem c_X3_partnerOf {l : Launch} {D : va_G} {ca : Nat → ClassId} {b : Nat} {nx : Bool} {v0 : Nat} {v1 : Int32} {v2 : Int32} {M : Mem} {r : Mem × Int32} (hf : f_X3_partnerOf v0 v1 v2 M = some r) : CtI l yX3_partnerOf cX3_partnerOf 6 (some .int) rm_X3_partnerOf D ca b nx [.ref v0, .int v1, .int v2] M r := by
  intro sz
  refine body_start (Qc := fun A => cvI D ca nx A r) (by decide +kernel) (Nat.le_of_ble_eq_true rfl) ?_
  intro p e s m args below meth c A hC hr hR ls hl
  obtain ⟨hx, hb, hml, hts, hown, hlocks, hXe, hA, hAb, hnm⟩ := id hC
  have hK := hXe.1
  have hl : lv_has ls 6 [(0, .ref v0), (1, .int v1), (2, .int v2)] := hl
  have hB58 : ∀ (k12 : Nat → Int32 → Nat → Int32 → Mem → Option (Mem × Int32)) (hk12 : ∀ (v0 : Nat) (v2 : Int32) (v3 : Nat) (v4 : Int32) (M : Mem) (H : Heap) (locs : List Loc) (ls : Array Slot), k12 v0 v2 v3 v4 M = some r → Hp D ca nx A s M H locs → lv_has ls 6 [(0, .ref v0), (2, .int v2), (3, .ref v3), (4, .int v4)] → W p l e rm_X3_partnerOf s m args below meth c H locs 0 0 (MQ below (cvI D ca nx A r) args s 0 0 A) (F0 m 12 ls [])) (v0 : Nat) (v2 : Int32) (v3 : Nat) (v4 : Int32) (M : Mem) (H : Heap) (locs : List Loc) (ls : Array Slot), f_X3_partnerOf_b58 k12 v0 v2 v3 v4 M = some r → Hp D ca nx A s M H locs → lv_has ls 6 [(0, .ref v0), (2, .int v2), (3, .ref v3), (4, .int v4)] → W p l e rm_X3_partnerOf s m args below meth c H locs 0 0 (MQ below (cvI D ca nx A r) args s 0 0 A) (F0 m 58 ls []) := by
    intro k12 hk12 v0 v2 v3 v4 M H locs ls hf hR hl
    unfold f_X3_partnerOf_b58 at hf
    refine rg_iinc (pc := 58) hx hb dX3_partnerOf_58 hl (k := 3) rfl rfl (by decide) hf (fun x1 ls hf hl => ?_)
    have hl : lv_has ls 6 [(4, .int x1), (0, .ref v0), (2, .int v2), (3, .ref v3)] := hl
    refine lv_goto (pc := 61) (tgt := 12) hx hb dX3_partnerOf_61 (by decide) ?_
    exact hk12 v0 v2 v3 x1 M _ _ _ hf hR (lv_sub hl [1, 2, 3, 0] rfl)
  have hB12 : ∀ (k12 : Nat → Int32 → Nat → Int32 → Mem → Option (Mem × Int32)) (hk12 : ∀ (v0 : Nat) (v2 : Int32) (v3 : Nat) (v4 : Int32) (M : Mem) (H : Heap) (locs : List Loc) (ls : Array Slot), k12 v0 v2 v3 v4 M = some r → Hp D ca nx A s M H locs → lv_has ls 6 [(0, .ref v0), (2, .int v2), (3, .ref v3), (4, .int v4)] → W p l e rm_X3_partnerOf s m args below meth c H locs 0 0 (MQ below (cvI D ca nx A r) args s 0 0 A) (F0 m 12 ls [])) (v0 : Nat) (v2 : Int32) (v3 : Nat) (v4 : Int32) (M : Mem) (H : Heap) (locs : List Loc) (ls : Array Slot), f_X3_partnerOf_b12 k12 v0 v2 v3 v4 M = some r → Hp D ca nx A s M H locs → lv_has ls 6 [(0, .ref v0), (2, .int v2), (3, .ref v3), (4, .int v4)] → W p l e rm_X3_partnerOf s m args below meth c H locs 0 0 (MQ below (cvI D ca nx A r) args s 0 0 A) (F0 m 12 ls []) := by
    intro k12 hk12 v0 v2 v3 v4 M H locs ls hf hR hl
    unfold f_X3_partnerOf_b12 at hf
    refine lv_iload (pc := 12) hx hb dX3_partnerOf_12 (lv_at hl 3 rfl) ?_
    refine lv_iload_n (pc := 14) hx hb dX3_partnerOf_14 rfl (lv_at hl 1 rfl) ?_
    refine lv_icmp_ge (pc := 15) (tgt := 64) hx hb dX3_partnerOf_15 (by decide) (fun hc => ?_) (fun hc => ?_)
    · replace hf := it_t hf hc
      refine lv_iconst (pc := 64) (v := (-1 : Int32)) hx hb dX3_partnerOf_64 (by decide) ?_
      exact rg_iret (pc := 65) hx hb hlocks hr hf hR dX3_partnerOf_65
    · replace hf := it_f hf hc
      refine lv_aload_n (pc := 18) hx hb dX3_partnerOf_18 rfl (lv_at hl 0 rfl) ?_
      refine rg_getr (pc := 19) (C := RX3) (T := TX3) (N := 7) (κ := 3) hx hb hts hK hR hown in_3 rfl (by decide) 2 (by decide) m_144 rfl dX3_partnerOf_19 hf (fun a2 hf => ?_)
      refine lv_iload (pc := 22) hx hb dX3_partnerOf_22 (lv_at hl 3 rfl) ?_
      refine rg_aald (pc := 24) (κ := 13) hx hb hK hR 3 rfl (by decide) dX3_partnerOf_24 hf (fun a3 hf => ?_)
      refine lv_astore (pc := 25) (lv' := [(5, .ref a3), (0, .ref v0), (2, .int v2), (3, .ref v3), (4, .int v4)]) hx hb dX3_partnerOf_25 hl (by decide) rfl (fun ls hl => ?_)
      refine lv_aload (pc := 27) hx hb dX3_partnerOf_27 (lv_at hl 0 rfl) ?_
      obtain ⟨hq, hf⟩ := gd_e hf
      refine rg_I (pc := 29) hf hR hA (fun z hz => rn_V (κ := 2) (As := []) (rest := []) hC hR rfl (by decide) hq (c_X2_mayMeet  hz _) m_427 m_428 m_429 m_5 m_430 hd_X2_mayMeet ⟨rfl, rfl, Nat.le_of_ble_eq_true rfl, Nat.le_of_ble_eq_true rfl⟩ rfl hl.1 rfl (Nat.le_of_ble_eq_true rfl) dX3_partnerOf_29 ⟨Nat.le_of_ble_eq_true rfl, Nat.le_of_ble_eq_true rfl⟩) (fun z4 H locs hf hR => ?_)
      refine lv_if_eq (pc := 32) (tgt := 58) hx hb dX3_partnerOf_32 (by decide) (fun hc => ?_) (fun hc => ?_)
      · replace hf := it_t hf hc
        exact hB58 k12 hk12 v0 v2 v3 v4 z4.1 _ _ _ hf hR (lv_sub hl [1, 2, 3, 4] rfl)
      · replace hf := it_f hf hc
        refine lv_aload_n (pc := 35) hx hb dX3_partnerOf_35 rfl (lv_at hl 3 rfl) ?_
        refine lv_aload (pc := 36) hx hb dX3_partnerOf_36 (lv_at hl 0 rfl) ?_
        refine rg_get (pc := 38) (C := RX2) (T := TX2) (N := 7) (κ := 2) (v := .int (mm_i z4.1 a3 0)) hx hb hts hK hR hown in_2 rfl (by decide) 0 (by decide) m_108 rfl dX3_partnerOf_38 hf (fun hf => ?_)
        refine lv_aload (pc := 41) hx hb dX3_partnerOf_41 (lv_at hl 0 rfl) ?_
        refine rg_get (pc := 43) (C := RX2) (T := TX2) (N := 7) (κ := 2) (v := .int (mm_i z4.1 a3 1)) hx hb hts hK hR hown in_2 rfl (by decide) 1 (by decide) m_110 rfl dX3_partnerOf_43 hf (fun hf => ?_)
        refine lv_iconst (pc := 46) (v := (1 : Int32)) hx hb dX3_partnerOf_46 (by decide) ?_
        refine lv_bipush (pc := 47) (v := (100 : Int32)) hx hb dX3_partnerOf_47 (by decide) ?_
        obtain ⟨hq, hf⟩ := gd_e hf
        refine rg_I (pc := 49) hf hR hA (fun z hz => rn_V (κ := 2) (As := [.int (mm_i z4.1 a3 0), .int (mm_i z4.1 a3 1), .int (1 : Int32), .int (100 : Int32)]) (rest := []) hC hR rfl (by decide) hq (c_X2_isNear  hz _) m_404 m_405 m_406 m_5 m_407 hd_X2_isNear ⟨rfl, rfl, Nat.le_of_ble_eq_true rfl, Nat.le_of_ble_eq_true rfl⟩ rfl hl.1 rfl (Nat.le_of_ble_eq_true rfl) dX3_partnerOf_49 ⟨Nat.le_of_ble_eq_true rfl, Nat.le_of_ble_eq_true rfl⟩) (fun z5 H locs hf hR => ?_)
        refine lv_if_eq (pc := 52) (tgt := 58) hx hb dX3_partnerOf_52 (by decide) (fun hc => ?_) (fun hc => ?_)
        · replace hf := it_t hf hc
          exact hB58 k12 hk12 v0 v2 v3 v4 z5.1 _ _ _ hf hR (lv_sub hl [1, 2, 3, 4] rfl)
        · replace hf := it_f hf hc
          refine lv_iload (pc := 55) hx hb dX3_partnerOf_55 (lv_at hl 4 rfl) ?_
          exact rg_iret (pc := 57) hx hb hlocks hr hf hR dX3_partnerOf_57
  have hL12 : ∀  (n : Nat) (v0 : Nat) (v2 : Int32) (v3 : Nat) (v4 : Int32) (M : Mem) (H : Heap) (locs : List Loc) (ls : Array Slot), f_X3_partnerOf_L12  n v0 v2 v3 v4 M = some r → Hp D ca nx A s M H locs → lv_has ls 6 [(0, .ref v0), (2, .int v2), (3, .ref v3), (4, .int v4)] → W p l e rm_X3_partnerOf s m args below meth c H locs 0 0 (MQ below (cvI D ca nx A r) args s 0 0 A) (F0 m 12 ls []) := by
    intro  n
    induction n with
    | zero => intro v0 v2 v3 v4 M H locs ls hf; exact nomatch (show (none : Option (Mem × Int32)) = some r from hf)
    | succ n ih => intro v0 v2 v3 v4 M H locs ls hf hR hl; exact hB12  (f_X3_partnerOf_L12  n) ih v0 v2 v3 v4 M H locs ls hf hR hl
  unfold f_X3_partnerOf at hf
  refine lv_aload_n (pc := 0) hx hb dX3_partnerOf_0 rfl (lv_at hl 0 rfl) ?_
  refine rg_getr (pc := 1) (C := RX3) (T := TX3) (N := 7) (κ := 3) hx hb hts hK hR hown in_3 rfl (by decide) 2 (by decide) m_144 rfl dX3_partnerOf_1 hf (fun a6 hf => ?_)
  refine lv_iload_n (pc := 4) hx hb dX3_partnerOf_4 rfl (lv_at hl 1 rfl) ?_
  refine rg_aald (pc := 5) (κ := 13) hx hb hK hR 3 rfl (by decide) dX3_partnerOf_5 hf (fun a7 hf => ?_)
  refine lv_astore_n (pc := 6) (lv' := [(3, .ref a7), (0, .ref v0), (1, .int v1), (2, .int v2)]) hx hb dX3_partnerOf_6 rfl hl (by decide) rfl (fun ls hl => ?_)
  refine lv_iload_n (pc := 7) hx hb dX3_partnerOf_7 rfl (lv_at hl 2 rfl) ?_
  refine lv_iconst (pc := 8) (v := (1 : Int32)) hx hb dX3_partnerOf_8 (by decide) ?_
  refine lv_iadd (pc := 9) hx hb dX3_partnerOf_9 ?_
  refine nm_i hf (fun x8 hf => ?_)
  refine lv_istore (pc := 10) (lv' := [(4, .int x8), (3, .ref a7), (0, .ref v0), (1, .int v1), (2, .int v2)]) hx hb dX3_partnerOf_10 hl (by decide) rfl (fun ls hl => ?_)
  exact hL12 200 v0 v2 a7 x8 M _ _ _ hf hR (lv_sub hl [2, 4, 1, 0] rfl)
-- X3_blend
def f_X3_blend (v0 : Nat) (v1 : Int32) (v2 : Nat) (v3 : Int32) (M : Mem) : Option (Mem × Int32) := gd (M.1 v0 = 2) <| gd (M.1 v2 = 2) <| lt_ ((((mm_i M v0 2)).toInt64 + ((mm_i M v2 2)).toInt64)) fun x1 => if 0 ≤ (lg_cmp x1 (1 : Int64)) then (gd (M.1 v0 = 2) <| gd (M.1 v2 = 2) <| gd (¬ x1 = 0) <| some (M, ((((((mm_i M v0 2)).toInt64 * (v1).toInt64) + (((mm_i M v2 2)).toInt64 * (v3).toInt64)) / x1)).toInt32)) else (some (M, v1))
abbrev rm_X3_blend : Room := { frames := 0, cells := 0, slots := 0, locals := 0 }
theorem hd_X3_blend : yX3_blend.cls ≠ "java/lang/invoke/MethodHandle" ∧ yX3_blend.cls ≠ "java/lang/invoke/VarHandle" ∧ (parseMethodDescriptor yX3_blend.desc).map (fun d => d.parameters.length) = some 4 := by decide +kernel
set_option maxHeartbeats 8000000 in
set_option maxRecDepth 100000 in
theorem c_X3_blend {l : Launch} {D : va_G} {ca : Nat → ClassId} {b : Nat} {nx : Bool} {v0 : Nat} {v1 : Int32} {v2 : Nat} {v3 : Int32} {M : Mem} {r : Mem × Int32} (hf : f_X3_blend v0 v1 v2 v3 M = some r) : CtI l yX3_blend cX3_blend 6 (some .int) rm_X3_blend D ca b nx [.ref v0, .int v1, .ref v2, .int v3] M r := by
  intro sz
  refine body_start (Qc := fun A => cvI D ca nx A r) (by decide +kernel) (Nat.le_of_ble_eq_true rfl) ?_
  intro p e s m args below meth c A hC hr hR ls hl
  obtain ⟨hx, hb, hml, hts, hown, hlocks, hXe, hA, hAb, hnm⟩ := id hC
  have hK := hXe.1
  have hl : lv_has ls 6 [(0, .ref v0), (1, .int v1), (2, .ref v2), (3, .int v3)] := hl
  unfold f_X3_blend at hf
  refine lv_aload_n (pc := 0) hx hb dX3_blend_0 rfl (lv_at hl 0 rfl) ?_
  refine rg_get (pc := 1) (C := RX2) (T := TX2) (N := 7) (κ := 2) (v := .int (mm_i M v0 2)) hx hb hts hK hR hown in_2 rfl (by decide) 2 (by decide) m_114 rfl dX3_blend_1 hf (fun hf => ?_)
  refine lv_i2l (pc := 4) hx hb dX3_blend_4 rfl ?_
  refine lv_aload_n (pc := 5) hx hb dX3_blend_5 rfl (lv_at hl 2 rfl) ?_
  refine rg_get (pc := 6) (C := RX2) (T := TX2) (N := 7) (κ := 2) (v := .int (mm_i M v2 2)) hx hb hts hK hR hown in_2 rfl (by decide) 2 (by decide) m_114 rfl dX3_blend_6 hf (fun hf => ?_)
  refine lv_i2l (pc := 9) hx hb dX3_blend_9 rfl ?_
  refine lv_ladd (pc := 10) hx hb dX3_blend_10 ?_
  refine nm_l hf (fun x1 hf => ?_)
  refine lv_lstore (pc := 11) (lv' := [(4, .long x1), (0, .ref v0), (1, .int v1), (2, .ref v2), (3, .int v3)]) hx hb dX3_blend_11 hl (by decide) rfl (fun ls hl => ?_)
  refine lv_lload (pc := 13) hx hb dX3_blend_13 (lv_at hl 0 rfl) ?_
  refine lv_lconst (pc := 15) (v := (1 : Int64)) hx hb dX3_blend_15 (by decide) ?_
  refine W.lcmp (pc := 16) hx hb dX3_blend_16 ?_
  refine lv_if_ge (pc := 17) (tgt := 22) hx hb dX3_blend_17 (by decide) (fun hc => ?_) (fun hc => ?_)
  · replace hf := it_t hf hc
    refine lv_aload_n (pc := 22) hx hb dX3_blend_22 rfl (lv_at hl 1 rfl) ?_
    refine rg_get (pc := 23) (C := RX2) (T := TX2) (N := 7) (κ := 2) (v := .int (mm_i M v0 2)) hx hb hts hK hR hown in_2 rfl (by decide) 2 (by decide) m_114 rfl dX3_blend_23 hf (fun hf => ?_)
    refine lv_i2l (pc := 26) hx hb dX3_blend_26 rfl ?_
    refine lv_iload_n (pc := 27) hx hb dX3_blend_27 rfl (lv_at hl 2 rfl) ?_
    refine lv_i2l (pc := 28) hx hb dX3_blend_28 rfl ?_
    refine lv_lmul (pc := 29) hx hb dX3_blend_29 ?_
    refine lv_aload_n (pc := 30) hx hb dX3_blend_30 rfl (lv_at hl 3 rfl) ?_
    refine rg_get (pc := 31) (C := RX2) (T := TX2) (N := 7) (κ := 2) (v := .int (mm_i M v2 2)) hx hb hts hK hR hown in_2 rfl (by decide) 2 (by decide) m_114 rfl dX3_blend_31 hf (fun hf => ?_)
    refine lv_i2l (pc := 34) hx hb dX3_blend_34 rfl ?_
    refine lv_iload_n (pc := 35) hx hb dX3_blend_35 rfl (lv_at hl 4 rfl) ?_
    refine lv_i2l (pc := 36) hx hb dX3_blend_36 rfl ?_
    refine lv_lmul (pc := 37) hx hb dX3_blend_37 ?_
    refine lv_ladd (pc := 38) hx hb dX3_blend_38 ?_
    refine lv_lload (pc := 39) hx hb dX3_blend_39 (lv_at hl 0 rfl) ?_
    obtain ⟨hz, hf⟩ := gd_e hf
    refine lv_ldiv (pc := 41) hx hb dX3_blend_41 hz ?_
    refine lv_l2i (pc := 42) hx hb dX3_blend_42 rfl ?_
    exact rg_iret (pc := 43) hx hb hlocks hr hf hR dX3_blend_43
  · replace hf := it_f hf hc
    refine lv_iload_n (pc := 20) hx hb dX3_blend_20 rfl (lv_at hl 2 rfl) ?_
    exact rg_iret (pc := 21) hx hb hlocks hr hf hR dX3_blend_21
-- X3_stick
def f_X3_stick (v0 : Nat) (v1 : Nat) (v2 : Nat) (M : Mem) : Option (Mem) := gd (M.1 v1 = 2) <| bd (f_X2_carried v1 M) fun z1 => gd (z1.1.1 v2 = 2) <| bd (f_X2_carried v2 z1.1) fun z2 => lt_ ((z1.2 + z2.2)) fun x3 => gd (z2.1.1 v1 = 2) <| gd (z2.1.1 v2 = 2) <| bd (f_X3_blend v1 (mm_i z2.1 v1 0) v2 (mm_i z2.1 v2 0) z2.1) fun z4 => gd (z4.1.1 v1 = 2) <| gd (z4.1.1 v2 = 2) <| bd (f_X3_blend v1 (mm_i z4.1 v1 4) v2 (mm_i z4.1 v2 4) z4.1) fun z5 => gd (z5.1.1 v1 = 2) <| lt_ (ms_i z5.1 v1 0 z4.2) fun M6 => gd (M6.1 v1 = 2) <| lt_ (ms_i M6 v1 4 z5.2) fun M7 => gd (M7.1 v1 = 2) <| gd (M7.1 v2 = 2) <| gd (M7.1 v1 = 2) <| lt_ (ms_i M7 v1 3 (if (mm_i M7 v2 3) < (mm_i M7 v1 3) then (mm_i M7 v2 3) else (mm_i M7 v1 3))) fun M8 => gd (M8.1 v1 = 2) <| gd (M8.1 v2 = 2) <| gd (M8.1 v1 = 2) <| lt_ (ms_i M8 v1 2 ((mm_i M8 v1 2) + (mm_i M8 v2 2))) fun M9 => gd (M9.1 v2 = 2) <| lt_ (ms_i M9 v2 5 (0 : Int32)) fun M10 => gd (M10.1 v0 = 3) <| rd (mm_r M10 v0 1) fun a11 => gd (M10.1 a11 = 4) <| gd (M10.1 a11 = 4) <| lt_ (ms_i M10 a11 0 ((mm_i M10 a11 0) + (1 : Int32))) fun M12 => gd (M12.1 v0 = 3) <| rd (mm_r M12 v0 1) fun a13 => gd (M12.1 a13 = 4) <| gd (M12.1 v1 = 2) <| bd (f_X2_carried v1 M12) fun z14 => gd (z14.1.1 a13 = 4) <| lt_ (ms_l z14.1 a13 12 ((mm_l M12 a13 12) + (x3 - z14.2))) fun M15 => some M15
abbrev rm_X3_stick : Room := { frames := 1, cells := 0, slots := 0, locals := 25 }
theorem hd_X3_stick : yX3_stick.cls ≠ "java/lang/invoke/MethodHandle" ∧ yX3_stick.cls ≠ "java/lang/invoke/VarHandle" ∧ (parseMethodDescriptor yX3_stick.desc).map (fun d => d.parameters.length) = some 2 := by decide +kernel
set_option maxHeartbeats 8000000 in
set_option maxRecDepth 100000 in
theorem c_X3_stick {l : Launch} {D : va_G} {ca : Nat → ClassId} {b : Nat} {nx : Bool} {v0 : Nat} {v1 : Nat} {v2 : Nat} {M : Mem} {r : Mem} (hf : f_X3_stick v0 v1 v2 M = some r) : CtV l yX3_stick cX3_stick 7 none rm_X3_stick D ca b nx [.ref v0, .ref v1, .ref v2] M r 0 0 := by
  intro sz
  refine body_start (Qc := fun A => cvV D ca nx A r) (by decide +kernel) (Nat.le_of_ble_eq_true rfl) ?_
  intro p e s m args below meth c A hC hr hR ls hl
  obtain ⟨hx, hb, hml, hts, hown, hlocks, hXe, hA, hAb, hnm⟩ := id hC
  have hK := hXe.1
  have hl : lv_has ls 7 [(0, .ref v0), (1, .ref v1), (2, .ref v2)] := hl
  unfold f_X3_stick at hf
  refine lv_aload_n (pc := 0) hx hb dX3_stick_0 rfl (lv_at hl 1 rfl) ?_
  obtain ⟨hq, hf⟩ := gd_e hf
  refine rg_L (pc := 1) hf hR hA (fun z hz => rn_V (κ := 2) (As := []) (rest := []) hC hR rfl (by decide) hq (c_X2_carried  hz _) m_353 m_354 m_355 m_5 m_356 hd_X2_carried ⟨rfl, rfl, Nat.le_of_ble_eq_true rfl, Nat.le_of_ble_eq_true rfl⟩ rfl hl.1 rfl (Nat.le_of_ble_eq_true rfl) dX3_stick_1 ⟨Nat.le_of_ble_eq_true rfl, Nat.le_of_ble_eq_true rfl⟩) (fun z1 H locs hf hR => ?_)
  refine lv_aload_n (pc := 4) hx hb dX3_stick_4 rfl (lv_at hl 2 rfl) ?_
  obtain ⟨hq, hf⟩ := gd_e hf
  refine rg_L (pc := 5) hf hR hA (fun z hz => rn_V (κ := 2) (As := []) (rest := [.long z1.2]) hC hR rfl (by decide) hq (c_X2_carried  hz _) m_353 m_354 m_355 m_5 m_356 hd_X2_carried ⟨rfl, rfl, Nat.le_of_ble_eq_true rfl, Nat.le_of_ble_eq_true rfl⟩ rfl hl.1 rfl (Nat.le_of_ble_eq_true rfl) dX3_stick_5 ⟨Nat.le_of_ble_eq_true rfl, Nat.le_of_ble_eq_true rfl⟩) (fun z2 H locs hf hR => ?_)
  refine lv_ladd (pc := 8) hx hb dX3_stick_8 ?_
  refine nm_l hf (fun x3 hf => ?_)
  refine lv_lstore_n (pc := 9) (lv' := [(3, .long x3), (0, .ref v0), (1, .ref v1), (2, .ref v2)]) hx hb dX3_stick_9 rfl hl (by decide) rfl (fun ls hl => ?_)
  refine lv_aload_n (pc := 10) hx hb dX3_stick_10 rfl (lv_at hl 2 rfl) ?_
  refine lv_aload_n (pc := 11) hx hb dX3_stick_11 rfl (lv_at hl 2 rfl) ?_
  refine rg_get (pc := 12) (C := RX2) (T := TX2) (N := 7) (κ := 2) (v := .int (mm_i z2.1 v1 0)) hx hb hts hK hR hown in_2 rfl (by decide) 0 (by decide) m_108 rfl dX3_stick_12 hf (fun hf => ?_)
  refine lv_aload_n (pc := 15) hx hb dX3_stick_15 rfl (lv_at hl 3 rfl) ?_
  refine lv_aload_n (pc := 16) hx hb dX3_stick_16 rfl (lv_at hl 3 rfl) ?_
  refine rg_get (pc := 17) (C := RX2) (T := TX2) (N := 7) (κ := 2) (v := .int (mm_i z2.1 v2 0)) hx hb hts hK hR hown in_2 rfl (by decide) 0 (by decide) m_108 rfl dX3_stick_17 hf (fun hf => ?_)
  refine rg_I (pc := 20) hf hR hA (fun z hz => rn_S (As := [.ref v1, .int (mm_i z2.1 v1 0), .ref v2, .int (mm_i z2.1 v2 0)]) (rest := []) hC hR (c_X3_blend  hz _) m_444 m_445 m_2 m_446 hd_X3_blend ⟨rfl, rfl, Nat.le_of_ble_eq_true rfl, Nat.le_of_ble_eq_true rfl⟩ rfl hl.1 rfl (Nat.le_of_ble_eq_true rfl) dX3_stick_20 ⟨Nat.le_of_ble_eq_true rfl, Nat.le_of_ble_eq_true rfl⟩) (fun z4 H locs hf hR => ?_)
  refine lv_istore (pc := 23) (lv' := [(5, .int z4.2), (3, .long x3), (0, .ref v0), (1, .ref v1), (2, .ref v2)]) hx hb dX3_stick_23 hl (by decide) rfl (fun ls hl => ?_)
  refine lv_aload_n (pc := 25) hx hb dX3_stick_25 rfl (lv_at hl 3 rfl) ?_
  refine lv_aload_n (pc := 26) hx hb dX3_stick_26 rfl (lv_at hl 3 rfl) ?_
  refine rg_get (pc := 27) (C := RX2) (T := TX2) (N := 7) (κ := 2) (v := .int (mm_i z4.1 v1 4)) hx hb hts hK hR hown in_2 rfl (by decide) 4 (by decide) m_118 rfl dX3_stick_27 hf (fun hf => ?_)
  refine lv_aload_n (pc := 30) hx hb dX3_stick_30 rfl (lv_at hl 4 rfl) ?_
  refine lv_aload_n (pc := 31) hx hb dX3_stick_31 rfl (lv_at hl 4 rfl) ?_
  refine rg_get (pc := 32) (C := RX2) (T := TX2) (N := 7) (κ := 2) (v := .int (mm_i z4.1 v2 4)) hx hb hts hK hR hown in_2 rfl (by decide) 4 (by decide) m_118 rfl dX3_stick_32 hf (fun hf => ?_)
  refine rg_I (pc := 35) hf hR hA (fun z hz => rn_S (As := [.ref v1, .int (mm_i z4.1 v1 4), .ref v2, .int (mm_i z4.1 v2 4)]) (rest := []) hC hR (c_X3_blend  hz _) m_444 m_445 m_2 m_446 hd_X3_blend ⟨rfl, rfl, Nat.le_of_ble_eq_true rfl, Nat.le_of_ble_eq_true rfl⟩ rfl hl.1 rfl (Nat.le_of_ble_eq_true rfl) dX3_stick_35 ⟨Nat.le_of_ble_eq_true rfl, Nat.le_of_ble_eq_true rfl⟩) (fun z5 H locs hf hR => ?_)
  refine lv_istore (pc := 38) (lv' := [(6, .int z5.2), (5, .int z4.2), (3, .long x3), (0, .ref v0), (1, .ref v1), (2, .ref v2)]) hx hb dX3_stick_38 hl (by decide) rfl (fun ls hl => ?_)
  refine lv_aload_n (pc := 40) hx hb dX3_stick_40 rfl (lv_at hl 4 rfl) ?_
  refine lv_iload (pc := 41) hx hb dX3_stick_41 (lv_at hl 1 rfl) ?_
  refine rg_puti (pc := 43) (C := RX2) (T := TX2) (N := 7) (κ := 2) hx hb hts hK hR hown in_2 rfl (by decide) 0 (by decide) m_108 tyX2 tyX2_ok nmX2 rfl rfl rfl rfl dX3_stick_43 hf (fun M6 H locs hf hR => ?_)
  refine lv_aload_n (pc := 46) hx hb dX3_stick_46 rfl (lv_at hl 4 rfl) ?_
  refine lv_iload (pc := 47) hx hb dX3_stick_47 (lv_at hl 0 rfl) ?_
  refine rg_puti (pc := 49) (C := RX2) (T := TX2) (N := 7) (κ := 2) hx hb hts hK hR hown in_2 rfl (by decide) 4 (by decide) m_118 tyX2 tyX2_ok nmX2 rfl rfl rfl rfl dX3_stick_49 hf (fun M7 H locs hf hR => ?_)
  refine lv_aload_n (pc := 52) hx hb dX3_stick_52 rfl (lv_at hl 4 rfl) ?_
  refine lv_aload_n (pc := 53) hx hb dX3_stick_53 rfl (lv_at hl 4 rfl) ?_
  refine rg_get (pc := 54) (C := RX2) (T := TX2) (N := 7) (κ := 2) (v := .int (mm_i M7 v1 3)) hx hb hts hK hR hown in_2 rfl (by decide) 3 (by decide) m_116 rfl dX3_stick_54 hf (fun hf => ?_)
  refine lv_aload_n (pc := 57) hx hb dX3_stick_57 rfl (lv_at hl 5 rfl) ?_
  refine rg_get (pc := 58) (C := RX2) (T := TX2) (N := 7) (κ := 2) (v := .int (mm_i M7 v2 3)) hx hb hts hK hR hown in_2 rfl (by decide) 3 (by decide) m_116 rfl dX3_stick_58 hf (fun hf => ?_)
  refine va_mmin (pc := 61) hx hb (hml.trans hl.1.symm) hown (hts _ m_422) (hts _ m_416) (hts _ m_14) (hts _ m_417) (Nat.le_of_ble_eq_true rfl) (Nat.le_of_ble_eq_true rfl) (Nat.le_of_ble_eq_true rfl) (Nat.le_of_ble_eq_true rfl) dX3_stick_61 ?_
  refine rg_puti (pc := 64) (C := RX2) (T := TX2) (N := 7) (κ := 2) hx hb hts hK hR hown in_2 rfl (by decide) 3 (by decide) m_116 tyX2 tyX2_ok nmX2 rfl rfl rfl rfl dX3_stick_64 hf (fun M8 H locs hf hR => ?_)
  refine lv_aload_n (pc := 67) hx hb dX3_stick_67 rfl (lv_at hl 4 rfl) ?_
  refine lv_dup (pc := 68) hx hb dX3_stick_68 rfl ?_
  refine rg_get (pc := 69) (C := RX2) (T := TX2) (N := 7) (κ := 2) (v := .int (mm_i M8 v1 2)) hx hb hts hK hR hown in_2 rfl (by decide) 2 (by decide) m_114 rfl dX3_stick_69 hf (fun hf => ?_)
  refine lv_aload_n (pc := 72) hx hb dX3_stick_72 rfl (lv_at hl 5 rfl) ?_
  refine rg_get (pc := 73) (C := RX2) (T := TX2) (N := 7) (κ := 2) (v := .int (mm_i M8 v2 2)) hx hb hts hK hR hown in_2 rfl (by decide) 2 (by decide) m_114 rfl dX3_stick_73 hf (fun hf => ?_)
  refine lv_iadd (pc := 76) hx hb dX3_stick_76 ?_
  refine rg_puti (pc := 77) (C := RX2) (T := TX2) (N := 7) (κ := 2) hx hb hts hK hR hown in_2 rfl (by decide) 2 (by decide) m_114 tyX2 tyX2_ok nmX2 rfl rfl rfl rfl dX3_stick_77 hf (fun M9 H locs hf hR => ?_)
  refine lv_aload_n (pc := 80) hx hb dX3_stick_80 rfl (lv_at hl 5 rfl) ?_
  refine lv_iconst (pc := 81) (v := (0 : Int32)) hx hb dX3_stick_81 (by decide) ?_
  refine rg_puti (pc := 82) (C := RX2) (T := TX2) (N := 7) (κ := 2) hx hb hts hK hR hown in_2 rfl (by decide) 5 (by decide) m_120 tyX2 tyX2_ok nmX2 rfl rfl rfl rfl dX3_stick_82 hf (fun M10 H locs hf hR => ?_)
  refine lv_aload_n (pc := 85) hx hb dX3_stick_85 rfl (lv_at hl 3 rfl) ?_
  refine rg_getr (pc := 86) (C := RX3) (T := TX3) (N := 7) (κ := 3) hx hb hts hK hR hown in_3 rfl (by decide) 1 (by decide) m_142 rfl dX3_stick_86 hf (fun a11 hf => ?_)
  refine lv_dup (pc := 89) hx hb dX3_stick_89 rfl ?_
  refine rg_get (pc := 90) (C := RX4) (T := TX4) (N := 13) (κ := 4) (v := .int (mm_i M10 a11 0)) hx hb hts hK hR hown in_4 rfl (by decide) 0 (by decide) m_48 rfl dX3_stick_90 hf (fun hf => ?_)
  refine lv_iconst (pc := 93) (v := (1 : Int32)) hx hb dX3_stick_93 (by decide) ?_
  refine lv_iadd (pc := 94) hx hb dX3_stick_94 ?_
  refine rg_puti (pc := 95) (C := RX4) (T := TX4) (N := 13) (κ := 4) hx hb hts hK hR hown in_4 rfl (by decide) 0 (by decide) m_48 tyX4 tyX4_ok nmX4 rfl rfl rfl rfl dX3_stick_95 hf (fun M12 H locs hf hR => ?_)
  refine lv_aload_n (pc := 98) hx hb dX3_stick_98 rfl (lv_at hl 3 rfl) ?_
  refine rg_getr (pc := 99) (C := RX3) (T := TX3) (N := 7) (κ := 3) hx hb hts hK hR hown in_3 rfl (by decide) 1 (by decide) m_142 rfl dX3_stick_99 hf (fun a13 hf => ?_)
  refine lv_dup (pc := 102) hx hb dX3_stick_102 rfl ?_
  refine rg_get (pc := 103) (C := RX4) (T := TX4) (N := 13) (κ := 4) (v := .long (mm_l M12 a13 12)) hx hb hts hK hR hown in_4 rfl (by decide) 12 (by decide) m_71 rfl dX3_stick_103 hf (fun hf => ?_)
  refine lv_lload_n (pc := 106) hx hb dX3_stick_106 rfl (lv_at hl 2 rfl) ?_
  refine lv_aload_n (pc := 107) hx hb dX3_stick_107 rfl (lv_at hl 4 rfl) ?_
  obtain ⟨hq, hf⟩ := gd_e hf
  refine rg_L (pc := 108) hf hR hA (fun z hz => rn_V (κ := 2) (As := []) (rest := [.long x3, .long (mm_l M12 a13 12), .ref a13]) hC hR rfl (by decide) hq (c_X2_carried  hz _) m_353 m_354 m_355 m_5 m_356 hd_X2_carried ⟨rfl, rfl, Nat.le_of_ble_eq_true rfl, Nat.le_of_ble_eq_true rfl⟩ rfl hl.1 rfl (Nat.le_of_ble_eq_true rfl) dX3_stick_108 ⟨Nat.le_of_ble_eq_true rfl, Nat.le_of_ble_eq_true rfl⟩) (fun z14 H locs hf hR => ?_)
  refine lv_lsub (pc := 111) hx hb dX3_stick_111 ?_
  refine lv_ladd (pc := 112) hx hb dX3_stick_112 ?_
  refine rg_putl (pc := 113) (C := RX4) (T := TX4) (N := 13) (κ := 4) hx hb hts hK hR hown in_4 rfl (by decide) 12 (by decide) m_71 tyX4 tyX4_ok nmX4 rfl rfl rfl rfl dX3_stick_113 hf (fun M15 H locs hf hR => ?_)
  exact rg_vret (pc := 116) hx hb hlocks hr hf hR dX3_stick_116
-- X3_breakUp
def f_X3_breakUp (v0 : Nat) (v1 : Nat) (M : Mem) : Option (Mem) := gd (M.1 v0 = 3) <| if (mm_i M v0 3) < (80 : Int32) then (gd (M.1 v1 = 2) <| bd (f_X2_carried v1 M) fun z1 => gd (z1.1.1 v0 = 3) <| rd (mm_r z1.1 v0 2) fun a2 => gd (z1.1.1 v0 = 3) <| gd (z1.1.1 a2 = 13 ∧ vi_ (mm_i z1.1 v0 3) (mm_N z1.1 a2)) <| rd (mm_r z1.1 a2 ((mm_i z1.1 v0 3)).toNatClampNeg) fun a3 => gd (z1.1.1 v0 = 3) <| gd (z1.1.1 v0 = 3) <| lt_ (ms_i z1.1 v0 3 ((mm_i z1.1 v0 3) + (1 : Int32))) fun M4 => gd (M4.1 v1 = 2) <| gd (M4.1 a3 = 2) <| lt_ (ms_i M4 a3 0 (mm_i M4 v1 0)) fun M5 => gd (M5.1 v1 = 2) <| gd (M5.1 a3 = 2) <| lt_ (ms_i M5 a3 1 (mm_i M5 v1 1)) fun M6 => gd (M6.1 v1 = 2) <| gd (M6.1 a3 = 2) <| lt_ (ms_i M6 a3 4 (mm_i M6 v1 4)) fun M7 => gd (M7.1 a3 = 2) <| lt_ (ms_i M7 a3 3 (0 : Int32)) fun M8 => gd (M8.1 a3 = 2) <| lt_ (ms_i M8 a3 5 (1 : Int32)) fun M9 => gd (M9.1 v1 = 2) <| gd (M9.1 v1 = 2) <| gd (M9.1 a3 = 2) <| lt_ (ms_i M9 a3 2 ((mm_i M9 v1 2) - ((mm_i M9 v1 2) / (2 : Int32)))) fun M10 => gd (M10.1 v1 = 2) <| gd (M10.1 v1 = 2) <| lt_ (ms_i M10 v1 2 ((mm_i M10 v1 2) / (2 : Int32))) fun M11 => gd (M11.1 v1 = 2) <| lt_ (ms_i M11 v1 3 (0 : Int32)) fun M12 => gd (M12.1 v0 = 3) <| bd (f_X3_shift v0 v1 (-1 : Int32) M12) fun z13 => gd (z13.1 v0 = 3) <| bd (f_X3_shift v0 a3 (1 : Int32) z13) fun z14 => gd (z14.1 v0 = 3) <| rd (mm_r z14 v0 1) fun a15 => gd (z14.1 a15 = 4) <| gd (z14.1 a15 = 4) <| lt_ (ms_i z14 a15 1 ((mm_i z14 a15 1) + (1 : Int32))) fun M16 => gd (M16.1 v0 = 3) <| rd (mm_r M16 v0 1) fun a17 => gd (M16.1 a17 = 4) <| gd (M16.1 v1 = 2) <| bd (f_X2_carried v1 M16) fun z18 => gd (z18.1.1 a3 = 2) <| bd (f_X2_carried a3 z18.1) fun z19 => gd (z19.1.1 a17 = 4) <| lt_ (ms_l z19.1 a17 12 ((mm_l M16 a17 12) + ((z1.2 - z18.2) - z19.2))) fun M20 => some M20) else (some M)
abbrev rm_X3_breakUp : Room := { frames := 2, cells := 0, slots := 0, locals := 42 }
theorem hd_X3_breakUp : yX3_breakUp.cls ≠ "java/lang/invoke/MethodHandle" ∧ yX3_breakUp.cls ≠ "java/lang/invoke/VarHandle" ∧ (parseMethodDescriptor yX3_breakUp.desc).map (fun d => d.parameters.length) = some 1 := by decide +kernel
set_option maxHeartbeats 8000000 in
set_option maxRecDepth 100000 in
theorem c_X3_breakUp {l : Launch} {D : va_G} {ca : Nat → ClassId} {b : Nat} {nx : Bool} {v0 : Nat} {v1 : Nat} {M : Mem} {r : Mem} (hf : f_X3_breakUp v0 v1 M = some r) : CtV l yX3_breakUp cX3_breakUp 5 none rm_X3_breakUp D ca b nx [.ref v0, .ref v1] M r 0 0 := by
  intro sz
  refine body_start (Qc := fun A => cvV D ca nx A r) (by decide +kernel) (Nat.le_of_ble_eq_true rfl) ?_
  intro p e s m args below meth c A hC hr hR ls hl
  obtain ⟨hx, hb, hml, hts, hown, hlocks, hXe, hA, hAb, hnm⟩ := id hC
  have hK := hXe.1
  have hl : lv_has ls 5 [(0, .ref v0), (1, .ref v1)] := hl
  unfold f_X3_breakUp at hf
  refine lv_aload_n (pc := 0) hx hb dX3_breakUp_0 rfl (lv_at hl 0 rfl) ?_
  refine rg_get (pc := 1) (C := RX3) (T := TX3) (N := 7) (κ := 3) (v := .int (mm_i M v0 3)) hx hb hts hK hR hown in_3 rfl (by decide) 3 (by decide) m_146 rfl dX3_breakUp_1 hf (fun hf => ?_)
  refine lv_bipush (pc := 4) (v := (80 : Int32)) hx hb dX3_breakUp_4 (by decide) ?_
  refine lv_icmp_lt (pc := 6) (tgt := 10) hx hb dX3_breakUp_6 (by decide) (fun hc => ?_) (fun hc => ?_)
  · replace hf := it_t hf hc
    refine lv_aload_n (pc := 10) hx hb dX3_breakUp_10 rfl (lv_at hl 1 rfl) ?_
    obtain ⟨hq, hf⟩ := gd_e hf
    refine rg_L (pc := 11) hf hR hA (fun z hz => rn_V (κ := 2) (As := []) (rest := []) hC hR rfl (by decide) hq (c_X2_carried  hz _) m_353 m_354 m_355 m_5 m_356 hd_X2_carried ⟨rfl, rfl, Nat.le_of_ble_eq_true rfl, Nat.le_of_ble_eq_true rfl⟩ rfl hl.1 rfl (Nat.le_of_ble_eq_true rfl) dX3_breakUp_11 ⟨Nat.le_of_ble_eq_true rfl, Nat.le_of_ble_eq_true rfl⟩) (fun z1 H locs hf hR => ?_)
    refine lv_lstore_n (pc := 14) (lv' := [(2, .long z1.2), (0, .ref v0), (1, .ref v1)]) hx hb dX3_breakUp_14 rfl hl (by decide) rfl (fun ls hl => ?_)
    refine lv_aload_n (pc := 15) hx hb dX3_breakUp_15 rfl (lv_at hl 1 rfl) ?_
    refine rg_getr (pc := 16) (C := RX3) (T := TX3) (N := 7) (κ := 3) hx hb hts hK hR hown in_3 rfl (by decide) 2 (by decide) m_144 rfl dX3_breakUp_16 hf (fun a2 hf => ?_)
    refine lv_aload_n (pc := 19) hx hb dX3_breakUp_19 rfl (lv_at hl 1 rfl) ?_
    refine rg_get (pc := 20) (C := RX3) (T := TX3) (N := 7) (κ := 3) (v := .int (mm_i z1.1 v0 3)) hx hb hts hK hR hown in_3 rfl (by decide) 3 (by decide) m_146 rfl dX3_breakUp_20 hf (fun hf => ?_)
    refine rg_aald (pc := 23) (κ := 13) hx hb hK hR 3 rfl (by decide) dX3_breakUp_23 hf (fun a3 hf => ?_)
    refine lv_astore (pc := 24) (lv' := [(4, .ref a3), (2, .long z1.2), (0, .ref v0), (1, .ref v1)]) hx hb dX3_breakUp_24 hl (by decide) rfl (fun ls hl => ?_)
    refine lv_aload_n (pc := 26) hx hb dX3_breakUp_26 rfl (lv_at hl 2 rfl) ?_
    refine lv_dup (pc := 27) hx hb dX3_breakUp_27 rfl ?_
    refine rg_get (pc := 28) (C := RX3) (T := TX3) (N := 7) (κ := 3) (v := .int (mm_i z1.1 v0 3)) hx hb hts hK hR hown in_3 rfl (by decide) 3 (by decide) m_146 rfl dX3_breakUp_28 hf (fun hf => ?_)
    refine lv_iconst (pc := 31) (v := (1 : Int32)) hx hb dX3_breakUp_31 (by decide) ?_
    refine lv_iadd (pc := 32) hx hb dX3_breakUp_32 ?_
    refine rg_puti (pc := 33) (C := RX3) (T := TX3) (N := 7) (κ := 3) hx hb hts hK hR hown in_3 rfl (by decide) 3 (by decide) m_146 tyX3 tyX3_ok nmX3 rfl rfl rfl rfl dX3_breakUp_33 hf (fun M4 H locs hf hR => ?_)
    refine lv_aload (pc := 36) hx hb dX3_breakUp_36 (lv_at hl 0 rfl) ?_
    refine lv_aload_n (pc := 38) hx hb dX3_breakUp_38 rfl (lv_at hl 3 rfl) ?_
    refine rg_get (pc := 39) (C := RX2) (T := TX2) (N := 7) (κ := 2) (v := .int (mm_i M4 v1 0)) hx hb hts hK hR hown in_2 rfl (by decide) 0 (by decide) m_108 rfl dX3_breakUp_39 hf (fun hf => ?_)
    refine rg_puti (pc := 42) (C := RX2) (T := TX2) (N := 7) (κ := 2) hx hb hts hK hR hown in_2 rfl (by decide) 0 (by decide) m_108 tyX2 tyX2_ok nmX2 rfl rfl rfl rfl dX3_breakUp_42 hf (fun M5 H locs hf hR => ?_)
    refine lv_aload (pc := 45) hx hb dX3_breakUp_45 (lv_at hl 0 rfl) ?_
    refine lv_aload_n (pc := 47) hx hb dX3_breakUp_47 rfl (lv_at hl 3 rfl) ?_
    refine rg_get (pc := 48) (C := RX2) (T := TX2) (N := 7) (κ := 2) (v := .int (mm_i M5 v1 1)) hx hb hts hK hR hown in_2 rfl (by decide) 1 (by decide) m_110 rfl dX3_breakUp_48 hf (fun hf => ?_)
    refine rg_puti (pc := 51) (C := RX2) (T := TX2) (N := 7) (κ := 2) hx hb hts hK hR hown in_2 rfl (by decide) 1 (by decide) m_110 tyX2 tyX2_ok nmX2 rfl rfl rfl rfl dX3_breakUp_51 hf (fun M6 H locs hf hR => ?_)
    refine lv_aload (pc := 54) hx hb dX3_breakUp_54 (lv_at hl 0 rfl) ?_
    refine lv_aload_n (pc := 56) hx hb dX3_breakUp_56 rfl (lv_at hl 3 rfl) ?_
    refine rg_get (pc := 57) (C := RX2) (T := TX2) (N := 7) (κ := 2) (v := .int (mm_i M6 v1 4)) hx hb hts hK hR hown in_2 rfl (by decide) 4 (by decide) m_118 rfl dX3_breakUp_57 hf (fun hf => ?_)
    refine rg_puti (pc := 60) (C := RX2) (T := TX2) (N := 7) (κ := 2) hx hb hts hK hR hown in_2 rfl (by decide) 4 (by decide) m_118 tyX2 tyX2_ok nmX2 rfl rfl rfl rfl dX3_breakUp_60 hf (fun M7 H locs hf hR => ?_)
    refine lv_aload (pc := 63) hx hb dX3_breakUp_63 (lv_at hl 0 rfl) ?_
    refine lv_iconst (pc := 65) (v := (0 : Int32)) hx hb dX3_breakUp_65 (by decide) ?_
    refine rg_puti (pc := 66) (C := RX2) (T := TX2) (N := 7) (κ := 2) hx hb hts hK hR hown in_2 rfl (by decide) 3 (by decide) m_116 tyX2 tyX2_ok nmX2 rfl rfl rfl rfl dX3_breakUp_66 hf (fun M8 H locs hf hR => ?_)
    refine lv_aload (pc := 69) hx hb dX3_breakUp_69 (lv_at hl 0 rfl) ?_
    refine lv_iconst (pc := 71) (v := (1 : Int32)) hx hb dX3_breakUp_71 (by decide) ?_
    refine rg_puti (pc := 72) (C := RX2) (T := TX2) (N := 7) (κ := 2) hx hb hts hK hR hown in_2 rfl (by decide) 5 (by decide) m_120 tyX2 tyX2_ok nmX2 rfl rfl rfl rfl dX3_breakUp_72 hf (fun M9 H locs hf hR => ?_)
    refine lv_aload (pc := 75) hx hb dX3_breakUp_75 (lv_at hl 0 rfl) ?_
    refine lv_aload_n (pc := 77) hx hb dX3_breakUp_77 rfl (lv_at hl 3 rfl) ?_
    refine rg_get (pc := 78) (C := RX2) (T := TX2) (N := 7) (κ := 2) (v := .int (mm_i M9 v1 2)) hx hb hts hK hR hown in_2 rfl (by decide) 2 (by decide) m_114 rfl dX3_breakUp_78 hf (fun hf => ?_)
    refine lv_aload_n (pc := 81) hx hb dX3_breakUp_81 rfl (lv_at hl 3 rfl) ?_
    refine rg_get (pc := 82) (C := RX2) (T := TX2) (N := 7) (κ := 2) (v := .int (mm_i M9 v1 2)) hx hb hts hK hR hown in_2 rfl (by decide) 2 (by decide) m_114 rfl dX3_breakUp_82 hf (fun hf => ?_)
    refine lv_iconst (pc := 85) (v := (2 : Int32)) hx hb dX3_breakUp_85 (by decide) ?_
    refine lv_idiv (pc := 86) hx hb dX3_breakUp_86 (by decide) ?_
    refine lv_isub (pc := 87) hx hb dX3_breakUp_87 ?_
    refine rg_puti (pc := 88) (C := RX2) (T := TX2) (N := 7) (κ := 2) hx hb hts hK hR hown in_2 rfl (by decide) 2 (by decide) m_114 tyX2 tyX2_ok nmX2 rfl rfl rfl rfl dX3_breakUp_88 hf (fun M10 H locs hf hR => ?_)
    refine lv_aload_n (pc := 91) hx hb dX3_breakUp_91 rfl (lv_at hl 3 rfl) ?_
    refine lv_aload_n (pc := 92) hx hb dX3_breakUp_92 rfl (lv_at hl 3 rfl) ?_
    refine rg_get (pc := 93) (C := RX2) (T := TX2) (N := 7) (κ := 2) (v := .int (mm_i M10 v1 2)) hx hb hts hK hR hown in_2 rfl (by decide) 2 (by decide) m_114 rfl dX3_breakUp_93 hf (fun hf => ?_)
    refine lv_iconst (pc := 96) (v := (2 : Int32)) hx hb dX3_breakUp_96 (by decide) ?_
    refine lv_idiv (pc := 97) hx hb dX3_breakUp_97 (by decide) ?_
    refine rg_puti (pc := 98) (C := RX2) (T := TX2) (N := 7) (κ := 2) hx hb hts hK hR hown in_2 rfl (by decide) 2 (by decide) m_114 tyX2 tyX2_ok nmX2 rfl rfl rfl rfl dX3_breakUp_98 hf (fun M11 H locs hf hR => ?_)
    refine lv_aload_n (pc := 101) hx hb dX3_breakUp_101 rfl (lv_at hl 3 rfl) ?_
    refine lv_iconst (pc := 102) (v := (0 : Int32)) hx hb dX3_breakUp_102 (by decide) ?_
    refine rg_puti (pc := 103) (C := RX2) (T := TX2) (N := 7) (κ := 2) hx hb hts hK hR hown in_2 rfl (by decide) 3 (by decide) m_116 tyX2 tyX2_ok nmX2 rfl rfl rfl rfl dX3_breakUp_103 hf (fun M12 H locs hf hR => ?_)
    refine lv_aload_n (pc := 106) hx hb dX3_breakUp_106 rfl (lv_at hl 2 rfl) ?_
    refine lv_aload_n (pc := 107) hx hb dX3_breakUp_107 rfl (lv_at hl 3 rfl) ?_
    refine lv_iconst (pc := 108) (v := (-1 : Int32)) hx hb dX3_breakUp_108 (by decide) ?_
    obtain ⟨hq, hf⟩ := gd_e hf
    refine rg_V (pc := 109) hf hR hA (fun z hz => rn_V (κ := 3) (As := [.ref v1, .int (-1 : Int32)]) (rest := []) hC hR rfl (by decide) hq (c_X3_shift  hz _) m_418 m_420 ms_2 m_2 m_421 hd_X3_shift ⟨rfl, rfl, Nat.le_of_ble_eq_true rfl, Nat.le_of_ble_eq_true rfl⟩ rfl hl.1 rfl (Nat.le_of_ble_eq_true rfl) dX3_breakUp_109 ⟨Nat.le_of_ble_eq_true rfl, Nat.le_of_ble_eq_true rfl⟩) (fun z13 H locs hf hR => ?_)
    refine lv_aload_n (pc := 112) hx hb dX3_breakUp_112 rfl (lv_at hl 2 rfl) ?_
    refine lv_aload (pc := 113) hx hb dX3_breakUp_113 (lv_at hl 0 rfl) ?_
    refine lv_iconst (pc := 115) (v := (1 : Int32)) hx hb dX3_breakUp_115 (by decide) ?_
    obtain ⟨hq, hf⟩ := gd_e hf
    refine rg_V (pc := 116) hf hR hA (fun z hz => rn_V (κ := 3) (As := [.ref a3, .int (1 : Int32)]) (rest := []) hC hR rfl (by decide) hq (c_X3_shift  hz _) m_418 m_420 ms_2 m_2 m_421 hd_X3_shift ⟨rfl, rfl, Nat.le_of_ble_eq_true rfl, Nat.le_of_ble_eq_true rfl⟩ rfl hl.1 rfl (Nat.le_of_ble_eq_true rfl) dX3_breakUp_116 ⟨Nat.le_of_ble_eq_true rfl, Nat.le_of_ble_eq_true rfl⟩) (fun z14 H locs hf hR => ?_)
    refine lv_aload_n (pc := 119) hx hb dX3_breakUp_119 rfl (lv_at hl 2 rfl) ?_
    refine rg_getr (pc := 120) (C := RX3) (T := TX3) (N := 7) (κ := 3) hx hb hts hK hR hown in_3 rfl (by decide) 1 (by decide) m_142 rfl dX3_breakUp_120 hf (fun a15 hf => ?_)
    refine lv_dup (pc := 123) hx hb dX3_breakUp_123 rfl ?_
    refine rg_get (pc := 124) (C := RX4) (T := TX4) (N := 13) (κ := 4) (v := .int (mm_i z14 a15 1)) hx hb hts hK hR hown in_4 rfl (by decide) 1 (by decide) m_50 rfl dX3_breakUp_124 hf (fun hf => ?_)
    refine lv_iconst (pc := 127) (v := (1 : Int32)) hx hb dX3_breakUp_127 (by decide) ?_
    refine lv_iadd (pc := 128) hx hb dX3_breakUp_128 ?_
    refine rg_puti (pc := 129) (C := RX4) (T := TX4) (N := 13) (κ := 4) hx hb hts hK hR hown in_4 rfl (by decide) 1 (by decide) m_50 tyX4 tyX4_ok nmX4 rfl rfl rfl rfl dX3_breakUp_129 hf (fun M16 H locs hf hR => ?_)
    refine lv_aload_n (pc := 132) hx hb dX3_breakUp_132 rfl (lv_at hl 2 rfl) ?_
    refine rg_getr (pc := 133) (C := RX3) (T := TX3) (N := 7) (κ := 3) hx hb hts hK hR hown in_3 rfl (by decide) 1 (by decide) m_142 rfl dX3_breakUp_133 hf (fun a17 hf => ?_)
    refine lv_dup (pc := 136) hx hb dX3_breakUp_136 rfl ?_
    refine rg_get (pc := 137) (C := RX4) (T := TX4) (N := 13) (κ := 4) (v := .long (mm_l M16 a17 12)) hx hb hts hK hR hown in_4 rfl (by decide) 12 (by decide) m_71 rfl dX3_breakUp_137 hf (fun hf => ?_)
    refine lv_lload_n (pc := 140) hx hb dX3_breakUp_140 rfl (lv_at hl 1 rfl) ?_
    refine lv_aload_n (pc := 141) hx hb dX3_breakUp_141 rfl (lv_at hl 3 rfl) ?_
    obtain ⟨hq, hf⟩ := gd_e hf
    refine rg_L (pc := 142) hf hR hA (fun z hz => rn_V (κ := 2) (As := []) (rest := [.long z1.2, .long (mm_l M16 a17 12), .ref a17]) hC hR rfl (by decide) hq (c_X2_carried  hz _) m_353 m_354 m_355 m_5 m_356 hd_X2_carried ⟨rfl, rfl, Nat.le_of_ble_eq_true rfl, Nat.le_of_ble_eq_true rfl⟩ rfl hl.1 rfl (Nat.le_of_ble_eq_true rfl) dX3_breakUp_142 ⟨Nat.le_of_ble_eq_true rfl, Nat.le_of_ble_eq_true rfl⟩) (fun z18 H locs hf hR => ?_)
    refine lv_lsub (pc := 145) hx hb dX3_breakUp_145 ?_
    refine lv_aload (pc := 146) hx hb dX3_breakUp_146 (lv_at hl 0 rfl) ?_
    obtain ⟨hq, hf⟩ := gd_e hf
    refine rg_L (pc := 148) hf hR hA (fun z hz => rn_V (κ := 2) (As := []) (rest := [.long (z1.2 - z18.2), .long (mm_l M16 a17 12), .ref a17]) hC hR rfl (by decide) hq (c_X2_carried  hz _) m_353 m_354 m_355 m_5 m_356 hd_X2_carried ⟨rfl, rfl, Nat.le_of_ble_eq_true rfl, Nat.le_of_ble_eq_true rfl⟩ rfl hl.1 rfl (Nat.le_of_ble_eq_true rfl) dX3_breakUp_148 ⟨Nat.le_of_ble_eq_true rfl, Nat.le_of_ble_eq_true rfl⟩) (fun z19 H locs hf hR => ?_)
    refine lv_lsub (pc := 151) hx hb dX3_breakUp_151 ?_
    refine lv_ladd (pc := 152) hx hb dX3_breakUp_152 ?_
    refine rg_putl (pc := 153) (C := RX4) (T := TX4) (N := 13) (κ := 4) hx hb hts hK hR hown in_4 rfl (by decide) 12 (by decide) m_71 tyX4 tyX4_ok nmX4 rfl rfl rfl rfl dX3_breakUp_153 hf (fun M20 H locs hf hR => ?_)
    exact rg_vret (pc := 156) hx hb hlocks hr hf hR dX3_breakUp_156
  · replace hf := it_f hf hc
    exact rg_vret (pc := 9) hx hb hlocks hr hf hR dX3_breakUp_9
-- X3_bump
def f_X3_bump_b26  (s0 : Int32) (v0 : Nat) (v1 : Nat) (v2 : Nat) (v3 : Int64) (M : Mem) : Option (Mem) := gd (M.1 v0 = 3) <| bd (f_X3_shift v0 v1 s0 M) fun z1 => gd (z1.1 v0 = 3) <| bd (f_X3_shift v0 v2 (-s0) z1) fun z2 => gd (z2.1 v1 = 2) <| gd (z2.1 v0 = 3) <| gd (z2.1 v1 = 2) <| lt_ (ms_i z2 v1 3 (((mm_i z2 v1 3) * (mm_i z2 v0 6)) / (100 : Int32))) fun M3 => gd (M3.1 v2 = 2) <| gd (M3.1 v0 = 3) <| gd (M3.1 v2 = 2) <| lt_ (ms_i M3 v2 3 (((mm_i M3 v2 3) * (mm_i M3 v0 6)) / (100 : Int32))) fun M4 => gd (M4.1 v0 = 3) <| rd (mm_r M4 v0 1) fun a5 => gd (M4.1 a5 = 4) <| gd (M4.1 a5 = 4) <| lt_ (ms_i M4 a5 2 ((mm_i M4 a5 2) + (1 : Int32))) fun M6 => gd (M6.1 v0 = 3) <| rd (mm_r M6 v0 1) fun a7 => gd (M6.1 a7 = 4) <| gd (M6.1 v1 = 2) <| bd (f_X2_carried v1 M6) fun z8 => gd (z8.1.1 v2 = 2) <| bd (f_X2_carried v2 z8.1) fun z9 => gd (z9.1.1 a7 = 4) <| lt_ (ms_l z9.1 a7 12 ((mm_l M6 a7 12) + ((v3 - z8.2) - z9.2))) fun M10 => some M10
def f_X3_bump (v0 : Nat) (v1 : Nat) (v2 : Nat) (M : Mem) : Option (Mem) := gd (M.1 v1 = 2) <| bd (f_X2_carried v1 M) fun z11 => gd (z11.1.1 v2 = 2) <| bd (f_X2_carried v2 z11.1) fun z12 => lt_ ((z11.2 + z12.2)) fun x13 => gd (z12.1.1 v1 = 2) <| gd (z12.1.1 v2 = 2) <| if (mm_i z12.1 v2 0) < (mm_i z12.1 v1 0) then (f_X3_bump_b26 (1 : Int32) v0 v1 v2 x13 z12.1) else (f_X3_bump_b26 (-1 : Int32) v0 v1 v2 x13 z12.1)
abbrev rm_X3_bump : Room := { frames := 2, cells := 0, slots := 0, locals := 42 }
theorem hd_X3_bump : yX3_bump.cls ≠ "java/lang/invoke/MethodHandle" ∧ yX3_bump.cls ≠ "java/lang/invoke/VarHandle" ∧ (parseMethodDescriptor yX3_bump.desc).map (fun d => d.parameters.length) = some 2 := by decide +kernel
set_option maxHeartbeats 8000000 in
set_option maxRecDepth 100000 in
theorem c_X3_bump {l : Launch} {D : va_G} {ca : Nat → ClassId} {b : Nat} {nx : Bool} {v0 : Nat} {v1 : Nat} {v2 : Nat} {M : Mem} {r : Mem} (hf : f_X3_bump v0 v1 v2 M = some r) : CtV l yX3_bump cX3_bump 6 none rm_X3_bump D ca b nx [.ref v0, .ref v1, .ref v2] M r 0 0 := by
  intro sz
  refine body_start (Qc := fun A => cvV D ca nx A r) (by decide +kernel) (Nat.le_of_ble_eq_true rfl) ?_
  intro p e s m args below meth c A hC hr hR ls hl
  obtain ⟨hx, hb, hml, hts, hown, hlocks, hXe, hA, hAb, hnm⟩ := id hC
  have hK := hXe.1
  have hl : lv_has ls 6 [(0, .ref v0), (1, .ref v1), (2, .ref v2)] := hl
  have hB26 : ∀  (s0 : Int32) (v0 : Nat) (v1 : Nat) (v2 : Nat) (v3 : Int64) (M : Mem) (H : Heap) (locs : List Loc) (ls : Array Slot), f_X3_bump_b26  s0 v0 v1 v2 v3 M = some r → Hp D ca nx A s M H locs → lv_has ls 6 [(0, .ref v0), (1, .ref v1), (2, .ref v2), (3, .long v3)] → W p l e rm_X3_bump s m args below meth c H locs 0 0 (MQ below (cvV D ca nx A r) args s 0 0 A) (F0 m 26 ls [.int s0]) := by
    intro  s0 v0 v1 v2 v3 M H locs ls hf hR hl
    unfold f_X3_bump_b26 at hf
    refine lv_istore (pc := 26) (lv' := [(5, .int s0), (0, .ref v0), (1, .ref v1), (2, .ref v2), (3, .long v3)]) hx hb dX3_bump_26 hl (by decide) rfl (fun ls hl => ?_)
    refine lv_aload_n (pc := 28) hx hb dX3_bump_28 rfl (lv_at hl 1 rfl) ?_
    refine lv_aload_n (pc := 29) hx hb dX3_bump_29 rfl (lv_at hl 2 rfl) ?_
    refine lv_iload (pc := 30) hx hb dX3_bump_30 (lv_at hl 0 rfl) ?_
    obtain ⟨hq, hf⟩ := gd_e hf
    refine rg_V (pc := 32) hf hR hA (fun z hz => rn_V (κ := 3) (As := [.ref v1, .int s0]) (rest := []) hC hR rfl (by decide) hq (c_X3_shift  hz _) m_418 m_420 ms_2 m_2 m_421 hd_X3_shift ⟨rfl, rfl, Nat.le_of_ble_eq_true rfl, Nat.le_of_ble_eq_true rfl⟩ rfl hl.1 rfl (Nat.le_of_ble_eq_true rfl) dX3_bump_32 ⟨Nat.le_of_ble_eq_true rfl, Nat.le_of_ble_eq_true rfl⟩) (fun z1 H locs hf hR => ?_)
    refine lv_aload_n (pc := 35) hx hb dX3_bump_35 rfl (lv_at hl 1 rfl) ?_
    refine lv_aload_n (pc := 36) hx hb dX3_bump_36 rfl (lv_at hl 3 rfl) ?_
    refine lv_iload (pc := 37) hx hb dX3_bump_37 (lv_at hl 0 rfl) ?_
    refine lv_ineg (pc := 39) hx hb dX3_bump_39 ?_
    obtain ⟨hq, hf⟩ := gd_e hf
    refine rg_V (pc := 40) hf hR hA (fun z hz => rn_V (κ := 3) (As := [.ref v2, .int (-s0)]) (rest := []) hC hR rfl (by decide) hq (c_X3_shift  hz _) m_418 m_420 ms_2 m_2 m_421 hd_X3_shift ⟨rfl, rfl, Nat.le_of_ble_eq_true rfl, Nat.le_of_ble_eq_true rfl⟩ rfl hl.1 rfl (Nat.le_of_ble_eq_true rfl) dX3_bump_40 ⟨Nat.le_of_ble_eq_true rfl, Nat.le_of_ble_eq_true rfl⟩) (fun z2 H locs hf hR => ?_)
    refine lv_aload_n (pc := 43) hx hb dX3_bump_43 rfl (lv_at hl 2 rfl) ?_
    refine lv_aload_n (pc := 44) hx hb dX3_bump_44 rfl (lv_at hl 2 rfl) ?_
    refine rg_get (pc := 45) (C := RX2) (T := TX2) (N := 7) (κ := 2) (v := .int (mm_i z2 v1 3)) hx hb hts hK hR hown in_2 rfl (by decide) 3 (by decide) m_116 rfl dX3_bump_45 hf (fun hf => ?_)
    refine lv_aload_n (pc := 48) hx hb dX3_bump_48 rfl (lv_at hl 1 rfl) ?_
    refine rg_get (pc := 49) (C := RX3) (T := TX3) (N := 7) (κ := 3) (v := .int (mm_i z2 v0 6)) hx hb hts hK hR hown in_3 rfl (by decide) 6 (by decide) m_152 rfl dX3_bump_49 hf (fun hf => ?_)
    refine lv_imul (pc := 52) hx hb dX3_bump_52 ?_
    refine lv_bipush (pc := 53) (v := (100 : Int32)) hx hb dX3_bump_53 (by decide) ?_
    refine lv_idiv (pc := 55) hx hb dX3_bump_55 (by decide) ?_
    refine rg_puti (pc := 56) (C := RX2) (T := TX2) (N := 7) (κ := 2) hx hb hts hK hR hown in_2 rfl (by decide) 3 (by decide) m_116 tyX2 tyX2_ok nmX2 rfl rfl rfl rfl dX3_bump_56 hf (fun M3 H locs hf hR => ?_)
    refine lv_aload_n (pc := 59) hx hb dX3_bump_59 rfl (lv_at hl 3 rfl) ?_
    refine lv_aload_n (pc := 60) hx hb dX3_bump_60 rfl (lv_at hl 3 rfl) ?_
    refine rg_get (pc := 61) (C := RX2) (T := TX2) (N := 7) (κ := 2) (v := .int (mm_i M3 v2 3)) hx hb hts hK hR hown in_2 rfl (by decide) 3 (by decide) m_116 rfl dX3_bump_61 hf (fun hf => ?_)
    refine lv_aload_n (pc := 64) hx hb dX3_bump_64 rfl (lv_at hl 1 rfl) ?_
    refine rg_get (pc := 65) (C := RX3) (T := TX3) (N := 7) (κ := 3) (v := .int (mm_i M3 v0 6)) hx hb hts hK hR hown in_3 rfl (by decide) 6 (by decide) m_152 rfl dX3_bump_65 hf (fun hf => ?_)
    refine lv_imul (pc := 68) hx hb dX3_bump_68 ?_
    refine lv_bipush (pc := 69) (v := (100 : Int32)) hx hb dX3_bump_69 (by decide) ?_
    refine lv_idiv (pc := 71) hx hb dX3_bump_71 (by decide) ?_
    refine rg_puti (pc := 72) (C := RX2) (T := TX2) (N := 7) (κ := 2) hx hb hts hK hR hown in_2 rfl (by decide) 3 (by decide) m_116 tyX2 tyX2_ok nmX2 rfl rfl rfl rfl dX3_bump_72 hf (fun M4 H locs hf hR => ?_)
    refine lv_aload_n (pc := 75) hx hb dX3_bump_75 rfl (lv_at hl 1 rfl) ?_
    refine rg_getr (pc := 76) (C := RX3) (T := TX3) (N := 7) (κ := 3) hx hb hts hK hR hown in_3 rfl (by decide) 1 (by decide) m_142 rfl dX3_bump_76 hf (fun a5 hf => ?_)
    refine lv_dup (pc := 79) hx hb dX3_bump_79 rfl ?_
    refine rg_get (pc := 80) (C := RX4) (T := TX4) (N := 13) (κ := 4) (v := .int (mm_i M4 a5 2)) hx hb hts hK hR hown in_4 rfl (by decide) 2 (by decide) m_52 rfl dX3_bump_80 hf (fun hf => ?_)
    refine lv_iconst (pc := 83) (v := (1 : Int32)) hx hb dX3_bump_83 (by decide) ?_
    refine lv_iadd (pc := 84) hx hb dX3_bump_84 ?_
    refine rg_puti (pc := 85) (C := RX4) (T := TX4) (N := 13) (κ := 4) hx hb hts hK hR hown in_4 rfl (by decide) 2 (by decide) m_52 tyX4 tyX4_ok nmX4 rfl rfl rfl rfl dX3_bump_85 hf (fun M6 H locs hf hR => ?_)
    refine lv_aload_n (pc := 88) hx hb dX3_bump_88 rfl (lv_at hl 1 rfl) ?_
    refine rg_getr (pc := 89) (C := RX3) (T := TX3) (N := 7) (κ := 3) hx hb hts hK hR hown in_3 rfl (by decide) 1 (by decide) m_142 rfl dX3_bump_89 hf (fun a7 hf => ?_)
    refine lv_dup (pc := 92) hx hb dX3_bump_92 rfl ?_
    refine rg_get (pc := 93) (C := RX4) (T := TX4) (N := 13) (κ := 4) (v := .long (mm_l M6 a7 12)) hx hb hts hK hR hown in_4 rfl (by decide) 12 (by decide) m_71 rfl dX3_bump_93 hf (fun hf => ?_)
    refine lv_lload_n (pc := 96) hx hb dX3_bump_96 rfl (lv_at hl 4 rfl) ?_
    refine lv_aload_n (pc := 97) hx hb dX3_bump_97 rfl (lv_at hl 2 rfl) ?_
    obtain ⟨hq, hf⟩ := gd_e hf
    refine rg_L (pc := 98) hf hR hA (fun z hz => rn_V (κ := 2) (As := []) (rest := [.long v3, .long (mm_l M6 a7 12), .ref a7]) hC hR rfl (by decide) hq (c_X2_carried  hz _) m_353 m_354 m_355 m_5 m_356 hd_X2_carried ⟨rfl, rfl, Nat.le_of_ble_eq_true rfl, Nat.le_of_ble_eq_true rfl⟩ rfl hl.1 rfl (Nat.le_of_ble_eq_true rfl) dX3_bump_98 ⟨Nat.le_of_ble_eq_true rfl, Nat.le_of_ble_eq_true rfl⟩) (fun z8 H locs hf hR => ?_)
    refine lv_lsub (pc := 101) hx hb dX3_bump_101 ?_
    refine lv_aload_n (pc := 102) hx hb dX3_bump_102 rfl (lv_at hl 3 rfl) ?_
    obtain ⟨hq, hf⟩ := gd_e hf
    refine rg_L (pc := 103) hf hR hA (fun z hz => rn_V (κ := 2) (As := []) (rest := [.long (v3 - z8.2), .long (mm_l M6 a7 12), .ref a7]) hC hR rfl (by decide) hq (c_X2_carried  hz _) m_353 m_354 m_355 m_5 m_356 hd_X2_carried ⟨rfl, rfl, Nat.le_of_ble_eq_true rfl, Nat.le_of_ble_eq_true rfl⟩ rfl hl.1 rfl (Nat.le_of_ble_eq_true rfl) dX3_bump_103 ⟨Nat.le_of_ble_eq_true rfl, Nat.le_of_ble_eq_true rfl⟩) (fun z9 H locs hf hR => ?_)
    refine lv_lsub (pc := 106) hx hb dX3_bump_106 ?_
    refine lv_ladd (pc := 107) hx hb dX3_bump_107 ?_
    refine rg_putl (pc := 108) (C := RX4) (T := TX4) (N := 13) (κ := 4) hx hb hts hK hR hown in_4 rfl (by decide) 12 (by decide) m_71 tyX4 tyX4_ok nmX4 rfl rfl rfl rfl dX3_bump_108 hf (fun M10 H locs hf hR => ?_)
    exact rg_vret (pc := 111) hx hb hlocks hr hf hR dX3_bump_111
  unfold f_X3_bump at hf
  refine lv_aload_n (pc := 0) hx hb dX3_bump_0 rfl (lv_at hl 1 rfl) ?_
  obtain ⟨hq, hf⟩ := gd_e hf
  refine rg_L (pc := 1) hf hR hA (fun z hz => rn_V (κ := 2) (As := []) (rest := []) hC hR rfl (by decide) hq (c_X2_carried  hz _) m_353 m_354 m_355 m_5 m_356 hd_X2_carried ⟨rfl, rfl, Nat.le_of_ble_eq_true rfl, Nat.le_of_ble_eq_true rfl⟩ rfl hl.1 rfl (Nat.le_of_ble_eq_true rfl) dX3_bump_1 ⟨Nat.le_of_ble_eq_true rfl, Nat.le_of_ble_eq_true rfl⟩) (fun z11 H locs hf hR => ?_)
  refine lv_aload_n (pc := 4) hx hb dX3_bump_4 rfl (lv_at hl 2 rfl) ?_
  obtain ⟨hq, hf⟩ := gd_e hf
  refine rg_L (pc := 5) hf hR hA (fun z hz => rn_V (κ := 2) (As := []) (rest := [.long z11.2]) hC hR rfl (by decide) hq (c_X2_carried  hz _) m_353 m_354 m_355 m_5 m_356 hd_X2_carried ⟨rfl, rfl, Nat.le_of_ble_eq_true rfl, Nat.le_of_ble_eq_true rfl⟩ rfl hl.1 rfl (Nat.le_of_ble_eq_true rfl) dX3_bump_5 ⟨Nat.le_of_ble_eq_true rfl, Nat.le_of_ble_eq_true rfl⟩) (fun z12 H locs hf hR => ?_)
  refine lv_ladd (pc := 8) hx hb dX3_bump_8 ?_
  refine nm_l hf (fun x13 hf => ?_)
  refine lv_lstore_n (pc := 9) (lv' := [(3, .long x13), (0, .ref v0), (1, .ref v1), (2, .ref v2)]) hx hb dX3_bump_9 rfl hl (by decide) rfl (fun ls hl => ?_)
  refine lv_aload_n (pc := 10) hx hb dX3_bump_10 rfl (lv_at hl 2 rfl) ?_
  refine rg_get (pc := 11) (C := RX2) (T := TX2) (N := 7) (κ := 2) (v := .int (mm_i z12.1 v1 0)) hx hb hts hK hR hown in_2 rfl (by decide) 0 (by decide) m_108 rfl dX3_bump_11 hf (fun hf => ?_)
  refine lv_aload_n (pc := 14) hx hb dX3_bump_14 rfl (lv_at hl 3 rfl) ?_
  refine rg_get (pc := 15) (C := RX2) (T := TX2) (N := 7) (κ := 2) (v := .int (mm_i z12.1 v2 0)) hx hb hts hK hR hown in_2 rfl (by decide) 0 (by decide) m_108 rfl dX3_bump_15 hf (fun hf => ?_)
  refine lv_icmp_gt (pc := 18) (tgt := 25) hx hb dX3_bump_18 (by decide) (fun hc => ?_) (fun hc => ?_)
  · replace hf := it_t hf hc
    refine lv_iconst (pc := 25) (v := (1 : Int32)) hx hb dX3_bump_25 (by decide) ?_
    exact hB26 (1 : Int32) v0 v1 v2 x13 z12.1 _ _ _ hf hR (lv_sub hl [1, 2, 3, 0] rfl)
  · replace hf := it_f hf hc
    refine lv_iconst (pc := 21) (v := (-1 : Int32)) hx hb dX3_bump_21 (by decide) ?_
    refine lv_goto (pc := 22) (tgt := 26) hx hb dX3_bump_22 (by decide) ?_
    exact hB26 (-1 : Int32) v0 v1 v2 x13 z12.1 _ _ _ hf hR (lv_sub hl [1, 2, 3, 0] rfl)
-- X3_meet
def f_X3_meet_b123   (M : Mem) : Option (Mem) := some M
def f_X3_meet_b117  (v0 : Nat) (v1 : Nat) (v2 : Nat) (M : Mem) : Option (Mem) := gd (M.1 v0 = 3) <| bd (f_X3_bump v0 v1 v2 M) fun z1 => f_X3_meet_b123  z1
def f_X3_meet_b63  (s0 : Nat) (v0 : Nat) (v1 : Nat) (v2 : Nat) (v3 : Int32) (M : Mem) : Option (Mem) := gd (M.1 v0 = 3) <| if (mm_i M v0 4) < v3 then (gd (M.1 v0 = 3) <| if v3 ≤ (mm_i M v0 5) then (f_X3_meet_b117 v0 v1 v2 M) else (gd (M.1 s0 = 2) <| if (mm_i M s0 2) < (2 : Int32) then (f_X3_meet_b117 v0 v1 v2 M) else (gd (M.1 v0 = 3) <| if (80 : Int32) ≤ (mm_i M v0 3) then (f_X3_meet_b117 v0 v1 v2 M) else (gd (M.1 v0 = 3) <| bd (f_X3_breakUp v0 s0 M) fun z2 => f_X3_meet_b123  z2)))) else (gd (M.1 v0 = 3) <| bd (f_X3_stick v0 v1 v2 M) fun z3 => f_X3_meet_b123  z3)
def f_X3_meet (v0 : Nat) (v1 : Nat) (v2 : Nat) (M : Mem) : Option (Mem) := gd (M.1 v1 = 2) <| lt_ (ms_i M v1 6 (1 : Int32)) fun M4 => gd (M4.1 v2 = 2) <| lt_ (ms_i M4 v2 6 (1 : Int32)) fun M5 => gd (M5.1 v1 = 2) <| gd (M5.1 v2 = 2) <| gd (M5.1 v0 = 3) <| rd (mm_r M5 v0 0) fun a6 => gd (M5.1 v1 = 2) <| gd (M5.1 a6 = 6) <| bd (f_X6_speedIn a6 (mm_i M5 v1 0) M5) fun z7 => gd (z7.1.1 v0 = 3) <| rd (mm_r z7.1 v0 0) fun a8 => gd (z7.1.1 v2 = 2) <| gd (z7.1.1 a8 = 6) <| bd (f_X6_speedIn a8 (mm_i z7.1 v2 0) z7.1) fun z9 => lt_ ((((mm_i M5 v1 3) + (mm_i M5 v2 3)) + (if 0 ≤ (z7.2 - z9.2) then (z7.2 - z9.2) else 0 - (z7.2 - z9.2)))) fun x10 => gd (z9.1.1 v1 = 2) <| gd (z9.1.1 v2 = 2) <| if (mm_i z9.1 v2 2) ≤ (mm_i z9.1 v1 2) then (f_X3_meet_b63 v2 v0 v1 v2 x10 z9.1) else (f_X3_meet_b63 v1 v0 v1 v2 x10 z9.1)
abbrev rm_X3_meet : Room := { frames := 3, cells := 0, slots := 0, locals := 67 }
theorem hd_X3_meet : yX3_meet.cls ≠ "java/lang/invoke/MethodHandle" ∧ yX3_meet.cls ≠ "java/lang/invoke/VarHandle" ∧ (parseMethodDescriptor yX3_meet.desc).map (fun d => d.parameters.length) = some 2 := by decide +kernel
set_option maxHeartbeats 8000000 in
set_option maxRecDepth 100000 in
theorem c_X3_meet {l : Launch} {D : va_G} {ca : Nat → ClassId} {b : Nat} {nx : Bool} {v0 : Nat} {v1 : Nat} {v2 : Nat} {M : Mem} {r : Mem} (hf : f_X3_meet v0 v1 v2 M = some r) : CtV l yX3_meet cX3_meet 5 none rm_X3_meet D ca b nx [.ref v0, .ref v1, .ref v2] M r 0 0 := by
  intro sz
  refine body_start (Qc := fun A => cvV D ca nx A r) (by decide +kernel) (Nat.le_of_ble_eq_true rfl) ?_
  intro p e s m args below meth c A hC hr hR ls hl
  obtain ⟨hx, hb, hml, hts, hown, hlocks, hXe, hA, hAb, hnm⟩ := id hC
  have hK := hXe.1
  have hl : lv_has ls 5 [(0, .ref v0), (1, .ref v1), (2, .ref v2)] := hl
  have hB123 : ∀   (M : Mem) (H : Heap) (locs : List Loc) (ls : Array Slot), f_X3_meet_b123   M = some r → Hp D ca nx A s M H locs → lv_has ls 5 [] → W p l e rm_X3_meet s m args below meth c H locs 0 0 (MQ below (cvV D ca nx A r) args s 0 0 A) (F0 m 123 ls []) := by
    intro   M H locs ls hf hR hl
    unfold f_X3_meet_b123 at hf
    exact rg_vret (pc := 123) hx hb hlocks hr hf hR dX3_meet_123
  have hB117 : ∀  (v0 : Nat) (v1 : Nat) (v2 : Nat) (M : Mem) (H : Heap) (locs : List Loc) (ls : Array Slot), f_X3_meet_b117  v0 v1 v2 M = some r → Hp D ca nx A s M H locs → lv_has ls 5 [(0, .ref v0), (1, .ref v1), (2, .ref v2)] → W p l e rm_X3_meet s m args below meth c H locs 0 0 (MQ below (cvV D ca nx A r) args s 0 0 A) (F0 m 117 ls []) := by
    intro  v0 v1 v2 M H locs ls hf hR hl
    unfold f_X3_meet_b117 at hf
    refine lv_aload_n (pc := 117) hx hb dX3_meet_117 rfl (lv_at hl 0 rfl) ?_
    refine lv_aload_n (pc := 118) hx hb dX3_meet_118 rfl (lv_at hl 1 rfl) ?_
    refine lv_aload_n (pc := 119) hx hb dX3_meet_119 rfl (lv_at hl 2 rfl) ?_
    obtain ⟨hq, hf⟩ := gd_e hf
    refine rg_V (pc := 120) hf hR hA (fun z hz => rn_V (κ := 3) (As := [.ref v1, .ref v2]) (rest := []) hC hR rfl (by decide) hq (c_X3_bump  hz _) m_451 m_453 ms_7 m_2 m_454 hd_X3_bump ⟨rfl, rfl, Nat.le_of_ble_eq_true rfl, Nat.le_of_ble_eq_true rfl⟩ rfl hl.1 rfl (Nat.le_of_ble_eq_true rfl) dX3_meet_120 ⟨Nat.le_of_ble_eq_true rfl, Nat.le_of_ble_eq_true rfl⟩) (fun z1 H locs hf hR => ?_)
    exact hB123  z1 _ _ _ hf hR (lv_sub hl [] rfl)
  have hB63 : ∀  (s0 : Nat) (v0 : Nat) (v1 : Nat) (v2 : Nat) (v3 : Int32) (M : Mem) (H : Heap) (locs : List Loc) (ls : Array Slot), f_X3_meet_b63  s0 v0 v1 v2 v3 M = some r → Hp D ca nx A s M H locs → lv_has ls 5 [(0, .ref v0), (1, .ref v1), (2, .ref v2), (3, .int v3)] → W p l e rm_X3_meet s m args below meth c H locs 0 0 (MQ below (cvV D ca nx A r) args s 0 0 A) (F0 m 63 ls [.ref s0]) := by
    intro  s0 v0 v1 v2 v3 M H locs ls hf hR hl
    unfold f_X3_meet_b63 at hf
    refine lv_astore (pc := 63) (lv' := [(4, .ref s0), (0, .ref v0), (1, .ref v1), (2, .ref v2), (3, .int v3)]) hx hb dX3_meet_63 hl (by decide) rfl (fun ls hl => ?_)
    refine lv_iload_n (pc := 65) hx hb dX3_meet_65 rfl (lv_at hl 4 rfl) ?_
    refine lv_aload_n (pc := 66) hx hb dX3_meet_66 rfl (lv_at hl 1 rfl) ?_
    refine rg_get (pc := 67) (C := RX3) (T := TX3) (N := 7) (κ := 3) (v := .int (mm_i M v0 4)) hx hb hts hK hR hown in_3 rfl (by decide) 4 (by decide) m_148 rfl dX3_meet_67 hf (fun hf => ?_)
    refine lv_icmp_gt (pc := 70) (tgt := 82) hx hb dX3_meet_70 (by decide) (fun hc => ?_) (fun hc => ?_)
    · replace hf := it_t hf hc
      refine lv_iload_n (pc := 82) hx hb dX3_meet_82 rfl (lv_at hl 4 rfl) ?_
      refine lv_aload_n (pc := 83) hx hb dX3_meet_83 rfl (lv_at hl 1 rfl) ?_
      refine rg_get (pc := 84) (C := RX3) (T := TX3) (N := 7) (κ := 3) (v := .int (mm_i M v0 5)) hx hb hts hK hR hown in_3 rfl (by decide) 5 (by decide) m_150 rfl dX3_meet_84 hf (fun hf => ?_)
      refine lv_icmp_le (pc := 87) (tgt := 117) hx hb dX3_meet_87 (by decide) (fun hc => ?_) (fun hc => ?_)
      · replace hf := it_t hf hc
        exact hB117 v0 v1 v2 M _ _ _ hf hR (lv_sub hl [1, 2, 3] rfl)
      · replace hf := it_f hf hc
        refine lv_aload (pc := 90) hx hb dX3_meet_90 (lv_at hl 0 rfl) ?_
        refine rg_get (pc := 92) (C := RX2) (T := TX2) (N := 7) (κ := 2) (v := .int (mm_i M s0 2)) hx hb hts hK hR hown in_2 rfl (by decide) 2 (by decide) m_114 rfl dX3_meet_92 hf (fun hf => ?_)
        refine lv_iconst (pc := 95) (v := (2 : Int32)) hx hb dX3_meet_95 (by decide) ?_
        refine lv_icmp_lt (pc := 96) (tgt := 117) hx hb dX3_meet_96 (by decide) (fun hc => ?_) (fun hc => ?_)
        · replace hf := it_t hf hc
          exact hB117 v0 v1 v2 M _ _ _ hf hR (lv_sub hl [1, 2, 3] rfl)
        · replace hf := it_f hf hc
          refine lv_aload_n (pc := 99) hx hb dX3_meet_99 rfl (lv_at hl 1 rfl) ?_
          refine rg_get (pc := 100) (C := RX3) (T := TX3) (N := 7) (κ := 3) (v := .int (mm_i M v0 3)) hx hb hts hK hR hown in_3 rfl (by decide) 3 (by decide) m_146 rfl dX3_meet_100 hf (fun hf => ?_)
          refine lv_bipush (pc := 103) (v := (80 : Int32)) hx hb dX3_meet_103 (by decide) ?_
          refine lv_icmp_ge (pc := 105) (tgt := 117) hx hb dX3_meet_105 (by decide) (fun hc => ?_) (fun hc => ?_)
          · replace hf := it_t hf hc
            exact hB117 v0 v1 v2 M _ _ _ hf hR (lv_sub hl [1, 2, 3] rfl)
          · replace hf := it_f hf hc
            refine lv_aload_n (pc := 108) hx hb dX3_meet_108 rfl (lv_at hl 1 rfl) ?_
            refine lv_aload (pc := 109) hx hb dX3_meet_109 (lv_at hl 0 rfl) ?_
            obtain ⟨hq, hf⟩ := gd_e hf
            refine rg_V (pc := 111) hf hR hA (fun z hz => rn_V (κ := 3) (As := [.ref s0]) (rest := []) hC hR rfl (by decide) hq (c_X3_breakUp  hz _) m_447 m_449 ms_6 m_2 m_450 hd_X3_breakUp ⟨rfl, rfl, Nat.le_of_ble_eq_true rfl, Nat.le_of_ble_eq_true rfl⟩ rfl hl.1 rfl (Nat.le_of_ble_eq_true rfl) dX3_meet_111 ⟨Nat.le_of_ble_eq_true rfl, Nat.le_of_ble_eq_true rfl⟩) (fun z2 H locs hf hR => ?_)
            refine lv_goto (pc := 114) (tgt := 123) hx hb dX3_meet_114 (by decide) ?_
            exact hB123  z2 _ _ _ hf hR (lv_sub hl [] rfl)
    · replace hf := it_f hf hc
      refine lv_aload_n (pc := 73) hx hb dX3_meet_73 rfl (lv_at hl 1 rfl) ?_
      refine lv_aload_n (pc := 74) hx hb dX3_meet_74 rfl (lv_at hl 2 rfl) ?_
      refine lv_aload_n (pc := 75) hx hb dX3_meet_75 rfl (lv_at hl 3 rfl) ?_
      obtain ⟨hq, hf⟩ := gd_e hf
      refine rg_V (pc := 76) hf hR hA (fun z hz => rn_V (κ := 3) (As := [.ref v1, .ref v2]) (rest := []) hC hR rfl (by decide) hq (c_X3_stick  hz _) m_440 m_442 ms_5 m_2 m_443 hd_X3_stick ⟨rfl, rfl, Nat.le_of_ble_eq_true rfl, Nat.le_of_ble_eq_true rfl⟩ rfl hl.1 rfl (Nat.le_of_ble_eq_true rfl) dX3_meet_76 ⟨Nat.le_of_ble_eq_true rfl, Nat.le_of_ble_eq_true rfl⟩) (fun z3 H locs hf hR => ?_)
      refine lv_goto (pc := 79) (tgt := 123) hx hb dX3_meet_79 (by decide) ?_
      exact hB123  z3 _ _ _ hf hR (lv_sub hl [] rfl)
  unfold f_X3_meet at hf
  refine lv_aload_n (pc := 0) hx hb dX3_meet_0 rfl (lv_at hl 1 rfl) ?_
  refine lv_iconst (pc := 1) (v := (1 : Int32)) hx hb dX3_meet_1 (by decide) ?_
  refine rg_puti (pc := 2) (C := RX2) (T := TX2) (N := 7) (κ := 2) hx hb hts hK hR hown in_2 rfl (by decide) 6 (by decide) m_124 tyX2 tyX2_ok nmX2 rfl rfl rfl rfl dX3_meet_2 hf (fun M4 H locs hf hR => ?_)
  refine lv_aload_n (pc := 5) hx hb dX3_meet_5 rfl (lv_at hl 2 rfl) ?_
  refine lv_iconst (pc := 6) (v := (1 : Int32)) hx hb dX3_meet_6 (by decide) ?_
  refine rg_puti (pc := 7) (C := RX2) (T := TX2) (N := 7) (κ := 2) hx hb hts hK hR hown in_2 rfl (by decide) 6 (by decide) m_124 tyX2 tyX2_ok nmX2 rfl rfl rfl rfl dX3_meet_7 hf (fun M5 H locs hf hR => ?_)
  refine lv_aload_n (pc := 10) hx hb dX3_meet_10 rfl (lv_at hl 1 rfl) ?_
  refine rg_get (pc := 11) (C := RX2) (T := TX2) (N := 7) (κ := 2) (v := .int (mm_i M5 v1 3)) hx hb hts hK hR hown in_2 rfl (by decide) 3 (by decide) m_116 rfl dX3_meet_11 hf (fun hf => ?_)
  refine lv_aload_n (pc := 14) hx hb dX3_meet_14 rfl (lv_at hl 2 rfl) ?_
  refine rg_get (pc := 15) (C := RX2) (T := TX2) (N := 7) (κ := 2) (v := .int (mm_i M5 v2 3)) hx hb hts hK hR hown in_2 rfl (by decide) 3 (by decide) m_116 rfl dX3_meet_15 hf (fun hf => ?_)
  refine lv_iadd (pc := 18) hx hb dX3_meet_18 ?_
  refine lv_aload_n (pc := 19) hx hb dX3_meet_19 rfl (lv_at hl 0 rfl) ?_
  refine rg_getr (pc := 20) (C := RX3) (T := TX3) (N := 7) (κ := 3) hx hb hts hK hR hown in_3 rfl (by decide) 0 (by decide) m_140 rfl dX3_meet_20 hf (fun a6 hf => ?_)
  refine lv_aload_n (pc := 23) hx hb dX3_meet_23 rfl (lv_at hl 1 rfl) ?_
  refine rg_get (pc := 24) (C := RX2) (T := TX2) (N := 7) (κ := 2) (v := .int (mm_i M5 v1 0)) hx hb hts hK hR hown in_2 rfl (by decide) 0 (by decide) m_108 rfl dX3_meet_24 hf (fun hf => ?_)
  obtain ⟨hq, hf⟩ := gd_e hf
  refine rg_I (pc := 27) hf hR hA (fun z hz => rn_V (κ := 6) (As := [.int (mm_i M5 v1 0)]) (rest := [.int ((mm_i M5 v1 3) + (mm_i M5 v2 3))]) hC hR rfl (by decide) hq (c_X6_speedIn  hz _) m_398 m_383 m_384 m_3 m_385 hd_X6_speedIn ⟨rfl, rfl, Nat.le_of_ble_eq_true rfl, Nat.le_of_ble_eq_true rfl⟩ rfl hl.1 rfl (Nat.le_of_ble_eq_true rfl) dX3_meet_27 ⟨Nat.le_of_ble_eq_true rfl, Nat.le_of_ble_eq_true rfl⟩) (fun z7 H locs hf hR => ?_)
  refine lv_aload_n (pc := 30) hx hb dX3_meet_30 rfl (lv_at hl 0 rfl) ?_
  refine rg_getr (pc := 31) (C := RX3) (T := TX3) (N := 7) (κ := 3) hx hb hts hK hR hown in_3 rfl (by decide) 0 (by decide) m_140 rfl dX3_meet_31 hf (fun a8 hf => ?_)
  refine lv_aload_n (pc := 34) hx hb dX3_meet_34 rfl (lv_at hl 2 rfl) ?_
  refine rg_get (pc := 35) (C := RX2) (T := TX2) (N := 7) (κ := 2) (v := .int (mm_i z7.1 v2 0)) hx hb hts hK hR hown in_2 rfl (by decide) 0 (by decide) m_108 rfl dX3_meet_35 hf (fun hf => ?_)
  obtain ⟨hq, hf⟩ := gd_e hf
  refine rg_I (pc := 38) hf hR hA (fun z hz => rn_V (κ := 6) (As := [.int (mm_i z7.1 v2 0)]) (rest := [.int z7.2, .int ((mm_i M5 v1 3) + (mm_i M5 v2 3))]) hC hR rfl (by decide) hq (c_X6_speedIn  hz _) m_398 m_383 m_384 m_3 m_385 hd_X6_speedIn ⟨rfl, rfl, Nat.le_of_ble_eq_true rfl, Nat.le_of_ble_eq_true rfl⟩ rfl hl.1 rfl (Nat.le_of_ble_eq_true rfl) dX3_meet_38 ⟨Nat.le_of_ble_eq_true rfl, Nat.le_of_ble_eq_true rfl⟩) (fun z9 H locs hf hR => ?_)
  refine lv_isub (pc := 41) hx hb dX3_meet_41 ?_
  refine va_mabs (pc := 42) hx hb (hml.trans hl.1.symm) hown (hts _ m_439) (hts _ m_409) (hts _ m_14) (hts _ m_410) (Nat.le_of_ble_eq_true rfl) (Nat.le_of_ble_eq_true rfl) (Nat.le_of_ble_eq_true rfl) (Nat.le_of_ble_eq_true rfl) dX3_meet_42 ?_
  refine lv_iadd (pc := 45) hx hb dX3_meet_45 ?_
  refine nm_i hf (fun x10 hf => ?_)
  refine lv_istore_n (pc := 46) (lv' := [(3, .int x10), (0, .ref v0), (1, .ref v1), (2, .ref v2)]) hx hb dX3_meet_46 rfl hl (by decide) rfl (fun ls hl => ?_)
  refine lv_aload_n (pc := 47) hx hb dX3_meet_47 rfl (lv_at hl 2 rfl) ?_
  refine rg_get (pc := 48) (C := RX2) (T := TX2) (N := 7) (κ := 2) (v := .int (mm_i z9.1 v1 2)) hx hb hts hK hR hown in_2 rfl (by decide) 2 (by decide) m_114 rfl dX3_meet_48 hf (fun hf => ?_)
  refine lv_aload_n (pc := 51) hx hb dX3_meet_51 rfl (lv_at hl 3 rfl) ?_
  refine rg_get (pc := 52) (C := RX2) (T := TX2) (N := 7) (κ := 2) (v := .int (mm_i z9.1 v2 2)) hx hb hts hK hR hown in_2 rfl (by decide) 2 (by decide) m_114 rfl dX3_meet_52 hf (fun hf => ?_)
  refine lv_icmp_ge (pc := 55) (tgt := 62) hx hb dX3_meet_55 (by decide) (fun hc => ?_) (fun hc => ?_)
  · replace hf := it_t hf hc
    refine lv_aload_n (pc := 62) hx hb dX3_meet_62 rfl (lv_at hl 3 rfl) ?_
    exact hB63 v2 v0 v1 v2 x10 z9.1 _ _ _ hf hR (lv_sub hl [1, 2, 3, 0] rfl)
  · replace hf := it_f hf hc
    refine lv_aload_n (pc := 58) hx hb dX3_meet_58 rfl (lv_at hl 2 rfl) ?_
    refine lv_goto (pc := 59) (tgt := 63) hx hb dX3_meet_59 (by decide) ?_
    exact hB63 v1 v0 v1 v2 x10 z9.1 _ _ _ hf hR (lv_sub hl [1, 2, 3, 0] rfl)
-- X3_meetAll
def f_X3_meetAll_b84 (k39 : Nat → Int32 → Int32 → Mem → Option (Mem)) (v0 : Nat) (v1 : Int32) (v2 : Int32) (M : Mem) : Option (Mem) := lt_ (v2 + (1 : Int32)) fun x1 => k39 v0 v1 x1 M
def f_X3_meetAll_b39 (k39 : Nat → Int32 → Int32 → Mem → Option (Mem)) (v0 : Nat) (v1 : Int32) (v2 : Int32) (M : Mem) : Option (Mem) := if v1 ≤ v2 then (some M) else (gd (M.1 v0 = 3) <| rd (mm_r M v0 2) fun a2 => gd (M.1 a2 = 13 ∧ vi_ v2 (mm_N M a2)) <| rd (mm_r M a2 (v2).toNatClampNeg) fun a3 => gd (M.1 a3 = 2) <| bd (f_X2_mayMeet a3 M) fun z4 => if z4.2 = 0 then (f_X3_meetAll_b84 k39 v0 v1 v2 z4.1) else (gd (z4.1.1 v0 = 3) <| bd (f_X3_partnerOf v0 v2 v1 z4.1) fun z5 => if z5.2 = (-1 : Int32) then (f_X3_meetAll_b84 k39 v0 v1 v2 z5.1) else (gd (z5.1.1 v0 = 3) <| rd (mm_r z5.1 v0 2) fun a6 => gd (z5.1.1 a6 = 13 ∧ vi_ v2 (mm_N z5.1 a6)) <| rd (mm_r z5.1 a6 (v2).toNatClampNeg) fun a7 => gd (z5.1.1 v0 = 3) <| rd (mm_r z5.1 v0 2) fun a8 => gd (z5.1.1 a8 = 13 ∧ vi_ z5.2 (mm_N z5.1 a8)) <| rd (mm_r z5.1 a8 (z5.2).toNatClampNeg) fun a9 => gd (z5.1.1 v0 = 3) <| bd (f_X3_meet v0 a7 a9 z5.1) fun z10 => f_X3_meetAll_b84 k39 v0 v1 v2 z10)))
def f_X3_meetAll_L39  : Nat → Nat → Int32 → Int32 → Mem → Option (Mem)
  | 0 => fun _ _ _ _ => none
  | n + 1 => f_X3_meetAll_b39  (f_X3_meetAll_L39  n)
def f_X3_meetAll_b10 (k10 : Nat → Nat → Int32 → Int32 → Mem → Option (Mem)) (v0 : Nat) (v1 : Nat) (v2 : Int32) (v3 : Int32) (M : Mem) : Option (Mem) := if v2 ≤ v3 then (gd (M.1 v0 = 3) <| lt_ ((mm_i M v0 3)) fun x11 => f_X3_meetAll_L39 200 v0 x11 (0 : Int32) M) else (gd (M.1 v1 = 13 ∧ vi_ v3 (mm_N M v1)) <| rd (mm_r M v1 (v3).toNatClampNeg) fun a12 => gd (M.1 a12 = 2) <| lt_ (ms_i M a12 6 (0 : Int32)) fun M13 => lt_ (v3 + (1 : Int32)) fun x14 => k10 v0 v1 v2 x14 M13)
def f_X3_meetAll_L10  : Nat → Nat → Nat → Int32 → Int32 → Mem → Option (Mem)
  | 0 => fun _ _ _ _ _ => none
  | n + 1 => f_X3_meetAll_b10  (f_X3_meetAll_L10  n)
def f_X3_meetAll (v0 : Nat) (M : Mem) : Option (Mem) := gd (M.1 v0 = 3) <| rd (mm_r M v0 2) fun a15 => gd (M.1 a15 = 13) <| lt_ ((nI (mm_N M a15))) fun x16 => f_X3_meetAll_L10 200 v0 a15 x16 (0 : Int32) M
abbrev rm_X3_meetAll : Room := { frames := 4, cells := 0, slots := 0, locals := 95 }
theorem hd_X3_meetAll : yX3_meetAll.cls ≠ "java/lang/invoke/MethodHandle" ∧ yX3_meetAll.cls ≠ "java/lang/invoke/VarHandle" ∧ (parseMethodDescriptor yX3_meetAll.desc).map (fun d => d.parameters.length) = some 0 := by decide +kernel
set_option maxHeartbeats 8000000 in
set_option maxRecDepth 100000 in
theorem c_X3_meetAll {l : Launch} {D : va_G} {ca : Nat → ClassId} {b : Nat} {nx : Bool} {v0 : Nat} {M : Mem} {r : Mem} (hf : f_X3_meetAll v0 M = some r) : CtV l yX3_meetAll cX3_meetAll 5 none rm_X3_meetAll D ca b nx [.ref v0] M r 0 0 := by
  intro sz
  refine body_start (Qc := fun A => cvV D ca nx A r) (by decide +kernel) (Nat.le_of_ble_eq_true rfl) ?_
  intro p e s m args below meth c A hC hr hR ls hl
  obtain ⟨hx, hb, hml, hts, hown, hlocks, hXe, hA, hAb, hnm⟩ := id hC
  have hK := hXe.1
  have hl : lv_has ls 5 [(0, .ref v0)] := hl
  have hB84 : ∀ (k39 : Nat → Int32 → Int32 → Mem → Option (Mem)) (hk39 : ∀ (v0 : Nat) (v1 : Int32) (v2 : Int32) (M : Mem) (H : Heap) (locs : List Loc) (ls : Array Slot), k39 v0 v1 v2 M = some r → Hp D ca nx A s M H locs → lv_has ls 5 [(0, .ref v0), (1, .int v1), (2, .int v2)] → W p l e rm_X3_meetAll s m args below meth c H locs 0 0 (MQ below (cvV D ca nx A r) args s 0 0 A) (F0 m 39 ls [])) (v0 : Nat) (v1 : Int32) (v2 : Int32) (M : Mem) (H : Heap) (locs : List Loc) (ls : Array Slot), f_X3_meetAll_b84 k39 v0 v1 v2 M = some r → Hp D ca nx A s M H locs → lv_has ls 5 [(0, .ref v0), (1, .int v1), (2, .int v2)] → W p l e rm_X3_meetAll s m args below meth c H locs 0 0 (MQ below (cvV D ca nx A r) args s 0 0 A) (F0 m 84 ls []) := by
    intro k39 hk39 v0 v1 v2 M H locs ls hf hR hl
    unfold f_X3_meetAll_b84 at hf
    refine rg_iinc (pc := 84) hx hb dX3_meetAll_84 hl (k := 2) rfl rfl (by decide) hf (fun x1 ls hf hl => ?_)
    have hl : lv_has ls 5 [(2, .int x1), (0, .ref v0), (1, .int v1)] := hl
    refine lv_goto (pc := 87) (tgt := 39) hx hb dX3_meetAll_87 (by decide) ?_
    exact hk39 v0 v1 x1 M _ _ _ hf hR (lv_sub hl [1, 2, 0] rfl)
  have hB39 : ∀ (k39 : Nat → Int32 → Int32 → Mem → Option (Mem)) (hk39 : ∀ (v0 : Nat) (v1 : Int32) (v2 : Int32) (M : Mem) (H : Heap) (locs : List Loc) (ls : Array Slot), k39 v0 v1 v2 M = some r → Hp D ca nx A s M H locs → lv_has ls 5 [(0, .ref v0), (1, .int v1), (2, .int v2)] → W p l e rm_X3_meetAll s m args below meth c H locs 0 0 (MQ below (cvV D ca nx A r) args s 0 0 A) (F0 m 39 ls [])) (v0 : Nat) (v1 : Int32) (v2 : Int32) (M : Mem) (H : Heap) (locs : List Loc) (ls : Array Slot), f_X3_meetAll_b39 k39 v0 v1 v2 M = some r → Hp D ca nx A s M H locs → lv_has ls 5 [(0, .ref v0), (1, .int v1), (2, .int v2)] → W p l e rm_X3_meetAll s m args below meth c H locs 0 0 (MQ below (cvV D ca nx A r) args s 0 0 A) (F0 m 39 ls []) := by
    intro k39 hk39 v0 v1 v2 M H locs ls hf hR hl
    unfold f_X3_meetAll_b39 at hf
    refine lv_iload_n (pc := 39) hx hb dX3_meetAll_39 rfl (lv_at hl 2 rfl) ?_
    refine lv_iload_n (pc := 40) hx hb dX3_meetAll_40 rfl (lv_at hl 1 rfl) ?_
    refine lv_icmp_ge (pc := 41) (tgt := 90) hx hb dX3_meetAll_41 (by decide) (fun hc => ?_) (fun hc => ?_)
    · replace hf := it_t hf hc
      exact rg_vret (pc := 90) hx hb hlocks hr hf hR dX3_meetAll_90
    · replace hf := it_f hf hc
      refine lv_aload_n (pc := 44) hx hb dX3_meetAll_44 rfl (lv_at hl 0 rfl) ?_
      refine rg_getr (pc := 45) (C := RX3) (T := TX3) (N := 7) (κ := 3) hx hb hts hK hR hown in_3 rfl (by decide) 2 (by decide) m_144 rfl dX3_meetAll_45 hf (fun a2 hf => ?_)
      refine lv_iload_n (pc := 48) hx hb dX3_meetAll_48 rfl (lv_at hl 2 rfl) ?_
      refine rg_aald (pc := 49) (κ := 13) hx hb hK hR 3 rfl (by decide) dX3_meetAll_49 hf (fun a3 hf => ?_)
      obtain ⟨hq, hf⟩ := gd_e hf
      refine rg_I (pc := 50) hf hR hA (fun z hz => rn_V (κ := 2) (As := []) (rest := []) hC hR rfl (by decide) hq (c_X2_mayMeet  hz _) m_427 m_428 m_429 m_5 m_430 hd_X2_mayMeet ⟨rfl, rfl, Nat.le_of_ble_eq_true rfl, Nat.le_of_ble_eq_true rfl⟩ rfl hl.1 rfl (Nat.le_of_ble_eq_true rfl) dX3_meetAll_50 ⟨Nat.le_of_ble_eq_true rfl, Nat.le_of_ble_eq_true rfl⟩) (fun z4 H locs hf hR => ?_)
      refine lv_if_eq (pc := 53) (tgt := 84) hx hb dX3_meetAll_53 (by decide) (fun hc => ?_) (fun hc => ?_)
      · replace hf := it_t hf hc
        exact hB84 k39 hk39 v0 v1 v2 z4.1 _ _ _ hf hR (lv_sub hl [0, 1, 2] rfl)
      · replace hf := it_f hf hc
        refine lv_aload_n (pc := 56) hx hb dX3_meetAll_56 rfl (lv_at hl 0 rfl) ?_
        refine lv_iload_n (pc := 57) hx hb dX3_meetAll_57 rfl (lv_at hl 2 rfl) ?_
        refine lv_iload_n (pc := 58) hx hb dX3_meetAll_58 rfl (lv_at hl 1 rfl) ?_
        obtain ⟨hq, hf⟩ := gd_e hf
        refine rg_I (pc := 59) hf hR hA (fun z hz => rn_V (κ := 3) (As := [.int v2, .int v1]) (rest := []) hC hR rfl (by decide) hq (c_X3_partnerOf  hz _) m_431 m_433 ms_3 m_2 m_434 hd_X3_partnerOf ⟨rfl, rfl, Nat.le_of_ble_eq_true rfl, Nat.le_of_ble_eq_true rfl⟩ rfl hl.1 rfl (Nat.le_of_ble_eq_true rfl) dX3_meetAll_59 ⟨Nat.le_of_ble_eq_true rfl, Nat.le_of_ble_eq_true rfl⟩) (fun z5 H locs hf hR => ?_)
        refine lv_istore_n (pc := 62) (lv' := [(3, .int z5.2), (0, .ref v0), (1, .int v1), (2, .int v2)]) hx hb dX3_meetAll_62 rfl hl (by decide) rfl (fun ls hl => ?_)
        refine lv_iload_n (pc := 63) hx hb dX3_meetAll_63 rfl (lv_at hl 0 rfl) ?_
        refine lv_iconst (pc := 64) (v := (-1 : Int32)) hx hb dX3_meetAll_64 (by decide) ?_
        refine lv_icmp_eq (pc := 65) (tgt := 84) hx hb dX3_meetAll_65 (by decide) (fun hc => ?_) (fun hc => ?_)
        · replace hf := it_t hf hc
          exact hB84 k39 hk39 v0 v1 v2 z5.1 _ _ _ hf hR (lv_sub hl [1, 2, 3] rfl)
        · replace hf := it_f hf hc
          refine lv_aload_n (pc := 68) hx hb dX3_meetAll_68 rfl (lv_at hl 1 rfl) ?_
          refine lv_aload_n (pc := 69) hx hb dX3_meetAll_69 rfl (lv_at hl 1 rfl) ?_
          refine rg_getr (pc := 70) (C := RX3) (T := TX3) (N := 7) (κ := 3) hx hb hts hK hR hown in_3 rfl (by decide) 2 (by decide) m_144 rfl dX3_meetAll_70 hf (fun a6 hf => ?_)
          refine lv_iload_n (pc := 73) hx hb dX3_meetAll_73 rfl (lv_at hl 3 rfl) ?_
          refine rg_aald (pc := 74) (κ := 13) hx hb hK hR 3 rfl (by decide) dX3_meetAll_74 hf (fun a7 hf => ?_)
          refine lv_aload_n (pc := 75) hx hb dX3_meetAll_75 rfl (lv_at hl 1 rfl) ?_
          refine rg_getr (pc := 76) (C := RX3) (T := TX3) (N := 7) (κ := 3) hx hb hts hK hR hown in_3 rfl (by decide) 2 (by decide) m_144 rfl dX3_meetAll_76 hf (fun a8 hf => ?_)
          refine lv_iload_n (pc := 79) hx hb dX3_meetAll_79 rfl (lv_at hl 0 rfl) ?_
          refine rg_aald (pc := 80) (κ := 13) hx hb hK hR 3 rfl (by decide) dX3_meetAll_80 hf (fun a9 hf => ?_)
          obtain ⟨hq, hf⟩ := gd_e hf
          refine rg_V (pc := 81) hf hR hA (fun z hz => rn_V (κ := 3) (As := [.ref a7, .ref a9]) (rest := []) hC hR rfl (by decide) hq (c_X3_meet  hz _) m_435 m_437 ms_4 m_2 m_438 hd_X3_meet ⟨rfl, rfl, Nat.le_of_ble_eq_true rfl, Nat.le_of_ble_eq_true rfl⟩ rfl hl.1 rfl (Nat.le_of_ble_eq_true rfl) dX3_meetAll_81 ⟨Nat.le_of_ble_eq_true rfl, Nat.le_of_ble_eq_true rfl⟩) (fun z10 H locs hf hR => ?_)
          exact hB84 k39 hk39 v0 v1 v2 z10 _ _ _ hf hR (lv_sub hl [1, 2, 3] rfl)
  have hL39 : ∀  (n : Nat) (v0 : Nat) (v1 : Int32) (v2 : Int32) (M : Mem) (H : Heap) (locs : List Loc) (ls : Array Slot), f_X3_meetAll_L39  n v0 v1 v2 M = some r → Hp D ca nx A s M H locs → lv_has ls 5 [(0, .ref v0), (1, .int v1), (2, .int v2)] → W p l e rm_X3_meetAll s m args below meth c H locs 0 0 (MQ below (cvV D ca nx A r) args s 0 0 A) (F0 m 39 ls []) := by
    intro  n
    induction n with
    | zero => intro v0 v1 v2 M H locs ls hf; exact nomatch (show (none : Option (Mem)) = some r from hf)
    | succ n ih => intro v0 v1 v2 M H locs ls hf hR hl; exact hB39  (f_X3_meetAll_L39  n) ih v0 v1 v2 M H locs ls hf hR hl
  have hB10 : ∀ (k10 : Nat → Nat → Int32 → Int32 → Mem → Option (Mem)) (hk10 : ∀ (v0 : Nat) (v1 : Nat) (v2 : Int32) (v3 : Int32) (M : Mem) (H : Heap) (locs : List Loc) (ls : Array Slot), k10 v0 v1 v2 v3 M = some r → Hp D ca nx A s M H locs → lv_has ls 5 [(0, .ref v0), (1, .ref v1), (2, .int v2), (3, .int v3)] → W p l e rm_X3_meetAll s m args below meth c H locs 0 0 (MQ below (cvV D ca nx A r) args s 0 0 A) (F0 m 10 ls [])) (v0 : Nat) (v1 : Nat) (v2 : Int32) (v3 : Int32) (M : Mem) (H : Heap) (locs : List Loc) (ls : Array Slot), f_X3_meetAll_b10 k10 v0 v1 v2 v3 M = some r → Hp D ca nx A s M H locs → lv_has ls 5 [(0, .ref v0), (1, .ref v1), (2, .int v2), (3, .int v3)] → W p l e rm_X3_meetAll s m args below meth c H locs 0 0 (MQ below (cvV D ca nx A r) args s 0 0 A) (F0 m 10 ls []) := by
    intro k10 hk10 v0 v1 v2 v3 M H locs ls hf hR hl
    unfold f_X3_meetAll_b10 at hf
    refine lv_iload_n (pc := 10) hx hb dX3_meetAll_10 rfl (lv_at hl 3 rfl) ?_
    refine lv_iload_n (pc := 11) hx hb dX3_meetAll_11 rfl (lv_at hl 2 rfl) ?_
    refine lv_icmp_ge (pc := 12) (tgt := 32) hx hb dX3_meetAll_12 (by decide) (fun hc => ?_) (fun hc => ?_)
    · replace hf := it_t hf hc
      refine lv_aload_n (pc := 32) hx hb dX3_meetAll_32 rfl (lv_at hl 0 rfl) ?_
      refine rg_get (pc := 33) (C := RX3) (T := TX3) (N := 7) (κ := 3) (v := .int (mm_i M v0 3)) hx hb hts hK hR hown in_3 rfl (by decide) 3 (by decide) m_146 rfl dX3_meetAll_33 hf (fun hf => ?_)
      refine nm_i hf (fun x11 hf => ?_)
      refine lv_istore_n (pc := 36) (lv' := [(1, .int x11), (0, .ref v0), (2, .int v2), (3, .int v3)]) hx hb dX3_meetAll_36 rfl hl (by decide) rfl (fun ls hl => ?_)
      refine lv_iconst (pc := 37) (v := (0 : Int32)) hx hb dX3_meetAll_37 (by decide) ?_
      refine lv_istore_n (pc := 38) (lv' := [(2, .int (0 : Int32)), (1, .int x11), (0, .ref v0), (3, .int v3)]) hx hb dX3_meetAll_38 rfl hl (by decide) rfl (fun ls hl => ?_)
      exact hL39 200 v0 x11 (0 : Int32) M _ _ _ hf hR (lv_sub hl [2, 1, 0] rfl)
    · replace hf := it_f hf hc
      refine lv_aload_n (pc := 15) hx hb dX3_meetAll_15 rfl (lv_at hl 1 rfl) ?_
      refine lv_iload_n (pc := 16) hx hb dX3_meetAll_16 rfl (lv_at hl 3 rfl) ?_
      refine rg_aald (pc := 17) (κ := 13) hx hb hK hR 3 rfl (by decide) dX3_meetAll_17 hf (fun a12 hf => ?_)
      refine lv_astore (pc := 18) (lv' := [(4, .ref a12), (0, .ref v0), (1, .ref v1), (2, .int v2), (3, .int v3)]) hx hb dX3_meetAll_18 hl (by decide) rfl (fun ls hl => ?_)
      refine lv_aload (pc := 20) hx hb dX3_meetAll_20 (lv_at hl 0 rfl) ?_
      refine lv_iconst (pc := 22) (v := (0 : Int32)) hx hb dX3_meetAll_22 (by decide) ?_
      refine rg_puti (pc := 23) (C := RX2) (T := TX2) (N := 7) (κ := 2) hx hb hts hK hR hown in_2 rfl (by decide) 6 (by decide) m_124 tyX2 tyX2_ok nmX2 rfl rfl rfl rfl dX3_meetAll_23 hf (fun M13 H locs hf hR => ?_)
      refine rg_iinc (pc := 26) hx hb dX3_meetAll_26 hl (k := 4) rfl rfl (by decide) hf (fun x14 ls hf hl => ?_)
      have hl : lv_has ls 5 [(3, .int x14), (4, .ref a12), (0, .ref v0), (1, .ref v1), (2, .int v2)] := hl
      refine lv_goto (pc := 29) (tgt := 10) hx hb dX3_meetAll_29 (by decide) ?_
      exact hk10 v0 v1 v2 x14 M13 _ _ _ hf hR (lv_sub hl [2, 3, 4, 0] rfl)
  have hL10 : ∀  (n : Nat) (v0 : Nat) (v1 : Nat) (v2 : Int32) (v3 : Int32) (M : Mem) (H : Heap) (locs : List Loc) (ls : Array Slot), f_X3_meetAll_L10  n v0 v1 v2 v3 M = some r → Hp D ca nx A s M H locs → lv_has ls 5 [(0, .ref v0), (1, .ref v1), (2, .int v2), (3, .int v3)] → W p l e rm_X3_meetAll s m args below meth c H locs 0 0 (MQ below (cvV D ca nx A r) args s 0 0 A) (F0 m 10 ls []) := by
    intro  n
    induction n with
    | zero => intro v0 v1 v2 v3 M H locs ls hf; exact nomatch (show (none : Option (Mem)) = some r from hf)
    | succ n ih => intro v0 v1 v2 v3 M H locs ls hf hR hl; exact hB10  (f_X3_meetAll_L10  n) ih v0 v1 v2 v3 M H locs ls hf hR hl
  unfold f_X3_meetAll at hf
  refine lv_aload_n (pc := 0) hx hb dX3_meetAll_0 rfl (lv_at hl 0 rfl) ?_
  refine rg_getr (pc := 1) (C := RX3) (T := TX3) (N := 7) (κ := 3) hx hb hts hK hR hown in_3 rfl (by decide) 2 (by decide) m_144 rfl dX3_meetAll_1 hf (fun a15 hf => ?_)
  refine lv_astore_n (pc := 4) (lv' := [(1, .ref a15), (0, .ref v0)]) hx hb dX3_meetAll_4 rfl hl (by decide) rfl (fun ls hl => ?_)
  refine lv_aload_n (pc := 5) hx hb dX3_meetAll_5 rfl (lv_at hl 0 rfl) ?_
  refine rg_alen (pc := 6) (κ := 13) hx hb hK hR 3 rfl (by decide) dX3_meetAll_6 hf (fun hf => ?_)
  refine nm_i hf (fun x16 hf => ?_)
  refine lv_istore_n (pc := 7) (lv' := [(2, .int x16), (1, .ref a15), (0, .ref v0)]) hx hb dX3_meetAll_7 rfl hl (by decide) rfl (fun ls hl => ?_)
  refine lv_iconst (pc := 8) (v := (0 : Int32)) hx hb dX3_meetAll_8 (by decide) ?_
  refine lv_istore_n (pc := 9) (lv' := [(3, .int (0 : Int32)), (2, .int x16), (1, .ref a15), (0, .ref v0)]) hx hb dX3_meetAll_9 rfl hl (by decide) rfl (fun ls hl => ?_)
  exact hL10 200 v0 a15 x16 (0 : Int32) M _ _ _ hf hR (lv_sub hl [3, 2, 1, 0] rfl)
