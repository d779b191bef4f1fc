-- X3_meetAll
def f_X3_meetAll_b84 (k39 : Nat → Int32 → Int32 → Mem → Option (Mem)) (v0 : Nat) (v1 : Int32) (v2 : Int32) (M : Mem) : Option (Mem) := lt_ (v2 + (1 : Int32)) fun x1 => k39 v0 v1 x1 M
def f_X3_meetAll_b39 (k39 : Nat → Int32 → Int32 → Mem → Option (Mem)) (v0 : Nat) (v1 : Int32) (v2 : Int32) (M : Mem) : Option (Mem) := if v1 ≤ v2 then (some M) else (gd (M.1 v0 = 3) <| rd (mm_r M v0 2) fun a2 => gd (M.1 a2 = 13 ∧ vi_ v2 (mm_N M a2)) <| rd (mm_r M a2 (v2).toNatClampNeg) fun a3 => gd (M.1 a3 = 2) <| bd (f_X2_mayMeet a3 M) fun z4 => if z4.2 = 0 then (f_X3_meetAll_b84 k39 v0 v1 v2 z4.1) else (gd (z4.1.1 v0 = 3) <| bd (f_X3_partnerOf v0 v2 v1 z4.1) fun z5 => if z5.2 = (-1 : Int32) then (f_X3_meetAll_b84 k39 v0 v1 v2 z5.1) else (gd (z5.1.1 v0 = 3) <| rd (mm_r z5.1 v0 2) fun a6 => gd (z5.1.1 a6 = 13 ∧ vi_ v2 (mm_N z5.1 a6)) <| rd (mm_r z5.1 a6 (v2).toNatClampNeg) fun a7 => gd (z5.1.1 v0 = 3) <| rd (mm_r z5.1 v0 2) fun a8 => gd (z5.1.1 a8 = 13 ∧ vi_ z5.2 (mm_N z5.1 a8)) <| rd (mm_r z5.1 a8 (z5.2).toNatClampNeg) fun a9 => gd (z5.1.1 v0 = 3) <| bd (f_X3_meet v0 a7 a9 z5.1) fun z10 => f_X3_meetAll_b84 k39 v0 v1 v2 z10)))
def f_X3_meetAll_L39  : Nat → Nat → Int32 → Int32 → Mem → Option (Mem)
  | 0 => fun _ _ _ _ => none
  | n + 1 => f_X3_meetAll_b39  (f_X3_meetAll_L39  n)
def f_X3_meetAll_b10 (k10 : Nat → Nat → Int32 → Int32 → Mem → Option (Mem)) (v0 : Nat) (v1 : Nat) (v2 : Int32) (v3 : Int32) (M : Mem) : Option (Mem) := if v2 ≤ v3 then (gd (M.1 v0 = 3) <| lt_ ((mm_i M v0 3)) fun x11 => f_X3_meetAll_L39 200 v0 x11 (0 : Int32) M) else (gd (M.1 v1 = 13 ∧ vi_ v3 (mm_N M v1)) <| rd (mm_r M v1 (v3).toNatClampNeg) fun a12 => gd (M.1 a12 = 2) <| lt_ (ms_i M a12 6 (0 : Int32)) fun M13 => lt_ (v3 + (1 : Int32)) fun x14 => k10 v0 v1 v2 x14 M13)
def f_X3_meetAll_L10  : Nat → Nat → Nat → Int32 → Int32 → Mem → Option (Mem)
  | 0 => fun _ _ _ _ _ => none
  | n + 1 => f_X3_meetAll_b10  (f_X3_meetAll_L10  n)
def f_X3_meetAll (v0 : Nat) (M : Mem) : Option (Mem) := gd (M.1 v0 = 3) <| rd (mm_r M v0 2) fun a15 => gd (M.1 a15 = 13) <| lt_ ((nI (mm_N M a15))) fun x16 => f_X3_meetAll_L10 200 v0 a15 x16 (0 : Int32) M
abbrev rm_X3_meetAll : Room := { frames := 4, cells := 0, slots := 0, locals := 95 }
theorem hd_X3_meetAll : yX3_meetAll.cls ≠ "java/lang/invoke/MethodHandle" ∧ yX3_meetAll.cls ≠ "java/lang/invoke/VarHandle" ∧ (parseMethodDescriptor yX3_meetAll.desc).map (fun d => d.parameters.length) = some 0 := by decide +kernel
set_option maxHeartbeats 8000000 in
set_option maxRecDepth 100000 in
theorem c_X3_meetAll {l : Launch} {D : va_G} {ca : Nat → ClassId} {b : Nat} {nx : Bool} {v0 : Nat} {M : Mem} {r : Mem} (hf : f_X3_meetAll v0 M = some r) : CtV l yX3_meetAll cX3_meetAll 5 none rm_X3_meetAll D ca b nx [.ref v0] M r 0 0 := by
  intro sz
  refine body_start (Qc := fun A => cvV D ca nx A r) (by decide +kernel) (Nat.le_of_ble_eq_true rfl) ?_
  intro p e s m args below meth c A hC hr hR ls hl
  obtain ⟨hx, hb, hml, hts, hown, hlocks, hXe, hA, hAb, hnm⟩ := id hC
  have hK := hXe.1
  have hl : lv_has ls 5 [(0, .ref v0)] := hl
  have hB84 : ∀ (k39 : Nat → Int32 → Int32 → Mem → Option (Mem)) (hk39 : ∀ (v0 : Nat) (v1 : Int32) (v2 : Int32) (M : Mem) (H : Heap) (locs : List Loc) (ls : Array Slot), k39 v0 v1 v2 M = some r → Hp D ca nx A s M H locs → lv_has ls 5 [(0, .ref v0), (1, .int v1), (2, .int v2)] → W p l e rm_X3_meetAll s m args below meth c H locs 0 0 (MQ below (cvV D ca nx A r) args s 0 0 A) (F0 m 39 ls [])) (v0 : Nat) (v1 : Int32) (v2 : Int32) (M : Mem) (H : Heap) (locs : List Loc) (ls : Array Slot), f_X3_meetAll_b84 k39 v0 v1 v2 M = some r → Hp D ca nx A s M H locs → lv_has ls 5 [(0, .ref v0), (1, .int v1), (2, .int v2)] → W p l e rm_X3_meetAll s m args below meth c H locs 0 0 (MQ below (cvV D ca nx A r) args s 0 0 A) (F0 m 84 ls []) := by
    intro k39 hk39 v0 v1 v2 M H locs ls hf hR hl
    unfold f_X3_meetAll_b84 at hf
    refine rg_iinc (pc := 84) hx hb dX3_meetAll_84 hl (k := 2) rfl rfl (by decide) hf (fun x1 ls hf hl => ?_)
    have hl : lv_has ls 5 [(2, .int x1), (0, .ref v0), (1, .int v1)] := hl
    refine lv_goto (pc := 87) (tgt := 39) hx hb dX3_meetAll_87 (by decide) ?_
    exact hk39 v0 v1 x1 M _ _ _ hf hR (lv_sub hl [1, 2, 0] rfl)
  have hB39 : ∀ (k39 : Nat → Int32 → Int32 → Mem → Option (Mem)) (hk39 : ∀ (v0 : Nat) (v1 : Int32) (v2 : Int32) (M : Mem) (H : Heap) (locs : List Loc) (ls : Array Slot), k39 v0 v1 v2 M = some r → Hp D ca nx A s M H locs → lv_has ls 5 [(0, .ref v0), (1, .int v1), (2, .int v2)] → W p l e rm_X3_meetAll s m args below meth c H locs 0 0 (MQ below (cvV D ca nx A r) args s 0 0 A) (F0 m 39 ls [])) (v0 : Nat) (v1 : Int32) (v2 : Int32) (M : Mem) (H : Heap) (locs : List Loc) (ls : Array Slot), f_X3_meetAll_b39 k39 v0 v1 v2 M = some r → Hp D ca nx A s M H locs → lv_has ls 5 [(0, .ref v0), (1, .int v1), (2, .int v2)] → W p l e rm_X3_meetAll s m args below meth c H locs 0 0 (MQ below (cvV D ca nx A r) args s 0 0 A) (F0 m 39 ls []) := by
    intro k39 hk39 v0 v1 v2 M H locs ls hf hR hl
    unfold f_X3_meetAll_b39 at hf
    refine lv_iload_n (pc := 39) hx hb dX3_meetAll_39 rfl (lv_at hl 2 rfl) ?_
    refine lv_iload_n (pc := 40) hx hb dX3_meetAll_40 rfl (lv_at hl 1 rfl) ?_
    refine lv_icmp_ge (pc := 41) (tgt := 90) hx hb dX3_meetAll_41 (by decide) (fun hc => ?_) (fun hc => ?_)
    · replace hf := it_t hf hc
      exact rg_vret (pc := 90) hx hb hlocks hr hf hR dX3_meetAll_90
    · replace hf := it_f hf hc
      refine lv_aload_n (pc := 44) hx hb dX3_meetAll_44 rfl (lv_at hl 0 rfl) ?_
      refine rg_getr (pc := 45) (C := RX3) (T := TX3) (N := 7) (κ := 3) hx hb hts hK hR hown in_3 rfl (by decide) 2 (by decide) m_145 rfl dX3_meetAll_45 hf (fun a2 hf => ?_)
      refine lv_iload_n (pc := 48) hx hb dX3_meetAll_48 rfl (lv_at hl 2 rfl) ?_
      refine rg_aald (pc := 49) (κ := 13) hx hb hK hR 4 rfl (by decide) dX3_meetAll_49 hf (fun a3 hf => ?_)
      obtain ⟨hq, hf⟩ := gd_e hf
      refine rg_I (pc := 50) hf hR hA (fun z hz => rn_V (κ := 2) (As := []) (rest := []) hC hR rfl (by decide) hq (c_X2_mayMeet  hz _) m_478 m_479 m_480 m_5 m_481 hd_X2_mayMeet ⟨rfl, rfl, Nat.le_of_ble_eq_true rfl, Nat.le_of_ble_eq_true rfl⟩ rfl hl.1 rfl (Nat.le_of_ble_eq_true rfl) dX3_meetAll_50 ⟨Nat.le_of_ble_eq_true rfl, Nat.le_of_ble_eq_true rfl⟩) (fun z4 H locs hf hR => ?_)
      refine lv_if_eq (pc := 53) (tgt := 84) hx hb dX3_meetAll_53 (by decide) (fun hc => ?_) (fun hc => ?_)
      · replace hf := it_t hf hc
        exact hB84 k39 hk39 v0 v1 v2 z4.1 _ _ _ hf hR (lv_sub hl [0, 1, 2] rfl)
      · replace hf := it_f hf hc
        refine lv_aload_n (pc := 56) hx hb dX3_meetAll_56 rfl (lv_at hl 0 rfl) ?_
        refine lv_iload_n (pc := 57) hx hb dX3_meetAll_57 rfl (lv_at hl 2 rfl) ?_
        refine lv_iload_n (pc := 58) hx hb dX3_meetAll_58 rfl (lv_at hl 1 rfl) ?_
        obtain ⟨hq, hf⟩ := gd_e hf
        refine rg_I (pc := 59) hf hR hA (fun z hz => rn_V (κ := 3) (As := [.int v2, .int v1]) (rest := []) hC hR rfl (by decide) hq (c_X3_partnerOf  hz _) m_482 m_484 ms_4 m_2 m_485 hd_X3_partnerOf ⟨rfl, rfl, Nat.le_of_ble_eq_true rfl, Nat.le_of_ble_eq_true rfl⟩ rfl hl.1 rfl (Nat.le_of_ble_eq_true rfl) dX3_meetAll_59 ⟨Nat.le_of_ble_eq_true rfl, Nat.le_of_ble_eq_true rfl⟩) (fun z5 H locs hf hR => ?_)
        refine lv_istore_n (pc := 62) (lv' := [(3, .int z5.2), (0, .ref v0), (1, .int v1), (2, .int v2)]) hx hb dX3_meetAll_62 rfl hl (by decide) rfl (fun ls hl => ?_)
        refine lv_iload_n (pc := 63) hx hb dX3_meetAll_63 rfl (lv_at hl 0 rfl) ?_
        refine lv_iconst (pc := 64) (v := (-1 : Int32)) hx hb dX3_meetAll_64 (by decide) ?_
        refine lv_icmp_eq (pc := 65) (tgt := 84) hx hb dX3_meetAll_65 (by decide) (fun hc => ?_) (fun hc => ?_)
        · replace hf := it_t hf hc
          exact hB84 k39 hk39 v0 v1 v2 z5.1 _ _ _ hf hR (lv_sub hl [1, 2, 3] rfl)
        · replace hf := it_f hf hc
          refine lv_aload_n (pc := 68) hx hb dX3_meetAll_68 rfl (lv_at hl 1 rfl) ?_
          refine lv_aload_n (pc := 69) hx hb dX3_meetAll_69 rfl (lv_at hl 1 rfl) ?_
          refine rg_getr (pc := 70) (C := RX3) (T := TX3) (N := 7) (κ := 3) hx hb hts hK hR hown in_3 rfl (by decide) 2 (by decide) m_145 rfl dX3_meetAll_70 hf (fun a6 hf => ?_)
          refine lv_iload_n (pc := 73) hx hb dX3_meetAll_73 rfl (lv_at hl 3 rfl) ?_
          refine rg_aald (pc := 74) (κ := 13) hx hb hK hR 4 rfl (by decide) dX3_meetAll_74 hf (fun a7 hf => ?_)
          refine lv_aload_n (pc := 75) hx hb dX3_meetAll_75 rfl (lv_at hl 1 rfl) ?_
          refine rg_getr (pc := 76) (C := RX3) (T := TX3) (N := 7) (κ := 3) hx hb hts hK hR hown in_3 rfl (by decide) 2 (by decide) m_145 rfl dX3_meetAll_76 hf (fun a8 hf => ?_)
          refine lv_iload_n (pc := 79) hx hb dX3_meetAll_79 rfl (lv_at hl 0 rfl) ?_
          refine rg_aald (pc := 80) (κ := 13) hx hb hK hR 4 rfl (by decide) dX3_meetAll_80 hf (fun a9 hf => ?_)
          obtain ⟨hq, hf⟩ := gd_e hf
          refine rg_V (pc := 81) hf hR hA (fun z hz => rn_V (κ := 3) (As := [.ref a7, .ref a9]) (rest := []) hC hR rfl (by decide) hq (c_X3_meet  hz _) m_486 m_488 ms_5 m_2 m_489 hd_X3_meet ⟨rfl, rfl, Nat.le_of_ble_eq_true rfl, Nat.le_of_ble_eq_true rfl⟩ rfl hl.1 rfl (Nat.le_of_ble_eq_true rfl) dX3_meetAll_81 ⟨Nat.le_of_ble_eq_true rfl, Nat.le_of_ble_eq_true rfl⟩) (fun z10 H locs hf hR => ?_)
          exact hB84 k39 hk39 v0 v1 v2 z10 _ _ _ hf hR (lv_sub hl [1, 2, 3] rfl)
  have hL39 : ∀  (n : Nat) (v0 : Nat) (v1 : Int32) (v2 : Int32) (M : Mem) (H : Heap) (locs : List Loc) (ls : Array Slot), f_X3_meetAll_L39  n v0 v1 v2 M = some r → Hp D ca nx A s M H locs → lv_has ls 5 [(0, .ref v0), (1, .int v1), (2, .int v2)] → W p l e rm_X3_meetAll s m args below meth c H locs 0 0 (MQ below (cvV D ca nx A r) args s 0 0 A) (F0 m 39 ls []) := by
    intro  n
    induction n with
    | zero => intro v0 v1 v2 M H locs ls hf; exact nomatch (show (none : Option (Mem)) = some r from hf)
    | succ n ih => intro v0 v1 v2 M H locs ls hf hR hl; exact hB39  (f_X3_meetAll_L39  n) ih v0 v1 v2 M H locs ls hf hR hl
  have hB10 : ∀ (k10 : Nat → Nat → Int32 → Int32 → Mem → Option (Mem)) (hk10 : ∀ (v0 : Nat) (v1 : Nat) (v2 : Int32) (v3 : Int32) (M : Mem) (H : Heap) (locs : List Loc) (ls : Array Slot), k10 v0 v1 v2 v3 M = some r → Hp D ca nx A s M H locs → lv_has ls 5 [(0, .ref v0), (1, .ref v1), (2, .int v2), (3, .int v3)] → W p l e rm_X3_meetAll s m args below meth c H locs 0 0 (MQ below (cvV D ca nx A r) args s 0 0 A) (F0 m 10 ls [])) (v0 : Nat) (v1 : Nat) (v2 : Int32) (v3 : Int32) (M : Mem) (H : Heap) (locs : List Loc) (ls : Array Slot), f_X3_meetAll_b10 k10 v0 v1 v2 v3 M = some r → Hp D ca nx A s M H locs → lv_has ls 5 [(0, .ref v0), (1, .ref v1), (2, .int v2), (3, .int v3)] → W p l e rm_X3_meetAll s m args below meth c H locs 0 0 (MQ below (cvV D ca nx A r) args s 0 0 A) (F0 m 10 ls []) := by
    intro k10 hk10 v0 v1 v2 v3 M H locs ls hf hR hl
    unfold f_X3_meetAll_b10 at hf
    refine lv_iload_n (pc := 10) hx hb dX3_meetAll_10 rfl (lv_at hl 3 rfl) ?_
    refine lv_iload_n (pc := 11) hx hb dX3_meetAll_11 rfl (lv_at hl 2 rfl) ?_
    refine lv_icmp_ge (pc := 12) (tgt := 32) hx hb dX3_meetAll_12 (by decide) (fun hc => ?_) (fun hc => ?_)
    · replace hf := it_t hf hc
      refine lv_aload_n (pc := 32) hx hb dX3_meetAll_32 rfl (lv_at hl 0 rfl) ?_
      refine rg_get (pc := 33) (C := RX3) (T := TX3) (N := 7) (κ := 3) (v := .int (mm_i M v0 3)) hx hb hts hK hR hown in_3 rfl (by decide) 3 (by decide) m_147 rfl dX3_meetAll_33 hf (fun hf => ?_)
      refine nm_i hf (fun x11 hf => ?_)
      refine lv_istore_n (pc := 36) (lv' := [(1, .int x11), (0, .ref v0), (2, .int v2), (3, .int v3)]) hx hb dX3_meetAll_36 rfl hl (by decide) rfl (fun ls hl => ?_)
      refine lv_iconst (pc := 37) (v := (0 : Int32)) hx hb dX3_meetAll_37 (by decide) ?_
      refine lv_istore_n (pc := 38) (lv' := [(2, .int (0 : Int32)), (1, .int x11), (0, .ref v0), (3, .int v3)]) hx hb dX3_meetAll_38 rfl hl (by decide) rfl (fun ls hl => ?_)
      exact hL39 200 v0 x11 (0 : Int32) M _ _ _ hf hR (lv_sub hl [2, 1, 0] rfl)
    · replace hf := it_f hf hc
      refine lv_aload_n (pc := 15) hx hb dX3_meetAll_15 rfl (lv_at hl 1 rfl) ?_
      refine lv_iload_n (pc := 16) hx hb dX3_meetAll_16 rfl (lv_at hl 3 rfl) ?_
      refine rg_aald (pc := 17) (κ := 13) hx hb hK hR 4 rfl (by decide) dX3_meetAll_17 hf (fun a12 hf => ?_)
      refine lv_astore (pc := 18) (lv' := [(4, .ref a12), (0, .ref v0), (1, .ref v1), (2, .int v2), (3, .int v3)]) hx hb dX3_meetAll_18 hl (by decide) rfl (fun ls hl => ?_)
      refine lv_aload (pc := 20) hx hb dX3_meetAll_20 (lv_at hl 0 rfl) ?_
      refine lv_iconst (pc := 22) (v := (0 : Int32)) hx hb dX3_meetAll_22 (by decide) ?_
      refine rg_puti (pc := 23) (C := RX2) (T := TX2) (N := 7) (κ := 2) hx hb hts hK hR hown in_2 rfl (by decide) 6 (by decide) m_125 tyX2 tyX2_ok nmX2 rfl rfl rfl rfl dX3_meetAll_23 hf (fun M13 H locs hf hR => ?_)
      refine rg_iinc (pc := 26) hx hb dX3_meetAll_26 hl (k := 4) rfl rfl (by decide) hf (fun x14 ls hf hl => ?_)
      have hl : lv_has ls 5 [(3, .int x14), (4, .ref a12), (0, .ref v0), (1, .ref v1), (2, .int v2)] := hl
      refine lv_goto (pc := 29) (tgt := 10) hx hb dX3_meetAll_29 (by decide) ?_
      exact hk10 v0 v1 v2 x14 M13 _ _ _ hf hR (lv_sub hl [2, 3, 4, 0] rfl)
  have hL10 : ∀  (n : Nat) (v0 : Nat) (v1 : Nat) (v2 : Int32) (v3 : Int32) (M : Mem) (H : Heap) (locs : List Loc) (ls : Array Slot), f_X3_meetAll_L10  n v0 v1 v2 v3 M = some r → Hp D ca nx A s M H locs → lv_has ls 5 [(0, .ref v0), (1, .ref v1), (2, .int v2), (3, .int v3)] → W p l e rm_X3_meetAll s m args below meth c H locs 0 0 (MQ below (cvV D ca nx A r) args s 0 0 A) (F0 m 10 ls []) := by
    intro  n
    induction n with
    | zero => intro v0 v1 v2 v3 M H locs ls hf; exact nomatch (show (none : Option (Mem)) = some r from hf)
    | succ n ih => intro v0 v1 v2 v3 M H locs ls hf hR hl; exact hB10  (f_X3_meetAll_L10  n) ih v0 v1 v2 v3 M H locs ls hf hR hl
  unfold f_X3_meetAll at hf
  refine lv_aload_n (pc := 0) hx hb dX3_meetAll_0 rfl (lv_at hl 0 rfl) ?_
  refine rg_getr (pc := 1) (C := RX3) (T := TX3) (N := 7) (κ := 3) hx hb hts hK hR hown in_3 rfl (by decide) 2 (by decide) m_145 rfl dX3_meetAll_1 hf (fun a15 hf => ?_)
  refine lv_astore_n (pc := 4) (lv' := [(1, .ref a15), (0, .ref v0)]) hx hb dX3_meetAll_4 rfl hl (by decide) rfl (fun ls hl => ?_)
  refine lv_aload_n (pc := 5) hx hb dX3_meetAll_5 rfl (lv_at hl 0 rfl) ?_
  refine rg_alen (pc := 6) (κ := 13) hx hb hK hR 4 rfl (by decide) dX3_meetAll_6 hf (fun hf => ?_)
  refine nm_i hf (fun x16 hf => ?_)
  refine lv_istore_n (pc := 7) (lv' := [(2, .int x16), (1, .ref a15), (0, .ref v0)]) hx hb dX3_meetAll_7 rfl hl (by decide) rfl (fun ls hl => ?_)
  refine lv_iconst (pc := 8) (v := (0 : Int32)) hx hb dX3_meetAll_8 (by decide) ?_
  refine lv_istore_n (pc := 9) (lv' := [(3, .int (0 : Int32)), (2, .int x16), (1, .ref a15), (0, .ref v0)]) hx hb dX3_meetAll_9 rfl hl (by decide) rfl (fun ls hl => ?_)
  exact hL10 200 v0 a15 x16 (0 : Int32) M _ _ _ hf hR (lv_sub hl [3, 2, 1, 0] rfl)
-- X3_darken
def f_X3_darken_b46 (k10 : Nat → Int32 → Int32 → Mem → Option (Mem)) (v1 : Nat) (v2 : Int32) (v3 : Int32) (M : Mem) : Option (Mem) := lt_ (v3 + (1 : Int32)) fun x1 => k10 v1 v2 x1 M
def f_X3_darken_b10 (k10 : Nat → Int32 → Int32 → Mem → Option (Mem)) (v1 : Nat) (v2 : Int32) (v3 : Int32) (M : Mem) : Option (Mem) := if v2 ≤ v3 then (some M) else (gd (M.1 v1 = 13 ∧ vi_ v3 (mm_N M v1)) <| rd (mm_r M v1 (v3).toNatClampNeg) fun a2 => gd (M.1 a2 = 2) <| if (mm_i M a2 5) = 0 then (f_X3_darken_b46 k10 v1 v2 v3 M) else (gd (M.1 a2 = 2) <| gd (M.1 a2 = 2) <| lt_ (ms_i M a2 4 (if (1000 : Int32) < ((mm_i M a2 4) + (1 : Int32)) then (1000 : Int32) else ((mm_i M a2 4) + (1 : Int32)))) fun M3 => f_X3_darken_b46 k10 v1 v2 v3 M3))
def f_X3_darken_L10  : Nat → Nat → Int32 → Int32 → Mem → Option (Mem)
  | 0 => fun _ _ _ _ => none
  | n + 1 => f_X3_darken_b10  (f_X3_darken_L10  n)
def f_X3_darken (v0 : Nat) (M : Mem) : Option (Mem) := gd (M.1 v0 = 3) <| rd (mm_r M v0 2) fun a4 => gd (M.1 a4 = 13) <| lt_ ((nI (mm_N M a4))) fun x5 => f_X3_darken_L10 200 a4 x5 (0 : Int32) M
abbrev rm_X3_darken : Room := { frames := 1, cells := 0, slots := 0, locals := 24 }
theorem hd_X3_darken : yX3_darken.cls ≠ "java/lang/invoke/MethodHandle" ∧ yX3_darken.cls ≠ "java/lang/invoke/VarHandle" ∧ (parseMethodDescriptor yX3_darken.desc).map (fun d => d.parameters.length) = some 0 := by decide +kernel
set_option maxHeartbeats 8000000 in
set_option maxRecDepth 100000 in
theorem c_X3_darken {l : Launch} {D : va_G} {ca : Nat → ClassId} {b : Nat} {nx : Bool} {v0 : Nat} {M : Mem} {r : Mem} (hf : f_X3_darken v0 M = some r) : CtV l yX3_darken cX3_darken 5 none rm_X3_darken D ca b nx [.ref v0] M r 0 0 := by
  intro sz
  refine body_start (Qc := fun A => cvV D ca nx A r) (by decide +kernel) (Nat.le_of_ble_eq_true rfl) ?_
  intro p e s m args below meth c A hC hr hR ls hl
  obtain ⟨hx, hb, hml, hts, hown, hlocks, hXe, hA, hAb, hnm⟩ := id hC
  have hK := hXe.1
  have hl : lv_has ls 5 [(0, .ref v0)] := hl
  have hB46 : ∀ (k10 : Nat → Int32 → Int32 → Mem → Option (Mem)) (hk10 : ∀ (v1 : Nat) (v2 : Int32) (v3 : Int32) (M : Mem) (H : Heap) (locs : List Loc) (ls : Array Slot), k10 v1 v2 v3 M = some r → Hp D ca nx A s M H locs → lv_has ls 5 [(1, .ref v1), (2, .int v2), (3, .int v3)] → W p l e rm_X3_darken s m args below meth c H locs 0 0 (MQ below (cvV D ca nx A r) args s 0 0 A) (F0 m 10 ls [])) (v1 : Nat) (v2 : Int32) (v3 : Int32) (M : Mem) (H : Heap) (locs : List Loc) (ls : Array Slot), f_X3_darken_b46 k10 v1 v2 v3 M = some r → Hp D ca nx A s M H locs → lv_has ls 5 [(1, .ref v1), (2, .int v2), (3, .int v3)] → W p l e rm_X3_darken s m args below meth c H locs 0 0 (MQ below (cvV D ca nx A r) args s 0 0 A) (F0 m 46 ls []) := by
    intro k10 hk10 v1 v2 v3 M H locs ls hf hR hl
    unfold f_X3_darken_b46 at hf
    refine rg_iinc (pc := 46) hx hb dX3_darken_46 hl (k := 2) rfl rfl (by decide) hf (fun x1 ls hf hl => ?_)
    have hl : lv_has ls 5 [(3, .int x1), (1, .ref v1), (2, .int v2)] := hl
    refine lv_goto (pc := 49) (tgt := 10) hx hb dX3_darken_49 (by decide) ?_
    exact hk10 v1 v2 x1 M _ _ _ hf hR (lv_sub hl [1, 2, 0] rfl)
  have hB10 : ∀ (k10 : Nat → Int32 → Int32 → Mem → Option (Mem)) (hk10 : ∀ (v1 : Nat) (v2 : Int32) (v3 : Int32) (M : Mem) (H : Heap) (locs : List Loc) (ls : Array Slot), k10 v1 v2 v3 M = some r → Hp D ca nx A s M H locs → lv_has ls 5 [(1, .ref v1), (2, .int v2), (3, .int v3)] → W p l e rm_X3_darken s m args below meth c H locs 0 0 (MQ below (cvV D ca nx A r) args s 0 0 A) (F0 m 10 ls [])) (v1 : Nat) (v2 : Int32) (v3 : Int32) (M : Mem) (H : Heap) (locs : List Loc) (ls : Array Slot), f_X3_darken_b10 k10 v1 v2 v3 M = some r → Hp D ca nx A s M H locs → lv_has ls 5 [(1, .ref v1), (2, .int v2), (3, .int v3)] → W p l e rm_X3_darken s m args below meth c H locs 0 0 (MQ below (cvV D ca nx A r) args s 0 0 A) (F0 m 10 ls []) := by
    intro k10 hk10 v1 v2 v3 M H locs ls hf hR hl
    unfold f_X3_darken_b10 at hf
    refine lv_iload_n (pc := 10) hx hb dX3_darken_10 rfl (lv_at hl 2 rfl) ?_
    refine lv_iload_n (pc := 11) hx hb dX3_darken_11 rfl (lv_at hl 1 rfl) ?_
    refine lv_icmp_ge (pc := 12) (tgt := 52) hx hb dX3_darken_12 (by decide) (fun hc => ?_) (fun hc => ?_)
    · replace hf := it_t hf hc
      exact rg_vret (pc := 52) hx hb hlocks hr hf hR dX3_darken_52
    · replace hf := it_f hf hc
      refine lv_aload_n (pc := 15) hx hb dX3_darken_15 rfl (lv_at hl 0 rfl) ?_
      refine lv_iload_n (pc := 16) hx hb dX3_darken_16 rfl (lv_at hl 2 rfl) ?_
      refine rg_aald (pc := 17) (κ := 13) hx hb hK hR 4 rfl (by decide) dX3_darken_17 hf (fun a2 hf => ?_)
      refine lv_astore (pc := 18) (lv' := [(4, .ref a2), (1, .ref v1), (2, .int v2), (3, .int v3)]) hx hb dX3_darken_18 hl (by decide) rfl (fun ls hl => ?_)
      refine lv_aload (pc := 20) hx hb dX3_darken_20 (lv_at hl 0 rfl) ?_
      refine rg_get (pc := 22) (C := RX2) (T := TX2) (N := 7) (κ := 2) (v := .int (mm_i M a2 5)) hx hb hts hK hR hown in_2 rfl (by decide) 5 (by decide) m_121 rfl dX3_darken_22 hf (fun hf => ?_)
      refine lv_if_eq (pc := 25) (tgt := 46) hx hb dX3_darken_25 (by decide) (fun hc => ?_) (fun hc => ?_)
      · replace hf := it_t hf hc
        exact hB46 k10 hk10 v1 v2 v3 M _ _ _ hf hR (lv_sub hl [1, 2, 3] rfl)
      · replace hf := it_f hf hc
        refine lv_aload (pc := 28) hx hb dX3_darken_28 (lv_at hl 0 rfl) ?_
        refine lv_aload (pc := 30) hx hb dX3_darken_30 (lv_at hl 0 rfl) ?_
        refine rg_get (pc := 32) (C := RX2) (T := TX2) (N := 7) (κ := 2) (v := .int (mm_i M a2 4)) hx hb hts hK hR hown in_2 rfl (by decide) 4 (by decide) m_119 rfl dX3_darken_32 hf (fun hf => ?_)
        refine lv_iconst (pc := 35) (v := (1 : Int32)) hx hb dX3_darken_35 (by decide) ?_
        refine lv_iadd (pc := 36) hx hb dX3_darken_36 ?_
        refine lv_sipush (pc := 37) (v := (1000 : Int32)) hx hb dX3_darken_37 (by decide) ?_
        refine va_mmin (pc := 40) hx hb (hml.trans hl.1.symm) hown (hts _ m_473) (hts _ m_467) (hts _ m_15) (hts _ m_468) (Nat.le_of_ble_eq_true rfl) (Nat.le_of_ble_eq_true rfl) (Nat.le_of_ble_eq_true rfl) (Nat.le_of_ble_eq_true rfl) dX3_darken_40 ?_
        refine rg_puti (pc := 43) (C := RX2) (T := TX2) (N := 7) (κ := 2) hx hb hts hK hR hown in_2 rfl (by decide) 4 (by decide) m_119 tyX2 tyX2_ok nmX2 rfl rfl rfl rfl dX3_darken_43 hf (fun M3 H locs hf hR => ?_)
        exact hB46 k10 hk10 v1 v2 v3 M3 _ _ _ hf hR (lv_sub hl [1, 2, 3] rfl)
  have hL10 : ∀  (n : Nat) (v1 : Nat) (v2 : Int32) (v3 : Int32) (M : Mem) (H : Heap) (locs : List Loc) (ls : Array Slot), f_X3_darken_L10  n v1 v2 v3 M = some r → Hp D ca nx A s M H locs → lv_has ls 5 [(1, .ref v1), (2, .int v2), (3, .int v3)] → W p l e rm_X3_darken s m args below meth c H locs 0 0 (MQ below (cvV D ca nx A r) args s 0 0 A) (F0 m 10 ls []) := by
    intro  n
    induction n with
    | zero => intro v1 v2 v3 M H locs ls hf; exact nomatch (show (none : Option (Mem)) = some r from hf)
    | succ n ih => intro v1 v2 v3 M H locs ls hf hR hl; exact hB10  (f_X3_darken_L10  n) ih v1 v2 v3 M H locs ls hf hR hl
  unfold f_X3_darken at hf
  refine lv_aload_n (pc := 0) hx hb dX3_darken_0 rfl (lv_at hl 0 rfl) ?_
  refine rg_getr (pc := 1) (C := RX3) (T := TX3) (N := 7) (κ := 3) hx hb hts hK hR hown in_3 rfl (by decide) 2 (by decide) m_145 rfl dX3_darken_1 hf (fun a4 hf => ?_)
  refine lv_astore_n (pc := 4) (lv' := [(1, .ref a4), (0, .ref v0)]) hx hb dX3_darken_4 rfl hl (by decide) rfl (fun ls hl => ?_)
  refine lv_aload_n (pc := 5) hx hb dX3_darken_5 rfl (lv_at hl 0 rfl) ?_
  refine rg_alen (pc := 6) (κ := 13) hx hb hK hR 4 rfl (by decide) dX3_darken_6 hf (fun hf => ?_)
  refine nm_i hf (fun x5 hf => ?_)
  refine lv_istore_n (pc := 7) (lv' := [(2, .int x5), (1, .ref a4), (0, .ref v0)]) hx hb dX3_darken_7 rfl hl (by decide) rfl (fun ls hl => ?_)
  refine lv_iconst (pc := 8) (v := (0 : Int32)) hx hb dX3_darken_8 (by decide) ?_
  refine lv_istore_n (pc := 9) (lv' := [(3, .int (0 : Int32)), (2, .int x5), (1, .ref a4), (0, .ref v0)]) hx hb dX3_darken_9 rfl hl (by decide) rfl (fun ls hl => ?_)
  exact hL10 200 a4 x5 (0 : Int32) M _ _ _ hf hR (lv_sub hl [2, 1, 0] rfl)
-- X7_requireRange
def f_X7_requireRange_b10   (M : Mem) : Option (Mem × (Unit ⊕ Nat)) := some (M, .inr 0)
def f_X7_requireRange (v0 : Int32) (v1 : Int32) (v2 : Int32) (M : Mem) : Option (Mem × (Unit ⊕ Nat)) := if v0 < v1 then (f_X7_requireRange_b10  M) else (if v0 ≤ v2 then (some (M, .inl ())) else (f_X7_requireRange_b10  M))
abbrev rm_X7_requireRange : Room := { frames := 6, cells := 1, slots := 6, locals := 90 }
theorem hd_X7_requireRange : yX7_requireRange.cls ≠ "java/lang/invoke/MethodHandle" ∧ yX7_requireRange.cls ≠ "java/lang/invoke/VarHandle" ∧ (parseMethodDescriptor yX7_requireRange.desc).map (fun d => d.parameters.length) = some 3 := by decide +kernel
set_option maxHeartbeats 8000000 in
set_option maxRecDepth 100000 in
theorem c_X7_requireRange {l : Launch} (hlt : l.stackTraces = false) {D : va_G} {ca : Nat → ClassId} {b : Nat} {v0 : Int32} {v1 : Int32} {v2 : Int32} {M : Mem} {r : Mem × (Unit ⊕ Nat)} (hf : f_X7_requireRange v0 v1 v2 M = some r) : CxV l yX7_requireRange cX7_requireRange 3 none rm_X7_requireRange D ca b [.int v0, .int v1, .int v2] M r 1 6 := by
  intro sz
  refine bodyx_start (nx := false) (Qc := fun A => cxV D ca A r) (XC := fun A => cxX D ca A r) (by decide +kernel) (Nat.le_of_ble_eq_true rfl) ?_
  intro p e s m args below meth c A hC htab hr hR ls hl
  obtain ⟨hx, hb, hml, hts, hown, hlocks, hXe, hA, hAb, hnm⟩ := id hC
  have hK := hXe.1
  have hl : lv_has ls 3 [(0, .int v0), (1, .int v1), (2, .int v2)] := hl
  have hB10 : ∀   (M : Mem) (H : Heap) (locs : List Loc) (ls : Array Slot), f_X7_requireRange_b10   M = some r → Hp D ca false A s M H locs → lv_has ls 3 [] → W p l e rm_X7_requireRange s m args below meth c H locs 0 0 (vx_MQ below (cxV D ca A r) (cxX D ca A r) args s 1 6 A) (F0 m 10 ls []) := by
    intro   M H locs ls hf hR hl
    unfold f_X7_requireRange_b10 at hf
    exact rg_thrW (pc := 10) 0 (by decide) hC htab hlt hl.1 rfl m_305 (is := 264) (text := "an argument is out of its range") (by decide +kernel) hf hR dX7_requireRange_10 dX7_requireRange_13 dX7_requireRange_14 dX7_requireRange_17 dX7_requireRange_20 (Nat.le_of_ble_eq_true rfl) (Nat.le_of_ble_eq_true rfl) (Nat.le_of_ble_eq_true rfl) (Nat.le_of_ble_eq_true rfl) (by show 1 ≤ 1; decide) (by show 6 ≤ 6; decide)
  unfold f_X7_requireRange at hf
  refine lv_iload_n (pc := 0) hx hb dX7_requireRange_0 rfl (lv_at hl 0 rfl) ?_
  refine lv_iload_n (pc := 1) hx hb dX7_requireRange_1 rfl (lv_at hl 1 rfl) ?_
  refine lv_icmp_lt (pc := 2) (tgt := 10) hx hb dX7_requireRange_2 (by decide) (fun hc => ?_) (fun hc => ?_)
  · replace hf := it_t hf hc
    exact hB10  M _ _ _ hf hR (lv_sub hl [] rfl)
  · replace hf := it_f hf hc
    refine lv_iload_n (pc := 5) hx hb dX7_requireRange_5 rfl (lv_at hl 0 rfl) ?_
    refine lv_iload_n (pc := 6) hx hb dX7_requireRange_6 rfl (lv_at hl 2 rfl) ?_
    refine lv_icmp_le (pc := 7) (tgt := 21) hx hb dX7_requireRange_7 (by decide) (fun hc => ?_) (fun hc => ?_)
    · replace hf := it_t hf hc
      exact rg_xvret (pc := 21) hx hb hlocks hr hf hR (by show 0 ≤ 1; decide) (by show 0 ≤ 6; decide) dX7_requireRange_21
    · replace hf := it_f hf hc
      exact hB10  M _ _ _ hf hR (lv_sub hl [] rfl)
-- X7_requireLane
def f_X7_requireLane (v0 : Int32) (M : Mem) : Option (Mem × (Unit ⊕ Nat)) := bx (f_X7_requireRange v0 (0 : Int32) (63 : Int32) M) fun M1 _ => some (M1, .inl ())
abbrev rm_X7_requireLane : Room := { frames := 7, cells := 1, slots := 6, locals := 112 }
theorem hd_X7_requireLane : yX7_requireLane.cls ≠ "java/lang/invoke/MethodHandle" ∧ yX7_requireLane.cls ≠ "java/lang/invoke/VarHandle" ∧ (parseMethodDescriptor yX7_requireLane.desc).map (fun d => d.parameters.length) = some 1 := by decide +kernel
set_option maxHeartbeats 8000000 in
set_option maxRecDepth 100000 in
theorem c_X7_requireLane {l : Launch} (hlt : l.stackTraces = false) {D : va_G} {ca : Nat → ClassId} {b : Nat} {v0 : Int32} {M : Mem} {r : Mem × (Unit ⊕ Nat)} (hf : f_X7_requireLane v0 M = some r) : CxV l yX7_requireLane cX7_requireLane 1 none rm_X7_requireLane D ca b [.int v0] M r 1 6 := by
  intro sz
  refine bodyx_start (nx := false) (Qc := fun A => cxV D ca A r) (XC := fun A => cxX D ca A r) (by decide +kernel) (Nat.le_of_ble_eq_true rfl) ?_
  intro p e s m args below meth c A hC htab hr hR ls hl
  obtain ⟨hx, hb, hml, hts, hown, hlocks, hXe, hA, hAb, hnm⟩ := id hC
  have hK := hXe.1
  have hl : lv_has ls 1 [(0, .int v0)] := hl
  unfold f_X7_requireLane at hf
  refine lv_iload_n (pc := 0) hx hb dX7_requireLane_0 rfl (lv_at hl 0 rfl) ?_
  refine lv_iconst (pc := 1) (v := (0 : Int32)) hx hb dX7_requireLane_1 (by decide) ?_
  refine lv_bipush (pc := 2) (v := (63 : Int32)) hx hb dX7_requireLane_2 (by decide) ?_
  refine rg_xV (pc := 4) hf hR hA htab hlocks (by show 1 ≤ 1; decide) (by show 6 ≤ 6; decide) (fun z hz => xn_S (As := [.int v0, .int (0 : Int32), .int (63 : Int32)]) (rest := []) hC hR (c_X7_requireRange hlt hz _) m_302 m_303 m_1 m_304 hd_X7_requireRange ⟨rfl, rfl, Nat.le_of_ble_eq_true rfl, Nat.le_of_ble_eq_true rfl⟩ rfl hl.1 rfl (Nat.le_of_ble_eq_true rfl) dX7_requireLane_4 ⟨Nat.le_of_ble_eq_true rfl, Nat.le_of_ble_eq_true rfl⟩) (fun M1 H locs hf hR => ?_)
  exact rg_xvret (pc := 7) hx hb hlocks hr hf hR (by show 1 ≤ 1; decide) (by show 6 ≤ 6; decide) dX7_requireLane_7
-- X7_requirePlace
def f_X7_requirePlace (v0 : Int32) (v1 : Int32) (v2 : Int32) (M : Mem) : Option (Mem × (Unit ⊕ Nat)) := bx (f_X7_requireLane v0 M) fun M1 _ => bx (f_X7_requireRange v1 (0 : Int32) (35999 : Int32) M1) fun M3 _ => bx (f_X7_requireRange v2 (1 : Int32) (10000 : Int32) M3) fun M5 _ => some (M5, .inl ())
abbrev rm_X7_requirePlace : Room := { frames := 8, cells := 3, slots := 18, locals := 132 }
theorem hd_X7_requirePlace : yX7_requirePlace.cls ≠ "java/lang/invoke/MethodHandle" ∧ yX7_requirePlace.cls ≠ "java/lang/invoke/VarHandle" ∧ (parseMethodDescriptor yX7_requirePlace.desc).map (fun d => d.parameters.length) = some 3 := by decide +kernel
set_option maxHeartbeats 8000000 in
set_option maxRecDepth 100000 in
theorem c_X7_requirePlace {l : Launch} (hlt : l.stackTraces = false) {D : va_G} {ca : Nat → ClassId} {b : Nat} {v0 : Int32} {v1 : Int32} {v2 : Int32} {M : Mem} {r : Mem × (Unit ⊕ Nat)} (hf : f_X7_requirePlace v0 v1 v2 M = some r) : CxV l yX7_requirePlace cX7_requirePlace 3 none rm_X7_requirePlace D ca b [.int v0, .int v1, .int v2] M r 3 18 := by
  intro sz
  refine bodyx_start (nx := false) (Qc := fun A => cxV D ca A r) (XC := fun A => cxX D ca A r) (by decide +kernel) (Nat.le_of_ble_eq_true rfl) ?_
  intro p e s m args below meth c A hC htab hr hR ls hl
  obtain ⟨hx, hb, hml, hts, hown, hlocks, hXe, hA, hAb, hnm⟩ := id hC
  have hK := hXe.1
  have hl : lv_has ls 3 [(0, .int v0), (1, .int v1), (2, .int v2)] := hl
  unfold f_X7_requirePlace at hf
  refine lv_iload_n (pc := 0) hx hb dX7_requirePlace_0 rfl (lv_at hl 0 rfl) ?_
  refine rg_xV (pc := 1) hf hR hA htab hlocks (by show 1 ≤ 3; decide) (by show 6 ≤ 18; decide) (fun z hz => xn_S (As := [.int v0]) (rest := []) hC hR (c_X7_requireLane hlt hz _) m_299 m_300 m_1 m_301 hd_X7_requireLane ⟨rfl, rfl, Nat.le_of_ble_eq_true rfl, Nat.le_of_ble_eq_true rfl⟩ rfl hl.1 rfl (Nat.le_of_ble_eq_true rfl) dX7_requirePlace_1 ⟨Nat.le_of_ble_eq_true rfl, Nat.le_of_ble_eq_true rfl⟩) (fun M1 H locs hf hR => ?_)
  refine lv_iload_n (pc := 4) hx hb dX7_requirePlace_4 rfl (lv_at hl 1 rfl) ?_
  refine lv_iconst (pc := 5) (v := (0 : Int32)) hx hb dX7_requirePlace_5 (by decide) ?_
  refine lv_ldcw (pc := 6) hx hb hown (hts _ m_373) dX7_requirePlace_6 ?_
  refine rg_xV (pc := 9) hf hR hA htab hlocks (by show 2 ≤ 3; decide) (by show 12 ≤ 18; decide) (fun z hz => xn_S (As := [.int v1, .int (0 : Int32), .int (35999 : Int32)]) (rest := []) hC hR (c_X7_requireRange hlt hz _) m_302 m_303 m_1 m_304 hd_X7_requireRange ⟨rfl, rfl, Nat.le_of_ble_eq_true rfl, Nat.le_of_ble_eq_true rfl⟩ rfl hl.1 rfl (Nat.le_of_ble_eq_true rfl) dX7_requirePlace_9 ⟨Nat.le_of_ble_eq_true rfl, Nat.le_of_ble_eq_true rfl⟩) (fun M3 H locs hf hR => ?_)
  refine lv_iload_n (pc := 12) hx hb dX7_requirePlace_12 rfl (lv_at hl 2 rfl) ?_
  refine lv_iconst (pc := 13) (v := (1 : Int32)) hx hb dX7_requirePlace_13 (by decide) ?_
  refine lv_sipush (pc := 14) (v := (10000 : Int32)) hx hb dX7_requirePlace_14 (by decide) ?_
  refine rg_xV (pc := 17) hf hR hA htab hlocks (by show 3 ≤ 3; decide) (by show 18 ≤ 18; decide) (fun z hz => xn_S (As := [.int v2, .int (1 : Int32), .int (10000 : Int32)]) (rest := []) hC hR (c_X7_requireRange hlt hz _) m_302 m_303 m_1 m_304 hd_X7_requireRange ⟨rfl, rfl, Nat.le_of_ble_eq_true rfl, Nat.le_of_ble_eq_true rfl⟩ rfl hl.1 rfl (Nat.le_of_ble_eq_true rfl) dX7_requirePlace_17 ⟨Nat.le_of_ble_eq_true rfl, Nat.le_of_ble_eq_true rfl⟩) (fun M5 H locs hf hR => ?_)
  exact rg_xvret (pc := 20) hx hb hlocks hr hf hR (by show 3 ≤ 3; decide) (by show 18 ≤ 18; decide) dX7_requirePlace_20
-- X7_grain
def f_X7_grain (v0 : Nat) (v1 : Int32) (v2 : Int32) (v3 : Int32) (v4 : Int32) (M : Mem) : Option (Mem × (Int32 ⊕ Nat)) := bx (f_X7_requirePlace v1 v2 v3 M) fun M1 _ => bx (f_X7_requireRange v4 (0 : Int32) (99 : Int32) M1) fun M3 _ => gd (M3.1 v0 = 7) <| rd (mm_r M3 v0 0) fun a5 => gd (M3.1 a5 = 3) <| if (mm_i M3 a5 3) < (80 : Int32) then (gd (M3.1 v0 = 7) <| rd (mm_r M3 v0 0) fun a6 => gd (M3.1 a6 = 3) <| bd (f_X3_put a6 v1 v2 v3 v4 M3) fun z7 => some (z7.1, .inl z7.2)) else (some (M3, .inr 1))
abbrev rm_X7_grain : Room := { frames := 9, cells := 5, slots := 30, locals := 154 }
theorem hd_X7_grain : yX7_grain.cls ≠ "java/lang/invoke/MethodHandle" ∧ yX7_grain.cls ≠ "java/lang/invoke/VarHandle" ∧ (parseMethodDescriptor yX7_grain.desc).map (fun d => d.parameters.length) = some 4 := by decide +kernel
set_option maxHeartbeats 8000000 in
set_option maxRecDepth 100000 in
theorem c_X7_grain {l : Launch} (hlt : l.stackTraces = false) {D : va_G} {ca : Nat → ClassId} {b : Nat} {v0 : Nat} {v1 : Int32} {v2 : Int32} {v3 : Int32} {v4 : Int32} {M : Mem} {r : Mem × (Int32 ⊕ Nat)} (hf : f_X7_grain v0 v1 v2 v3 v4 M = some r) : CxI l yX7_grain cX7_grain 5 (some .int) rm_X7_grain D ca b [.ref v0, .int v1, .int v2, .int v3, .int v4] M r 5 30 := by
  intro sz
  refine bodyx_start (nx := false) (Qc := fun A => cxI D ca A r) (XC := fun A => cxX D ca A r) (by decide +kernel) (Nat.le_of_ble_eq_true rfl) ?_
  intro p e s m args below meth c A hC htab hr hR ls hl
  obtain ⟨hx, hb, hml, hts, hown, hlocks, hXe, hA, hAb, hnm⟩ := id hC
  have hK := hXe.1
  have hl : lv_has ls 5 [(0, .ref v0), (1, .int v1), (2, .int v2), (3, .int v3), (4, .int v4)] := hl
  unfold f_X7_grain at hf
  refine lv_iload_n (pc := 0) hx hb dX7_grain_0 rfl (lv_at hl 1 rfl) ?_
  refine lv_iload_n (pc := 1) hx hb dX7_grain_1 rfl (lv_at hl 2 rfl) ?_
  refine lv_iload_n (pc := 2) hx hb dX7_grain_2 rfl (lv_at hl 3 rfl) ?_
  refine rg_xV (pc := 3) hf hR hA htab hlocks (by show 3 ≤ 5; decide) (by show 18 ≤ 30; decide) (fun z hz => xn_S (As := [.int v1, .int v2, .int v3]) (rest := []) hC hR (c_X7_requirePlace hlt hz _) m_296 m_297 m_1 m_298 hd_X7_requirePlace ⟨rfl, rfl, Nat.le_of_ble_eq_true rfl, Nat.le_of_ble_eq_true rfl⟩ rfl hl.1 rfl (Nat.le_of_ble_eq_true rfl) dX7_grain_3 ⟨Nat.le_of_ble_eq_true rfl, Nat.le_of_ble_eq_true rfl⟩) (fun M1 H locs hf hR => ?_)
  refine lv_iload (pc := 6) hx hb dX7_grain_6 (lv_at hl 4 rfl) ?_
  refine lv_iconst (pc := 8) (v := (0 : Int32)) hx hb dX7_grain_8 (by decide) ?_
  refine lv_bipush (pc := 9) (v := (99 : Int32)) hx hb dX7_grain_9 (by decide) ?_
  refine rg_xV (pc := 11) hf hR hA htab hlocks (by show 4 ≤ 5; decide) (by show 24 ≤ 30; decide) (fun z hz => xn_S (As := [.int v4, .int (0 : Int32), .int (99 : Int32)]) (rest := []) hC hR (c_X7_requireRange hlt hz _) m_302 m_303 m_1 m_304 hd_X7_requireRange ⟨rfl, rfl, Nat.le_of_ble_eq_true rfl, Nat.le_of_ble_eq_true rfl⟩ rfl hl.1 rfl (Nat.le_of_ble_eq_true rfl) dX7_grain_11 ⟨Nat.le_of_ble_eq_true rfl, Nat.le_of_ble_eq_true rfl⟩) (fun M3 H locs hf hR => ?_)
  refine lv_aload_n (pc := 14) hx hb dX7_grain_14 rfl (lv_at hl 0 rfl) ?_
  refine rg_getr (pc := 15) (C := RX7) (T := TX7) (N := 11) (κ := 7) hx hb hts hK hR hown in_7 rfl (by decide) 0 (by decide) m_230 rfl dX7_grain_15 hf (fun a5 hf => ?_)
  refine rg_get (pc := 18) (C := RX3) (T := TX3) (N := 7) (κ := 3) (v := .int (mm_i M3 a5 3)) hx hb hts hK hR hown in_3 rfl (by decide) 3 (by decide) m_148 rfl dX7_grain_18 hf (fun hf => ?_)
  refine lv_bipush (pc := 21) (v := (80 : Int32)) hx hb dX7_grain_21 (by decide) ?_
  refine lv_icmp_lt (pc := 23) (tgt := 36) hx hb dX7_grain_23 (by decide) (fun hc => ?_) (fun hc => ?_)
  · replace hf := it_t hf hc
    refine lv_aload_n (pc := 36) hx hb dX7_grain_36 rfl (lv_at hl 0 rfl) ?_
    refine rg_getr (pc := 37) (C := RX7) (T := TX7) (N := 11) (κ := 7) hx hb hts hK hR hown in_7 rfl (by decide) 0 (by decide) m_230 rfl dX7_grain_37 hf (fun a6 hf => ?_)
    refine lv_iload_n (pc := 40) hx hb dX7_grain_40 rfl (lv_at hl 1 rfl) ?_
    refine lv_iload_n (pc := 41) hx hb dX7_grain_41 rfl (lv_at hl 2 rfl) ?_
    refine lv_iload_n (pc := 42) hx hb dX7_grain_42 rfl (lv_at hl 3 rfl) ?_
    refine lv_iload (pc := 43) hx hb dX7_grain_43 (lv_at hl 4 rfl) ?_
    obtain ⟨hq, hf⟩ := gd_e hf
    refine rg_I (pc := 45) hf hR hA (fun z hz => rn_V (κ := 3) (As := [.int v1, .int v2, .int v3, .int v4]) (rest := []) hC hR rfl (by decide) hq (c_X3_put  hz _) m_390 m_391 m_392 m_2 m_393 hd_X3_put ⟨rfl, rfl, Nat.le_of_ble_eq_true rfl, Nat.le_of_ble_eq_true rfl⟩ rfl hl.1 rfl (Nat.le_of_ble_eq_true rfl) dX7_grain_45 ⟨Nat.le_of_ble_eq_true rfl, Nat.le_of_ble_eq_true rfl⟩) (fun z7 H locs hf hR => ?_)
    exact rg_xiret (pc := 48) hx hb hlocks hr hf hR (by show 4 ≤ 5; decide) (by show 24 ≤ 30; decide) dX7_grain_48
  · replace hf := it_f hf hc
    exact rg_thr (pc := 26) 1 (by decide) hC htab hlt hl.1 rfl m_374 (is := 60) (text := "there were 80 grains") (by decide +kernel) hf hR dX7_grain_26 dX7_grain_29 dX7_grain_30 dX7_grain_32 dX7_grain_35 (Nat.le_of_ble_eq_true rfl) (Nat.le_of_ble_eq_true rfl) (Nat.le_of_ble_eq_true rfl) (Nat.le_of_ble_eq_true rfl) (by show 5 ≤ 5; decide) (by show 30 ≤ 30; decide)
-- X7_widthOf
def f_X7_widthOf_b25  (v1 : Int32) (M : Mem) : Option (Mem × Int32) := some (M, (v1 / (20 : Int32)))
def f_X7_widthOf_b4 (k4 : Int32 → Int32 → Int32 → Mem → Option (Mem × Int32)) (v0 : Int32) (v1 : Int32) (v2 : Int32) (M : Mem) : Option (Mem × Int32) := if (100 : Int32) < v2 then (f_X7_widthOf_b25 v1 M) else (if v0 < (v2 * v2) then (f_X7_widthOf_b25 v1 M) else (lt_ (v2 + (1 : Int32)) fun x1 => k4 v0 v2 x1 M))
def f_X7_widthOf_L4  : Nat → Int32 → Int32 → Int32 → Mem → Option (Mem × Int32)
  | 0 => fun _ _ _ _ => none
  | n + 1 => f_X7_widthOf_b4  (f_X7_widthOf_L4  n)
def f_X7_widthOf (v0 : Int32) (M : Mem) : Option (Mem × Int32) := f_X7_widthOf_L4 200 v0 (0 : Int32) (1 : Int32) M
abbrev rm_X7_widthOf : Room := { frames := 0, cells := 0, slots := 0, locals := 0 }
theorem hd_X7_widthOf : yX7_widthOf.cls ≠ "java/lang/invoke/MethodHandle" ∧ yX7_widthOf.cls ≠ "java/lang/invoke/VarHandle" ∧ (parseMethodDescriptor yX7_widthOf.desc).map (fun d => d.parameters.length) = some 1 := by decide +kernel
set_option maxHeartbeats 8000000 in
set_option maxRecDepth 100000 in
theorem c_X7_widthOf {l : Launch} {D : va_G} {ca : Nat → ClassId} {b : Nat} {nx : Bool} {v0 : Int32} {M : Mem} {r : Mem × Int32} (hf : f_X7_widthOf v0 M = some r) : CtI l yX7_widthOf cX7_widthOf 3 (some .int) rm_X7_widthOf D ca b nx [.int v0] M r := by
  intro sz
  refine body_start (Qc := fun A => cvI D ca nx A r) (by decide +kernel) (Nat.le_of_ble_eq_true rfl) ?_
  intro p e s m args below meth c A hC hr hR ls hl
  obtain ⟨hx, hb, hml, hts, hown, hlocks, hXe, hA, hAb, hnm⟩ := id hC
  have hK := hXe.1
  have hl : lv_has ls 3 [(0, .int v0)] := hl
  have hB25 : ∀  (v1 : Int32) (M : Mem) (H : Heap) (locs : List Loc) (ls : Array Slot), f_X7_widthOf_b25  v1 M = some r → Hp D ca nx A s M H locs → lv_has ls 3 [(1, .int v1)] → W p l e rm_X7_widthOf s m args below meth c H locs 0 0 (MQ below (cvI D ca nx A r) args s 0 0 A) (F0 m 25 ls []) := by
    intro  v1 M H locs ls hf hR hl
    unfold f_X7_widthOf_b25 at hf
    refine lv_iload_n (pc := 25) hx hb dX7_widthOf_25 rfl (lv_at hl 0 rfl) ?_
    refine lv_bipush (pc := 26) (v := (20 : Int32)) hx hb dX7_widthOf_26 (by decide) ?_
    refine lv_idiv (pc := 28) hx hb dX7_widthOf_28 (by decide) ?_
    exact rg_iret (pc := 29) hx hb hlocks hr hf hR dX7_widthOf_29
  have hB4 : ∀ (k4 : Int32 → Int32 → Int32 → Mem → Option (Mem × Int32)) (hk4 : ∀ (v0 : Int32) (v1 : Int32) (v2 : Int32) (M : Mem) (H : Heap) (locs : List Loc) (ls : Array Slot), k4 v0 v1 v2 M = some r → Hp D ca nx A s M H locs → lv_has ls 3 [(0, .int v0), (1, .int v1), (2, .int v2)] → W p l e rm_X7_widthOf s m args below meth c H locs 0 0 (MQ below (cvI D ca nx A r) args s 0 0 A) (F0 m 4 ls [])) (v0 : Int32) (v1 : Int32) (v2 : Int32) (M : Mem) (H : Heap) (locs : List Loc) (ls : Array Slot), f_X7_widthOf_b4 k4 v0 v1 v2 M = some r → Hp D ca nx A s M H locs → lv_has ls 3 [(0, .int v0), (1, .int v1), (2, .int v2)] → W p l e rm_X7_widthOf s m args below meth c H locs 0 0 (MQ below (cvI D ca nx A r) args s 0 0 A) (F0 m 4 ls []) := by
    intro k4 hk4 v0 v1 v2 M H locs ls hf hR hl
    unfold f_X7_widthOf_b4 at hf
    refine lv_iload_n (pc := 4) hx hb dX7_widthOf_4 rfl (lv_at hl 2 rfl) ?_
    refine lv_bipush (pc := 5) (v := (100 : Int32)) hx hb dX7_widthOf_5 (by decide) ?_
    refine lv_icmp_gt (pc := 7) (tgt := 25) hx hb dX7_widthOf_7 (by decide) (fun hc => ?_) (fun hc => ?_)
    · replace hf := it_t hf hc
      exact hB25 v1 M _ _ _ hf hR (lv_sub hl [1] rfl)
    · replace hf := it_f hf hc
      refine lv_iload_n (pc := 10) hx hb dX7_widthOf_10 rfl (lv_at hl 2 rfl) ?_
      refine lv_iload_n (pc := 11) hx hb dX7_widthOf_11 rfl (lv_at hl 2 rfl) ?_
      refine lv_imul (pc := 12) hx hb dX7_widthOf_12 ?_
      refine lv_iload_n (pc := 13) hx hb dX7_widthOf_13 rfl (lv_at hl 0 rfl) ?_
      refine lv_icmp_gt (pc := 14) (tgt := 25) hx hb dX7_widthOf_14 (by decide) (fun hc => ?_) (fun hc => ?_)
      · replace hf := it_t hf hc
        exact hB25 v1 M _ _ _ hf hR (lv_sub hl [1] rfl)
      · replace hf := it_f hf hc
        refine lv_iload_n (pc := 17) hx hb dX7_widthOf_17 rfl (lv_at hl 2 rfl) ?_
        refine lv_istore_n (pc := 18) (lv' := [(1, .int v2), (0, .int v0), (2, .int v2)]) hx hb dX7_widthOf_18 rfl hl (by decide) rfl (fun ls hl => ?_)
        refine rg_iinc (pc := 19) hx hb dX7_widthOf_19 hl (k := 2) rfl rfl (by decide) hf (fun x1 ls hf hl => ?_)
        have hl : lv_has ls 3 [(2, .int x1), (1, .int v2), (0, .int v0)] := hl
        refine lv_goto (pc := 22) (tgt := 4) hx hb dX7_widthOf_22 (by decide) ?_
        exact hk4 v0 v2 x1 M _ _ _ hf hR (lv_sub hl [2, 1, 0] rfl)
  have hL4 : ∀  (n : Nat) (v0 : Int32) (v1 : Int32) (v2 : Int32) (M : Mem) (H : Heap) (locs : List Loc) (ls : Array Slot), f_X7_widthOf_L4  n v0 v1 v2 M = some r → Hp D ca nx A s M H locs → lv_has ls 3 [(0, .int v0), (1, .int v1), (2, .int v2)] → W p l e rm_X7_widthOf s m args below meth c H locs 0 0 (MQ below (cvI D ca nx A r) args s 0 0 A) (F0 m 4 ls []) := by
    intro  n
    induction n with
    | zero => intro v0 v1 v2 M H locs ls hf; exact nomatch (show (none : Option (Mem × Int32)) = some r from hf)
    | succ n ih => intro v0 v1 v2 M H locs ls hf hR hl; exact hB4  (f_X7_widthOf_L4  n) ih v0 v1 v2 M H locs ls hf hR hl
  unfold f_X7_widthOf at hf
  refine lv_iconst (pc := 0) (v := (0 : Int32)) hx hb dX7_widthOf_0 (by decide) ?_
  refine lv_istore_n (pc := 1) (lv' := [(1, .int (0 : Int32)), (0, .int v0)]) hx hb dX7_widthOf_1 rfl hl (by decide) rfl (fun ls hl => ?_)
  refine lv_iconst (pc := 2) (v := (1 : Int32)) hx hb dX7_widthOf_2 (by decide) ?_
  refine lv_istore_n (pc := 3) (lv' := [(2, .int (1 : Int32)), (1, .int (0 : Int32)), (0, .int v0)]) hx hb dX7_widthOf_3 rfl hl (by decide) rfl (fun ls hl => ?_)
  exact hL4 200 v0 (0 : Int32) (1 : Int32) M _ _ _ hf hR (lv_sub hl [2, 1, 0] rfl)
-- X7_moon
def f_X7_moon (v0 : Nat) (v1 : Int32) (v2 : Int32) (v3 : Int32) (M : Mem) : Option (Mem × (Int32 ⊕ Nat)) := bx (f_X7_requirePlace v1 v2 v3 M) fun M1 _ => gd (M1.1 v0 = 7) <| if (mm_i M1 v0 2) < (6 : Int32) then (gd (M1.1 v0 = 7) <| rd (mm_r M1 v0 1) fun a3 => gd (M1.1 v0 = 7) <| gd (M1.1 a3 = 14 ∧ vi_ (mm_i M1 v0 2) (mm_N M1 a3)) <| rd (mm_r M1 a3 ((mm_i M1 v0 2)).toNatClampNeg) fun a4 => gd (M1.1 a4 = 5) <| lt_ (ms_i M1 a4 0 v1) fun M5 => gd (M5.1 a4 = 5) <| lt_ (ms_i M5 a4 1 v2) fun M6 => bd (f_X7_widthOf v3 M6) fun z7 => gd (z7.1.1 a4 = 5) <| lt_ (ms_i z7.1 a4 2 z7.2) fun M8 => gd (M8.1 v0 = 7) <| gd (M8.1 v0 = 7) <| lt_ (ms_i M8 v0 2 ((mm_i M8 v0 2) + (1 : Int32))) fun M9 => gd (M9.1 v0 = 7) <| some (M9, .inl ((mm_i M9 v0 2) - (1 : Int32)))) else (some (M1, .inr 1))
abbrev rm_X7_moon : Room := { frames := 9, cells := 4, slots := 24, locals := 154 }
theorem hd_X7_moon : yX7_moon.cls ≠ "java/lang/invoke/MethodHandle" ∧ yX7_moon.cls ≠ "java/lang/invoke/VarHandle" ∧ (parseMethodDescriptor yX7_moon.desc).map (fun d => d.parameters.length) = some 3 := by decide +kernel
set_option maxHeartbeats 8000000 in
set_option maxRecDepth 100000 in
theorem c_X7_moon {l : Launch} (hlt : l.stackTraces = false) {D : va_G} {ca : Nat → ClassId} {b : Nat} {v0 : Nat} {v1 : Int32} {v2 : Int32} {v3 : Int32} {M : Mem} {r : Mem × (Int32 ⊕ Nat)} (hf : f_X7_moon v0 v1 v2 v3 M = some r) : CxI l yX7_moon cX7_moon 5 (some .int) rm_X7_moon D ca b [.ref v0, .int v1, .int v2, .int v3] M r 4 24 := by
  intro sz
  refine bodyx_start (nx := false) (Qc := fun A => cxI D ca A r) (XC := fun A => cxX D ca A r) (by decide +kernel) (Nat.le_of_ble_eq_true rfl) ?_
  intro p e s m args below meth c A hC htab hr hR ls hl
  obtain ⟨hx, hb, hml, hts, hown, hlocks, hXe, hA, hAb, hnm⟩ := id hC
  have hK := hXe.1
  have hl : lv_has ls 5 [(0, .ref v0), (1, .int v1), (2, .int v2), (3, .int v3)] := hl
  unfold f_X7_moon at hf
  refine lv_iload_n (pc := 0) hx hb dX7_moon_0 rfl (lv_at hl 1 rfl) ?_
  refine lv_iload_n (pc := 1) hx hb dX7_moon_1 rfl (lv_at hl 2 rfl) ?_
  refine lv_iload_n (pc := 2) hx hb dX7_moon_2 rfl (lv_at hl 3 rfl) ?_
  refine rg_xV (pc := 3) hf hR hA htab hlocks (by show 3 ≤ 4; decide) (by show 18 ≤ 24; decide) (fun z hz => xn_S (As := [.int v1, .int v2, .int v3]) (rest := []) hC hR (c_X7_requirePlace hlt hz _) m_296 m_297 m_1 m_298 hd_X7_requirePlace ⟨rfl, rfl, Nat.le_of_ble_eq_true rfl, Nat.le_of_ble_eq_true rfl⟩ rfl hl.1 rfl (Nat.le_of_ble_eq_true rfl) dX7_moon_3 ⟨Nat.le_of_ble_eq_true rfl, Nat.le_of_ble_eq_true rfl⟩) (fun M1 H locs hf hR => ?_)
  refine lv_aload_n (pc := 6) hx hb dX7_moon_6 rfl (lv_at hl 0 rfl) ?_
  refine rg_get (pc := 7) (C := RX7) (T := TX7) (N := 11) (κ := 7) (v := .int (mm_i M1 v0 2)) hx hb hts hK hR hown in_7 rfl (by decide) 2 (by decide) m_232 rfl dX7_moon_7 hf (fun hf => ?_)
  refine lv_bipush (pc := 10) (v := (6 : Int32)) hx hb dX7_moon_10 (by decide) ?_
  refine lv_icmp_lt (pc := 12) (tgt := 25) hx hb dX7_moon_12 (by decide) (fun hc => ?_) (fun hc => ?_)
  · replace hf := it_t hf hc
    refine lv_aload_n (pc := 25) hx hb dX7_moon_25 rfl (lv_at hl 0 rfl) ?_
    refine rg_getr (pc := 26) (C := RX7) (T := TX7) (N := 11) (κ := 7) hx hb hts hK hR hown in_7 rfl (by decide) 1 (by decide) m_231 rfl dX7_moon_26 hf (fun a3 hf => ?_)
    refine lv_aload_n (pc := 29) hx hb dX7_moon_29 rfl (lv_at hl 0 rfl) ?_
    refine rg_get (pc := 30) (C := RX7) (T := TX7) (N := 11) (κ := 7) (v := .int (mm_i M1 v0 2)) hx hb hts hK hR hown in_7 rfl (by decide) 2 (by decide) m_232 rfl dX7_moon_30 hf (fun hf => ?_)
    refine rg_aald (pc := 33) (κ := 14) hx hb hK hR 5 rfl (by decide) dX7_moon_33 hf (fun a4 hf => ?_)
    refine lv_astore (pc := 34) (lv' := [(4, .ref a4), (0, .ref v0), (1, .int v1), (2, .int v2), (3, .int v3)]) hx hb dX7_moon_34 hl (by decide) rfl (fun ls hl => ?_)
    refine lv_aload (pc := 36) hx hb dX7_moon_36 (lv_at hl 0 rfl) ?_
    refine lv_iload_n (pc := 38) hx hb dX7_moon_38 rfl (lv_at hl 2 rfl) ?_
    refine rg_puti (pc := 39) (C := RX5) (T := TX5) (N := 3) (κ := 5) hx hb hts hK hR hown in_5 rfl (by decide) 0 (by decide) m_177 tyX5 tyX5_ok nmX5 rfl rfl rfl rfl dX7_moon_39 hf (fun M5 H locs hf hR => ?_)
    refine lv_aload (pc := 42) hx hb dX7_moon_42 (lv_at hl 0 rfl) ?_
    refine lv_iload_n (pc := 44) hx hb dX7_moon_44 rfl (lv_at hl 3 rfl) ?_
    refine rg_puti (pc := 45) (C := RX5) (T := TX5) (N := 3) (κ := 5) hx hb hts hK hR hown in_5 rfl (by decide) 1 (by decide) m_179 tyX5 tyX5_ok nmX5 rfl rfl rfl rfl dX7_moon_45 hf (fun M6 H locs hf hR => ?_)
    refine lv_aload (pc := 48) hx hb dX7_moon_48 (lv_at hl 0 rfl) ?_
    refine lv_iload_n (pc := 50) hx hb dX7_moon_50 rfl (lv_at hl 4 rfl) ?_
    refine rg_I (pc := 51) hf hR hA (fun z hz => rn_S (As := [.int v3]) (rest := [.ref a4]) hC hR (c_X7_widthOf  hz _) m_406 m_407 m_1 m_408 hd_X7_widthOf ⟨rfl, rfl, Nat.le_of_ble_eq_true rfl, Nat.le_of_ble_eq_true rfl⟩ rfl hl.1 rfl (Nat.le_of_ble_eq_true rfl) dX7_moon_51 ⟨Nat.le_of_ble_eq_true rfl, Nat.le_of_ble_eq_true rfl⟩) (fun z7 H locs hf hR => ?_)
    refine rg_puti (pc := 54) (C := RX5) (T := TX5) (N := 3) (κ := 5) hx hb hts hK hR hown in_5 rfl (by decide) 2 (by decide) m_181 tyX5 tyX5_ok nmX5 rfl rfl rfl rfl dX7_moon_54 hf (fun M8 H locs hf hR => ?_)
    refine lv_aload_n (pc := 57) hx hb dX7_moon_57 rfl (lv_at hl 1 rfl) ?_
    refine lv_dup (pc := 58) hx hb dX7_moon_58 rfl ?_
    refine rg_get (pc := 59) (C := RX7) (T := TX7) (N := 11) (κ := 7) (v := .int (mm_i M8 v0 2)) hx hb hts hK hR hown in_7 rfl (by decide) 2 (by decide) m_232 rfl dX7_moon_59 hf (fun hf => ?_)
    refine lv_iconst (pc := 62) (v := (1 : Int32)) hx hb dX7_moon_62 (by decide) ?_
    refine lv_iadd (pc := 63) hx hb dX7_moon_63 ?_
    refine rg_puti (pc := 64) (C := RX7) (T := TX7) (N := 11) (κ := 7) hx hb hts hK hR hown in_7 rfl (by decide) 2 (by decide) m_232 tyX7 tyX7_ok nmX7 rfl rfl rfl rfl dX7_moon_64 hf (fun M9 H locs hf hR => ?_)
    refine lv_aload_n (pc := 67) hx hb dX7_moon_67 rfl (lv_at hl 1 rfl) ?_
    refine rg_get (pc := 68) (C := RX7) (T := TX7) (N := 11) (κ := 7) (v := .int (mm_i M9 v0 2)) hx hb hts hK hR hown in_7 rfl (by decide) 2 (by decide) m_232 rfl dX7_moon_68 hf (fun hf => ?_)
    refine lv_iconst (pc := 71) (v := (1 : Int32)) hx hb dX7_moon_71 (by decide) ?_
    refine lv_isub (pc := 72) hx hb dX7_moon_72 ?_
    exact rg_xiret (pc := 73) hx hb hlocks hr hf hR (by show 3 ≤ 4; decide) (by show 18 ≤ 24; decide) dX7_moon_73
  · replace hf := it_f hf hc
    exact rg_thr (pc := 15) 1 (by decide) hC htab hlt hl.1 rfl m_374 (is := 72) (text := "there are 6 moons") (by decide +kernel) hf hR dX7_moon_15 dX7_moon_18 dX7_moon_19 dX7_moon_21 dX7_moon_24 (Nat.le_of_ble_eq_true rfl) (Nat.le_of_ble_eq_true rfl) (Nat.le_of_ble_eq_true rfl) (Nat.le_of_ble_eq_true rfl) (by show 4 ≤ 4; decide) (by show 24 ≤ 24; decide)
-- X7_flatness
def f_X7_flatness (v0 : Nat) (v1 : Int32) (M : Mem) : Option (Mem × (Int32 ⊕ Nat)) := bx (f_X7_requireRange v1 (0 : Int32) (1000 : Int32) M) fun M1 _ => gd (M1.1 v0 = 7) <| rd (mm_r M1 v0 0) fun a3 => gd (M1.1 a3 = 3) <| rd (mm_r M1 a3 0) fun a4 => gd (M1.1 a4 = 6) <| lt_ ((mm_i M1 a4 0)) fun x5 => gd (M1.1 v0 = 7) <| rd (mm_r M1 v0 0) fun a6 => gd (M1.1 a6 = 3) <| rd (mm_r M1 a6 0) fun a7 => gd (M1.1 a7 = 6) <| lt_ (ms_i M1 a7 0 v1) fun M8 => some (M8, .inl x5)
abbrev rm_X7_flatness : Room := { frames := 7, cells := 1, slots := 6, locals := 112 }
theorem hd_X7_flatness : yX7_flatness.cls ≠ "java/lang/invoke/MethodHandle" ∧ yX7_flatness.cls ≠ "java/lang/invoke/VarHandle" ∧ (parseMethodDescriptor yX7_flatness.desc).map (fun d => d.parameters.length) = some 1 := by decide +kernel
set_option maxHeartbeats 8000000 in
set_option maxRecDepth 100000 in
theorem c_X7_flatness {l : Launch} (hlt : l.stackTraces = false) {D : va_G} {ca : Nat → ClassId} {b : Nat} {v0 : Nat} {v1 : Int32} {M : Mem} {r : Mem × (Int32 ⊕ Nat)} (hf : f_X7_flatness v0 v1 M = some r) : CxI l yX7_flatness cX7_flatness 3 (some .int) rm_X7_flatness D ca b [.ref v0, .int v1] M r 1 6 := by
  intro sz
  refine bodyx_start (nx := false) (Qc := fun A => cxI D ca A r) (XC := fun A => cxX D ca A r) (by decide +kernel) (Nat.le_of_ble_eq_true rfl) ?_
  intro p e s m args below meth c A hC htab hr hR ls hl
  obtain ⟨hx, hb, hml, hts, hown, hlocks, hXe, hA, hAb, hnm⟩ := id hC
  have hK := hXe.1
  have hl : lv_has ls 3 [(0, .ref v0), (1, .int v1)] := hl
  unfold f_X7_flatness at hf
  refine lv_iload_n (pc := 0) hx hb dX7_flatness_0 rfl (lv_at hl 1 rfl) ?_
  refine lv_iconst (pc := 1) (v := (0 : Int32)) hx hb dX7_flatness_1 (by decide) ?_
  refine lv_sipush (pc := 2) (v := (1000 : Int32)) hx hb dX7_flatness_2 (by decide) ?_
  refine rg_xV (pc := 5) hf hR hA htab hlocks (by show 1 ≤ 1; decide) (by show 6 ≤ 6; decide) (fun z hz => xn_S (As := [.int v1, .int (0 : Int32), .int (1000 : Int32)]) (rest := []) hC hR (c_X7_requireRange hlt hz _) m_302 m_303 m_1 m_304 hd_X7_requireRange ⟨rfl, rfl, Nat.le_of_ble_eq_true rfl, Nat.le_of_ble_eq_true rfl⟩ rfl hl.1 rfl (Nat.le_of_ble_eq_true rfl) dX7_flatness_5 ⟨Nat.le_of_ble_eq_true rfl, Nat.le_of_ble_eq_true rfl⟩) (fun M1 H locs hf hR => ?_)
  refine lv_aload_n (pc := 8) hx hb dX7_flatness_8 rfl (lv_at hl 0 rfl) ?_
  refine rg_getr (pc := 9) (C := RX7) (T := TX7) (N := 11) (κ := 7) hx hb hts hK hR hown in_7 rfl (by decide) 0 (by decide) m_230 rfl dX7_flatness_9 hf (fun a3 hf => ?_)
  refine rg_getr (pc := 12) (C := RX3) (T := TX3) (N := 7) (κ := 3) hx hb hts hK hR hown in_3 rfl (by decide) 0 (by decide) m_142 rfl dX7_flatness_12 hf (fun a4 hf => ?_)
  refine rg_get (pc := 15) (C := RX6) (T := TX6) (N := 1) (κ := 6) (v := .int (mm_i M1 a4 0)) hx hb hts hK hR hown in_6 rfl (by decide) 0 (by decide) m_38 rfl dX7_flatness_15 hf (fun hf => ?_)
  refine nm_i hf (fun x5 hf => ?_)
  refine lv_istore_n (pc := 18) (lv' := [(2, .int x5), (0, .ref v0), (1, .int v1)]) hx hb dX7_flatness_18 rfl hl (by decide) rfl (fun ls hl => ?_)
  refine lv_aload_n (pc := 19) hx hb dX7_flatness_19 rfl (lv_at hl 1 rfl) ?_
  refine rg_getr (pc := 20) (C := RX7) (T := TX7) (N := 11) (κ := 7) hx hb hts hK hR hown in_7 rfl (by decide) 0 (by decide) m_230 rfl dX7_flatness_20 hf (fun a6 hf => ?_)
  refine rg_getr (pc := 23) (C := RX3) (T := TX3) (N := 7) (κ := 3) hx hb hts hK hR hown in_3 rfl (by decide) 0 (by decide) m_142 rfl dX7_flatness_23 hf (fun a7 hf => ?_)
  refine lv_iload_n (pc := 26) hx hb dX7_flatness_26 rfl (lv_at hl 2 rfl) ?_
  refine rg_puti (pc := 27) (C := RX6) (T := TX6) (N := 1) (κ := 6) hx hb hts hK hR hown in_6 rfl (by decide) 0 (by decide) m_38 tyX6 tyX6_ok nmX6 rfl rfl rfl rfl dX7_flatness_27 hf (fun M8 H locs hf hR => ?_)
  refine lv_iload_n (pc := 30) hx hb dX7_flatness_30 rfl (lv_at hl 0 rfl) ?_
  exact rg_xiret (pc := 31) hx hb hlocks hr hf hR (by show 1 ≤ 1; decide) (by show 6 ≤ 6; decide) dX7_flatness_31
-- X7_bounds
def f_X7_bounds (v0 : Nat) (v1 : Int32) (v2 : Int32) (v3 : Int32) (M : Mem) : Option (Mem × (Unit ⊕ Nat)) := bx (f_X7_requireRange v1 (0 : Int32) (1000 : Int32) M) fun M1 _ => bx (f_X7_requireRange v2 v1 (5000 : Int32) M1) fun M3 _ => bx (f_X7_requireRange v3 (0 : Int32) (100 : Int32) M3) fun M5 _ => gd (M5.1 v0 = 7) <| rd (mm_r M5 v0 0) fun a7 => gd (M5.1 a7 = 3) <| lt_ (ms_i M5 a7 4 v1) fun M8 => gd (M8.1 v0 = 7) <| rd (mm_r M8 v0 0) fun a9 => gd (M8.1 a9 = 3) <| lt_ (ms_i M8 a9 5 v2) fun M10 => gd (M10.1 v0 = 7) <| rd (mm_r M10 v0 0) fun a11 => gd (M10.1 a11 = 3) <| lt_ (ms_i M10 a11 6 v3) fun M12 => some (M12, .inl ())
abbrev rm_X7_bounds : Room := { frames := 7, cells := 3, slots := 18, locals := 112 }
theorem hd_X7_bounds : yX7_bounds.cls ≠ "java/lang/invoke/MethodHandle" ∧ yX7_bounds.cls ≠ "java/lang/invoke/VarHandle" ∧ (parseMethodDescriptor yX7_bounds.desc).map (fun d => d.parameters.length) = some 3 := by decide +kernel
set_option maxHeartbeats 8000000 in
set_option maxRecDepth 100000 in
theorem c_X7_bounds {l : Launch} (hlt : l.stackTraces = false) {D : va_G} {ca : Nat → ClassId} {b : Nat} {v0 : Nat} {v1 : Int32} {v2 : Int32} {v3 : Int32} {M : Mem} {r : Mem × (Unit ⊕ Nat)} (hf : f_X7_bounds v0 v1 v2 v3 M = some r) : CxV l yX7_bounds cX7_bounds 4 none rm_X7_bounds D ca b [.ref v0, .int v1, .int v2, .int v3] M r 3 18 := by
  intro sz
  refine bodyx_start (nx := false) (Qc := fun A => cxV D ca A r) (XC := fun A => cxX D ca A r) (by decide +kernel) (Nat.le_of_ble_eq_true rfl) ?_
  intro p e s m args below meth c A hC htab hr hR ls hl
  obtain ⟨hx, hb, hml, hts, hown, hlocks, hXe, hA, hAb, hnm⟩ := id hC
  have hK := hXe.1
  have hl : lv_has ls 4 [(0, .ref v0), (1, .int v1), (2, .int v2), (3, .int v3)] := hl
  unfold f_X7_bounds at hf
  refine lv_iload_n (pc := 0) hx hb dX7_bounds_0 rfl (lv_at hl 1 rfl) ?_
  refine lv_iconst (pc := 1) (v := (0 : Int32)) hx hb dX7_bounds_1 (by decide) ?_
  refine lv_sipush (pc := 2) (v := (1000 : Int32)) hx hb dX7_bounds_2 (by decide) ?_
  refine rg_xV (pc := 5) hf hR hA htab hlocks (by show 1 ≤ 3; decide) (by show 6 ≤ 18; decide) (fun z hz => xn_S (As := [.int v1, .int (0 : Int32), .int (1000 : Int32)]) (rest := []) hC hR (c_X7_requireRange hlt hz _) m_302 m_303 m_1 m_304 hd_X7_requireRange ⟨rfl, rfl, Nat.le_of_ble_eq_true rfl, Nat.le_of_ble_eq_true rfl⟩ rfl hl.1 rfl (Nat.le_of_ble_eq_true rfl) dX7_bounds_5 ⟨Nat.le_of_ble_eq_true rfl, Nat.le_of_ble_eq_true rfl⟩) (fun M1 H locs hf hR => ?_)
  refine lv_iload_n (pc := 8) hx hb dX7_bounds_8 rfl (lv_at hl 2 rfl) ?_
  refine lv_iload_n (pc := 9) hx hb dX7_bounds_9 rfl (lv_at hl 1 rfl) ?_
  refine lv_sipush (pc := 10) (v := (5000 : Int32)) hx hb dX7_bounds_10 (by decide) ?_
  refine rg_xV (pc := 13) hf hR hA htab hlocks (by show 2 ≤ 3; decide) (by show 12 ≤ 18; decide) (fun z hz => xn_S (As := [.int v2, .int v1, .int (5000 : Int32)]) (rest := []) hC hR (c_X7_requireRange hlt hz _) m_302 m_303 m_1 m_304 hd_X7_requireRange ⟨rfl, rfl, Nat.le_of_ble_eq_true rfl, Nat.le_of_ble_eq_true rfl⟩ rfl hl.1 rfl (Nat.le_of_ble_eq_true rfl) dX7_bounds_13 ⟨Nat.le_of_ble_eq_true rfl, Nat.le_of_ble_eq_true rfl⟩) (fun M3 H locs hf hR => ?_)
  refine lv_iload_n (pc := 16) hx hb dX7_bounds_16 rfl (lv_at hl 3 rfl) ?_
  refine lv_iconst (pc := 17) (v := (0 : Int32)) hx hb dX7_bounds_17 (by decide) ?_
  refine lv_bipush (pc := 18) (v := (100 : Int32)) hx hb dX7_bounds_18 (by decide) ?_
  refine rg_xV (pc := 20) hf hR hA htab hlocks (by show 3 ≤ 3; decide) (by show 18 ≤ 18; decide) (fun z hz => xn_S (As := [.int v3, .int (0 : Int32), .int (100 : Int32)]) (rest := []) hC hR (c_X7_requireRange hlt hz _) m_302 m_303 m_1 m_304 hd_X7_requireRange ⟨rfl, rfl, Nat.le_of_ble_eq_true rfl, Nat.le_of_ble_eq_true rfl⟩ rfl hl.1 rfl (Nat.le_of_ble_eq_true rfl) dX7_bounds_20 ⟨Nat.le_of_ble_eq_true rfl, Nat.le_of_ble_eq_true rfl⟩) (fun M5 H locs hf hR => ?_)
  refine lv_aload_n (pc := 23) hx hb dX7_bounds_23 rfl (lv_at hl 0 rfl) ?_
  refine rg_getr (pc := 24) (C := RX7) (T := TX7) (N := 11) (κ := 7) hx hb hts hK hR hown in_7 rfl (by decide) 0 (by decide) m_230 rfl dX7_bounds_24 hf (fun a7 hf => ?_)
  refine lv_iload_n (pc := 27) hx hb dX7_bounds_27 rfl (lv_at hl 1 rfl) ?_
  refine rg_puti (pc := 28) (C := RX3) (T := TX3) (N := 7) (κ := 3) hx hb hts hK hR hown in_3 rfl (by decide) 4 (by decide) m_150 tyX3 tyX3_ok nmX3 rfl rfl rfl rfl dX7_bounds_28 hf (fun M8 H locs hf hR => ?_)
  refine lv_aload_n (pc := 31) hx hb dX7_bounds_31 rfl (lv_at hl 0 rfl) ?_
  refine rg_getr (pc := 32) (C := RX7) (T := TX7) (N := 11) (κ := 7) hx hb hts hK hR hown in_7 rfl (by decide) 0 (by decide) m_230 rfl dX7_bounds_32 hf (fun a9 hf => ?_)
  refine lv_iload_n (pc := 35) hx hb dX7_bounds_35 rfl (lv_at hl 2 rfl) ?_
  refine rg_puti (pc := 36) (C := RX3) (T := TX3) (N := 7) (κ := 3) hx hb hts hK hR hown in_3 rfl (by decide) 5 (by decide) m_152 tyX3 tyX3_ok nmX3 rfl rfl rfl rfl dX7_bounds_36 hf (fun M10 H locs hf hR => ?_)
  refine lv_aload_n (pc := 39) hx hb dX7_bounds_39 rfl (lv_at hl 0 rfl) ?_
  refine rg_getr (pc := 40) (C := RX7) (T := TX7) (N := 11) (κ := 7) hx hb hts hK hR hown in_7 rfl (by decide) 0 (by decide) m_230 rfl dX7_bounds_40 hf (fun a11 hf => ?_)
  refine lv_iload_n (pc := 43) hx hb dX7_bounds_43 rfl (lv_at hl 3 rfl) ?_
  refine rg_puti (pc := 44) (C := RX3) (T := TX3) (N := 7) (κ := 3) hx hb hts hK hR hown in_3 rfl (by decide) 6 (by decide) m_154 tyX3 tyX3_ok nmX3 rfl rfl rfl rfl dX7_bounds_44 hf (fun M12 H locs hf hR => ?_)
  exact rg_xvret (pc := 47) hx hb hlocks hr hf hR (by show 3 ≤ 3; decide) (by show 18 ≤ 18; decide) dX7_bounds_47
-- X7_passTick
def f_X7_passTick_b65 (k65 : Nat → Int32 → Mem → Option (Mem)) (v0 : Nat) (v1 : Int32) (M : Mem) : Option (Mem) := gd (M.1 v0 = 7) <| if (mm_i M v0 2) ≤ v1 then (gd (M.1 v0 = 7) <| rd (mm_r M v0 0) fun a1 => gd (M.1 a1 = 3) <| bd (f_X3_meetAll a1 M) fun z2 => gd (z2.1 v0 = 7) <| rd (mm_r z2 v0 0) fun a3 => gd (z2.1 a3 = 3) <| bd (f_X3_darken a3 z2) fun z4 => gd (z4.1 v0 = 7) <| gd (z4.1 v0 = 7) <| lt_ (ms_i z4 v0 7 ((mm_i z4 v0 7) + (1 : Int32))) fun M5 => some M5) else (gd (M.1 v0 = 7) <| rd (mm_r M v0 0) fun a6 => gd (M.1 v0 = 7) <| rd (mm_r M v0 1) fun a7 => gd (M.1 a7 = 14 ∧ vi_ v1 (mm_N M a7)) <| rd (mm_r M a7 (v1).toNatClampNeg) fun a8 => gd (M.1 a6 = 3) <| bd (f_X3_yieldTo a6 a8 M) fun z9 => lt_ (v1 + (1 : Int32)) fun x10 => k65 v0 x10 z9)
def f_X7_passTick_L65  : Nat → Nat → Int32 → Mem → Option (Mem)
  | 0 => fun _ _ _ => none
  | n + 1 => f_X7_passTick_b65  (f_X7_passTick_L65  n)
def f_X7_passTick_b2 (k2 : Nat → Int32 → Mem → Option (Mem)) (v0 : Nat) (v1 : Int32) (M : Mem) : Option (Mem) := gd (M.1 v0 = 7) <| if (mm_i M v0 2) ≤ v1 then (gd (M.1 v0 = 7) <| rd (mm_r M v0 0) fun a11 => gd (M.1 a11 = 3) <| bd (f_X3_goRound a11 M) fun z12 => f_X7_passTick_L65 200 v0 (0 : Int32) z12) else (gd (M.1 v0 = 7) <| rd (mm_r M v0 1) fun a13 => gd (M.1 a13 = 14 ∧ vi_ v1 (mm_N M a13)) <| rd (mm_r M a13 (v1).toNatClampNeg) fun a14 => gd (M.1 v0 = 7) <| rd (mm_r M v0 1) fun a15 => gd (M.1 a15 = 14 ∧ vi_ v1 (mm_N M a15)) <| rd (mm_r M a15 (v1).toNatClampNeg) fun a16 => gd (M.1 a16 = 5) <| gd (M.1 v0 = 7) <| rd (mm_r M v0 0) fun a17 => gd (M.1 a17 = 3) <| rd (mm_r M a17 0) fun a18 => gd (M.1 v0 = 7) <| rd (mm_r M v0 1) fun a19 => gd (M.1 a19 = 14 ∧ vi_ v1 (mm_N M a19)) <| rd (mm_r M a19 (v1).toNatClampNeg) fun a20 => gd (M.1 a20 = 5) <| gd (M.1 a18 = 6) <| bd (f_X6_speedIn a18 (mm_i M a20 0) M) fun z21 => bd (f_X7_turned (mm_i M a16 1) z21.2 z21.1) fun z22 => gd (z22.1.1 a14 = 5) <| lt_ (ms_i z22.1 a14 1 z22.2) fun M23 => lt_ (v1 + (1 : Int32)) fun x24 => k2 v0 x24 M23)
def f_X7_passTick_L2  : Nat → Nat → Int32 → Mem → Option (Mem)
  | 0 => fun _ _ _ => none
  | n + 1 => f_X7_passTick_b2  (f_X7_passTick_L2  n)
def f_X7_passTick (v0 : Nat) (M : Mem) : Option (Mem) := f_X7_passTick_L2 200 v0 (0 : Int32) M
abbrev rm_X7_passTick : Room := { frames := 5, cells := 0, slots := 0, locals := 119 }
theorem hd_X7_passTick : yX7_passTick.cls ≠ "java/lang/invoke/MethodHandle" ∧ yX7_passTick.cls ≠ "java/lang/invoke/VarHandle" ∧ (parseMethodDescriptor yX7_passTick.desc).map (fun d => d.parameters.length) = some 0 := by decide +kernel
set_option maxHeartbeats 8000000 in
set_option maxRecDepth 100000 in
theorem c_X7_passTick {l : Launch} {D : va_G} {ca : Nat → ClassId} {b : Nat} {nx : Bool} {v0 : Nat} {M : Mem} {r : Mem} (hf : f_X7_passTick v0 M = some r) : CtV l yX7_passTick cX7_passTick 2 none rm_X7_passTick D ca b nx [.ref v0] M r 0 0 := by
  intro sz
  refine body_start (Qc := fun A => cvV D ca nx A r) (by decide +kernel) (Nat.le_of_ble_eq_true rfl) ?_
  intro p e s m args below meth c A hC hr hR ls hl
  obtain ⟨hx, hb, hml, hts, hown, hlocks, hXe, hA, hAb, hnm⟩ := id hC
  have hK := hXe.1
  have hl : lv_has ls 2 [(0, .ref v0)] := hl
  have hB65 : ∀ (k65 : Nat → Int32 → Mem → Option (Mem)) (hk65 : ∀ (v0 : Nat) (v1 : Int32) (M : Mem) (H : Heap) (locs : List Loc) (ls : Array Slot), k65 v0 v1 M = some r → Hp D ca nx A s M H locs → lv_has ls 2 [(0, .ref v0), (1, .int v1)] → W p l e rm_X7_passTick s m args below meth c H locs 0 0 (MQ below (cvV D ca nx A r) args s 0 0 A) (F0 m 65 ls [])) (v0 : Nat) (v1 : Int32) (M : Mem) (H : Heap) (locs : List Loc) (ls : Array Slot), f_X7_passTick_b65 k65 v0 v1 M = some r → Hp D ca nx A s M H locs → lv_has ls 2 [(0, .ref v0), (1, .int v1)] → W p l e rm_X7_passTick s m args below meth c H locs 0 0 (MQ below (cvV D ca nx A r) args s 0 0 A) (F0 m 65 ls []) := by
    intro k65 hk65 v0 v1 M H locs ls hf hR hl
    unfold f_X7_passTick_b65 at hf
    refine lv_iload_n (pc := 65) hx hb dX7_passTick_65 rfl (lv_at hl 1 rfl) ?_
    refine lv_aload_n (pc := 66) hx hb dX7_passTick_66 rfl (lv_at hl 0 rfl) ?_
    refine rg_get (pc := 67) (C := RX7) (T := TX7) (N := 11) (κ := 7) (v := .int (mm_i M v0 2)) hx hb hts hK hR hown in_7 rfl (by decide) 2 (by decide) m_232 rfl dX7_passTick_67 hf (fun hf => ?_)
    refine lv_icmp_ge (pc := 70) (tgt := 92) hx hb dX7_passTick_70 (by decide) (fun hc => ?_) (fun hc => ?_)
    · replace hf := it_t hf hc
      refine lv_aload_n (pc := 92) hx hb dX7_passTick_92 rfl (lv_at hl 0 rfl) ?_
      refine rg_getr (pc := 93) (C := RX7) (T := TX7) (N := 11) (κ := 7) hx hb hts hK hR hown in_7 rfl (by decide) 0 (by decide) m_230 rfl dX7_passTick_93 hf (fun a1 hf => ?_)
      obtain ⟨hq, hf⟩ := gd_e hf
      refine rg_V (pc := 96) hf hR hA (fun z hz => rn_V (κ := 3) (As := []) (rest := []) hC hR rfl (by decide) hq (c_X3_meetAll  hz _) m_474 m_475 m_476 m_2 m_477 hd_X3_meetAll ⟨rfl, rfl, Nat.le_of_ble_eq_true rfl, Nat.le_of_ble_eq_true rfl⟩ rfl hl.1 rfl (Nat.le_of_ble_eq_true rfl) dX7_passTick_96 ⟨Nat.le_of_ble_eq_true rfl, Nat.le_of_ble_eq_true rfl⟩) (fun z2 H locs hf hR => ?_)
      refine lv_aload_n (pc := 99) hx hb dX7_passTick_99 rfl (lv_at hl 0 rfl) ?_
      refine rg_getr (pc := 100) (C := RX7) (T := TX7) (N := 11) (κ := 7) hx hb hts hK hR hown in_7 rfl (by decide) 0 (by decide) m_230 rfl dX7_passTick_100 hf (fun a3 hf => ?_)
      obtain ⟨hq, hf⟩ := gd_e hf
      refine rg_V (pc := 103) hf hR hA (fun z hz => rn_V (κ := 3) (As := []) (rest := []) hC hR rfl (by decide) hq (c_X3_darken  hz _) m_506 m_507 m_508 m_2 m_509 hd_X3_darken ⟨rfl, rfl, Nat.le_of_ble_eq_true rfl, Nat.le_of_ble_eq_true rfl⟩ rfl hl.1 rfl (Nat.le_of_ble_eq_true rfl) dX7_passTick_103 ⟨Nat.le_of_ble_eq_true rfl, Nat.le_of_ble_eq_true rfl⟩) (fun z4 H locs hf hR => ?_)
      refine lv_aload_n (pc := 106) hx hb dX7_passTick_106 rfl (lv_at hl 0 rfl) ?_
      refine lv_dup (pc := 107) hx hb dX7_passTick_107 rfl ?_
      refine rg_get (pc := 108) (C := RX7) (T := TX7) (N := 11) (κ := 7) (v := .int (mm_i z4 v0 7)) hx hb hts hK hR hown in_7 rfl (by decide) 7 (by decide) m_237 rfl dX7_passTick_108 hf (fun hf => ?_)
      refine lv_iconst (pc := 111) (v := (1 : Int32)) hx hb dX7_passTick_111 (by decide) ?_
      refine lv_iadd (pc := 112) hx hb dX7_passTick_112 ?_
      refine rg_puti (pc := 113) (C := RX7) (T := TX7) (N := 11) (κ := 7) hx hb hts hK hR hown in_7 rfl (by decide) 7 (by decide) m_237 tyX7 tyX7_ok nmX7 rfl rfl rfl rfl dX7_passTick_113 hf (fun M5 H locs hf hR => ?_)
      exact rg_vret (pc := 116) hx hb hlocks hr hf hR dX7_passTick_116
    · replace hf := it_f hf hc
      refine lv_aload_n (pc := 73) hx hb dX7_passTick_73 rfl (lv_at hl 0 rfl) ?_
      refine rg_getr (pc := 74) (C := RX7) (T := TX7) (N := 11) (κ := 7) hx hb hts hK hR hown in_7 rfl (by decide) 0 (by decide) m_230 rfl dX7_passTick_74 hf (fun a6 hf => ?_)
      refine lv_aload_n (pc := 77) hx hb dX7_passTick_77 rfl (lv_at hl 0 rfl) ?_
      refine rg_getr (pc := 78) (C := RX7) (T := TX7) (N := 11) (κ := 7) hx hb hts hK hR hown in_7 rfl (by decide) 1 (by decide) m_231 rfl dX7_passTick_78 hf (fun a7 hf => ?_)
      refine lv_iload_n (pc := 81) hx hb dX7_passTick_81 rfl (lv_at hl 1 rfl) ?_
      refine rg_aald (pc := 82) (κ := 14) hx hb hK hR 5 rfl (by decide) dX7_passTick_82 hf (fun a8 hf => ?_)
      obtain ⟨hq, hf⟩ := gd_e hf
      refine rg_V (pc := 83) hf hR hA (fun z hz => rn_V (κ := 3) (As := [.ref a8]) (rest := []) hC hR rfl (by decide) hq (c_X3_yieldTo  hz _) m_451 m_452 m_453 m_2 m_454 hd_X3_yieldTo ⟨rfl, rfl, Nat.le_of_ble_eq_true rfl, Nat.le_of_ble_eq_true rfl⟩ rfl hl.1 rfl (Nat.le_of_ble_eq_true rfl) dX7_passTick_83 ⟨Nat.le_of_ble_eq_true rfl, Nat.le_of_ble_eq_true rfl⟩) (fun z9 H locs hf hR => ?_)
      refine rg_iinc (pc := 86) hx hb dX7_passTick_86 hl (k := 1) rfl rfl (by decide) hf (fun x10 ls hf hl => ?_)
      have hl : lv_has ls 2 [(1, .int x10), (0, .ref v0)] := hl
      refine lv_goto (pc := 89) (tgt := 65) hx hb dX7_passTick_89 (by decide) ?_
      exact hk65 v0 x10 z9 _ _ _ hf hR (lv_sub hl [1, 0] rfl)
  have hL65 : ∀  (n : Nat) (v0 : Nat) (v1 : Int32) (M : Mem) (H : Heap) (locs : List Loc) (ls : Array Slot), f_X7_passTick_L65  n v0 v1 M = some r → Hp D ca nx A s M H locs → lv_has ls 2 [(0, .ref v0), (1, .int v1)] → W p l e rm_X7_passTick s m args below meth c H locs 0 0 (MQ below (cvV D ca nx A r) args s 0 0 A) (F0 m 65 ls []) := by
    intro  n
    induction n with
    | zero => intro v0 v1 M H locs ls hf; exact nomatch (show (none : Option (Mem)) = some r from hf)
    | succ n ih => intro v0 v1 M H locs ls hf hR hl; exact hB65  (f_X7_passTick_L65  n) ih v0 v1 M H locs ls hf hR hl
  have hB2 : ∀ (k2 : Nat → Int32 → Mem → Option (Mem)) (hk2 : ∀ (v0 : Nat) (v1 : Int32) (M : Mem) (H : Heap) (locs : List Loc) (ls : Array Slot), k2 v0 v1 M = some r → Hp D ca nx A s M H locs → lv_has ls 2 [(0, .ref v0), (1, .int v1)] → W p l e rm_X7_passTick s m args below meth c H locs 0 0 (MQ below (cvV D ca nx A r) args s 0 0 A) (F0 m 2 ls [])) (v0 : Nat) (v1 : Int32) (M : Mem) (H : Heap) (locs : List Loc) (ls : Array Slot), f_X7_passTick_b2 k2 v0 v1 M = some r → Hp D ca nx A s M H locs → lv_has ls 2 [(0, .ref v0), (1, .int v1)] → W p l e rm_X7_passTick s m args below meth c H locs 0 0 (MQ below (cvV D ca nx A r) args s 0 0 A) (F0 m 2 ls []) := by
    intro k2 hk2 v0 v1 M H locs ls hf hR hl
    unfold f_X7_passTick_b2 at hf
    refine lv_iload_n (pc := 2) hx hb dX7_passTick_2 rfl (lv_at hl 1 rfl) ?_
    refine lv_aload_n (pc := 3) hx hb dX7_passTick_3 rfl (lv_at hl 0 rfl) ?_
    refine rg_get (pc := 4) (C := RX7) (T := TX7) (N := 11) (κ := 7) (v := .int (mm_i M v0 2)) hx hb hts hK hR hown in_7 rfl (by decide) 2 (by decide) m_232 rfl dX7_passTick_4 hf (fun hf => ?_)
    refine lv_icmp_ge (pc := 7) (tgt := 56) hx hb dX7_passTick_7 (by decide) (fun hc => ?_) (fun hc => ?_)
    · replace hf := it_t hf hc
      refine lv_aload_n (pc := 56) hx hb dX7_passTick_56 rfl (lv_at hl 0 rfl) ?_
      refine rg_getr (pc := 57) (C := RX7) (T := TX7) (N := 11) (κ := 7) hx hb hts hK hR hown in_7 rfl (by decide) 0 (by decide) m_230 rfl dX7_passTick_57 hf (fun a11 hf => ?_)
      obtain ⟨hq, hf⟩ := gd_e hf
      refine rg_V (pc := 60) hf hR hA (fun z hz => rn_V (κ := 3) (As := []) (rest := []) hC hR rfl (by decide) hq (c_X3_goRound  hz _) m_445 m_446 m_447 m_2 m_448 hd_X3_goRound ⟨rfl, rfl, Nat.le_of_ble_eq_true rfl, Nat.le_of_ble_eq_true rfl⟩ rfl hl.1 rfl (Nat.le_of_ble_eq_true rfl) dX7_passTick_60 ⟨Nat.le_of_ble_eq_true rfl, Nat.le_of_ble_eq_true rfl⟩) (fun z12 H locs hf hR => ?_)
      refine lv_iconst (pc := 63) (v := (0 : Int32)) hx hb dX7_passTick_63 (by decide) ?_
      refine lv_istore_n (pc := 64) (lv' := [(1, .int (0 : Int32)), (0, .ref v0)]) hx hb dX7_passTick_64 rfl hl (by decide) rfl (fun ls hl => ?_)
      exact hL65 200 v0 (0 : Int32) z12 _ _ _ hf hR (lv_sub hl [1, 0] rfl)
    · replace hf := it_f hf hc
      refine lv_aload_n (pc := 10) hx hb dX7_passTick_10 rfl (lv_at hl 0 rfl) ?_
      refine rg_getr (pc := 11) (C := RX7) (T := TX7) (N := 11) (κ := 7) hx hb hts hK hR hown in_7 rfl (by decide) 1 (by decide) m_231 rfl dX7_passTick_11 hf (fun a13 hf => ?_)
      refine lv_iload_n (pc := 14) hx hb dX7_passTick_14 rfl (lv_at hl 1 rfl) ?_
      refine rg_aald (pc := 15) (κ := 14) hx hb hK hR 5 rfl (by decide) dX7_passTick_15 hf (fun a14 hf => ?_)
      refine lv_aload_n (pc := 16) hx hb dX7_passTick_16 rfl (lv_at hl 0 rfl) ?_
      refine rg_getr (pc := 17) (C := RX7) (T := TX7) (N := 11) (κ := 7) hx hb hts hK hR hown in_7 rfl (by decide) 1 (by decide) m_231 rfl dX7_passTick_17 hf (fun a15 hf => ?_)
      refine lv_iload_n (pc := 20) hx hb dX7_passTick_20 rfl (lv_at hl 1 rfl) ?_
      refine rg_aald (pc := 21) (κ := 14) hx hb hK hR 5 rfl (by decide) dX7_passTick_21 hf (fun a16 hf => ?_)
      refine rg_get (pc := 22) (C := RX5) (T := TX5) (N := 3) (κ := 5) (v := .int (mm_i M a16 1)) hx hb hts hK hR hown in_5 rfl (by decide) 1 (by decide) m_179 rfl dX7_passTick_22 hf (fun hf => ?_)
      refine lv_aload_n (pc := 25) hx hb dX7_passTick_25 rfl (lv_at hl 0 rfl) ?_
      refine rg_getr (pc := 26) (C := RX7) (T := TX7) (N := 11) (κ := 7) hx hb hts hK hR hown in_7 rfl (by decide) 0 (by decide) m_230 rfl dX7_passTick_26 hf (fun a17 hf => ?_)
      refine rg_getr (pc := 29) (C := RX3) (T := TX3) (N := 7) (κ := 3) hx hb hts hK hR hown in_3 rfl (by decide) 0 (by decide) m_142 rfl dX7_passTick_29 hf (fun a18 hf => ?_)
      refine lv_aload_n (pc := 32) hx hb dX7_passTick_32 rfl (lv_at hl 0 rfl) ?_
      refine rg_getr (pc := 33) (C := RX7) (T := TX7) (N := 11) (κ := 7) hx hb hts hK hR hown in_7 rfl (by decide) 1 (by decide) m_231 rfl dX7_passTick_33 hf (fun a19 hf => ?_)
      refine lv_iload_n (pc := 36) hx hb dX7_passTick_36 rfl (lv_at hl 1 rfl) ?_
      refine rg_aald (pc := 37) (κ := 14) hx hb hK hR 5 rfl (by decide) dX7_passTick_37 hf (fun a20 hf => ?_)
      refine rg_get (pc := 38) (C := RX5) (T := TX5) (N := 3) (κ := 5) (v := .int (mm_i M a20 0)) hx hb hts hK hR hown in_5 rfl (by decide) 0 (by decide) m_177 rfl dX7_passTick_38 hf (fun hf => ?_)
      obtain ⟨hq, hf⟩ := gd_e hf
      refine rg_I (pc := 41) hf hR hA (fun z hz => rn_V (κ := 6) (As := [.int (mm_i M a20 0)]) (rest := [.int (mm_i M a16 1), .ref a14]) hC hR rfl (by decide) hq (c_X6_speedIn  hz _) m_435 m_436 m_437 m_3 m_438 hd_X6_speedIn ⟨rfl, rfl, Nat.le_of_ble_eq_true rfl, Nat.le_of_ble_eq_true rfl⟩ rfl hl.1 rfl (Nat.le_of_ble_eq_true rfl) dX7_passTick_41 ⟨Nat.le_of_ble_eq_true rfl, Nat.le_of_ble_eq_true rfl⟩) (fun z21 H locs hf hR => ?_)
      refine rg_I (pc := 44) hf hR hA (fun z hz => rn_S (As := [.int (mm_i M a16 1), .int z21.2]) (rest := [.ref a14]) hC hR (c_X7_turned  hz _) m_441 m_442 m_1 m_443 hd_X7_turned ⟨rfl, rfl, Nat.le_of_ble_eq_true rfl, Nat.le_of_ble_eq_true rfl⟩ rfl hl.1 rfl (Nat.le_of_ble_eq_true rfl) dX7_passTick_44 ⟨Nat.le_of_ble_eq_true rfl, Nat.le_of_ble_eq_true rfl⟩) (fun z22 H locs hf hR => ?_)
      refine rg_puti (pc := 47) (C := RX5) (T := TX5) (N := 3) (κ := 5) hx hb hts hK hR hown in_5 rfl (by decide) 1 (by decide) m_179 tyX5 tyX5_ok nmX5 rfl rfl rfl rfl dX7_passTick_47 hf (fun M23 H locs hf hR => ?_)
      refine rg_iinc (pc := 50) hx hb dX7_passTick_50 hl (k := 1) rfl rfl (by decide) hf (fun x24 ls hf hl => ?_)
      have hl : lv_has ls 2 [(1, .int x24), (0, .ref v0)] := hl
      refine lv_goto (pc := 53) (tgt := 2) hx hb dX7_passTick_53 (by decide) ?_
      exact hk2 v0 x24 M23 _ _ _ hf hR (lv_sub hl [1, 0] rfl)
  have hL2 : ∀  (n : Nat) (v0 : Nat) (v1 : Int32) (M : Mem) (H : Heap) (locs : List Loc) (ls : Array Slot), f_X7_passTick_L2  n v0 v1 M = some r → Hp D ca nx A s M H locs → lv_has ls 2 [(0, .ref v0), (1, .int v1)] → W p l e rm_X7_passTick s m args below meth c H locs 0 0 (MQ below (cvV D ca nx A r) args s 0 0 A) (F0 m 2 ls []) := by
    intro  n
    induction n with
    | zero => intro v0 v1 M H locs ls hf; exact nomatch (show (none : Option (Mem)) = some r from hf)
    | succ n ih => intro v0 v1 M H locs ls hf hR hl; exact hB2  (f_X7_passTick_L2  n) ih v0 v1 M H locs ls hf hR hl
  unfold f_X7_passTick at hf
  refine lv_iconst (pc := 0) (v := (0 : Int32)) hx hb dX7_passTick_0 (by decide) ?_
  refine lv_istore_n (pc := 1) (lv' := [(1, .int (0 : Int32)), (0, .ref v0)]) hx hb dX7_passTick_1 rfl hl (by decide) rfl (fun ls hl => ?_)
  exact hL2 200 v0 (0 : Int32) M _ _ _ hf hR (lv_sub hl [1, 0] rfl)
-- X7_tick
def f_X7_tick_b31 (k31 : Nat → Int32 → Int32 → Mem → Option (Mem × (Int32 ⊕ Nat))) (v0 : Nat) (v1 : Int32) (v2 : Int32) (M : Mem) : Option (Mem × (Int32 ⊕ Nat)) := if v1 ≤ v2 then (gd (M.1 v0 = 7) <| some (M, .inl (mm_i M v0 7))) else (gd (M.1 v0 = 7) <| bd (f_X7_passTick v0 M) fun z1 => lt_ (v2 + (1 : Int32)) fun x2 => k31 v0 v1 x2 z1)
def f_X7_tick_L31  : Nat → Nat → Int32 → Int32 → Mem → Option (Mem × (Int32 ⊕ Nat))
  | 0 => fun _ _ _ _ => none
  | n + 1 => f_X7_tick_b31  (f_X7_tick_L31  n)
def f_X7_tick (v0 : Nat) (v1 : Int32) (M : Mem) : Option (Mem × (Int32 ⊕ Nat)) := bx (f_X7_requireRange v1 (1 : Int32) (50 : Int32) M) fun M3 _ => gd (M3.1 v0 = 7) <| if ((mm_i M3 v0 7) + v1) ≤ (2000 : Int32) then (f_X7_tick_L31 200 v0 v1 (0 : Int32) M3) else (some (M3, .inr 1))
abbrev rm_X7_tick : Room := { frames := 7, cells := 2, slots := 12, locals := 140 }
theorem hd_X7_tick : yX7_tick.cls ≠ "java/lang/invoke/MethodHandle" ∧ yX7_tick.cls ≠ "java/lang/invoke/VarHandle" ∧ (parseMethodDescriptor yX7_tick.desc).map (fun d => d.parameters.length) = some 1 := by decide +kernel
set_option maxHeartbeats 8000000 in
set_option maxRecDepth 100000 in
theorem c_X7_tick {l : Launch} (hlt : l.stackTraces = false) {D : va_G} {ca : Nat → ClassId} {b : Nat} {v0 : Nat} {v1 : Int32} {M : Mem} {r : Mem × (Int32 ⊕ Nat)} (hf : f_X7_tick v0 v1 M = some r) : CxI l yX7_tick cX7_tick 3 (some .int) rm_X7_tick D ca b [.ref v0, .int v1] M r 2 12 := by
  intro sz
  refine bodyx_start (nx := false) (Qc := fun A => cxI D ca A r) (XC := fun A => cxX D ca A r) (by decide +kernel) (Nat.le_of_ble_eq_true rfl) ?_
  intro p e s m args below meth c A hC htab hr hR ls hl
  obtain ⟨hx, hb, hml, hts, hown, hlocks, hXe, hA, hAb, hnm⟩ := id hC
  have hK := hXe.1
  have hl : lv_has ls 3 [(0, .ref v0), (1, .int v1)] := hl
  have hB31 : ∀ (k31 : Nat → Int32 → Int32 → Mem → Option (Mem × (Int32 ⊕ Nat))) (hk31 : ∀ (v0 : Nat) (v1 : Int32) (v2 : Int32) (M : Mem) (H : Heap) (locs : List Loc) (ls : Array Slot), k31 v0 v1 v2 M = some r → Hp D ca false A s M H locs → lv_has ls 3 [(0, .ref v0), (1, .int v1), (2, .int v2)] → W p l e rm_X7_tick s m args below meth c H locs 1 6 (vx_MQ below (cxI D ca A r) (cxX D ca A r) args s 2 12 A) (F0 m 31 ls [])) (v0 : Nat) (v1 : Int32) (v2 : Int32) (M : Mem) (H : Heap) (locs : List Loc) (ls : Array Slot), f_X7_tick_b31 k31 v0 v1 v2 M = some r → Hp D ca false A s M H locs → lv_has ls 3 [(0, .ref v0), (1, .int v1), (2, .int v2)] → W p l e rm_X7_tick s m args below meth c H locs 1 6 (vx_MQ below (cxI D ca A r) (cxX D ca A r) args s 2 12 A) (F0 m 31 ls []) := by
    intro k31 hk31 v0 v1 v2 M H locs ls hf hR hl
    unfold f_X7_tick_b31 at hf
    refine lv_iload_n (pc := 31) hx hb dX7_tick_31 rfl (lv_at hl 2 rfl) ?_
    refine lv_iload_n (pc := 32) hx hb dX7_tick_32 rfl (lv_at hl 1 rfl) ?_
    refine lv_icmp_ge (pc := 33) (tgt := 46) hx hb dX7_tick_33 (by decide) (fun hc => ?_) (fun hc => ?_)
    · replace hf := it_t hf hc
      refine lv_aload_n (pc := 46) hx hb dX7_tick_46 rfl (lv_at hl 0 rfl) ?_
      refine rg_get (pc := 47) (C := RX7) (T := TX7) (N := 11) (κ := 7) (v := .int (mm_i M v0 7)) hx hb hts hK hR hown in_7 rfl (by decide) 7 (by decide) m_237 rfl dX7_tick_47 hf (fun hf => ?_)
      exact rg_xiret (pc := 50) hx hb hlocks hr hf hR (by show 1 ≤ 2; decide) (by show 6 ≤ 12; decide) dX7_tick_50
    · replace hf := it_f hf hc
      refine lv_aload_n (pc := 36) hx hb dX7_tick_36 rfl (lv_at hl 0 rfl) ?_
      obtain ⟨hq, hf⟩ := gd_e hf
      refine rg_V (pc := 37) hf hR hA (fun z hz => rn_V (κ := 7) (As := []) (rest := []) hC hR rfl (by decide) hq (c_X7_passTick  hz _) m_431 m_433 ms_2 m_1 m_434 hd_X7_passTick ⟨rfl, rfl, Nat.le_of_ble_eq_true rfl, Nat.le_of_ble_eq_true rfl⟩ rfl hl.1 rfl (Nat.le_of_ble_eq_true rfl) dX7_tick_37 ⟨Nat.le_of_ble_eq_true rfl, Nat.le_of_ble_eq_true rfl⟩) (fun z1 H locs hf hR => ?_)
      refine rg_iinc (pc := 40) hx hb dX7_tick_40 hl (k := 2) rfl rfl (by decide) hf (fun x2 ls hf hl => ?_)
      have hl : lv_has ls 3 [(2, .int x2), (0, .ref v0), (1, .int v1)] := hl
      refine lv_goto (pc := 43) (tgt := 31) hx hb dX7_tick_43 (by decide) ?_
      exact hk31 v0 v1 x2 z1 _ _ _ hf hR (lv_sub hl [1, 2, 0] rfl)
  have hL31 : ∀  (n : Nat) (v0 : Nat) (v1 : Int32) (v2 : Int32) (M : Mem) (H : Heap) (locs : List Loc) (ls : Array Slot), f_X7_tick_L31  n v0 v1 v2 M = some r → Hp D ca false A s M H locs → lv_has ls 3 [(0, .ref v0), (1, .int v1), (2, .int v2)] → W p l e rm_X7_tick s m args below meth c H locs 1 6 (vx_MQ below (cxI D ca A r) (cxX D ca A r) args s 2 12 A) (F0 m 31 ls []) := by
    intro  n
    induction n with
    | zero => intro v0 v1 v2 M H locs ls hf; exact nomatch (show (none : Option (Mem × (Int32 ⊕ Nat))) = some r from hf)
    | succ n ih => intro v0 v1 v2 M H locs ls hf hR hl; exact hB31  (f_X7_tick_L31  n) ih v0 v1 v2 M H locs ls hf hR hl
  unfold f_X7_tick at hf
  refine lv_iload_n (pc := 0) hx hb dX7_tick_0 rfl (lv_at hl 1 rfl) ?_
  refine lv_iconst (pc := 1) (v := (1 : Int32)) hx hb dX7_tick_1 (by decide) ?_
  refine lv_bipush (pc := 2) (v := (50 : Int32)) hx hb dX7_tick_2 (by decide) ?_
  refine rg_xV (pc := 4) hf hR hA htab hlocks (by show 1 ≤ 2; decide) (by show 6 ≤ 12; decide) (fun z hz => xn_S (As := [.int v1, .int (1 : Int32), .int (50 : Int32)]) (rest := []) hC hR (c_X7_requireRange hlt hz _) m_302 m_303 m_1 m_304 hd_X7_requireRange ⟨rfl, rfl, Nat.le_of_ble_eq_true rfl, Nat.le_of_ble_eq_true rfl⟩ rfl hl.1 rfl (Nat.le_of_ble_eq_true rfl) dX7_tick_4 ⟨Nat.le_of_ble_eq_true rfl, Nat.le_of_ble_eq_true rfl⟩) (fun M3 H locs hf hR => ?_)
  refine lv_aload_n (pc := 7) hx hb dX7_tick_7 rfl (lv_at hl 0 rfl) ?_
  refine rg_get (pc := 8) (C := RX7) (T := TX7) (N := 11) (κ := 7) (v := .int (mm_i M3 v0 7)) hx hb hts hK hR hown in_7 rfl (by decide) 7 (by decide) m_237 rfl dX7_tick_8 hf (fun hf => ?_)
  refine lv_iload_n (pc := 11) hx hb dX7_tick_11 rfl (lv_at hl 1 rfl) ?_
  refine lv_iadd (pc := 12) hx hb dX7_tick_12 ?_
  refine lv_sipush (pc := 13) (v := (2000 : Int32)) hx hb dX7_tick_13 (by decide) ?_
  refine lv_icmp_le (pc := 16) (tgt := 29) hx hb dX7_tick_16 (by decide) (fun hc => ?_) (fun hc => ?_)
  · replace hf := it_t hf hc
    refine lv_iconst (pc := 29) (v := (0 : Int32)) hx hb dX7_tick_29 (by decide) ?_
    refine lv_istore_n (pc := 30) (lv' := [(2, .int (0 : Int32)), (0, .ref v0), (1, .int v1)]) hx hb dX7_tick_30 rfl hl (by decide) rfl (fun ls hl => ?_)
    exact hL31 200 v0 v1 (0 : Int32) M3 _ _ _ hf hR (lv_sub hl [1, 2, 0] rfl)
  · replace hf := it_f hf hc
    exact rg_thr (pc := 19) 1 (by decide) hC htab hlt hl.1 rfl m_374 (is := 108) (text := "the tick would be above 2000") (by decide +kernel) hf hR dX7_tick_19 dX7_tick_22 dX7_tick_23 dX7_tick_25 dX7_tick_28 (Nat.le_of_ble_eq_true rfl) (Nat.le_of_ble_eq_true rfl) (Nat.le_of_ble_eq_true rfl) (Nat.le_of_ble_eq_true rfl) (by show 2 ≤ 2; decide) (by show 12 ≤ 12; decide)
-- X7_frame
def f_X7_frame (v0 : Nat) (M : Mem) : Option (Mem × (Int32 ⊕ Nat)) := gd (M.1 v0 = 7) <| if (mm_i M v0 4) < (20 : Int32) then (gd (M.1 v0 = 7) <| rd (mm_r M v0 3) fun a1 => gd (M.1 v0 = 7) <| gd (M.1 a1 = 12 ∧ vi_ (mm_i M v0 4) (mm_N M a1)) <| rd (mm_r M a1 ((mm_i M v0 4)).toNatClampNeg) fun a2 => gd (M.1 v0 = 7) <| gd (M.1 a2 = 1) <| lt_ (ms_i M a2 1 (mm_i M v0 7)) fun M3 => gd (M3.1 v0 = 7) <| rd (mm_r M3 v0 0) fun a4 => gd (M3.1 a2 = 1) <| rd (mm_r M3 a2 0) fun a5 => gd (M3.1 a4 = 3) <| bd (f_X3_weighLanes a4 a5 M3) fun z6 => gd (z6.1 v0 = 7) <| gd (z6.1 v0 = 7) <| lt_ (ms_i z6 v0 4 ((mm_i z6 v0 4) + (1 : Int32))) fun M7 => gd (M7.1 v0 = 7) <| some (M7, .inl ((mm_i M7 v0 4) - (1 : Int32)))) else (some (M, .inr 1))
abbrev rm_X7_frame : Room := { frames := 6, cells := 1, slots := 6, locals := 90 }
theorem hd_X7_frame : yX7_frame.cls ≠ "java/lang/invoke/MethodHandle" ∧ yX7_frame.cls ≠ "java/lang/invoke/VarHandle" ∧ (parseMethodDescriptor yX7_frame.desc).map (fun d => d.parameters.length) = some 0 := by decide +kernel
set_option maxHeartbeats 8000000 in
set_option maxRecDepth 100000 in
theorem c_X7_frame {l : Launch} (hlt : l.stackTraces = false) {D : va_G} {ca : Nat → ClassId} {b : Nat} {v0 : Nat} {M : Mem} {r : Mem × (Int32 ⊕ Nat)} (hf : f_X7_frame v0 M = some r) : CxI l yX7_frame cX7_frame 2 (some .int) rm_X7_frame D ca b [.ref v0] M r 1 6 := by
  intro sz
  refine bodyx_start (nx := false) (Qc := fun A => cxI D ca A r) (XC := fun A => cxX D ca A r) (by decide +kernel) (Nat.le_of_ble_eq_true rfl) ?_
  intro p e s m args below meth c A hC htab hr hR ls hl
  obtain ⟨hx, hb, hml, hts, hown, hlocks, hXe, hA, hAb, hnm⟩ := id hC
  have hK := hXe.1
  have hl : lv_has ls 2 [(0, .ref v0)] := hl
  unfold f_X7_frame at hf
  refine lv_aload_n (pc := 0) hx hb dX7_frame_0 rfl (lv_at hl 0 rfl) ?_
  refine rg_get (pc := 1) (C := RX7) (T := TX7) (N := 11) (κ := 7) (v := .int (mm_i M v0 4)) hx hb hts hK hR hown in_7 rfl (by decide) 4 (by decide) m_234 rfl dX7_frame_1 hf (fun hf => ?_)
  refine lv_bipush (pc := 4) (v := (20 : Int32)) hx hb dX7_frame_4 (by decide) ?_
  refine lv_icmp_lt (pc := 6) (tgt := 19) hx hb dX7_frame_6 (by decide) (fun hc => ?_) (fun hc => ?_)
  · replace hf := it_t hf hc
    refine lv_aload_n (pc := 19) hx hb dX7_frame_19 rfl (lv_at hl 0 rfl) ?_
    refine rg_getr (pc := 20) (C := RX7) (T := TX7) (N := 11) (κ := 7) hx hb hts hK hR hown in_7 rfl (by decide) 3 (by decide) m_233 rfl dX7_frame_20 hf (fun a1 hf => ?_)
    refine lv_aload_n (pc := 23) hx hb dX7_frame_23 rfl (lv_at hl 0 rfl) ?_
    refine rg_get (pc := 24) (C := RX7) (T := TX7) (N := 11) (κ := 7) (v := .int (mm_i M v0 4)) hx hb hts hK hR hown in_7 rfl (by decide) 4 (by decide) m_234 rfl dX7_frame_24 hf (fun hf => ?_)
    refine rg_aald (pc := 27) (κ := 12) hx hb hK hR 3 rfl (by decide) dX7_frame_27 hf (fun a2 hf => ?_)
    refine lv_astore_n (pc := 28) (lv' := [(1, .ref a2), (0, .ref v0)]) hx hb dX7_frame_28 rfl hl (by decide) rfl (fun ls hl => ?_)
    refine lv_aload_n (pc := 29) hx hb dX7_frame_29 rfl (lv_at hl 0 rfl) ?_
    refine lv_aload_n (pc := 30) hx hb dX7_frame_30 rfl (lv_at hl 1 rfl) ?_
    refine rg_get (pc := 31) (C := RX7) (T := TX7) (N := 11) (κ := 7) (v := .int (mm_i M v0 7)) hx hb hts hK hR hown in_7 rfl (by decide) 7 (by decide) m_237 rfl dX7_frame_31 hf (fun hf => ?_)
    refine rg_puti (pc := 34) (C := RX1) (T := TX1) (N := 2) (κ := 1) hx hb hts hK hR hown in_1 rfl (by decide) 1 (by decide) m_200 tyX1 tyX1_ok nmX1 rfl rfl rfl rfl dX7_frame_34 hf (fun M3 H locs hf hR => ?_)
    refine lv_aload_n (pc := 37) hx hb dX7_frame_37 rfl (lv_at hl 1 rfl) ?_
    refine rg_getr (pc := 38) (C := RX7) (T := TX7) (N := 11) (κ := 7) hx hb hts hK hR hown in_7 rfl (by decide) 0 (by decide) m_230 rfl dX7_frame_38 hf (fun a4 hf => ?_)
    refine lv_aload_n (pc := 41) hx hb dX7_frame_41 rfl (lv_at hl 0 rfl) ?_
    refine rg_getr (pc := 42) (C := RX1) (T := TX1) (N := 2) (κ := 1) hx hb hts hK hR hown in_1 rfl (by decide) 0 (by decide) m_199 rfl dX7_frame_42 hf (fun a5 hf => ?_)
    obtain ⟨hq, hf⟩ := gd_e hf
    refine rg_V (pc := 45) hf hR hA (fun z hz => rn_V (κ := 3) (As := [.ref a5]) (rest := []) hC hR rfl (by decide) hq (c_X3_weighLanes  hz _) m_272 m_273 m_274 m_2 m_275 hd_X3_weighLanes ⟨rfl, rfl, Nat.le_of_ble_eq_true rfl, Nat.le_of_ble_eq_true rfl⟩ rfl hl.1 rfl (Nat.le_of_ble_eq_true rfl) dX7_frame_45 ⟨Nat.le_of_ble_eq_true rfl, Nat.le_of_ble_eq_true rfl⟩) (fun z6 H locs hf hR => ?_)
    refine lv_aload_n (pc := 48) hx hb dX7_frame_48 rfl (lv_at hl 1 rfl) ?_
    refine lv_dup (pc := 49) hx hb dX7_frame_49 rfl ?_
    refine rg_get (pc := 50) (C := RX7) (T := TX7) (N := 11) (κ := 7) (v := .int (mm_i z6 v0 4)) hx hb hts hK hR hown in_7 rfl (by decide) 4 (by decide) m_234 rfl dX7_frame_50 hf (fun hf => ?_)
    refine lv_iconst (pc := 53) (v := (1 : Int32)) hx hb dX7_frame_53 (by decide) ?_
    refine lv_iadd (pc := 54) hx hb dX7_frame_54 ?_
    refine rg_puti (pc := 55) (C := RX7) (T := TX7) (N := 11) (κ := 7) hx hb hts hK hR hown in_7 rfl (by decide) 4 (by decide) m_234 tyX7 tyX7_ok nmX7 rfl rfl rfl rfl dX7_frame_55 hf (fun M7 H locs hf hR => ?_)
    refine lv_aload_n (pc := 58) hx hb dX7_frame_58 rfl (lv_at hl 1 rfl) ?_
    refine rg_get (pc := 59) (C := RX7) (T := TX7) (N := 11) (κ := 7) (v := .int (mm_i M7 v0 4)) hx hb hts hK hR hown in_7 rfl (by decide) 4 (by decide) m_234 rfl dX7_frame_59 hf (fun hf => ?_)
    refine lv_iconst (pc := 62) (v := (1 : Int32)) hx hb dX7_frame_62 (by decide) ?_
    refine lv_isub (pc := 63) hx hb dX7_frame_63 ?_
    exact rg_xiret (pc := 64) hx hb hlocks hr hf hR (by show 0 ≤ 1; decide) (by show 0 ≤ 6; decide) dX7_frame_64
  · replace hf := it_f hf hc
    exact rg_thr (pc := 9) 1 (by decide) hC htab hlt hl.1 rfl m_374 (is := 116) (text := "there are 20 frames") (by decide +kernel) hf hR dX7_frame_9 dX7_frame_12 dX7_frame_13 dX7_frame_15 dX7_frame_18 (Nat.le_of_ble_eq_true rfl) (Nat.le_of_ble_eq_true rfl) (Nat.le_of_ble_eq_true rfl) (Nat.le_of_ble_eq_true rfl) (by show 1 ≤ 1; decide) (by show 6 ≤ 6; decide)
-- X7_requireNumber
def f_X7_requireNumber_b9   (M : Mem) : Option (Mem × (Unit ⊕ Nat)) := some (M, .inr 2)
def f_X7_requireNumber (v0 : Int32) (v1 : Int32) (M : Mem) : Option (Mem × (Unit ⊕ Nat)) := if v0 < 0 then (f_X7_requireNumber_b9  M) else (if v0 < v1 then (some (M, .inl ())) else (f_X7_requireNumber_b9  M))
abbrev rm_X7_requireNumber : Room := { frames := 6, cells := 1, slots := 6, locals := 90 }
theorem hd_X7_requireNumber : yX7_requireNumber.cls ≠ "java/lang/invoke/MethodHandle" ∧ yX7_requireNumber.cls ≠ "java/lang/invoke/VarHandle" ∧ (parseMethodDescriptor yX7_requireNumber.desc).map (fun d => d.parameters.length) = some 2 := by decide +kernel
set_option maxHeartbeats 8000000 in
set_option maxRecDepth 100000 in
theorem c_X7_requireNumber {l : Launch} (hlt : l.stackTraces = false) {D : va_G} {ca : Nat → ClassId} {b : Nat} {v0 : Int32} {v1 : Int32} {M : Mem} {r : Mem × (Unit ⊕ Nat)} (hf : f_X7_requireNumber v0 v1 M = some r) : CxV l yX7_requireNumber cX7_requireNumber 2 none rm_X7_requireNumber D ca b [.int v0, .int v1] M r 1 6 := by
  intro sz
  refine bodyx_start (nx := false) (Qc := fun A => cxV D ca A r) (XC := fun A => cxX D ca A r) (by decide +kernel) (Nat.le_of_ble_eq_true rfl) ?_
  intro p e s m args below meth c A hC htab hr hR ls hl
  obtain ⟨hx, hb, hml, hts, hown, hlocks, hXe, hA, hAb, hnm⟩ := id hC
  have hK := hXe.1
  have hl : lv_has ls 2 [(0, .int v0), (1, .int v1)] := hl
  have hB9 : ∀   (M : Mem) (H : Heap) (locs : List Loc) (ls : Array Slot), f_X7_requireNumber_b9   M = some r → Hp D ca false A s M H locs → lv_has ls 2 [] → W p l e rm_X7_requireNumber s m args below meth c H locs 0 0 (vx_MQ below (cxV D ca A r) (cxX D ca A r) args s 1 6 A) (F0 m 9 ls []) := by
    intro   M H locs ls hf hR hl
    unfold f_X7_requireNumber_b9 at hf
    exact rg_thrW (pc := 9) 2 (by decide) hC htab hlt hl.1 rfl m_529 (is := 269) (text := "there is none with this number") (by decide +kernel) hf hR dX7_requireNumber_9 dX7_requireNumber_12 dX7_requireNumber_13 dX7_requireNumber_16 dX7_requireNumber_19 (Nat.le_of_ble_eq_true rfl) (Nat.le_of_ble_eq_true rfl) (Nat.le_of_ble_eq_true rfl) (Nat.le_of_ble_eq_true rfl) (by show 1 ≤ 1; decide) (by show 6 ≤ 6; decide)
  unfold f_X7_requireNumber at hf
  refine lv_iload_n (pc := 0) hx hb dX7_requireNumber_0 rfl (lv_at hl 0 rfl) ?_
  refine lv_if_lt (pc := 1) (tgt := 9) hx hb dX7_requireNumber_1 (by decide) (fun hc => ?_) (fun hc => ?_)
  · replace hf := it_t hf hc
    exact hB9  M _ _ _ hf hR (lv_sub hl [] rfl)
  · replace hf := it_f hf hc
    refine lv_iload_n (pc := 4) hx hb dX7_requireNumber_4 rfl (lv_at hl 0 rfl) ?_
    refine lv_iload_n (pc := 5) hx hb dX7_requireNumber_5 rfl (lv_at hl 1 rfl) ?_
    refine lv_icmp_lt (pc := 6) (tgt := 20) hx hb dX7_requireNumber_6 (by decide) (fun hc => ?_) (fun hc => ?_)
    · replace hf := it_t hf hc
      exact rg_xvret (pc := 20) hx hb hlocks hr hf hR (by show 0 ≤ 1; decide) (by show 0 ≤ 6; decide) dX7_requireNumber_20
    · replace hf := it_f hf hc
      exact hB9  M _ _ _ hf hR (lv_sub hl [] rfl)
