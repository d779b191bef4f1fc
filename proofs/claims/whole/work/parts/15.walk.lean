-- X8_bounds
def f_X8_bounds_b63   (M : Mem) : Option (Mem) := some M
def f_X8_bounds_b38  (s0 : Int32) (s1 : Nat) (v0 : Nat) (v1 : Int32) (v2 : Int32) (v3 : Int32) (M : Mem) : Option (Mem) := gd (M.1 s1 = 8) <| lt_ (ms_i M s1 0 s0) fun M1 => gd (M1.1 v0 = 8) <| if (mm_i M1 v0 0) = 0 then (gd (M1.1 v0 = 8) <| lt_ (ms_i M1 v0 3 v1) fun M2 => gd (M2.1 v0 = 8) <| lt_ (ms_i M2 v0 4 v2) fun M3 => gd (M3.1 v0 = 8) <| lt_ (ms_i M3 v0 5 v3) fun M4 => f_X8_bounds_b63  M4) else (f_X8_bounds_b63  M1)
def f_X8_bounds_b37  (s0 : Nat) (v0 : Nat) (v1 : Int32) (v2 : Int32) (v3 : Int32) (M : Mem) : Option (Mem) := f_X8_bounds_b38 (1 : Int32) s0 v0 v1 v2 v3 M
def f_X8_bounds (v0 : Nat) (v1 : Int32) (v2 : Int32) (v3 : Int32) (M : Mem) : Option (Mem) := bd (f_X8_isIn v1 (0 : Int32) (1000 : Int32) M) fun z5 => if z5.2 = 0 then (f_X8_bounds_b37 v0 v0 v1 v2 v3 z5.1) else (bd (f_X8_isIn v2 v1 (5000 : Int32) z5.1) fun z6 => if z6.2 = 0 then (f_X8_bounds_b37 v0 v0 v1 v2 v3 z6.1) else (bd (f_X8_isIn v3 (0 : Int32) (100 : Int32) z6.1) fun z7 => if z7.2 = 0 then (f_X8_bounds_b37 v0 v0 v1 v2 v3 z7.1) else (f_X8_bounds_b38 (0 : Int32) v0 v0 v1 v2 v3 z7.1)))
abbrev rm_X8_bounds : Room := { frames := 1, cells := 0, slots := 0, locals := 22 }
theorem hd_X8_bounds : yX8_bounds.cls ≠ "java/lang/invoke/MethodHandle" ∧ yX8_bounds.cls ≠ "java/lang/invoke/VarHandle" ∧ (parseMethodDescriptor yX8_bounds.desc).map (fun d => d.parameters.length) = some 3 := by decide +kernel
set_option maxHeartbeats 8000000 in
set_option maxRecDepth 100000 in
theorem c_X8_bounds {l : Launch} {D : va_G} {ca : Nat → ClassId} {b : Nat} {nx : Bool} {v0 : Nat} {v1 : Int32} {v2 : Int32} {v3 : Int32} {M : Mem} {r : Mem} (hf : f_X8_bounds v0 v1 v2 v3 M = some r) : CtV l yX8_bounds cX8_bounds 4 none rm_X8_bounds D ca b nx [.ref v0, .int v1, .int v2, .int v3] M r 0 0 := by
  intro sz
  refine body_start (Qc := fun A => cvV D ca nx A r) (by decide +kernel) (Nat.le_of_ble_eq_true rfl) ?_
  intro p e s m args below meth c A hC hr hR ls hl
  obtain ⟨hx, hb, hml, hts, hown, hlocks, hXe, hA, hAb, hnm⟩ := id hC
  have hK := hXe.1
  have hl : lv_has ls 4 [(0, .ref v0), (1, .int v1), (2, .int v2), (3, .int v3)] := hl
  have hB63 : ∀   (M : Mem) (H : Heap) (locs : List Loc) (ls : Array Slot), f_X8_bounds_b63   M = some r → Hp D ca nx A s M H locs → lv_has ls 4 [] → W p l e rm_X8_bounds s m args below meth c H locs 0 0 (MQ below (cvV D ca nx A r) args s 0 0 A) (F0 m 63 ls []) := by
    intro   M H locs ls hf hR hl
    unfold f_X8_bounds_b63 at hf
    exact rg_vret (pc := 63) hx hb hlocks hr hf hR dX8_bounds_63
  have hB38 : ∀  (s0 : Int32) (s1 : Nat) (v0 : Nat) (v1 : Int32) (v2 : Int32) (v3 : Int32) (M : Mem) (H : Heap) (locs : List Loc) (ls : Array Slot), f_X8_bounds_b38  s0 s1 v0 v1 v2 v3 M = some r → Hp D ca nx A s M H locs → lv_has ls 4 [(0, .ref v0), (1, .int v1), (2, .int v2), (3, .int v3)] → W p l e rm_X8_bounds s m args below meth c H locs 0 0 (MQ below (cvV D ca nx A r) args s 0 0 A) (F0 m 38 ls [.int s0, .ref s1]) := by
    intro  s0 s1 v0 v1 v2 v3 M H locs ls hf hR hl
    unfold f_X8_bounds_b38 at hf
    refine rg_puti (pc := 38) (C := RX8) (T := TX8) (N := 37) (κ := 8) hx hb hts hK hR hown in_8 rfl (by decide) 0 (by decide) m_668 tyX8 tyX8_ok nmX8 rfl rfl rfl rfl dX8_bounds_38 hf (fun M1 H locs hf hR => ?_)
    refine lv_aload_n (pc := 41) hx hb dX8_bounds_41 rfl (lv_at hl 0 rfl) ?_
    refine rg_get (pc := 42) (C := RX8) (T := TX8) (N := 37) (κ := 8) (v := .int (mm_i M1 v0 0)) hx hb hts hK hR hown in_8 rfl (by decide) 0 (by decide) m_668 rfl dX8_bounds_42 hf (fun hf => ?_)
    refine lv_if_ne (pc := 45) (tgt := 63) hx hb dX8_bounds_45 (by decide) (fun hc => ?_) (fun hc => ?_)
    · replace hf := it_f hf hc
      exact hB63  M1 _ _ _ hf hR (lv_sub hl [] rfl)
    · replace hf := it_t hf hc
      refine lv_aload_n (pc := 48) hx hb dX8_bounds_48 rfl (lv_at hl 0 rfl) ?_
      refine lv_iload_n (pc := 49) hx hb dX8_bounds_49 rfl (lv_at hl 1 rfl) ?_
      refine rg_puti (pc := 50) (C := RX8) (T := TX8) (N := 37) (κ := 8) hx hb hts hK hR hown in_8 rfl (by decide) 3 (by decide) m_671 tyX8 tyX8_ok nmX8 rfl rfl rfl rfl dX8_bounds_50 hf (fun M2 H locs hf hR => ?_)
      refine lv_aload_n (pc := 53) hx hb dX8_bounds_53 rfl (lv_at hl 0 rfl) ?_
      refine lv_iload_n (pc := 54) hx hb dX8_bounds_54 rfl (lv_at hl 2 rfl) ?_
      refine rg_puti (pc := 55) (C := RX8) (T := TX8) (N := 37) (κ := 8) hx hb hts hK hR hown in_8 rfl (by decide) 4 (by decide) m_672 tyX8 tyX8_ok nmX8 rfl rfl rfl rfl dX8_bounds_55 hf (fun M3 H locs hf hR => ?_)
      refine lv_aload_n (pc := 58) hx hb dX8_bounds_58 rfl (lv_at hl 0 rfl) ?_
      refine lv_iload_n (pc := 59) hx hb dX8_bounds_59 rfl (lv_at hl 3 rfl) ?_
      refine rg_puti (pc := 60) (C := RX8) (T := TX8) (N := 37) (κ := 8) hx hb hts hK hR hown in_8 rfl (by decide) 5 (by decide) m_673 tyX8 tyX8_ok nmX8 rfl rfl rfl rfl dX8_bounds_60 hf (fun M4 H locs hf hR => ?_)
      exact hB63  M4 _ _ _ hf hR (lv_sub hl [] rfl)
  have hB37 : ∀  (s0 : Nat) (v0 : Nat) (v1 : Int32) (v2 : Int32) (v3 : Int32) (M : Mem) (H : Heap) (locs : List Loc) (ls : Array Slot), f_X8_bounds_b37  s0 v0 v1 v2 v3 M = some r → Hp D ca nx A s M H locs → lv_has ls 4 [(0, .ref v0), (1, .int v1), (2, .int v2), (3, .int v3)] → W p l e rm_X8_bounds s m args below meth c H locs 0 0 (MQ below (cvV D ca nx A r) args s 0 0 A) (F0 m 37 ls [.ref s0]) := by
    intro  s0 v0 v1 v2 v3 M H locs ls hf hR hl
    unfold f_X8_bounds_b37 at hf
    refine lv_iconst (pc := 37) (v := (1 : Int32)) hx hb dX8_bounds_37 (by decide) ?_
    exact hB38 (1 : Int32) s0 v0 v1 v2 v3 M _ _ _ hf hR (lv_sub hl [0, 1, 2, 3] rfl)
  unfold f_X8_bounds at hf
  refine lv_aload_n (pc := 0) hx hb dX8_bounds_0 rfl (lv_at hl 0 rfl) ?_
  refine lv_iload_n (pc := 1) hx hb dX8_bounds_1 rfl (lv_at hl 1 rfl) ?_
  refine lv_iconst (pc := 2) (v := (0 : Int32)) hx hb dX8_bounds_2 (by decide) ?_
  refine lv_sipush (pc := 3) (v := (1000 : Int32)) hx hb dX8_bounds_3 (by decide) ?_
  refine rg_I (pc := 6) hf hR hA (fun z hz => rn_S (As := [.int v1, .int (0 : Int32), .int (1000 : Int32)]) (rest := [.ref v0]) hC hR (c_X8_isIn  hz _) m_792 m_793 m_9 m_794 hd_X8_isIn ⟨rfl, rfl, Nat.le_of_ble_eq_true rfl, Nat.le_of_ble_eq_true rfl⟩ rfl hl.1 rfl (Nat.le_of_ble_eq_true rfl) dX8_bounds_6 ⟨Nat.le_of_ble_eq_true rfl, Nat.le_of_ble_eq_true rfl⟩) (fun z5 H locs hf hR => ?_)
  refine lv_if_eq (pc := 9) (tgt := 37) hx hb dX8_bounds_9 (by decide) (fun hc => ?_) (fun hc => ?_)
  · replace hf := it_t hf hc
    exact hB37 v0 v0 v1 v2 v3 z5.1 _ _ _ hf hR (lv_sub hl [0, 1, 2, 3] rfl)
  · replace hf := it_f hf hc
    refine lv_iload_n (pc := 12) hx hb dX8_bounds_12 rfl (lv_at hl 2 rfl) ?_
    refine lv_iload_n (pc := 13) hx hb dX8_bounds_13 rfl (lv_at hl 1 rfl) ?_
    refine lv_sipush (pc := 14) (v := (5000 : Int32)) hx hb dX8_bounds_14 (by decide) ?_
    refine rg_I (pc := 17) hf hR hA (fun z hz => rn_S (As := [.int v2, .int v1, .int (5000 : Int32)]) (rest := [.ref v0]) hC hR (c_X8_isIn  hz _) m_792 m_793 m_9 m_794 hd_X8_isIn ⟨rfl, rfl, Nat.le_of_ble_eq_true rfl, Nat.le_of_ble_eq_true rfl⟩ rfl hl.1 rfl (Nat.le_of_ble_eq_true rfl) dX8_bounds_17 ⟨Nat.le_of_ble_eq_true rfl, Nat.le_of_ble_eq_true rfl⟩) (fun z6 H locs hf hR => ?_)
    refine lv_if_eq (pc := 20) (tgt := 37) hx hb dX8_bounds_20 (by decide) (fun hc => ?_) (fun hc => ?_)
    · replace hf := it_t hf hc
      exact hB37 v0 v0 v1 v2 v3 z6.1 _ _ _ hf hR (lv_sub hl [0, 1, 2, 3] rfl)
    · replace hf := it_f hf hc
      refine lv_iload_n (pc := 23) hx hb dX8_bounds_23 rfl (lv_at hl 3 rfl) ?_
      refine lv_iconst (pc := 24) (v := (0 : Int32)) hx hb dX8_bounds_24 (by decide) ?_
      refine lv_bipush (pc := 25) (v := (100 : Int32)) hx hb dX8_bounds_25 (by decide) ?_
      refine rg_I (pc := 27) hf hR hA (fun z hz => rn_S (As := [.int v3, .int (0 : Int32), .int (100 : Int32)]) (rest := [.ref v0]) hC hR (c_X8_isIn  hz _) m_792 m_793 m_9 m_794 hd_X8_isIn ⟨rfl, rfl, Nat.le_of_ble_eq_true rfl, Nat.le_of_ble_eq_true rfl⟩ rfl hl.1 rfl (Nat.le_of_ble_eq_true rfl) dX8_bounds_27 ⟨Nat.le_of_ble_eq_true rfl, Nat.le_of_ble_eq_true rfl⟩) (fun z7 H locs hf hR => ?_)
      refine lv_if_eq (pc := 30) (tgt := 37) hx hb dX8_bounds_30 (by decide) (fun hc => ?_) (fun hc => ?_)
      · replace hf := it_t hf hc
        exact hB37 v0 v0 v1 v2 v3 z7.1 _ _ _ hf hR (lv_sub hl [0, 1, 2, 3] rfl)
      · replace hf := it_f hf hc
        refine lv_iconst (pc := 33) (v := (0 : Int32)) hx hb dX8_bounds_33 (by decide) ?_
        refine lv_goto (pc := 34) (tgt := 38) hx hb dX8_bounds_34 (by decide) ?_
        exact hB38 (0 : Int32) v0 v0 v1 v2 v3 z7.1 _ _ _ hf hR (lv_sub hl [0, 1, 2, 3] rfl)
-- X8_speedOf
def f_X8_speedOf (v0 : Nat) (v1 : Int32) (M : Mem) : Option (Mem × Int32) := lt_ ((v1 + (20 : Int32))) fun x1 => gd (¬ x1 = 0) <| gd (M.1 v0 = 8) <| gd (¬ (x1 * x1) = 0) <| some (M, (((36000 : Int32) / x1) + (((100 : Int32) * (mm_i M v0 2)) / (x1 * x1))))
abbrev rm_X8_speedOf : Room := { frames := 0, cells := 0, slots := 0, locals := 0 }
theorem hd_X8_speedOf : yX8_speedOf.cls ≠ "java/lang/invoke/MethodHandle" ∧ yX8_speedOf.cls ≠ "java/lang/invoke/VarHandle" ∧ (parseMethodDescriptor yX8_speedOf.desc).map (fun d => d.parameters.length) = some 1 := by decide +kernel
set_option maxHeartbeats 8000000 in
set_option maxRecDepth 100000 in
theorem c_X8_speedOf {l : Launch} {D : va_G} {ca : Nat → ClassId} {b : Nat} {nx : Bool} {v0 : Nat} {v1 : Int32} {M : Mem} {r : Mem × Int32} (hf : f_X8_speedOf v0 v1 M = some r) : CtI l yX8_speedOf cX8_speedOf 3 (some .int) rm_X8_speedOf D ca b nx [.ref v0, .int v1] M r := by
  intro sz
  refine body_start (Qc := fun A => cvI D ca nx A r) (by decide +kernel) (Nat.le_of_ble_eq_true rfl) ?_
  intro p e s m args below meth c A hC hr hR ls hl
  obtain ⟨hx, hb, hml, hts, hown, hlocks, hXe, hA, hAb, hnm⟩ := id hC
  have hK := hXe.1
  have hl : lv_has ls 3 [(0, .ref v0), (1, .int v1)] := hl
  unfold f_X8_speedOf at hf
  refine lv_iload_n (pc := 0) hx hb dX8_speedOf_0 rfl (lv_at hl 1 rfl) ?_
  refine lv_bipush (pc := 1) (v := (20 : Int32)) hx hb dX8_speedOf_1 (by decide) ?_
  refine lv_iadd (pc := 3) hx hb dX8_speedOf_3 ?_
  refine nm_i hf (fun x1 hf => ?_)
  refine lv_istore_n (pc := 4) (lv' := [(2, .int x1), (0, .ref v0), (1, .int v1)]) hx hb dX8_speedOf_4 rfl hl (by decide) rfl (fun ls hl => ?_)
  refine lv_ldc (pc := 5) hx hb hown (hts _ m_824) dX8_speedOf_5 ?_
  refine lv_iload_n (pc := 7) hx hb dX8_speedOf_7 rfl (lv_at hl 0 rfl) ?_
  obtain ⟨hz, hf⟩ := gd_e hf
  refine lv_idiv (pc := 8) hx hb dX8_speedOf_8 hz ?_
  refine lv_bipush (pc := 9) (v := (100 : Int32)) hx hb dX8_speedOf_9 (by decide) ?_
  refine lv_aload_n (pc := 11) hx hb dX8_speedOf_11 rfl (lv_at hl 1 rfl) ?_
  refine rg_get (pc := 12) (C := RX8) (T := TX8) (N := 37) (κ := 8) (v := .int (mm_i M v0 2)) hx hb hts hK hR hown in_8 rfl (by decide) 2 (by decide) m_670 rfl dX8_speedOf_12 hf (fun hf => ?_)
  refine lv_imul (pc := 15) hx hb dX8_speedOf_15 ?_
  refine lv_iload_n (pc := 16) hx hb dX8_speedOf_16 rfl (lv_at hl 0 rfl) ?_
  refine lv_iload_n (pc := 17) hx hb dX8_speedOf_17 rfl (lv_at hl 0 rfl) ?_
  refine lv_imul (pc := 18) hx hb dX8_speedOf_18 ?_
  obtain ⟨hz, hf⟩ := gd_e hf
  refine lv_idiv (pc := 19) hx hb dX8_speedOf_19 hz ?_
  refine lv_iadd (pc := 20) hx hb dX8_speedOf_20 ?_
  exact rg_iret (pc := 21) hx hb hlocks hr hf hR dX8_speedOf_21
-- X8_size
def f_X8_size_b10  (s0 : Int32) (M : Mem) : Option (Mem × Int32) := some (M, s0)
def f_X8_size (v0 : Int32) (M : Mem) : Option (Mem × Int32) := if 0 ≤ v0 then (f_X8_size_b10 v0 M) else (f_X8_size_b10 (-v0) M)
abbrev rm_X8_size : Room := { frames := 0, cells := 0, slots := 0, locals := 0 }
theorem hd_X8_size : yX8_size.cls ≠ "java/lang/invoke/MethodHandle" ∧ yX8_size.cls ≠ "java/lang/invoke/VarHandle" ∧ (parseMethodDescriptor yX8_size.desc).map (fun d => d.parameters.length) = some 1 := by decide +kernel
set_option maxHeartbeats 8000000 in
set_option maxRecDepth 100000 in
theorem c_X8_size {l : Launch} {D : va_G} {ca : Nat → ClassId} {b : Nat} {nx : Bool} {v0 : Int32} {M : Mem} {r : Mem × Int32} (hf : f_X8_size v0 M = some r) : CtI l yX8_size cX8_size 1 (some .int) rm_X8_size D ca b nx [.int v0] M r := by
  intro sz
  refine body_start (Qc := fun A => cvI D ca nx A r) (by decide +kernel) (Nat.le_of_ble_eq_true rfl) ?_
  intro p e s m args below meth c A hC hr hR ls hl
  obtain ⟨hx, hb, hml, hts, hown, hlocks, hXe, hA, hAb, hnm⟩ := id hC
  have hK := hXe.1
  have hl : lv_has ls 1 [(0, .int v0)] := hl
  have hB10 : ∀  (s0 : Int32) (M : Mem) (H : Heap) (locs : List Loc) (ls : Array Slot), f_X8_size_b10  s0 M = some r → Hp D ca nx A s M H locs → lv_has ls 1 [] → W p l e rm_X8_size s m args below meth c H locs 0 0 (MQ below (cvI D ca nx A r) args s 0 0 A) (F0 m 10 ls [.int s0]) := by
    intro  s0 M H locs ls hf hR hl
    unfold f_X8_size_b10 at hf
    exact rg_iret (pc := 10) hx hb hlocks hr hf hR dX8_size_10
  unfold f_X8_size at hf
  refine lv_iload_n (pc := 0) hx hb dX8_size_0 rfl (lv_at hl 0 rfl) ?_
  refine lv_if_ge (pc := 1) (tgt := 9) hx hb dX8_size_1 (by decide) (fun hc => ?_) (fun hc => ?_)
  · replace hf := it_t hf hc
    refine lv_iload_n (pc := 9) hx hb dX8_size_9 rfl (lv_at hl 0 rfl) ?_
    exact hB10 v0 M _ _ _ hf hR (lv_sub hl [] rfl)
  · replace hf := it_f hf hc
    refine lv_iload_n (pc := 4) hx hb dX8_size_4 rfl (lv_at hl 0 rfl) ?_
    refine lv_ineg (pc := 5) hx hb dX8_size_5 ?_
    refine lv_goto (pc := 6) (tgt := 10) hx hb dX8_size_6 (by decide) ?_
    exact hB10 (-v0) M _ _ _ hf hR (lv_sub hl [] rfl)
-- X8_apart
def f_X8_apart_b23  (s0 : Int32) (M : Mem) : Option (Mem × Int32) := some (M, s0)
def f_X8_apart (v0 : Int32) (v1 : Int32) (M : Mem) : Option (Mem × Int32) := bd (f_X8_size (v0 - v1) M) fun z1 => if z1.2 ≤ ((36000 : Int32) - z1.2) then (f_X8_apart_b23 z1.2 z1.1) else (f_X8_apart_b23 ((36000 : Int32) - z1.2) z1.1)
abbrev rm_X8_apart : Room := { frames := 1, cells := 0, slots := 0, locals := 20 }
theorem hd_X8_apart : yX8_apart.cls ≠ "java/lang/invoke/MethodHandle" ∧ yX8_apart.cls ≠ "java/lang/invoke/VarHandle" ∧ (parseMethodDescriptor yX8_apart.desc).map (fun d => d.parameters.length) = some 2 := by decide +kernel
set_option maxHeartbeats 8000000 in
set_option maxRecDepth 100000 in
theorem c_X8_apart {l : Launch} {D : va_G} {ca : Nat → ClassId} {b : Nat} {nx : Bool} {v0 : Int32} {v1 : Int32} {M : Mem} {r : Mem × Int32} (hf : f_X8_apart v0 v1 M = some r) : CtI l yX8_apart cX8_apart 3 (some .int) rm_X8_apart D ca b nx [.int v0, .int v1] M r := by
  intro sz
  refine body_start (Qc := fun A => cvI D ca nx A r) (by decide +kernel) (Nat.le_of_ble_eq_true rfl) ?_
  intro p e s m args below meth c A hC hr hR ls hl
  obtain ⟨hx, hb, hml, hts, hown, hlocks, hXe, hA, hAb, hnm⟩ := id hC
  have hK := hXe.1
  have hl : lv_has ls 3 [(0, .int v0), (1, .int v1)] := hl
  have hB23 : ∀  (s0 : Int32) (M : Mem) (H : Heap) (locs : List Loc) (ls : Array Slot), f_X8_apart_b23  s0 M = some r → Hp D ca nx A s M H locs → lv_has ls 3 [] → W p l e rm_X8_apart s m args below meth c H locs 0 0 (MQ below (cvI D ca nx A r) args s 0 0 A) (F0 m 23 ls [.int s0]) := by
    intro  s0 M H locs ls hf hR hl
    unfold f_X8_apart_b23 at hf
    exact rg_iret (pc := 23) hx hb hlocks hr hf hR dX8_apart_23
  unfold f_X8_apart at hf
  refine lv_iload_n (pc := 0) hx hb dX8_apart_0 rfl (lv_at hl 0 rfl) ?_
  refine lv_iload_n (pc := 1) hx hb dX8_apart_1 rfl (lv_at hl 1 rfl) ?_
  refine lv_isub (pc := 2) hx hb dX8_apart_2 ?_
  refine rg_I (pc := 3) hf hR hA (fun z hz => rn_S (As := [.int (v0 - v1)]) (rest := []) hC hR (c_X8_size  hz _) m_832 m_833 m_9 m_834 hd_X8_size ⟨rfl, rfl, Nat.le_of_ble_eq_true rfl, Nat.le_of_ble_eq_true rfl⟩ rfl hl.1 rfl (Nat.le_of_ble_eq_true rfl) dX8_apart_3 ⟨Nat.le_of_ble_eq_true rfl, Nat.le_of_ble_eq_true rfl⟩) (fun z1 H locs hf hR => ?_)
  refine lv_istore_n (pc := 6) (lv' := [(2, .int z1.2), (0, .int v0), (1, .int v1)]) hx hb dX8_apart_6 rfl hl (by decide) rfl (fun ls hl => ?_)
  refine lv_iload_n (pc := 7) hx hb dX8_apart_7 rfl (lv_at hl 0 rfl) ?_
  refine lv_ldc (pc := 8) hx hb hown (hts _ m_824) dX8_apart_8 ?_
  refine lv_iload_n (pc := 10) hx hb dX8_apart_10 rfl (lv_at hl 0 rfl) ?_
  refine lv_isub (pc := 11) hx hb dX8_apart_11 ?_
  refine lv_icmp_le (pc := 12) (tgt := 22) hx hb dX8_apart_12 (by decide) (fun hc => ?_) (fun hc => ?_)
  · replace hf := it_t hf hc
    refine lv_iload_n (pc := 22) hx hb dX8_apart_22 rfl (lv_at hl 0 rfl) ?_
    exact hB23 z1.2 z1.1 _ _ _ hf hR (lv_sub hl [] rfl)
  · replace hf := it_f hf hc
    refine lv_ldc (pc := 15) hx hb hown (hts _ m_824) dX8_apart_15 ?_
    refine lv_iload_n (pc := 17) hx hb dX8_apart_17 rfl (lv_at hl 0 rfl) ?_
    refine lv_isub (pc := 18) hx hb dX8_apart_18 ?_
    refine lv_goto (pc := 19) (tgt := 23) hx hb dX8_apart_19 (by decide) ?_
    exact hB23 ((36000 : Int32) - z1.2) z1.1 _ _ _ hf hR (lv_sub hl [] rfl)
-- X8_momentumOf
def f_X8_momentumOf (v0 : Nat) (v1 : Int32) (M : Mem) : Option (Mem × Int64) := gd (M.1 v0 = 8) <| rd (mm_r M v0 9) fun a1 => gd (M.1 a1 = 9 ∧ vi_ v1 (mm_N M a1)) <| gd (M.1 v0 = 8) <| rd (mm_r M v0 7) fun a2 => gd (M.1 a2 = 9 ∧ vi_ v1 (mm_N M a2)) <| some (M, (((mm_i M a1 (v1).toNatClampNeg)).toInt64 * (((mm_i M a2 (v1).toNatClampNeg) + (20 : Int32))).toInt64))
abbrev rm_X8_momentumOf : Room := { frames := 0, cells := 0, slots := 0, locals := 0 }
theorem hd_X8_momentumOf : yX8_momentumOf.cls ≠ "java/lang/invoke/MethodHandle" ∧ yX8_momentumOf.cls ≠ "java/lang/invoke/VarHandle" ∧ (parseMethodDescriptor yX8_momentumOf.desc).map (fun d => d.parameters.length) = some 1 := by decide +kernel
set_option maxHeartbeats 8000000 in
set_option maxRecDepth 100000 in
theorem c_X8_momentumOf {l : Launch} {D : va_G} {ca : Nat → ClassId} {b : Nat} {nx : Bool} {v0 : Nat} {v1 : Int32} {M : Mem} {r : Mem × Int64} (hf : f_X8_momentumOf v0 v1 M = some r) : CtL l yX8_momentumOf cX8_momentumOf 2 (some .long) rm_X8_momentumOf D ca b nx [.ref v0, .int v1] M r := by
  intro sz
  refine body_start (Qc := fun A => cvL D ca nx A r) (by decide +kernel) (Nat.le_of_ble_eq_true rfl) ?_
  intro p e s m args below meth c A hC hr hR ls hl
  obtain ⟨hx, hb, hml, hts, hown, hlocks, hXe, hA, hAb, hnm⟩ := id hC
  have hK := hXe.1
  have hl : lv_has ls 2 [(0, .ref v0), (1, .int v1)] := hl
  unfold f_X8_momentumOf at hf
  refine lv_aload_n (pc := 0) hx hb dX8_momentumOf_0 rfl (lv_at hl 0 rfl) ?_
  refine rg_getr (pc := 1) (C := RX8) (T := TX8) (N := 37) (κ := 8) hx hb hts hK hR hown in_8 rfl (by decide) 9 (by decide) m_677 rfl dX8_momentumOf_1 hf (fun a1 hf => ?_)
  refine lv_iload_n (pc := 4) hx hb dX8_momentumOf_4 rfl (lv_at hl 1 rfl) ?_
  refine rg_iald (pc := 5) hx hb hK hR dX8_momentumOf_5 hf (fun hf => ?_)
  refine lv_i2l (pc := 6) hx hb dX8_momentumOf_6 rfl ?_
  refine lv_aload_n (pc := 7) hx hb dX8_momentumOf_7 rfl (lv_at hl 0 rfl) ?_
  refine rg_getr (pc := 8) (C := RX8) (T := TX8) (N := 37) (κ := 8) hx hb hts hK hR hown in_8 rfl (by decide) 7 (by decide) m_675 rfl dX8_momentumOf_8 hf (fun a2 hf => ?_)
  refine lv_iload_n (pc := 11) hx hb dX8_momentumOf_11 rfl (lv_at hl 1 rfl) ?_
  refine rg_iald (pc := 12) hx hb hK hR dX8_momentumOf_12 hf (fun hf => ?_)
  refine lv_bipush (pc := 13) (v := (20 : Int32)) hx hb dX8_momentumOf_13 (by decide) ?_
  refine lv_iadd (pc := 15) hx hb dX8_momentumOf_15 ?_
  refine lv_i2l (pc := 16) hx hb dX8_momentumOf_16 rfl ?_
  refine lv_lmul (pc := 17) hx hb dX8_momentumOf_17 ?_
  exact rg_lret (pc := 18) hx hb hlocks hr hf hR dX8_momentumOf_18
-- X8_goes
def f_X8_goes_b84   (M : Mem) : Option (Mem) := some M
def f_X8_goes (v0 : Nat) (v1 : Int32) (v2 : Int32) (M : Mem) : Option (Mem) := gd (M.1 v0 = 8) <| rd (mm_r M v0 7) fun a1 => gd (M.1 a1 = 9 ∧ vi_ v1 (mm_N M a1)) <| lt_ (ms_i M a1 (v1).toNatClampNeg v2) fun M2 => if 0 ≤ v2 then (if v2 < (64 : Int32) then (f_X8_goes_b84  M2) else (gd (M2.1 v0 = 8) <| rd (mm_r M2 v0 12) fun a3 => gd (M2.1 a3 = 10 ∧ vi_ v1 (mm_N M2 a3)) <| lt_ (ms_i M2 a3 (v1).toNatClampNeg (0 : Int32)) fun M4 => gd (M4.1 v0 = 8) <| gd (M4.1 v0 = 8) <| lt_ (ms_i M4 v0 22 ((mm_i M4 v0 22) + (1 : Int32))) fun M5 => gd (M5.1 v0 = 8) <| gd (M5.1 v0 = 8) <| rd (mm_r M5 v0 9) fun a6 => gd (M5.1 a6 = 9 ∧ vi_ v1 (mm_N M5 a6)) <| gd (M5.1 v0 = 8) <| lt_ (ms_i M5 v0 24 ((mm_i M5 v0 24) + (mm_i M5 a6 (v1).toNatClampNeg))) fun M7 => f_X8_goes_b84  M7)) else (gd (M2.1 v0 = 8) <| rd (mm_r M2 v0 12) fun a8 => gd (M2.1 a8 = 10 ∧ vi_ v1 (mm_N M2 a8)) <| lt_ (ms_i M2 a8 (v1).toNatClampNeg (0 : Int32)) fun M9 => gd (M9.1 v0 = 8) <| gd (M9.1 v0 = 8) <| lt_ (ms_i M9 v0 21 ((mm_i M9 v0 21) + (1 : Int32))) fun M10 => gd (M10.1 v0 = 8) <| gd (M10.1 v0 = 8) <| rd (mm_r M10 v0 9) fun a11 => gd (M10.1 a11 = 9 ∧ vi_ v1 (mm_N M10 a11)) <| gd (M10.1 v0 = 8) <| lt_ (ms_i M10 v0 23 ((mm_i M10 v0 23) + (mm_i M10 a11 (v1).toNatClampNeg))) fun M12 => f_X8_goes_b84  M12)
abbrev rm_X8_goes : Room := { frames := 0, cells := 0, slots := 0, locals := 0 }
theorem hd_X8_goes : yX8_goes.cls ≠ "java/lang/invoke/MethodHandle" ∧ yX8_goes.cls ≠ "java/lang/invoke/VarHandle" ∧ (parseMethodDescriptor yX8_goes.desc).map (fun d => d.parameters.length) = some 2 := by decide +kernel
set_option maxHeartbeats 8000000 in
set_option maxRecDepth 100000 in
theorem c_X8_goes {l : Launch} {D : va_G} {ca : Nat → ClassId} {b : Nat} {nx : Bool} {v0 : Nat} {v1 : Int32} {v2 : Int32} {M : Mem} {r : Mem} (hf : f_X8_goes v0 v1 v2 M = some r) : CtV l yX8_goes cX8_goes 3 none rm_X8_goes D ca b nx [.ref v0, .int v1, .int v2] M r 0 0 := by
  intro sz
  refine body_start (Qc := fun A => cvV D ca nx A r) (by decide +kernel) (Nat.le_of_ble_eq_true rfl) ?_
  intro p e s m args below meth c A hC hr hR ls hl
  obtain ⟨hx, hb, hml, hts, hown, hlocks, hXe, hA, hAb, hnm⟩ := id hC
  have hK := hXe.1
  have hl : lv_has ls 3 [(0, .ref v0), (1, .int v1), (2, .int v2)] := hl
  have hB84 : ∀   (M : Mem) (H : Heap) (locs : List Loc) (ls : Array Slot), f_X8_goes_b84   M = some r → Hp D ca nx A s M H locs → lv_has ls 3 [] → W p l e rm_X8_goes s m args below meth c H locs 0 0 (MQ below (cvV D ca nx A r) args s 0 0 A) (F0 m 84 ls []) := by
    intro   M H locs ls hf hR hl
    unfold f_X8_goes_b84 at hf
    exact rg_vret (pc := 84) hx hb hlocks hr hf hR dX8_goes_84
  unfold f_X8_goes at hf
  refine lv_aload_n (pc := 0) hx hb dX8_goes_0 rfl (lv_at hl 0 rfl) ?_
  refine rg_getr (pc := 1) (C := RX8) (T := TX8) (N := 37) (κ := 8) hx hb hts hK hR hown in_8 rfl (by decide) 7 (by decide) m_675 rfl dX8_goes_1 hf (fun a1 hf => ?_)
  refine lv_iload_n (pc := 4) hx hb dX8_goes_4 rfl (lv_at hl 1 rfl) ?_
  refine lv_iload_n (pc := 5) hx hb dX8_goes_5 rfl (lv_at hl 2 rfl) ?_
  refine rg_iast (pc := 6) hx hb hK hR dX8_goes_6 hf (fun M2 H locs hf hR => ?_)
  refine lv_iload_n (pc := 7) hx hb dX8_goes_7 rfl (lv_at hl 2 rfl) ?_
  refine lv_if_ge (pc := 8) (tgt := 46) hx hb dX8_goes_8 (by decide) (fun hc => ?_) (fun hc => ?_)
  · replace hf := it_t hf hc
    refine lv_iload_n (pc := 46) hx hb dX8_goes_46 rfl (lv_at hl 2 rfl) ?_
    refine lv_bipush (pc := 47) (v := (64 : Int32)) hx hb dX8_goes_47 (by decide) ?_
    refine lv_icmp_lt (pc := 49) (tgt := 84) hx hb dX8_goes_49 (by decide) (fun hc => ?_) (fun hc => ?_)
    · replace hf := it_t hf hc
      exact hB84  M2 _ _ _ hf hR (lv_sub hl [] rfl)
    · replace hf := it_f hf hc
      refine lv_aload_n (pc := 52) hx hb dX8_goes_52 rfl (lv_at hl 0 rfl) ?_
      refine rg_getr (pc := 53) (C := RX8) (T := TX8) (N := 37) (κ := 8) hx hb hts hK hR hown in_8 rfl (by decide) 12 (by decide) m_680 rfl dX8_goes_53 hf (fun a3 hf => ?_)
      refine lv_iload_n (pc := 56) hx hb dX8_goes_56 rfl (lv_at hl 1 rfl) ?_
      refine lv_iconst (pc := 57) (v := (0 : Int32)) hx hb dX8_goes_57 (by decide) ?_
      refine rg_zast (pc := 58) hx hb hK hR rfl dX8_goes_58 hf (fun M4 H locs hf hR => ?_)
      refine lv_aload_n (pc := 59) hx hb dX8_goes_59 rfl (lv_at hl 0 rfl) ?_
      refine lv_dup (pc := 60) hx hb dX8_goes_60 rfl ?_
      refine rg_get (pc := 61) (C := RX8) (T := TX8) (N := 37) (κ := 8) (v := .int (mm_i M4 v0 22)) hx hb hts hK hR hown in_8 rfl (by decide) 22 (by decide) m_690 rfl dX8_goes_61 hf (fun hf => ?_)
      refine lv_iconst (pc := 64) (v := (1 : Int32)) hx hb dX8_goes_64 (by decide) ?_
      refine lv_iadd (pc := 65) hx hb dX8_goes_65 ?_
      refine rg_puti (pc := 66) (C := RX8) (T := TX8) (N := 37) (κ := 8) hx hb hts hK hR hown in_8 rfl (by decide) 22 (by decide) m_690 tyX8 tyX8_ok nmX8 rfl rfl rfl rfl dX8_goes_66 hf (fun M5 H locs hf hR => ?_)
      refine lv_aload_n (pc := 69) hx hb dX8_goes_69 rfl (lv_at hl 0 rfl) ?_
      refine lv_dup (pc := 70) hx hb dX8_goes_70 rfl ?_
      refine rg_get (pc := 71) (C := RX8) (T := TX8) (N := 37) (κ := 8) (v := .int (mm_i M5 v0 24)) hx hb hts hK hR hown in_8 rfl (by decide) 24 (by decide) m_692 rfl dX8_goes_71 hf (fun hf => ?_)
      refine lv_aload_n (pc := 74) hx hb dX8_goes_74 rfl (lv_at hl 0 rfl) ?_
      refine rg_getr (pc := 75) (C := RX8) (T := TX8) (N := 37) (κ := 8) hx hb hts hK hR hown in_8 rfl (by decide) 9 (by decide) m_677 rfl dX8_goes_75 hf (fun a6 hf => ?_)
      refine lv_iload_n (pc := 78) hx hb dX8_goes_78 rfl (lv_at hl 1 rfl) ?_
      refine rg_iald (pc := 79) hx hb hK hR dX8_goes_79 hf (fun hf => ?_)
      refine lv_iadd (pc := 80) hx hb dX8_goes_80 ?_
      refine rg_puti (pc := 81) (C := RX8) (T := TX8) (N := 37) (κ := 8) hx hb hts hK hR hown in_8 rfl (by decide) 24 (by decide) m_692 tyX8 tyX8_ok nmX8 rfl rfl rfl rfl dX8_goes_81 hf (fun M7 H locs hf hR => ?_)
      exact hB84  M7 _ _ _ hf hR (lv_sub hl [] rfl)
  · replace hf := it_f hf hc
    refine lv_aload_n (pc := 11) hx hb dX8_goes_11 rfl (lv_at hl 0 rfl) ?_
    refine rg_getr (pc := 12) (C := RX8) (T := TX8) (N := 37) (κ := 8) hx hb hts hK hR hown in_8 rfl (by decide) 12 (by decide) m_680 rfl dX8_goes_12 hf (fun a8 hf => ?_)
    refine lv_iload_n (pc := 15) hx hb dX8_goes_15 rfl (lv_at hl 1 rfl) ?_
    refine lv_iconst (pc := 16) (v := (0 : Int32)) hx hb dX8_goes_16 (by decide) ?_
    refine rg_zast (pc := 17) hx hb hK hR rfl dX8_goes_17 hf (fun M9 H locs hf hR => ?_)
    refine lv_aload_n (pc := 18) hx hb dX8_goes_18 rfl (lv_at hl 0 rfl) ?_
    refine lv_dup (pc := 19) hx hb dX8_goes_19 rfl ?_
    refine rg_get (pc := 20) (C := RX8) (T := TX8) (N := 37) (κ := 8) (v := .int (mm_i M9 v0 21)) hx hb hts hK hR hown in_8 rfl (by decide) 21 (by decide) m_689 rfl dX8_goes_20 hf (fun hf => ?_)
    refine lv_iconst (pc := 23) (v := (1 : Int32)) hx hb dX8_goes_23 (by decide) ?_
    refine lv_iadd (pc := 24) hx hb dX8_goes_24 ?_
    refine rg_puti (pc := 25) (C := RX8) (T := TX8) (N := 37) (κ := 8) hx hb hts hK hR hown in_8 rfl (by decide) 21 (by decide) m_689 tyX8 tyX8_ok nmX8 rfl rfl rfl rfl dX8_goes_25 hf (fun M10 H locs hf hR => ?_)
    refine lv_aload_n (pc := 28) hx hb dX8_goes_28 rfl (lv_at hl 0 rfl) ?_
    refine lv_dup (pc := 29) hx hb dX8_goes_29 rfl ?_
    refine rg_get (pc := 30) (C := RX8) (T := TX8) (N := 37) (κ := 8) (v := .int (mm_i M10 v0 23)) hx hb hts hK hR hown in_8 rfl (by decide) 23 (by decide) m_691 rfl dX8_goes_30 hf (fun hf => ?_)
    refine lv_aload_n (pc := 33) hx hb dX8_goes_33 rfl (lv_at hl 0 rfl) ?_
    refine rg_getr (pc := 34) (C := RX8) (T := TX8) (N := 37) (κ := 8) hx hb hts hK hR hown in_8 rfl (by decide) 9 (by decide) m_677 rfl dX8_goes_34 hf (fun a11 hf => ?_)
    refine lv_iload_n (pc := 37) hx hb dX8_goes_37 rfl (lv_at hl 1 rfl) ?_
    refine rg_iald (pc := 38) hx hb hK hR dX8_goes_38 hf (fun hf => ?_)
    refine lv_iadd (pc := 39) hx hb dX8_goes_39 ?_
    refine rg_puti (pc := 40) (C := RX8) (T := TX8) (N := 37) (κ := 8) hx hb hts hK hR hown in_8 rfl (by decide) 23 (by decide) m_691 tyX8 tyX8_ok nmX8 rfl rfl rfl rfl dX8_goes_40 hf (fun M12 H locs hf hR => ?_)
    refine lv_goto (pc := 43) (tgt := 84) hx hb dX8_goes_43 (by decide) ?_
    exact hB84  M12 _ _ _ hf hR (lv_sub hl [] rfl)
-- X8_widthOf
def f_X8_widthOf_b2 (k2 : Int32 → Int32 → Mem → Option (Mem × Int32)) (v0 : Int32) (v1 : Int32) (M : Mem) : Option (Mem × Int32) := if v0 < ((v1 + (1 : Int32)) * (v1 + (1 : Int32))) then (some (M, (v1 / (20 : Int32)))) else (lt_ (v1 + (1 : Int32)) fun x1 => k2 v0 x1 M)
def f_X8_widthOf_L2  : Nat → Int32 → Int32 → Mem → Option (Mem × Int32)
  | 0 => fun _ _ _ => none
  | n + 1 => f_X8_widthOf_b2  (f_X8_widthOf_L2  n)
def f_X8_widthOf (v0 : Int32) (M : Mem) : Option (Mem × Int32) := f_X8_widthOf_L2 200 v0 (0 : Int32) M
abbrev rm_X8_widthOf : Room := { frames := 0, cells := 0, slots := 0, locals := 0 }
theorem hd_X8_widthOf : yX8_widthOf.cls ≠ "java/lang/invoke/MethodHandle" ∧ yX8_widthOf.cls ≠ "java/lang/invoke/VarHandle" ∧ (parseMethodDescriptor yX8_widthOf.desc).map (fun d => d.parameters.length) = some 1 := by decide +kernel
set_option maxHeartbeats 8000000 in
set_option maxRecDepth 100000 in
theorem c_X8_widthOf {l : Launch} {D : va_G} {ca : Nat → ClassId} {b : Nat} {nx : Bool} {v0 : Int32} {M : Mem} {r : Mem × Int32} (hf : f_X8_widthOf v0 M = some r) : CtI l yX8_widthOf cX8_widthOf 2 (some .int) rm_X8_widthOf D ca b nx [.int v0] M r := by
  intro sz
  refine body_start (Qc := fun A => cvI D ca nx A r) (by decide +kernel) (Nat.le_of_ble_eq_true rfl) ?_
  intro p e s m args below meth c A hC hr hR ls hl
  obtain ⟨hx, hb, hml, hts, hown, hlocks, hXe, hA, hAb, hnm⟩ := id hC
  have hK := hXe.1
  have hl : lv_has ls 2 [(0, .int v0)] := hl
  have hB2 : ∀ (k2 : Int32 → Int32 → Mem → Option (Mem × Int32)) (hk2 : ∀ (v0 : Int32) (v1 : Int32) (M : Mem) (H : Heap) (locs : List Loc) (ls : Array Slot), k2 v0 v1 M = some r → Hp D ca nx A s M H locs → lv_has ls 2 [(0, .int v0), (1, .int v1)] → W p l e rm_X8_widthOf s m args below meth c H locs 0 0 (MQ below (cvI D ca nx A r) args s 0 0 A) (F0 m 2 ls [])) (v0 : Int32) (v1 : Int32) (M : Mem) (H : Heap) (locs : List Loc) (ls : Array Slot), f_X8_widthOf_b2 k2 v0 v1 M = some r → Hp D ca nx A s M H locs → lv_has ls 2 [(0, .int v0), (1, .int v1)] → W p l e rm_X8_widthOf s m args below meth c H locs 0 0 (MQ below (cvI D ca nx A r) args s 0 0 A) (F0 m 2 ls []) := by
    intro k2 hk2 v0 v1 M H locs ls hf hR hl
    unfold f_X8_widthOf_b2 at hf
    refine lv_iload_n (pc := 2) hx hb dX8_widthOf_2 rfl (lv_at hl 1 rfl) ?_
    refine lv_iconst (pc := 3) (v := (1 : Int32)) hx hb dX8_widthOf_3 (by decide) ?_
    refine lv_iadd (pc := 4) hx hb dX8_widthOf_4 ?_
    refine lv_iload_n (pc := 5) hx hb dX8_widthOf_5 rfl (lv_at hl 1 rfl) ?_
    refine lv_iconst (pc := 6) (v := (1 : Int32)) hx hb dX8_widthOf_6 (by decide) ?_
    refine lv_iadd (pc := 7) hx hb dX8_widthOf_7 ?_
    refine lv_imul (pc := 8) hx hb dX8_widthOf_8 ?_
    refine lv_iload_n (pc := 9) hx hb dX8_widthOf_9 rfl (lv_at hl 0 rfl) ?_
    refine lv_icmp_gt (pc := 10) (tgt := 19) hx hb dX8_widthOf_10 (by decide) (fun hc => ?_) (fun hc => ?_)
    · replace hf := it_t hf hc
      refine lv_iload_n (pc := 19) hx hb dX8_widthOf_19 rfl (lv_at hl 1 rfl) ?_
      refine lv_bipush (pc := 20) (v := (20 : Int32)) hx hb dX8_widthOf_20 (by decide) ?_
      refine lv_idiv (pc := 22) hx hb dX8_widthOf_22 (by decide) ?_
      exact rg_iret (pc := 23) hx hb hlocks hr hf hR dX8_widthOf_23
    · replace hf := it_f hf hc
      refine rg_iinc (pc := 13) hx hb dX8_widthOf_13 hl (k := 1) rfl rfl (by decide) hf (fun x1 ls hf hl => ?_)
      have hl : lv_has ls 2 [(1, .int x1), (0, .int v0)] := hl
      refine lv_goto (pc := 16) (tgt := 2) hx hb dX8_widthOf_16 (by decide) ?_
      exact hk2 v0 x1 M _ _ _ hf hR (lv_sub hl [1, 0] rfl)
  have hL2 : ∀  (n : Nat) (v0 : Int32) (v1 : Int32) (M : Mem) (H : Heap) (locs : List Loc) (ls : Array Slot), f_X8_widthOf_L2  n v0 v1 M = some r → Hp D ca nx A s M H locs → lv_has ls 2 [(0, .int v0), (1, .int v1)] → W p l e rm_X8_widthOf s m args below meth c H locs 0 0 (MQ below (cvI D ca nx A r) args s 0 0 A) (F0 m 2 ls []) := by
    intro  n
    induction n with
    | zero => intro v0 v1 M H locs ls hf; exact nomatch (show (none : Option (Mem × Int32)) = some r from hf)
    | succ n ih => intro v0 v1 M H locs ls hf hR hl; exact hB2  (f_X8_widthOf_L2  n) ih v0 v1 M H locs ls hf hR hl
  unfold f_X8_widthOf at hf
  refine lv_iconst (pc := 0) (v := (0 : Int32)) hx hb dX8_widthOf_0 (by decide) ?_
  refine lv_istore_n (pc := 1) (lv' := [(1, .int (0 : Int32)), (0, .int v0)]) hx hb dX8_widthOf_1 rfl hl (by decide) rfl (fun ls hl => ?_)
  exact hL2 200 v0 (0 : Int32) M _ _ _ hf hR (lv_sub hl [1, 0] rfl)
-- X8_pushes
def f_X8_pushes_b159 (k12 : Nat → Int32 → Int32 → Int32 → Mem → Option (Mem)) (v0 : Nat) (v1 : Int32) (v2 : Int32) (v3 : Int32) (M : Mem) : Option (Mem) := lt_ (v3 + (1 : Int32)) fun x1 => k12 v0 v1 v2 x1 M
def f_X8_pushes_b141 (k12 : Nat → Int32 → Int32 → Int32 → Mem → Option (Mem)) (s0 : Int32) (s1 : Int32) (s2 : Nat) (v0 : Nat) (v1 : Int32) (v2 : Int32) (v3 : Int32) (v5 : Int64) (M : Mem) : Option (Mem) := gd (M.1 s2 = 9 ∧ vi_ s1 (mm_N M s2)) <| lt_ (ms_i M s2 (s1).toNatClampNeg s0) fun M2 => gd (M2.1 v0 = 8) <| gd (M2.1 v0 = 8) <| bd (f_X8_momentumOf v0 v3 M2) fun z3 => gd (z3.1.1 v0 = 8) <| lt_ (ms_l z3.1 v0 27 ((mm_l M2 v0 27) + (z3.2 - v5))) fun M4 => f_X8_pushes_b159 k12 v0 v1 v2 v3 M4
def f_X8_pushes_b107 (k12 : Nat → Int32 → Int32 → Int32 → Mem → Option (Mem)) (s0 : Int32) (s1 : Int32) (s2 : Nat) (v0 : Nat) (v1 : Int32) (v2 : Int32) (v3 : Int32) (v5 : Int64) (M : Mem) : Option (Mem) := gd (M.1 s2 = 8) <| bd (f_X8_goes s2 s1 s0 M) fun z5 => gd (z5.1 v0 = 8) <| rd (mm_r z5 v0 10) fun a6 => gd (z5.1 v0 = 8) <| rd (mm_r z5 v0 10) fun a7 => gd (z5.1 a7 = 9 ∧ vi_ v3 (mm_N z5 a7)) <| if ((mm_i z5 a7 (v3).toNatClampNeg) + (5 : Int32)) ≤ (99 : Int32) then (gd (z5.1 v0 = 8) <| rd (mm_r z5 v0 10) fun a8 => gd (z5.1 a8 = 9 ∧ vi_ v3 (mm_N z5 a8)) <| f_X8_pushes_b141 k12 ((mm_i z5 a8 (v3).toNatClampNeg) + (5 : Int32)) v3 a6 v0 v1 v2 v3 v5 z5) else (f_X8_pushes_b141 k12 (99 : Int32) v3 a6 v0 v1 v2 v3 v5 z5)
def f_X8_pushes_b12 (k12 : Nat → Int32 → Int32 → Int32 → Mem → Option (Mem)) (v0 : Nat) (v1 : Int32) (v2 : Int32) (v3 : Int32) (M : Mem) : Option (Mem) := gd (M.1 v0 = 8) <| if (mm_i M v0 6) ≤ v3 then (some M) else (gd (M.1 v0 = 8) <| rd (mm_r M v0 7) fun a9 => gd (M.1 a9 = 9 ∧ vi_ v3 (mm_N M a9)) <| gd (M.1 v0 = 8) <| rd (mm_r M v0 15) fun a10 => gd (M.1 a10 = 9 ∧ vi_ v1 (mm_N M a10)) <| lt_ (((mm_i M a9 (v3).toNatClampNeg) - (mm_i M a10 (v1).toNatClampNeg))) fun x11 => gd (M.1 v0 = 8) <| rd (mm_r M v0 12) fun a12 => gd (M.1 a12 = 10 ∧ vi_ v3 (mm_N M a12)) <| if (mm_i M a12 (v3).toNatClampNeg) = 0 then (f_X8_pushes_b159 k12 v0 v1 v2 v3 M) else (bd (f_X8_size x11 M) fun z13 => if v2 < z13.2 then (f_X8_pushes_b159 k12 v0 v1 v2 v3 z13.1) else (gd (z13.1.1 v0 = 8) <| rd (mm_r z13.1 v0 8) fun a14 => gd (z13.1.1 a14 = 9 ∧ vi_ v3 (mm_N z13.1 a14)) <| gd (z13.1.1 v0 = 8) <| rd (mm_r z13.1 v0 16) fun a15 => gd (z13.1.1 a15 = 9 ∧ vi_ v1 (mm_N z13.1 a15)) <| bd (f_X8_apart (mm_i z13.1 a14 (v3).toNatClampNeg) (mm_i z13.1 a15 (v1).toNatClampNeg) z13.1) fun z16 => if (1000 : Int32) < z16.2 then (f_X8_pushes_b159 k12 v0 v1 v2 v3 z16.1) else (gd (z16.1.1 v0 = 8) <| bd (f_X8_momentumOf v0 v3 z16.1) fun z17 => if x11 < 0 then (gd (z17.1.1 v0 = 8) <| rd (mm_r z17.1 v0 7) fun a18 => gd (z17.1.1 a18 = 9 ∧ vi_ v3 (mm_N z17.1 a18)) <| f_X8_pushes_b107 k12 ((mm_i z17.1 a18 (v3).toNatClampNeg) - (1 : Int32)) v3 v0 v0 v1 v2 v3 z17.2 z17.1) else (gd (z17.1.1 v0 = 8) <| rd (mm_r z17.1 v0 7) fun a19 => gd (z17.1.1 a19 = 9 ∧ vi_ v3 (mm_N z17.1 a19)) <| f_X8_pushes_b107 k12 ((mm_i z17.1 a19 (v3).toNatClampNeg) + (1 : Int32)) v3 v0 v0 v1 v2 v3 z17.2 z17.1)))))
def f_X8_pushes_L12  : Nat → Nat → Int32 → Int32 → Int32 → Mem → Option (Mem)
  | 0 => fun _ _ _ _ _ => none
  | n + 1 => f_X8_pushes_b12  (f_X8_pushes_L12  n)
def f_X8_pushes (v0 : Nat) (v1 : Int32) (M : Mem) : Option (Mem) := gd (M.1 v0 = 8) <| rd (mm_r M v0 17) fun a20 => gd (M.1 a20 = 9 ∧ vi_ v1 (mm_N M a20)) <| bd (f_X8_widthOf (mm_i M a20 (v1).toNatClampNeg) M) fun z21 => f_X8_pushes_L12 200 v0 v1 z21.2 (0 : Int32) z21.1
abbrev rm_X8_pushes : Room := { frames := 2, cells := 0, slots := 0, locals := 42 }
theorem hd_X8_pushes : yX8_pushes.cls ≠ "java/lang/invoke/MethodHandle" ∧ yX8_pushes.cls ≠ "java/lang/invoke/VarHandle" ∧ (parseMethodDescriptor yX8_pushes.desc).map (fun d => d.parameters.length) = some 1 := by decide +kernel
set_option maxHeartbeats 8000000 in
set_option maxRecDepth 100000 in
theorem c_X8_pushes {l : Launch} {D : va_G} {ca : Nat → ClassId} {b : Nat} {nx : Bool} {v0 : Nat} {v1 : Int32} {M : Mem} {r : Mem} (hf : f_X8_pushes v0 v1 M = some r) : CtV l yX8_pushes cX8_pushes 7 none rm_X8_pushes D ca b nx [.ref v0, .int v1] M r 0 0 := by
  intro sz
  refine body_start (Qc := fun A => cvV D ca nx A r) (by decide +kernel) (Nat.le_of_ble_eq_true rfl) ?_
  intro p e s m args below meth c A hC hr hR ls hl
  obtain ⟨hx, hb, hml, hts, hown, hlocks, hXe, hA, hAb, hnm⟩ := id hC
  have hK := hXe.1
  have hl : lv_has ls 7 [(0, .ref v0), (1, .int v1)] := hl
  have hB159 : ∀ (k12 : Nat → Int32 → Int32 → Int32 → Mem → Option (Mem)) (hk12 : ∀ (v0 : Nat) (v1 : Int32) (v2 : Int32) (v3 : Int32) (M : Mem) (H : Heap) (locs : List Loc) (ls : Array Slot), k12 v0 v1 v2 v3 M = some r → Hp D ca nx A s M H locs → lv_has ls 7 [(0, .ref v0), (1, .int v1), (2, .int v2), (3, .int v3)] → W p l e rm_X8_pushes s m args below meth c H locs 0 0 (MQ below (cvV D ca nx A r) args s 0 0 A) (F0 m 12 ls [])) (v0 : Nat) (v1 : Int32) (v2 : Int32) (v3 : Int32) (M : Mem) (H : Heap) (locs : List Loc) (ls : Array Slot), f_X8_pushes_b159 k12 v0 v1 v2 v3 M = some r → Hp D ca nx A s M H locs → lv_has ls 7 [(0, .ref v0), (1, .int v1), (2, .int v2), (3, .int v3)] → W p l e rm_X8_pushes s m args below meth c H locs 0 0 (MQ below (cvV D ca nx A r) args s 0 0 A) (F0 m 159 ls []) := by
    intro k12 hk12 v0 v1 v2 v3 M H locs ls hf hR hl
    unfold f_X8_pushes_b159 at hf
    refine rg_iinc (pc := 159) hx hb dX8_pushes_159 hl (k := 3) rfl rfl (by decide) hf (fun x1 ls hf hl => ?_)
    have hl : lv_has ls 7 [(3, .int x1), (0, .ref v0), (1, .int v1), (2, .int v2)] := hl
    refine lv_goto (pc := 162) (tgt := 12) hx hb dX8_pushes_162 (by decide) ?_
    exact hk12 v0 v1 v2 x1 M _ _ _ hf hR (lv_sub hl [1, 2, 3, 0] rfl)
  have hB141 : ∀ (k12 : Nat → Int32 → Int32 → Int32 → Mem → Option (Mem)) (hk12 : ∀ (v0 : Nat) (v1 : Int32) (v2 : Int32) (v3 : Int32) (M : Mem) (H : Heap) (locs : List Loc) (ls : Array Slot), k12 v0 v1 v2 v3 M = some r → Hp D ca nx A s M H locs → lv_has ls 7 [(0, .ref v0), (1, .int v1), (2, .int v2), (3, .int v3)] → W p l e rm_X8_pushes s m args below meth c H locs 0 0 (MQ below (cvV D ca nx A r) args s 0 0 A) (F0 m 12 ls [])) (s0 : Int32) (s1 : Int32) (s2 : Nat) (v0 : Nat) (v1 : Int32) (v2 : Int32) (v3 : Int32) (v5 : Int64) (M : Mem) (H : Heap) (locs : List Loc) (ls : Array Slot), f_X8_pushes_b141 k12 s0 s1 s2 v0 v1 v2 v3 v5 M = some r → Hp D ca nx A s M H locs → lv_has ls 7 [(0, .ref v0), (1, .int v1), (2, .int v2), (3, .int v3), (5, .long v5)] → W p l e rm_X8_pushes s m args below meth c H locs 0 0 (MQ below (cvV D ca nx A r) args s 0 0 A) (F0 m 141 ls [.int s0, .int s1, .ref s2]) := by
    intro k12 hk12 s0 s1 s2 v0 v1 v2 v3 v5 M H locs ls hf hR hl
    unfold f_X8_pushes_b141 at hf
    refine rg_iast (pc := 141) hx hb hK hR dX8_pushes_141 hf (fun M2 H locs hf hR => ?_)
    refine lv_aload_n (pc := 142) hx hb dX8_pushes_142 rfl (lv_at hl 0 rfl) ?_
    refine lv_dup (pc := 143) hx hb dX8_pushes_143 rfl ?_
    refine rg_get (pc := 144) (C := RX8) (T := TX8) (N := 37) (κ := 8) (v := .long (mm_l M2 v0 27)) hx hb hts hK hR hown in_8 rfl (by decide) 27 (by decide) m_695 rfl dX8_pushes_144 hf (fun hf => ?_)
    refine lv_aload_n (pc := 147) hx hb dX8_pushes_147 rfl (lv_at hl 0 rfl) ?_
    refine lv_iload_n (pc := 148) hx hb dX8_pushes_148 rfl (lv_at hl 3 rfl) ?_
    obtain ⟨hq, hf⟩ := gd_e hf
    refine rg_L (pc := 149) hf hR hA (fun z hz => rn_V (κ := 8) (As := [.int v3]) (rest := [.long (mm_l M2 v0 27), .ref v0]) hC hR rfl (by decide) hq (c_X8_momentumOf  hz _) m_838 m_840 ms_15 m_9 m_841 hd_X8_momentumOf ⟨rfl, rfl, Nat.le_of_ble_eq_true rfl, Nat.le_of_ble_eq_true rfl⟩ rfl hl.1 rfl (Nat.le_of_ble_eq_true rfl) dX8_pushes_149 ⟨Nat.le_of_ble_eq_true rfl, Nat.le_of_ble_eq_true rfl⟩) (fun z3 H locs hf hR => ?_)
    refine lv_lload (pc := 152) hx hb dX8_pushes_152 (lv_at hl 4 rfl) ?_
    refine lv_lsub (pc := 154) hx hb dX8_pushes_154 ?_
    refine lv_ladd (pc := 155) hx hb dX8_pushes_155 ?_
    refine rg_putl (pc := 156) (C := RX8) (T := TX8) (N := 37) (κ := 8) hx hb hts hK hR hown in_8 rfl (by decide) 27 (by decide) m_695 tyX8 tyX8_ok nmX8 rfl rfl rfl rfl dX8_pushes_156 hf (fun M4 H locs hf hR => ?_)
    exact hB159 k12 hk12 v0 v1 v2 v3 M4 _ _ _ hf hR (lv_sub hl [0, 1, 2, 3] rfl)
  have hB107 : ∀ (k12 : Nat → Int32 → Int32 → Int32 → Mem → Option (Mem)) (hk12 : ∀ (v0 : Nat) (v1 : Int32) (v2 : Int32) (v3 : Int32) (M : Mem) (H : Heap) (locs : List Loc) (ls : Array Slot), k12 v0 v1 v2 v3 M = some r → Hp D ca nx A s M H locs → lv_has ls 7 [(0, .ref v0), (1, .int v1), (2, .int v2), (3, .int v3)] → W p l e rm_X8_pushes s m args below meth c H locs 0 0 (MQ below (cvV D ca nx A r) args s 0 0 A) (F0 m 12 ls [])) (s0 : Int32) (s1 : Int32) (s2 : Nat) (v0 : Nat) (v1 : Int32) (v2 : Int32) (v3 : Int32) (v5 : Int64) (M : Mem) (H : Heap) (locs : List Loc) (ls : Array Slot), f_X8_pushes_b107 k12 s0 s1 s2 v0 v1 v2 v3 v5 M = some r → Hp D ca nx A s M H locs → lv_has ls 7 [(0, .ref v0), (1, .int v1), (2, .int v2), (3, .int v3), (5, .long v5)] → W p l e rm_X8_pushes s m args below meth c H locs 0 0 (MQ below (cvV D ca nx A r) args s 0 0 A) (F0 m 107 ls [.int s0, .int s1, .ref s2]) := by
    intro k12 hk12 s0 s1 s2 v0 v1 v2 v3 v5 M H locs ls hf hR hl
    unfold f_X8_pushes_b107 at hf
    obtain ⟨hq, hf⟩ := gd_e hf
    refine rg_V (pc := 107) hf hR hA (fun z hz => rn_V (κ := 8) (As := [.int s1, .int s0]) (rest := []) hC hR rfl (by decide) hq (c_X8_goes  hz _) m_842 m_844 ms_16 m_9 m_845 hd_X8_goes ⟨rfl, rfl, Nat.le_of_ble_eq_true rfl, Nat.le_of_ble_eq_true rfl⟩ rfl hl.1 rfl (Nat.le_of_ble_eq_true rfl) dX8_pushes_107 ⟨Nat.le_of_ble_eq_true rfl, Nat.le_of_ble_eq_true rfl⟩) (fun z5 H locs hf hR => ?_)
    refine lv_aload_n (pc := 110) hx hb dX8_pushes_110 rfl (lv_at hl 0 rfl) ?_
    refine rg_getr (pc := 111) (C := RX8) (T := TX8) (N := 37) (κ := 8) hx hb hts hK hR hown in_8 rfl (by decide) 10 (by decide) m_678 rfl dX8_pushes_111 hf (fun a6 hf => ?_)
    refine lv_iload_n (pc := 114) hx hb dX8_pushes_114 rfl (lv_at hl 3 rfl) ?_
    refine lv_aload_n (pc := 115) hx hb dX8_pushes_115 rfl (lv_at hl 0 rfl) ?_
    refine rg_getr (pc := 116) (C := RX8) (T := TX8) (N := 37) (κ := 8) hx hb hts hK hR hown in_8 rfl (by decide) 10 (by decide) m_678 rfl dX8_pushes_116 hf (fun a7 hf => ?_)
    refine lv_iload_n (pc := 119) hx hb dX8_pushes_119 rfl (lv_at hl 3 rfl) ?_
    refine rg_iald (pc := 120) hx hb hK hR dX8_pushes_120 hf (fun hf => ?_)
    refine lv_iconst (pc := 121) (v := (5 : Int32)) hx hb dX8_pushes_121 (by decide) ?_
    refine lv_iadd (pc := 122) hx hb dX8_pushes_122 ?_
    refine lv_bipush (pc := 123) (v := (99 : Int32)) hx hb dX8_pushes_123 (by decide) ?_
    refine lv_icmp_le (pc := 125) (tgt := 133) hx hb dX8_pushes_125 (by decide) (fun hc => ?_) (fun hc => ?_)
    · replace hf := it_t hf hc
      refine lv_aload_n (pc := 133) hx hb dX8_pushes_133 rfl (lv_at hl 0 rfl) ?_
      refine rg_getr (pc := 134) (C := RX8) (T := TX8) (N := 37) (κ := 8) hx hb hts hK hR hown in_8 rfl (by decide) 10 (by decide) m_678 rfl dX8_pushes_134 hf (fun a8 hf => ?_)
      refine lv_iload_n (pc := 137) hx hb dX8_pushes_137 rfl (lv_at hl 3 rfl) ?_
      refine rg_iald (pc := 138) hx hb hK hR dX8_pushes_138 hf (fun hf => ?_)
      refine lv_iconst (pc := 139) (v := (5 : Int32)) hx hb dX8_pushes_139 (by decide) ?_
      refine lv_iadd (pc := 140) hx hb dX8_pushes_140 ?_
      exact hB141 k12 hk12 ((mm_i z5 a8 (v3).toNatClampNeg) + (5 : Int32)) v3 a6 v0 v1 v2 v3 v5 z5 _ _ _ hf hR (lv_sub hl [0, 1, 2, 3, 4] rfl)
    · replace hf := it_f hf hc
      refine lv_bipush (pc := 128) (v := (99 : Int32)) hx hb dX8_pushes_128 (by decide) ?_
      refine lv_goto (pc := 130) (tgt := 141) hx hb dX8_pushes_130 (by decide) ?_
      exact hB141 k12 hk12 (99 : Int32) v3 a6 v0 v1 v2 v3 v5 z5 _ _ _ hf hR (lv_sub hl [0, 1, 2, 3, 4] rfl)
  have hB12 : ∀ (k12 : Nat → Int32 → Int32 → Int32 → Mem → Option (Mem)) (hk12 : ∀ (v0 : Nat) (v1 : Int32) (v2 : Int32) (v3 : Int32) (M : Mem) (H : Heap) (locs : List Loc) (ls : Array Slot), k12 v0 v1 v2 v3 M = some r → Hp D ca nx A s M H locs → lv_has ls 7 [(0, .ref v0), (1, .int v1), (2, .int v2), (3, .int v3)] → W p l e rm_X8_pushes s m args below meth c H locs 0 0 (MQ below (cvV D ca nx A r) args s 0 0 A) (F0 m 12 ls [])) (v0 : Nat) (v1 : Int32) (v2 : Int32) (v3 : Int32) (M : Mem) (H : Heap) (locs : List Loc) (ls : Array Slot), f_X8_pushes_b12 k12 v0 v1 v2 v3 M = some r → Hp D ca nx A s M H locs → lv_has ls 7 [(0, .ref v0), (1, .int v1), (2, .int v2), (3, .int v3)] → W p l e rm_X8_pushes s m args below meth c H locs 0 0 (MQ below (cvV D ca nx A r) args s 0 0 A) (F0 m 12 ls []) := by
    intro k12 hk12 v0 v1 v2 v3 M H locs ls hf hR hl
    unfold f_X8_pushes_b12 at hf
    refine lv_iload_n (pc := 12) hx hb dX8_pushes_12 rfl (lv_at hl 3 rfl) ?_
    refine lv_aload_n (pc := 13) hx hb dX8_pushes_13 rfl (lv_at hl 0 rfl) ?_
    refine rg_get (pc := 14) (C := RX8) (T := TX8) (N := 37) (κ := 8) (v := .int (mm_i M v0 6)) hx hb hts hK hR hown in_8 rfl (by decide) 6 (by decide) m_674 rfl dX8_pushes_14 hf (fun hf => ?_)
    refine lv_icmp_ge (pc := 17) (tgt := 165) hx hb dX8_pushes_17 (by decide) (fun hc => ?_) (fun hc => ?_)
    · replace hf := it_t hf hc
      exact rg_vret (pc := 165) hx hb hlocks hr hf hR dX8_pushes_165
    · replace hf := it_f hf hc
      refine lv_aload_n (pc := 20) hx hb dX8_pushes_20 rfl (lv_at hl 0 rfl) ?_
      refine rg_getr (pc := 21) (C := RX8) (T := TX8) (N := 37) (κ := 8) hx hb hts hK hR hown in_8 rfl (by decide) 7 (by decide) m_675 rfl dX8_pushes_21 hf (fun a9 hf => ?_)
      refine lv_iload_n (pc := 24) hx hb dX8_pushes_24 rfl (lv_at hl 3 rfl) ?_
      refine rg_iald (pc := 25) hx hb hK hR dX8_pushes_25 hf (fun hf => ?_)
      refine lv_aload_n (pc := 26) hx hb dX8_pushes_26 rfl (lv_at hl 0 rfl) ?_
      refine rg_getr (pc := 27) (C := RX8) (T := TX8) (N := 37) (κ := 8) hx hb hts hK hR hown in_8 rfl (by decide) 15 (by decide) m_683 rfl dX8_pushes_27 hf (fun a10 hf => ?_)
      refine lv_iload_n (pc := 30) hx hb dX8_pushes_30 rfl (lv_at hl 1 rfl) ?_
      refine rg_iald (pc := 31) hx hb hK hR dX8_pushes_31 hf (fun hf => ?_)
      refine lv_isub (pc := 32) hx hb dX8_pushes_32 ?_
      refine nm_i hf (fun x11 hf => ?_)
      refine lv_istore (pc := 33) (lv' := [(4, .int x11), (0, .ref v0), (1, .int v1), (2, .int v2), (3, .int v3)]) hx hb dX8_pushes_33 hl (by decide) rfl (fun ls hl => ?_)
      refine lv_aload_n (pc := 35) hx hb dX8_pushes_35 rfl (lv_at hl 1 rfl) ?_
      refine rg_getr (pc := 36) (C := RX8) (T := TX8) (N := 37) (κ := 8) hx hb hts hK hR hown in_8 rfl (by decide) 12 (by decide) m_680 rfl dX8_pushes_36 hf (fun a12 hf => ?_)
      refine lv_iload_n (pc := 39) hx hb dX8_pushes_39 rfl (lv_at hl 4 rfl) ?_
      refine rg_zald (pc := 40) hx hb hK hR dX8_pushes_40 hf (fun hf => ?_)
      refine lv_if_eq (pc := 41) (tgt := 159) hx hb dX8_pushes_41 (by decide) (fun hc => ?_) (fun hc => ?_)
      · replace hf := it_t hf hc
        exact hB159 k12 hk12 v0 v1 v2 v3 M _ _ _ hf hR (lv_sub hl [1, 2, 3, 4] rfl)
      · replace hf := it_f hf hc
        refine lv_iload (pc := 44) hx hb dX8_pushes_44 (lv_at hl 0 rfl) ?_
        refine rg_I (pc := 46) hf hR hA (fun z hz => rn_S (As := [.int x11]) (rest := []) hC hR (c_X8_size  hz _) m_832 m_833 m_9 m_834 hd_X8_size ⟨rfl, rfl, Nat.le_of_ble_eq_true rfl, Nat.le_of_ble_eq_true rfl⟩ rfl hl.1 rfl (Nat.le_of_ble_eq_true rfl) dX8_pushes_46 ⟨Nat.le_of_ble_eq_true rfl, Nat.le_of_ble_eq_true rfl⟩) (fun z13 H locs hf hR => ?_)
        refine lv_iload_n (pc := 49) hx hb dX8_pushes_49 rfl (lv_at hl 3 rfl) ?_
        refine lv_icmp_gt (pc := 50) (tgt := 159) hx hb dX8_pushes_50 (by decide) (fun hc => ?_) (fun hc => ?_)
        · replace hf := it_t hf hc
          exact hB159 k12 hk12 v0 v1 v2 v3 z13.1 _ _ _ hf hR (lv_sub hl [1, 2, 3, 4] rfl)
        · replace hf := it_f hf hc
          refine lv_aload_n (pc := 53) hx hb dX8_pushes_53 rfl (lv_at hl 1 rfl) ?_
          refine rg_getr (pc := 54) (C := RX8) (T := TX8) (N := 37) (κ := 8) hx hb hts hK hR hown in_8 rfl (by decide) 8 (by decide) m_676 rfl dX8_pushes_54 hf (fun a14 hf => ?_)
          refine lv_iload_n (pc := 57) hx hb dX8_pushes_57 rfl (lv_at hl 4 rfl) ?_
          refine rg_iald (pc := 58) hx hb hK hR dX8_pushes_58 hf (fun hf => ?_)
          refine lv_aload_n (pc := 59) hx hb dX8_pushes_59 rfl (lv_at hl 1 rfl) ?_
          refine rg_getr (pc := 60) (C := RX8) (T := TX8) (N := 37) (κ := 8) hx hb hts hK hR hown in_8 rfl (by decide) 16 (by decide) m_684 rfl dX8_pushes_60 hf (fun a15 hf => ?_)
          refine lv_iload_n (pc := 63) hx hb dX8_pushes_63 rfl (lv_at hl 2 rfl) ?_
          refine rg_iald (pc := 64) hx hb hK hR dX8_pushes_64 hf (fun hf => ?_)
          refine rg_I (pc := 65) hf hR hA (fun z hz => rn_S (As := [.int (mm_i z13.1 a14 (v3).toNatClampNeg), .int (mm_i z13.1 a15 (v1).toNatClampNeg)]) (rest := []) hC hR (c_X8_apart  hz _) m_835 m_836 m_9 m_837 hd_X8_apart ⟨rfl, rfl, Nat.le_of_ble_eq_true rfl, Nat.le_of_ble_eq_true rfl⟩ rfl hl.1 rfl (Nat.le_of_ble_eq_true rfl) dX8_pushes_65 ⟨Nat.le_of_ble_eq_true rfl, Nat.le_of_ble_eq_true rfl⟩) (fun z16 H locs hf hR => ?_)
          refine lv_sipush (pc := 68) (v := (1000 : Int32)) hx hb dX8_pushes_68 (by decide) ?_
          refine lv_icmp_gt (pc := 71) (tgt := 159) hx hb dX8_pushes_71 (by decide) (fun hc => ?_) (fun hc => ?_)
          · replace hf := it_t hf hc
            exact hB159 k12 hk12 v0 v1 v2 v3 z16.1 _ _ _ hf hR (lv_sub hl [1, 2, 3, 4] rfl)
          · replace hf := it_f hf hc
            refine lv_aload_n (pc := 74) hx hb dX8_pushes_74 rfl (lv_at hl 1 rfl) ?_
            refine lv_iload_n (pc := 75) hx hb dX8_pushes_75 rfl (lv_at hl 4 rfl) ?_
            obtain ⟨hq, hf⟩ := gd_e hf
            refine rg_L (pc := 76) hf hR hA (fun z hz => rn_V (κ := 8) (As := [.int v3]) (rest := []) hC hR rfl (by decide) hq (c_X8_momentumOf  hz _) m_838 m_840 ms_15 m_9 m_841 hd_X8_momentumOf ⟨rfl, rfl, Nat.le_of_ble_eq_true rfl, Nat.le_of_ble_eq_true rfl⟩ rfl hl.1 rfl (Nat.le_of_ble_eq_true rfl) dX8_pushes_76 ⟨Nat.le_of_ble_eq_true rfl, Nat.le_of_ble_eq_true rfl⟩) (fun z17 H locs hf hR => ?_)
            refine lv_lstore (pc := 79) (lv' := [(5, .long z17.2), (4, .int x11), (0, .ref v0), (1, .int v1), (2, .int v2), (3, .int v3)]) hx hb dX8_pushes_79 hl (by decide) rfl (fun ls hl => ?_)
            refine lv_aload_n (pc := 81) hx hb dX8_pushes_81 rfl (lv_at hl 2 rfl) ?_
            refine lv_iload_n (pc := 82) hx hb dX8_pushes_82 rfl (lv_at hl 5 rfl) ?_
            refine lv_iload (pc := 83) hx hb dX8_pushes_83 (lv_at hl 1 rfl) ?_
            refine lv_if_lt (pc := 85) (tgt := 99) hx hb dX8_pushes_85 (by decide) (fun hc => ?_) (fun hc => ?_)
            · replace hf := it_t hf hc
              refine lv_aload_n (pc := 99) hx hb dX8_pushes_99 rfl (lv_at hl 2 rfl) ?_
              refine rg_getr (pc := 100) (C := RX8) (T := TX8) (N := 37) (κ := 8) hx hb hts hK hR hown in_8 rfl (by decide) 7 (by decide) m_675 rfl dX8_pushes_100 hf (fun a18 hf => ?_)
              refine lv_iload_n (pc := 103) hx hb dX8_pushes_103 rfl (lv_at hl 5 rfl) ?_
              refine rg_iald (pc := 104) hx hb hK hR dX8_pushes_104 hf (fun hf => ?_)
              refine lv_iconst (pc := 105) (v := (1 : Int32)) hx hb dX8_pushes_105 (by decide) ?_
              refine lv_isub (pc := 106) hx hb dX8_pushes_106 ?_
              exact hB107 k12 hk12 ((mm_i z17.1 a18 (v3).toNatClampNeg) - (1 : Int32)) v3 v0 v0 v1 v2 v3 z17.2 z17.1 _ _ _ hf hR (lv_sub hl [2, 3, 4, 5, 0] rfl)
            · replace hf := it_f hf hc
              refine lv_aload_n (pc := 88) hx hb dX8_pushes_88 rfl (lv_at hl 2 rfl) ?_
              refine rg_getr (pc := 89) (C := RX8) (T := TX8) (N := 37) (κ := 8) hx hb hts hK hR hown in_8 rfl (by decide) 7 (by decide) m_675 rfl dX8_pushes_89 hf (fun a19 hf => ?_)
              refine lv_iload_n (pc := 92) hx hb dX8_pushes_92 rfl (lv_at hl 5 rfl) ?_
              refine rg_iald (pc := 93) hx hb hK hR dX8_pushes_93 hf (fun hf => ?_)
              refine lv_iconst (pc := 94) (v := (1 : Int32)) hx hb dX8_pushes_94 (by decide) ?_
              refine lv_iadd (pc := 95) hx hb dX8_pushes_95 ?_
              refine lv_goto (pc := 96) (tgt := 107) hx hb dX8_pushes_96 (by decide) ?_
              exact hB107 k12 hk12 ((mm_i z17.1 a19 (v3).toNatClampNeg) + (1 : Int32)) v3 v0 v0 v1 v2 v3 z17.2 z17.1 _ _ _ hf hR (lv_sub hl [2, 3, 4, 5, 0] rfl)
  have hL12 : ∀  (n : Nat) (v0 : Nat) (v1 : Int32) (v2 : Int32) (v3 : Int32) (M : Mem) (H : Heap) (locs : List Loc) (ls : Array Slot), f_X8_pushes_L12  n v0 v1 v2 v3 M = some r → Hp D ca nx A s M H locs → lv_has ls 7 [(0, .ref v0), (1, .int v1), (2, .int v2), (3, .int v3)] → W p l e rm_X8_pushes s m args below meth c H locs 0 0 (MQ below (cvV D ca nx A r) args s 0 0 A) (F0 m 12 ls []) := by
    intro  n
    induction n with
    | zero => intro v0 v1 v2 v3 M H locs ls hf; exact nomatch (show (none : Option (Mem)) = some r from hf)
    | succ n ih => intro v0 v1 v2 v3 M H locs ls hf hR hl; exact hB12  (f_X8_pushes_L12  n) ih v0 v1 v2 v3 M H locs ls hf hR hl
  unfold f_X8_pushes at hf
  refine lv_aload_n (pc := 0) hx hb dX8_pushes_0 rfl (lv_at hl 0 rfl) ?_
  refine rg_getr (pc := 1) (C := RX8) (T := TX8) (N := 37) (κ := 8) hx hb hts hK hR hown in_8 rfl (by decide) 17 (by decide) m_685 rfl dX8_pushes_1 hf (fun a20 hf => ?_)
  refine lv_iload_n (pc := 4) hx hb dX8_pushes_4 rfl (lv_at hl 1 rfl) ?_
  refine rg_iald (pc := 5) hx hb hK hR dX8_pushes_5 hf (fun hf => ?_)
  refine rg_I (pc := 6) hf hR hA (fun z hz => rn_S (As := [.int (mm_i M a20 (v1).toNatClampNeg)]) (rest := []) hC hR (c_X8_widthOf  hz _) m_829 m_830 m_9 m_831 hd_X8_widthOf ⟨rfl, rfl, Nat.le_of_ble_eq_true rfl, Nat.le_of_ble_eq_true rfl⟩ rfl hl.1 rfl (Nat.le_of_ble_eq_true rfl) dX8_pushes_6 ⟨Nat.le_of_ble_eq_true rfl, Nat.le_of_ble_eq_true rfl⟩) (fun z21 H locs hf hR => ?_)
  refine lv_istore_n (pc := 9) (lv' := [(2, .int z21.2), (0, .ref v0), (1, .int v1)]) hx hb dX8_pushes_9 rfl hl (by decide) rfl (fun ls hl => ?_)
  refine lv_iconst (pc := 10) (v := (0 : Int32)) hx hb dX8_pushes_10 (by decide) ?_
  refine lv_istore_n (pc := 11) (lv' := [(3, .int (0 : Int32)), (2, .int z21.2), (0, .ref v0), (1, .int v1)]) hx hb dX8_pushes_11 rfl hl (by decide) rfl (fun ls hl => ?_)
  exact hL12 200 v0 v1 z21.2 (0 : Int32) z21.1 _ _ _ hf hR (lv_sub hl [2, 3, 1, 0] rfl)
-- X8_sticks
def f_X8_sticks_b131  (s0 : Int32) (s1 : Int32) (s2 : Nat) (v0 : Nat) (v1 : Int32) (v2 : Int32) (v3 : Int32) (M : Mem) : Option (Mem) := gd (M.1 s2 = 9 ∧ vi_ s1 (mm_N M s2)) <| lt_ (ms_i M s2 (s1).toNatClampNeg s0) fun M1 => gd (M1.1 v0 = 8) <| rd (mm_r M1 v0 9) fun a2 => gd (M1.1 a2 = 9 ∧ vi_ v1 (mm_N M1 a2)) <| lt_ (ms_i M1 a2 (v1).toNatClampNeg v3) fun M3 => gd (M3.1 v0 = 8) <| rd (mm_r M3 v0 12) fun a4 => gd (M3.1 a4 = 10 ∧ vi_ v2 (mm_N M3 a4)) <| lt_ (ms_i M3 a4 (v2).toNatClampNeg (0 : Int32)) fun M5 => gd (M5.1 v0 = 8) <| gd (M5.1 v0 = 8) <| lt_ (ms_i M5 v0 18 ((mm_i M5 v0 18) + (1 : Int32))) fun M6 => some M6
def f_X8_sticks (v0 : Nat) (v1 : Int32) (v2 : Int32) (M : Mem) : Option (Mem) := gd (M.1 v0 = 8) <| rd (mm_r M v0 9) fun a7 => gd (M.1 a7 = 9 ∧ vi_ v1 (mm_N M a7)) <| gd (M.1 v0 = 8) <| rd (mm_r M v0 9) fun a8 => gd (M.1 a8 = 9 ∧ vi_ v2 (mm_N M a8)) <| lt_ (((mm_i M a7 (v1).toNatClampNeg) + (mm_i M a8 (v2).toNatClampNeg))) fun x9 => gd (M.1 v0 = 8) <| rd (mm_r M v0 7) fun a10 => gd (M.1 v0 = 8) <| rd (mm_r M v0 9) fun a11 => gd (M.1 a11 = 9 ∧ vi_ v1 (mm_N M a11)) <| gd (M.1 v0 = 8) <| rd (mm_r M v0 7) fun a12 => gd (M.1 a12 = 9 ∧ vi_ v1 (mm_N M a12)) <| gd (M.1 v0 = 8) <| rd (mm_r M v0 9) fun a13 => gd (M.1 a13 = 9 ∧ vi_ v2 (mm_N M a13)) <| gd (M.1 v0 = 8) <| rd (mm_r M v0 7) fun a14 => gd (M.1 a14 = 9 ∧ vi_ v2 (mm_N M a14)) <| gd (¬ (x9).toInt64 = 0) <| gd (M.1 a10 = 9 ∧ vi_ v1 (mm_N M a10)) <| lt_ (ms_i M a10 (v1).toNatClampNeg ((((((mm_i M a11 (v1).toNatClampNeg)).toInt64 * ((mm_i M a12 (v1).toNatClampNeg)).toInt64) + (((mm_i M a13 (v2).toNatClampNeg)).toInt64 * ((mm_i M a14 (v2).toNatClampNeg)).toInt64)) / (x9).toInt64)).toInt32) fun M15 => gd (M15.1 v0 = 8) <| rd (mm_r M15 v0 11) fun a16 => gd (M15.1 v0 = 8) <| rd (mm_r M15 v0 9) fun a17 => gd (M15.1 a17 = 9 ∧ vi_ v1 (mm_N M15 a17)) <| gd (M15.1 v0 = 8) <| rd (mm_r M15 v0 11) fun a18 => gd (M15.1 a18 = 9 ∧ vi_ v1 (mm_N M15 a18)) <| gd (M15.1 v0 = 8) <| rd (mm_r M15 v0 9) fun a19 => gd (M15.1 a19 = 9 ∧ vi_ v2 (mm_N M15 a19)) <| gd (M15.1 v0 = 8) <| rd (mm_r M15 v0 11) fun a20 => gd (M15.1 a20 = 9 ∧ vi_ v2 (mm_N M15 a20)) <| gd (¬ (x9).toInt64 = 0) <| gd (M15.1 a16 = 9 ∧ vi_ v1 (mm_N M15 a16)) <| lt_ (ms_i M15 a16 (v1).toNatClampNeg ((((((mm_i M15 a17 (v1).toNatClampNeg)).toInt64 * ((mm_i M15 a18 (v1).toNatClampNeg)).toInt64) + (((mm_i M15 a19 (v2).toNatClampNeg)).toInt64 * ((mm_i M15 a20 (v2).toNatClampNeg)).toInt64)) / (x9).toInt64)).toInt32) fun M21 => gd (M21.1 v0 = 8) <| rd (mm_r M21 v0 10) fun a22 => gd (M21.1 v0 = 8) <| rd (mm_r M21 v0 10) fun a23 => gd (M21.1 a23 = 9 ∧ vi_ v1 (mm_N M21 a23)) <| gd (M21.1 v0 = 8) <| rd (mm_r M21 v0 10) fun a24 => gd (M21.1 a24 = 9 ∧ vi_ v2 (mm_N M21 a24)) <| if (mm_i M21 a24 (v2).toNatClampNeg) ≤ (mm_i M21 a23 (v1).toNatClampNeg) then (gd (M21.1 v0 = 8) <| rd (mm_r M21 v0 10) fun a25 => gd (M21.1 a25 = 9 ∧ vi_ v2 (mm_N M21 a25)) <| f_X8_sticks_b131 (mm_i M21 a25 (v2).toNatClampNeg) v1 a22 v0 v1 v2 x9 M21) else (gd (M21.1 v0 = 8) <| rd (mm_r M21 v0 10) fun a26 => gd (M21.1 a26 = 9 ∧ vi_ v1 (mm_N M21 a26)) <| f_X8_sticks_b131 (mm_i M21 a26 (v1).toNatClampNeg) v1 a22 v0 v1 v2 x9 M21)
abbrev rm_X8_sticks : Room := { frames := 0, cells := 0, slots := 0, locals := 0 }
theorem hd_X8_sticks : yX8_sticks.cls ≠ "java/lang/invoke/MethodHandle" ∧ yX8_sticks.cls ≠ "java/lang/invoke/VarHandle" ∧ (parseMethodDescriptor yX8_sticks.desc).map (fun d => d.parameters.length) = some 2 := by decide +kernel
set_option maxHeartbeats 8000000 in
set_option maxRecDepth 100000 in
theorem c_X8_sticks {l : Launch} {D : va_G} {ca : Nat → ClassId} {b : Nat} {nx : Bool} {v0 : Nat} {v1 : Int32} {v2 : Int32} {M : Mem} {r : Mem} (hf : f_X8_sticks v0 v1 v2 M = some r) : CtV l yX8_sticks cX8_sticks 4 none rm_X8_sticks D ca b nx [.ref v0, .int v1, .int v2] M r 0 0 := by
  intro sz
  refine body_start (Qc := fun A => cvV D ca nx A r) (by decide +kernel) (Nat.le_of_ble_eq_true rfl) ?_
  intro p e s m args below meth c A hC hr hR ls hl
  obtain ⟨hx, hb, hml, hts, hown, hlocks, hXe, hA, hAb, hnm⟩ := id hC
  have hK := hXe.1
  have hl : lv_has ls 4 [(0, .ref v0), (1, .int v1), (2, .int v2)] := hl
  have hB131 : ∀  (s0 : Int32) (s1 : Int32) (s2 : Nat) (v0 : Nat) (v1 : Int32) (v2 : Int32) (v3 : Int32) (M : Mem) (H : Heap) (locs : List Loc) (ls : Array Slot), f_X8_sticks_b131  s0 s1 s2 v0 v1 v2 v3 M = some r → Hp D ca nx A s M H locs → lv_has ls 4 [(0, .ref v0), (1, .int v1), (2, .int v2), (3, .int v3)] → W p l e rm_X8_sticks s m args below meth c H locs 0 0 (MQ below (cvV D ca nx A r) args s 0 0 A) (F0 m 131 ls [.int s0, .int s1, .ref s2]) := by
    intro  s0 s1 s2 v0 v1 v2 v3 M H locs ls hf hR hl
    unfold f_X8_sticks_b131 at hf
    refine rg_iast (pc := 131) hx hb hK hR dX8_sticks_131 hf (fun M1 H locs hf hR => ?_)
    refine lv_aload_n (pc := 132) hx hb dX8_sticks_132 rfl (lv_at hl 0 rfl) ?_
    refine rg_getr (pc := 133) (C := RX8) (T := TX8) (N := 37) (κ := 8) hx hb hts hK hR hown in_8 rfl (by decide) 9 (by decide) m_677 rfl dX8_sticks_133 hf (fun a2 hf => ?_)
    refine lv_iload_n (pc := 136) hx hb dX8_sticks_136 rfl (lv_at hl 1 rfl) ?_
    refine lv_iload_n (pc := 137) hx hb dX8_sticks_137 rfl (lv_at hl 3 rfl) ?_
    refine rg_iast (pc := 138) hx hb hK hR dX8_sticks_138 hf (fun M3 H locs hf hR => ?_)
    refine lv_aload_n (pc := 139) hx hb dX8_sticks_139 rfl (lv_at hl 0 rfl) ?_
    refine rg_getr (pc := 140) (C := RX8) (T := TX8) (N := 37) (κ := 8) hx hb hts hK hR hown in_8 rfl (by decide) 12 (by decide) m_680 rfl dX8_sticks_140 hf (fun a4 hf => ?_)
    refine lv_iload_n (pc := 143) hx hb dX8_sticks_143 rfl (lv_at hl 2 rfl) ?_
    refine lv_iconst (pc := 144) (v := (0 : Int32)) hx hb dX8_sticks_144 (by decide) ?_
    refine rg_zast (pc := 145) hx hb hK hR rfl dX8_sticks_145 hf (fun M5 H locs hf hR => ?_)
    refine lv_aload_n (pc := 146) hx hb dX8_sticks_146 rfl (lv_at hl 0 rfl) ?_
    refine lv_dup (pc := 147) hx hb dX8_sticks_147 rfl ?_
    refine rg_get (pc := 148) (C := RX8) (T := TX8) (N := 37) (κ := 8) (v := .int (mm_i M5 v0 18)) hx hb hts hK hR hown in_8 rfl (by decide) 18 (by decide) m_686 rfl dX8_sticks_148 hf (fun hf => ?_)
    refine lv_iconst (pc := 151) (v := (1 : Int32)) hx hb dX8_sticks_151 (by decide) ?_
    refine lv_iadd (pc := 152) hx hb dX8_sticks_152 ?_
    refine rg_puti (pc := 153) (C := RX8) (T := TX8) (N := 37) (κ := 8) hx hb hts hK hR hown in_8 rfl (by decide) 18 (by decide) m_686 tyX8 tyX8_ok nmX8 rfl rfl rfl rfl dX8_sticks_153 hf (fun M6 H locs hf hR => ?_)
    exact rg_vret (pc := 156) hx hb hlocks hr hf hR dX8_sticks_156
  unfold f_X8_sticks at hf
  refine lv_aload_n (pc := 0) hx hb dX8_sticks_0 rfl (lv_at hl 0 rfl) ?_
  refine rg_getr (pc := 1) (C := RX8) (T := TX8) (N := 37) (κ := 8) hx hb hts hK hR hown in_8 rfl (by decide) 9 (by decide) m_677 rfl dX8_sticks_1 hf (fun a7 hf => ?_)
  refine lv_iload_n (pc := 4) hx hb dX8_sticks_4 rfl (lv_at hl 1 rfl) ?_
  refine rg_iald (pc := 5) hx hb hK hR dX8_sticks_5 hf (fun hf => ?_)
  refine lv_aload_n (pc := 6) hx hb dX8_sticks_6 rfl (lv_at hl 0 rfl) ?_
  refine rg_getr (pc := 7) (C := RX8) (T := TX8) (N := 37) (κ := 8) hx hb hts hK hR hown in_8 rfl (by decide) 9 (by decide) m_677 rfl dX8_sticks_7 hf (fun a8 hf => ?_)
  refine lv_iload_n (pc := 10) hx hb dX8_sticks_10 rfl (lv_at hl 2 rfl) ?_
  refine rg_iald (pc := 11) hx hb hK hR dX8_sticks_11 hf (fun hf => ?_)
  refine lv_iadd (pc := 12) hx hb dX8_sticks_12 ?_
  refine nm_i hf (fun x9 hf => ?_)
  refine lv_istore_n (pc := 13) (lv' := [(3, .int x9), (0, .ref v0), (1, .int v1), (2, .int v2)]) hx hb dX8_sticks_13 rfl hl (by decide) rfl (fun ls hl => ?_)
  refine lv_aload_n (pc := 14) hx hb dX8_sticks_14 rfl (lv_at hl 1 rfl) ?_
  refine rg_getr (pc := 15) (C := RX8) (T := TX8) (N := 37) (κ := 8) hx hb hts hK hR hown in_8 rfl (by decide) 7 (by decide) m_675 rfl dX8_sticks_15 hf (fun a10 hf => ?_)
  refine lv_iload_n (pc := 18) hx hb dX8_sticks_18 rfl (lv_at hl 2 rfl) ?_
  refine lv_aload_n (pc := 19) hx hb dX8_sticks_19 rfl (lv_at hl 1 rfl) ?_
  refine rg_getr (pc := 20) (C := RX8) (T := TX8) (N := 37) (κ := 8) hx hb hts hK hR hown in_8 rfl (by decide) 9 (by decide) m_677 rfl dX8_sticks_20 hf (fun a11 hf => ?_)
  refine lv_iload_n (pc := 23) hx hb dX8_sticks_23 rfl (lv_at hl 2 rfl) ?_
  refine rg_iald (pc := 24) hx hb hK hR dX8_sticks_24 hf (fun hf => ?_)
  refine lv_i2l (pc := 25) hx hb dX8_sticks_25 rfl ?_
  refine lv_aload_n (pc := 26) hx hb dX8_sticks_26 rfl (lv_at hl 1 rfl) ?_
  refine rg_getr (pc := 27) (C := RX8) (T := TX8) (N := 37) (κ := 8) hx hb hts hK hR hown in_8 rfl (by decide) 7 (by decide) m_675 rfl dX8_sticks_27 hf (fun a12 hf => ?_)
  refine lv_iload_n (pc := 30) hx hb dX8_sticks_30 rfl (lv_at hl 2 rfl) ?_
  refine rg_iald (pc := 31) hx hb hK hR dX8_sticks_31 hf (fun hf => ?_)
  refine lv_i2l (pc := 32) hx hb dX8_sticks_32 rfl ?_
  refine lv_lmul (pc := 33) hx hb dX8_sticks_33 ?_
  refine lv_aload_n (pc := 34) hx hb dX8_sticks_34 rfl (lv_at hl 1 rfl) ?_
  refine rg_getr (pc := 35) (C := RX8) (T := TX8) (N := 37) (κ := 8) hx hb hts hK hR hown in_8 rfl (by decide) 9 (by decide) m_677 rfl dX8_sticks_35 hf (fun a13 hf => ?_)
  refine lv_iload_n (pc := 38) hx hb dX8_sticks_38 rfl (lv_at hl 3 rfl) ?_
  refine rg_iald (pc := 39) hx hb hK hR dX8_sticks_39 hf (fun hf => ?_)
  refine lv_i2l (pc := 40) hx hb dX8_sticks_40 rfl ?_
  refine lv_aload_n (pc := 41) hx hb dX8_sticks_41 rfl (lv_at hl 1 rfl) ?_
  refine rg_getr (pc := 42) (C := RX8) (T := TX8) (N := 37) (κ := 8) hx hb hts hK hR hown in_8 rfl (by decide) 7 (by decide) m_675 rfl dX8_sticks_42 hf (fun a14 hf => ?_)
  refine lv_iload_n (pc := 45) hx hb dX8_sticks_45 rfl (lv_at hl 3 rfl) ?_
  refine rg_iald (pc := 46) hx hb hK hR dX8_sticks_46 hf (fun hf => ?_)
  refine lv_i2l (pc := 47) hx hb dX8_sticks_47 rfl ?_
  refine lv_lmul (pc := 48) hx hb dX8_sticks_48 ?_
  refine lv_ladd (pc := 49) hx hb dX8_sticks_49 ?_
  refine lv_iload_n (pc := 50) hx hb dX8_sticks_50 rfl (lv_at hl 0 rfl) ?_
  refine lv_i2l (pc := 51) hx hb dX8_sticks_51 rfl ?_
  obtain ⟨hz, hf⟩ := gd_e hf
  refine lv_ldiv (pc := 52) hx hb dX8_sticks_52 hz ?_
  refine lv_l2i (pc := 53) hx hb dX8_sticks_53 rfl ?_
  refine rg_iast (pc := 54) hx hb hK hR dX8_sticks_54 hf (fun M15 H locs hf hR => ?_)
  refine lv_aload_n (pc := 55) hx hb dX8_sticks_55 rfl (lv_at hl 1 rfl) ?_
  refine rg_getr (pc := 56) (C := RX8) (T := TX8) (N := 37) (κ := 8) hx hb hts hK hR hown in_8 rfl (by decide) 11 (by decide) m_679 rfl dX8_sticks_56 hf (fun a16 hf => ?_)
  refine lv_iload_n (pc := 59) hx hb dX8_sticks_59 rfl (lv_at hl 2 rfl) ?_
  refine lv_aload_n (pc := 60) hx hb dX8_sticks_60 rfl (lv_at hl 1 rfl) ?_
  refine rg_getr (pc := 61) (C := RX8) (T := TX8) (N := 37) (κ := 8) hx hb hts hK hR hown in_8 rfl (by decide) 9 (by decide) m_677 rfl dX8_sticks_61 hf (fun a17 hf => ?_)
  refine lv_iload_n (pc := 64) hx hb dX8_sticks_64 rfl (lv_at hl 2 rfl) ?_
  refine rg_iald (pc := 65) hx hb hK hR dX8_sticks_65 hf (fun hf => ?_)
  refine lv_i2l (pc := 66) hx hb dX8_sticks_66 rfl ?_
  refine lv_aload_n (pc := 67) hx hb dX8_sticks_67 rfl (lv_at hl 1 rfl) ?_
  refine rg_getr (pc := 68) (C := RX8) (T := TX8) (N := 37) (κ := 8) hx hb hts hK hR hown in_8 rfl (by decide) 11 (by decide) m_679 rfl dX8_sticks_68 hf (fun a18 hf => ?_)
  refine lv_iload_n (pc := 71) hx hb dX8_sticks_71 rfl (lv_at hl 2 rfl) ?_
  refine rg_iald (pc := 72) hx hb hK hR dX8_sticks_72 hf (fun hf => ?_)
  refine lv_i2l (pc := 73) hx hb dX8_sticks_73 rfl ?_
  refine lv_lmul (pc := 74) hx hb dX8_sticks_74 ?_
  refine lv_aload_n (pc := 75) hx hb dX8_sticks_75 rfl (lv_at hl 1 rfl) ?_
  refine rg_getr (pc := 76) (C := RX8) (T := TX8) (N := 37) (κ := 8) hx hb hts hK hR hown in_8 rfl (by decide) 9 (by decide) m_677 rfl dX8_sticks_76 hf (fun a19 hf => ?_)
  refine lv_iload_n (pc := 79) hx hb dX8_sticks_79 rfl (lv_at hl 3 rfl) ?_
  refine rg_iald (pc := 80) hx hb hK hR dX8_sticks_80 hf (fun hf => ?_)
  refine lv_i2l (pc := 81) hx hb dX8_sticks_81 rfl ?_
  refine lv_aload_n (pc := 82) hx hb dX8_sticks_82 rfl (lv_at hl 1 rfl) ?_
  refine rg_getr (pc := 83) (C := RX8) (T := TX8) (N := 37) (κ := 8) hx hb hts hK hR hown in_8 rfl (by decide) 11 (by decide) m_679 rfl dX8_sticks_83 hf (fun a20 hf => ?_)
  refine lv_iload_n (pc := 86) hx hb dX8_sticks_86 rfl (lv_at hl 3 rfl) ?_
  refine rg_iald (pc := 87) hx hb hK hR dX8_sticks_87 hf (fun hf => ?_)
  refine lv_i2l (pc := 88) hx hb dX8_sticks_88 rfl ?_
  refine lv_lmul (pc := 89) hx hb dX8_sticks_89 ?_
  refine lv_ladd (pc := 90) hx hb dX8_sticks_90 ?_
  refine lv_iload_n (pc := 91) hx hb dX8_sticks_91 rfl (lv_at hl 0 rfl) ?_
  refine lv_i2l (pc := 92) hx hb dX8_sticks_92 rfl ?_
  obtain ⟨hz, hf⟩ := gd_e hf
  refine lv_ldiv (pc := 93) hx hb dX8_sticks_93 hz ?_
  refine lv_l2i (pc := 94) hx hb dX8_sticks_94 rfl ?_
  refine rg_iast (pc := 95) hx hb hK hR dX8_sticks_95 hf (fun M21 H locs hf hR => ?_)
  refine lv_aload_n (pc := 96) hx hb dX8_sticks_96 rfl (lv_at hl 1 rfl) ?_
  refine rg_getr (pc := 97) (C := RX8) (T := TX8) (N := 37) (κ := 8) hx hb hts hK hR hown in_8 rfl (by decide) 10 (by decide) m_678 rfl dX8_sticks_97 hf (fun a22 hf => ?_)
  refine lv_iload_n (pc := 100) hx hb dX8_sticks_100 rfl (lv_at hl 2 rfl) ?_
  refine lv_aload_n (pc := 101) hx hb dX8_sticks_101 rfl (lv_at hl 1 rfl) ?_
  refine rg_getr (pc := 102) (C := RX8) (T := TX8) (N := 37) (κ := 8) hx hb hts hK hR hown in_8 rfl (by decide) 10 (by decide) m_678 rfl dX8_sticks_102 hf (fun a23 hf => ?_)
  refine lv_iload_n (pc := 105) hx hb dX8_sticks_105 rfl (lv_at hl 2 rfl) ?_
  refine rg_iald (pc := 106) hx hb hK hR dX8_sticks_106 hf (fun hf => ?_)
  refine lv_aload_n (pc := 107) hx hb dX8_sticks_107 rfl (lv_at hl 1 rfl) ?_
  refine rg_getr (pc := 108) (C := RX8) (T := TX8) (N := 37) (κ := 8) hx hb hts hK hR hown in_8 rfl (by decide) 10 (by decide) m_678 rfl dX8_sticks_108 hf (fun a24 hf => ?_)
  refine lv_iload_n (pc := 111) hx hb dX8_sticks_111 rfl (lv_at hl 3 rfl) ?_
  refine rg_iald (pc := 112) hx hb hK hR dX8_sticks_112 hf (fun hf => ?_)
  refine lv_icmp_ge (pc := 113) (tgt := 125) hx hb dX8_sticks_113 (by decide) (fun hc => ?_) (fun hc => ?_)
  · replace hf := it_t hf hc
    refine lv_aload_n (pc := 125) hx hb dX8_sticks_125 rfl (lv_at hl 1 rfl) ?_
    refine rg_getr (pc := 126) (C := RX8) (T := TX8) (N := 37) (κ := 8) hx hb hts hK hR hown in_8 rfl (by decide) 10 (by decide) m_678 rfl dX8_sticks_126 hf (fun a25 hf => ?_)
    refine lv_iload_n (pc := 129) hx hb dX8_sticks_129 rfl (lv_at hl 3 rfl) ?_
    refine rg_iald (pc := 130) hx hb hK hR dX8_sticks_130 hf (fun hf => ?_)
    exact hB131 (mm_i M21 a25 (v2).toNatClampNeg) v1 a22 v0 v1 v2 x9 M21 _ _ _ hf hR (lv_sub hl [1, 2, 3, 0] rfl)
  · replace hf := it_f hf hc
    refine lv_aload_n (pc := 116) hx hb dX8_sticks_116 rfl (lv_at hl 1 rfl) ?_
    refine rg_getr (pc := 117) (C := RX8) (T := TX8) (N := 37) (κ := 8) hx hb hts hK hR hown in_8 rfl (by decide) 10 (by decide) m_678 rfl dX8_sticks_117 hf (fun a26 hf => ?_)
    refine lv_iload_n (pc := 120) hx hb dX8_sticks_120 rfl (lv_at hl 2 rfl) ?_
    refine rg_iald (pc := 121) hx hb hK hR dX8_sticks_121 hf (fun hf => ?_)
    refine lv_goto (pc := 122) (tgt := 131) hx hb dX8_sticks_122 (by decide) ?_
    exact hB131 (mm_i M21 a26 (v1).toNatClampNeg) v1 a22 v0 v1 v2 x9 M21 _ _ _ hf hR (lv_sub hl [1, 2, 3, 0] rfl)
