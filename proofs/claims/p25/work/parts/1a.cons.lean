-- X0_init
def f_X0_init (v0 : Nat) (M : Mem) : Option (Mem) := some M
abbrev rm_X0_init : Room := { frames := 1, cells := 0, slots := 0, locals := 24 }
theorem hd_X0_init : yX0_init.cls ≠ "java/lang/invoke/MethodHandle" ∧ yX0_init.cls ≠ "java/lang/invoke/VarHandle" ∧ (parseMethodDescriptor yX0_init.desc).map (fun d => d.parameters.length) = some 0 := by decide +kernel
set_option maxHeartbeats 8000000 in
set_option maxRecDepth 100000 in
theorem c_X0_init {l : Launch} {D : va_G} {ca : Nat → ClassId} {b : Nat} {v0 : Nat} {M : Mem} {r : Mem} (hf : f_X0_init v0 M = some r) : CtV l yX0_init cX0_init 1 none rm_X0_init D ca b true [.ref v0] M r 0 0 := by
  intro sz
  refine body_start (Qc := fun A => cvV D ca true A r) (by decide +kernel) (Nat.le_of_ble_eq_true rfl) ?_
  intro p e s m args below meth c A hC hr hR ls hl
  obtain ⟨hx, hb, hml, hts, hown, hlocks, hXe, hA, hAb, hnm⟩ := id hC
  have hK := hXe.1
  have hl : lv_has ls 1 [(0, .ref v0)] := hl
  unfold f_X0_init at hf
  refine lv_aload_n (pc := 0) hx hb dX0_init_0 rfl (lv_at hl 0 rfl) ?_
  refine W.objInit (g := F0 m 1 ls _) hx hb hown (hts _ m_209) (hts _ m_22) (hts _ m_23) rfl (by rw [hml]; exact hl.1) rfl dX0_init_1 (Nat.le_of_ble_eq_true rfl) (Nat.le_of_ble_eq_true rfl) ?_
  refine W.eq (g2 := F0 m 4 ls []) rfl ?_
  refine W.widen (k := 0) (n := 0) (by show 0 ≤ 0; decide) (by show 0 ≤ 0; decide) ?_
  exact rg_vret (pc := 4) hx hb hlocks hr hf hR dX0_init_4
-- X1_init
def f_X1_init (v0 : Nat) (M : Mem) : Option (Mem) := lt_ (mm_x M) fun a1 => lt_ (ms_n M 9 64) fun M2 => gd (M2.1 v0 = 1) <| lt_ (ms_r M2 v0 0 (some a1)) fun M3 => some M3
abbrev rm_X1_init : Room := { frames := 1, cells := 1, slots := 64, locals := 24 }
theorem hd_X1_init : yX1_init.cls ≠ "java/lang/invoke/MethodHandle" ∧ yX1_init.cls ≠ "java/lang/invoke/VarHandle" ∧ (parseMethodDescriptor yX1_init.desc).map (fun d => d.parameters.length) = some 0 := by decide +kernel
set_option maxHeartbeats 8000000 in
set_option maxRecDepth 100000 in
theorem c_X1_init {l : Launch} {D : va_G} {ca : Nat → ClassId} {b : Nat} {v0 : Nat} {M : Mem} {r : Mem} (hf : f_X1_init v0 M = some r) : CtV l yX1_init cX1_init 1 none rm_X1_init D ca b true [.ref v0] M r 1 64 := by
  intro sz
  refine body_start (Qc := fun A => cvV D ca true A r) (by decide +kernel) (Nat.le_of_ble_eq_true rfl) ?_
  intro p e s m args below meth c A hC hr hR ls hl
  obtain ⟨hx, hb, hml, hts, hown, hlocks, hXe, hA, hAb, hnm⟩ := id hC
  have hK := hXe.1
  have hl : lv_has ls 1 [(0, .ref v0)] := hl
  unfold f_X1_init at hf
  refine lv_aload_n (pc := 0) hx hb dX1_init_0 rfl (lv_at hl 0 rfl) ?_
  refine W.objInit (g := F0 m 1 ls _) hx hb hown (hts _ m_195) (hts _ m_22) (hts _ m_23) rfl (by rw [hml]; exact hl.1) rfl dX1_init_1 (Nat.le_of_ble_eq_true rfl) (Nat.le_of_ble_eq_true rfl) ?_
  refine W.eq (g2 := F0 m 4 ls []) rfl ?_
  refine lv_aload_n (pc := 4) hx hb dX1_init_4 rfl (lv_at hl 0 rfl) ?_
  refine lv_bipush (pc := 5) (v := (64 : Int32)) hx hb dX1_init_5 (by decide) ?_
  refine rg_newa (pc := 7) (atype := .int) (κ := 9) (N := 64) hx hb hts hK hR hA 0 rfl (by decide) m_202 (by decide) (by decide) (by decide) (Nat.le_of_ble_eq_true rfl) (Nat.le_of_ble_eq_true rfl) dX1_init_7 hf (fun a1 M2 H hf hR => ?_)
  refine rg_putr (pc := 9) (C := RX1) (T := TX1) (N := 2) (κ := 1) hx hb hts hK hR hown in_1 rfl (by decide) 0 (by decide) m_196 tyX1 tyX1_ok nmX1 ⟨rfl, hnm rfl, rfl⟩ rfl rfl rfl dX1_init_9 hf (fun M3 H locs hf hR => ?_)
  refine W.widen (k := 1) (n := 64) (by show 1 ≤ 1; decide) (by show 64 ≤ 64; decide) ?_
  exact rg_vret (pc := 12) hx hb hlocks hr hf hR dX1_init_12
-- X2_init
def f_X2_init (v0 : Nat) (M : Mem) : Option (Mem) := some M
abbrev rm_X2_init : Room := { frames := 1, cells := 0, slots := 0, locals := 24 }
theorem hd_X2_init : yX2_init.cls ≠ "java/lang/invoke/MethodHandle" ∧ yX2_init.cls ≠ "java/lang/invoke/VarHandle" ∧ (parseMethodDescriptor yX2_init.desc).map (fun d => d.parameters.length) = some 0 := by decide +kernel
set_option maxHeartbeats 8000000 in
set_option maxRecDepth 100000 in
theorem c_X2_init {l : Launch} {D : va_G} {ca : Nat → ClassId} {b : Nat} {v0 : Nat} {M : Mem} {r : Mem} (hf : f_X2_init v0 M = some r) : CtV l yX2_init cX2_init 1 none rm_X2_init D ca b true [.ref v0] M r 0 0 := by
  intro sz
  refine body_start (Qc := fun A => cvV D ca true A r) (by decide +kernel) (Nat.le_of_ble_eq_true rfl) ?_
  intro p e s m args below meth c A hC hr hR ls hl
  obtain ⟨hx, hb, hml, hts, hown, hlocks, hXe, hA, hAb, hnm⟩ := id hC
  have hK := hXe.1
  have hl : lv_has ls 1 [(0, .ref v0)] := hl
  unfold f_X2_init at hf
  refine lv_aload_n (pc := 0) hx hb dX2_init_0 rfl (lv_at hl 0 rfl) ?_
  refine W.objInit (g := F0 m 1 ls _) hx hb hown (hts _ m_106) (hts _ m_22) (hts _ m_23) rfl (by rw [hml]; exact hl.1) rfl dX2_init_1 (Nat.le_of_ble_eq_true rfl) (Nat.le_of_ble_eq_true rfl) ?_
  refine W.eq (g2 := F0 m 4 ls []) rfl ?_
  refine W.widen (k := 0) (n := 0) (by show 0 ≤ 0; decide) (by show 0 ≤ 0; decide) ?_
  exact rg_vret (pc := 4) hx hb hlocks hr hf hR dX2_init_4
-- X4_init
def f_X4_init (v0 : Nat) (M : Mem) : Option (Mem) := some M
abbrev rm_X4_init : Room := { frames := 1, cells := 0, slots := 0, locals := 24 }
theorem hd_X4_init : yX4_init.cls ≠ "java/lang/invoke/MethodHandle" ∧ yX4_init.cls ≠ "java/lang/invoke/VarHandle" ∧ (parseMethodDescriptor yX4_init.desc).map (fun d => d.parameters.length) = some 0 := by decide +kernel
set_option maxHeartbeats 8000000 in
set_option maxRecDepth 100000 in
theorem c_X4_init {l : Launch} {D : va_G} {ca : Nat → ClassId} {b : Nat} {v0 : Nat} {M : Mem} {r : Mem} (hf : f_X4_init v0 M = some r) : CtV l yX4_init cX4_init 1 none rm_X4_init D ca b true [.ref v0] M r 0 0 := by
  intro sz
  refine body_start (Qc := fun A => cvV D ca true A r) (by decide +kernel) (Nat.le_of_ble_eq_true rfl) ?_
  intro p e s m args below meth c A hC hr hR ls hl
  obtain ⟨hx, hb, hml, hts, hown, hlocks, hXe, hA, hAb, hnm⟩ := id hC
  have hK := hXe.1
  have hl : lv_has ls 1 [(0, .ref v0)] := hl
  unfold f_X4_init at hf
  refine lv_aload_n (pc := 0) hx hb dX4_init_0 rfl (lv_at hl 0 rfl) ?_
  refine W.objInit (g := F0 m 1 ls _) hx hb hown (hts _ m_46) (hts _ m_22) (hts _ m_23) rfl (by rw [hml]; exact hl.1) rfl dX4_init_1 (Nat.le_of_ble_eq_true rfl) (Nat.le_of_ble_eq_true rfl) ?_
  refine W.eq (g2 := F0 m 4 ls []) rfl ?_
  refine W.widen (k := 0) (n := 0) (by show 0 ≤ 0; decide) (by show 0 ≤ 0; decide) ?_
  exact rg_vret (pc := 4) hx hb hlocks hr hf hR dX4_init_4
-- X5_init
def f_X5_init (v0 : Nat) (M : Mem) : Option (Mem) := some M
abbrev rm_X5_init : Room := { frames := 1, cells := 0, slots := 0, locals := 24 }
theorem hd_X5_init : yX5_init.cls ≠ "java/lang/invoke/MethodHandle" ∧ yX5_init.cls ≠ "java/lang/invoke/VarHandle" ∧ (parseMethodDescriptor yX5_init.desc).map (fun d => d.parameters.length) = some 0 := by decide +kernel
set_option maxHeartbeats 8000000 in
set_option maxRecDepth 100000 in
theorem c_X5_init {l : Launch} {D : va_G} {ca : Nat → ClassId} {b : Nat} {v0 : Nat} {M : Mem} {r : Mem} (hf : f_X5_init v0 M = some r) : CtV l yX5_init cX5_init 1 none rm_X5_init D ca b true [.ref v0] M r 0 0 := by
  intro sz
  refine body_start (Qc := fun A => cvV D ca true A r) (by decide +kernel) (Nat.le_of_ble_eq_true rfl) ?_
  intro p e s m args below meth c A hC hr hR ls hl
  obtain ⟨hx, hb, hml, hts, hown, hlocks, hXe, hA, hAb, hnm⟩ := id hC
  have hK := hXe.1
  have hl : lv_has ls 1 [(0, .ref v0)] := hl
  unfold f_X5_init at hf
  refine lv_aload_n (pc := 0) hx hb dX5_init_0 rfl (lv_at hl 0 rfl) ?_
  refine W.objInit (g := F0 m 1 ls _) hx hb hown (hts _ m_175) (hts _ m_22) (hts _ m_23) rfl (by rw [hml]; exact hl.1) rfl dX5_init_1 (Nat.le_of_ble_eq_true rfl) (Nat.le_of_ble_eq_true rfl) ?_
  refine W.eq (g2 := F0 m 4 ls []) rfl ?_
  refine W.widen (k := 0) (n := 0) (by show 0 ≤ 0; decide) (by show 0 ≤ 0; decide) ?_
  exact rg_vret (pc := 4) hx hb hlocks hr hf hR dX5_init_4
-- X6_init
def f_X6_init (v0 : Nat) (M : Mem) : Option (Mem) := some M
abbrev rm_X6_init : Room := { frames := 1, cells := 0, slots := 0, locals := 24 }
theorem hd_X6_init : yX6_init.cls ≠ "java/lang/invoke/MethodHandle" ∧ yX6_init.cls ≠ "java/lang/invoke/VarHandle" ∧ (parseMethodDescriptor yX6_init.desc).map (fun d => d.parameters.length) = some 0 := by decide +kernel
set_option maxHeartbeats 8000000 in
set_option maxRecDepth 100000 in
theorem c_X6_init {l : Launch} {D : va_G} {ca : Nat → ClassId} {b : Nat} {v0 : Nat} {M : Mem} {r : Mem} (hf : f_X6_init v0 M = some r) : CtV l yX6_init cX6_init 1 none rm_X6_init D ca b true [.ref v0] M r 0 0 := by
  intro sz
  refine body_start (Qc := fun A => cvV D ca true A r) (by decide +kernel) (Nat.le_of_ble_eq_true rfl) ?_
  intro p e s m args below meth c A hC hr hR ls hl
  obtain ⟨hx, hb, hml, hts, hown, hlocks, hXe, hA, hAb, hnm⟩ := id hC
  have hK := hXe.1
  have hl : lv_has ls 1 [(0, .ref v0)] := hl
  unfold f_X6_init at hf
  refine lv_aload_n (pc := 0) hx hb dX6_init_0 rfl (lv_at hl 0 rfl) ?_
  refine W.objInit (g := F0 m 1 ls _) hx hb hown (hts _ m_35) (hts _ m_22) (hts _ m_23) rfl (by rw [hml]; exact hl.1) rfl dX6_init_1 (Nat.le_of_ble_eq_true rfl) (Nat.le_of_ble_eq_true rfl) ?_
  refine W.eq (g2 := F0 m 4 ls []) rfl ?_
  refine W.widen (k := 0) (n := 0) (by show 0 ≤ 0; decide) (by show 0 ≤ 0; decide) ?_
  exact rg_vret (pc := 4) hx hb hlocks hr hf hR dX6_init_4
-- X3_init
def f_X3_init_b37 (k37 : Nat → Int32 → Mem → Option (Mem)) (v0 : Nat) (v1 : Int32) (M : Mem) : Option (Mem) := if (80 : Int32) ≤ v1 then (gd (M.1 v0 = 3) <| lt_ (ms_i M v0 4 (20 : Int32)) fun M1 => gd (M1.1 v0 = 3) <| lt_ (ms_i M1 v0 5 (80 : Int32)) fun M2 => gd (M2.1 v0 = 3) <| lt_ (ms_i M2 v0 6 (50 : Int32)) fun M3 => some M3) else (gd (M.1 v0 = 3) <| rd (mm_r M v0 2) fun a4 => lt_ (mm_x M) fun a5 => lt_ (ms_n M 2 0) fun M6 => bd (f_X2_init a5 M6) fun z7 => gd ((z7.1 a4 = 13 ∧ z7.1 a5 = 2) ∧ vi_ v1 (mm_N z7 a4)) <| lt_ (ms_r z7 a4 (v1).toNatClampNeg (some a5)) fun M8 => lt_ (v1 + (1 : Int32)) fun x9 => k37 v0 x9 M8)
def f_X3_init_L37  : Nat → Nat → Int32 → Mem → Option (Mem)
  | 0 => fun _ _ _ => none
  | n + 1 => f_X3_init_b37  (f_X3_init_L37  n)
def f_X3_init (v0 : Nat) (M : Mem) : Option (Mem) := lt_ (mm_x M) fun a10 => lt_ (ms_n M 6 0) fun M11 => bd (f_X6_init a10 M11) fun z12 => gd (z12.1 v0 = 3) <| lt_ (ms_r z12 v0 0 (some a10)) fun M13 => lt_ (mm_x M13) fun a14 => lt_ (ms_n M13 4 0) fun M15 => bd (f_X4_init a14 M15) fun z16 => gd (z16.1 v0 = 3) <| lt_ (ms_r z16 v0 1 (some a14)) fun M17 => lt_ (mm_x M17) fun a18 => lt_ (ms_n M17 13 80) fun M19 => gd (M19.1 v0 = 3) <| lt_ (ms_r M19 v0 2 (some a18)) fun M20 => f_X3_init_L37 81 v0 (0 : Int32) M20
abbrev rm_X3_init : Room := { frames := 2, cells := 84, slots := 661, locals := 44 }
theorem hd_X3_init : yX3_init.cls ≠ "java/lang/invoke/MethodHandle" ∧ yX3_init.cls ≠ "java/lang/invoke/VarHandle" ∧ (parseMethodDescriptor yX3_init.desc).map (fun d => d.parameters.length) = some 0 := by decide +kernel
set_option maxHeartbeats 8000000 in
set_option maxRecDepth 100000 in
theorem c_X3_init {l : Launch} {D : va_G} {ca : Nat → ClassId} {b : Nat} {v0 : Nat} {M : Mem} {r : Mem} (hf : f_X3_init v0 M = some r) : CtV l yX3_init cX3_init 2 none rm_X3_init D ca b true [.ref v0] M r 84 661 := by
  intro sz
  refine body_start (Qc := fun A => cvV D ca true A r) (by decide +kernel) (Nat.le_of_ble_eq_true rfl) ?_
  intro p e s m args below meth c A hC hr hR ls hl
  obtain ⟨hx, hb, hml, hts, hown, hlocks, hXe, hA, hAb, hnm⟩ := id hC
  have hK := hXe.1
  have hl : lv_has ls 2 [(0, .ref v0)] := hl
  have hB37 : ∀ (n : Nat) (k37 : Nat → Int32 → Mem → Option (Mem)) (hk37 : ∀ (v0 : Nat) (v1 : Int32) (M : Mem) (H : Heap) (locs : List Loc) (ls : Array Slot) (nc ns : Nat), k37 v0 v1 M = some r → Hp D ca true A s M H locs → lv_has ls 2 [(0, .ref v0), (1, .int v1)] → nc + n * 1 ≤ 84 → ns + n * 7 ≤ 661 → W p l e rm_X3_init s m args below meth c H locs nc ns (MQ below (cvV D ca true A r) args s 84 661 A) (F0 m 37 ls [])) (v0 : Nat) (v1 : Int32) (M : Mem) (H : Heap) (locs : List Loc) (ls : Array Slot) (nc ns : Nat), f_X3_init_b37 k37 v0 v1 M = some r → Hp D ca true A s M H locs → lv_has ls 2 [(0, .ref v0), (1, .int v1)] → nc + (n + 1) * 1 ≤ 84 → ns + (n + 1) * 7 ≤ 661 → W p l e rm_X3_init s m args below meth c H locs nc ns (MQ below (cvV D ca true A r) args s 84 661 A) (F0 m 37 ls []) := by
    intro n k37 hk37 v0 v1 M H locs ls nc ns hf hR hl hnc hns
    unfold f_X3_init_b37 at hf
    refine lv_iload_n (pc := 37) hx hb dX3_init_37 rfl (lv_at hl 1 rfl) ?_
    refine lv_bipush (pc := 38) (v := (80 : Int32)) hx hb dX3_init_38 (by decide) ?_
    refine lv_icmp_ge (pc := 40) (tgt := 62) hx hb dX3_init_40 (by decide) (fun hc => ?_) (fun hc => ?_)
    · replace hf := it_t hf hc
      refine W.widen (k := 84) (n := 661) (by omega) (by omega) ?_
      refine lv_aload_n (pc := 62) hx hb dX3_init_62 rfl (lv_at hl 0 rfl) ?_
      refine lv_bipush (pc := 63) (v := (20 : Int32)) hx hb dX3_init_63 (by decide) ?_
      refine rg_puti (pc := 65) (C := RX3) (T := TX3) (N := 7) (κ := 3) hx hb hts hK hR hown in_3 rfl (by decide) 4 (by decide) m_148 tyX3 tyX3_ok nmX3 rfl rfl rfl rfl dX3_init_65 hf (fun M1 H locs hf hR => ?_)
      refine lv_aload_n (pc := 68) hx hb dX3_init_68 rfl (lv_at hl 0 rfl) ?_
      refine lv_bipush (pc := 69) (v := (80 : Int32)) hx hb dX3_init_69 (by decide) ?_
      refine rg_puti (pc := 71) (C := RX3) (T := TX3) (N := 7) (κ := 3) hx hb hts hK hR hown in_3 rfl (by decide) 5 (by decide) m_150 tyX3 tyX3_ok nmX3 rfl rfl rfl rfl dX3_init_71 hf (fun M2 H locs hf hR => ?_)
      refine lv_aload_n (pc := 74) hx hb dX3_init_74 rfl (lv_at hl 0 rfl) ?_
      refine lv_bipush (pc := 75) (v := (50 : Int32)) hx hb dX3_init_75 (by decide) ?_
      refine rg_puti (pc := 77) (C := RX3) (T := TX3) (N := 7) (κ := 3) hx hb hts hK hR hown in_3 rfl (by decide) 6 (by decide) m_152 tyX3 tyX3_ok nmX3 rfl rfl rfl rfl dX3_init_77 hf (fun M3 H locs hf hR => ?_)
      refine W.widen (k := 84) (n := 661) (by show 84 ≤ 84; decide) (by show 661 ≤ 661; decide) ?_
      exact rg_vret (pc := 80) hx hb hlocks hr hf hR dX3_init_80
    · replace hf := it_f hf hc
      refine lv_aload_n (pc := 43) hx hb dX3_init_43 rfl (lv_at hl 0 rfl) ?_
      refine rg_getr (pc := 44) (C := RX3) (T := TX3) (N := 7) (κ := 3) hx hb hts hK hR hown in_3 rfl (by decide) 2 (by decide) m_144 rfl dX3_init_44 hf (fun a4 hf => ?_)
      refine lv_iload_n (pc := 47) hx hb dX3_init_47 rfl (lv_at hl 1 rfl) ?_
      refine rg_new (pc := 48) (C := RX2) (T := TX2) (N := 7) (κ := 2) hx hb hts hK hR hA hown in_2 rfl (by decide) tyX2 tyX2_ok df_2 m_100 m_102 m_5 (by show _ ≤ 84; omega) (by show _ ≤ 661; omega) dX3_init_48 hf (fun a5 M6 H hf hR => ?_)
      refine lv_dup (pc := 51) hx hb dX3_init_51 rfl ?_
      refine rg_V (pc := 52) hf hR hA (fun z hz => rn_IN (host := "RingHerd") (As := []) (rest := [.ref a5, .int v1, .ref a4]) hC hR (c_X2_init  hz _) (by decide +kernel) m_104 m_5 m_105 rfl hd_X2_init ⟨rfl, rfl, Nat.le_of_ble_eq_true rfl, Nat.le_of_ble_eq_true rfl⟩ rfl hl.1 rfl (Nat.le_of_ble_eq_true rfl) dX3_init_52 ⟨by show _ ≤ 84; omega, by show _ ≤ 661; omega⟩) (fun z7 H locs hf hR => ?_)
      refine rg_aast (pc := 55) (κ := 13) (κo := 2) hx hb hK hR 3 rfl (by decide) rfl (by decide) dX3_init_55 hf (fun M8 H locs hf hR => ?_)
      refine rg_iinc (pc := 56) hx hb dX3_init_56 hl (k := 1) rfl rfl (by decide) hf (fun x9 ls hf hl => ?_)
      have hl : lv_has ls 2 [(1, .int x9), (0, .ref v0)] := hl
      refine lv_goto (pc := 59) (tgt := 37) hx hb dX3_init_59 (by decide) ?_
      exact hk37 v0 x9 M8 _ _ _ _ _ hf hR (lv_sub hl [1, 0] rfl) (by omega) (by omega)
  have hL37 : ∀  (n : Nat) (v0 : Nat) (v1 : Int32) (M : Mem) (H : Heap) (locs : List Loc) (ls : Array Slot) (nc ns : Nat), f_X3_init_L37  n v0 v1 M = some r → Hp D ca true A s M H locs → lv_has ls 2 [(0, .ref v0), (1, .int v1)] → nc + n * 1 ≤ 84 → ns + n * 7 ≤ 661 → W p l e rm_X3_init s m args below meth c H locs nc ns (MQ below (cvV D ca true A r) args s 84 661 A) (F0 m 37 ls []) := by
    intro  n
    induction n with
    | zero => intro v0 v1 M H locs ls nc ns hf; exact nomatch (show (none : Option (Mem)) = some r from hf)
    | succ n ih => intro v0 v1 M H locs ls nc ns hf hR hl; exact hB37 n  (f_X3_init_L37  n) ih v0 v1 M H locs ls nc ns hf hR hl
  unfold f_X3_init at hf
  refine lv_aload_n (pc := 0) hx hb dX3_init_0 rfl (lv_at hl 0 rfl) ?_
  refine W.objInit (g := F0 m 1 ls _) hx hb hown (hts _ m_29) (hts _ m_22) (hts _ m_23) rfl (by rw [hml]; exact hl.1) rfl dX3_init_1 (Nat.le_of_ble_eq_true rfl) (Nat.le_of_ble_eq_true rfl) ?_
  refine W.eq (g2 := F0 m 4 ls []) rfl ?_
  refine lv_aload_n (pc := 4) hx hb dX3_init_4 rfl (lv_at hl 0 rfl) ?_
  refine rg_new (pc := 5) (C := RX6) (T := TX6) (N := 1) (κ := 6) hx hb hts hK hR hA hown in_6 rfl (by decide) tyX6 tyX6_ok df_6 m_30 m_31 m_3 (Nat.le_of_ble_eq_true rfl) (Nat.le_of_ble_eq_true rfl) dX3_init_5 hf (fun a10 M11 H hf hR => ?_)
  refine lv_dup (pc := 8) hx hb dX3_init_8 rfl ?_
  refine rg_V (pc := 9) hf hR hA (fun z hz => rn_IN (host := "RingHerd") (As := []) (rest := [.ref a10, .ref v0]) hC hR (c_X6_init  hz _) (by decide +kernel) m_33 m_3 m_34 rfl hd_X6_init ⟨rfl, rfl, Nat.le_of_ble_eq_true rfl, Nat.le_of_ble_eq_true rfl⟩ rfl hl.1 rfl (Nat.le_of_ble_eq_true rfl) dX3_init_9 ⟨Nat.le_of_ble_eq_true rfl, Nat.le_of_ble_eq_true rfl⟩) (fun z12 H locs hf hR => ?_)
  refine rg_putr (pc := 12) (C := RX3) (T := TX3) (N := 7) (κ := 3) hx hb hts hK hR hown in_3 rfl (by decide) 0 (by decide) m_140 tyX3 tyX3_ok nmX3 ⟨rfl, hnm rfl, rfl⟩ rfl rfl rfl dX3_init_12 hf (fun M13 H locs hf hR => ?_)
  refine lv_aload_n (pc := 15) hx hb dX3_init_15 rfl (lv_at hl 0 rfl) ?_
  refine rg_new (pc := 16) (C := RX4) (T := TX4) (N := 13) (κ := 4) hx hb hts hK hR hA hown in_4 rfl (by decide) tyX4 tyX4_ok df_4 m_41 m_42 m_4 (Nat.le_of_ble_eq_true rfl) (Nat.le_of_ble_eq_true rfl) dX3_init_16 hf (fun a14 M15 H hf hR => ?_)
  refine lv_dup (pc := 19) hx hb dX3_init_19 rfl ?_
  refine rg_V (pc := 20) hf hR hA (fun z hz => rn_IN (host := "RingHerd") (As := []) (rest := [.ref a14, .ref v0]) hC hR (c_X4_init  hz _) (by decide +kernel) m_44 m_4 m_45 rfl hd_X4_init ⟨rfl, rfl, Nat.le_of_ble_eq_true rfl, Nat.le_of_ble_eq_true rfl⟩ rfl hl.1 rfl (Nat.le_of_ble_eq_true rfl) dX3_init_20 ⟨Nat.le_of_ble_eq_true rfl, Nat.le_of_ble_eq_true rfl⟩) (fun z16 H locs hf hR => ?_)
  refine rg_putr (pc := 23) (C := RX3) (T := TX3) (N := 7) (κ := 3) hx hb hts hK hR hown in_3 rfl (by decide) 1 (by decide) m_142 tyX3 tyX3_ok nmX3 ⟨rfl, hnm rfl, rfl⟩ rfl rfl rfl dX3_init_23 hf (fun M17 H locs hf hR => ?_)
  refine lv_aload_n (pc := 26) hx hb dX3_init_26 rfl (lv_at hl 0 rfl) ?_
  refine lv_bipush (pc := 27) (v := (80 : Int32)) hx hb dX3_init_27 (by decide) ?_
  refine rg_newq (pc := 29) (κ := 13) (N := 80) hx hb hts hK hR hA hown 3 rfl (by decide) m_100 (hXe.2.2.2.2.1 _ (by decide)) (by decide) (by decide) (by decide) (Nat.le_of_ble_eq_true rfl) (Nat.le_of_ble_eq_true rfl) dX3_init_29 hf (fun a18 M19 H hf hR => ?_)
  refine rg_putr (pc := 32) (C := RX3) (T := TX3) (N := 7) (κ := 3) hx hb hts hK hR hown in_3 rfl (by decide) 2 (by decide) m_144 tyX3 tyX3_ok nmX3 ⟨rfl, hnm rfl, rfl⟩ rfl rfl rfl dX3_init_32 hf (fun M20 H locs hf hR => ?_)
  refine lv_iconst (pc := 35) (v := (0 : Int32)) hx hb dX3_init_35 (by decide) ?_
  refine lv_istore_n (pc := 36) (lv' := [(1, .int (0 : Int32)), (0, .ref v0)]) hx hb dX3_init_36 rfl hl (by decide) rfl (fun ls hl => ?_)
  exact hL37 81 v0 (0 : Int32) M20 _ _ _ _ _ hf hR (lv_sub hl [1, 0] rfl) (by show 3 + _ ≤ _; decide) (by show 94 + _ ≤ _; decide)
-- X7_init
def f_X7_init_b98 (k98 : Nat → Int32 → Mem → Option (Mem)) (v0 : Nat) (v1 : Int32) (M : Mem) : Option (Mem) := if (40 : Int32) ≤ v1 then (lt_ (mm_x M) fun a1 => lt_ (ms_n M 9 64) fun M2 => gd (M2.1 v0 = 7) <| lt_ (ms_r M2 v0 8 (some a1)) fun M3 => lt_ (mm_x M3) fun a4 => lt_ (ms_n M3 9 21) fun M5 => gd (M5.1 v0 = 7) <| lt_ (ms_r M5 v0 9 (some a4)) fun M6 => lt_ (mm_x M6) fun a7 => lt_ (ms_n M6 9 21) fun M8 => gd (M8.1 v0 = 7) <| lt_ (ms_r M8 v0 10 (some a7)) fun M9 => some M9) else (gd (M.1 v0 = 7) <| rd (mm_r M v0 5) fun a10 => lt_ (mm_x M) fun a11 => lt_ (ms_n M 0 0) fun M12 => bd (f_X0_init a11 M12) fun z13 => gd ((z13.1 a10 = 11 ∧ z13.1 a11 = 0) ∧ vi_ v1 (mm_N z13 a10)) <| lt_ (ms_r z13 a10 (v1).toNatClampNeg (some a11)) fun M14 => lt_ (v1 + (1 : Int32)) fun x15 => k98 v0 x15 M14)
def f_X7_init_L98  : Nat → Nat → Int32 → Mem → Option (Mem)
  | 0 => fun _ _ _ => none
  | n + 1 => f_X7_init_b98  (f_X7_init_L98  n)
def f_X7_init_b62 (k62 : Nat → Int32 → Mem → Option (Mem)) (v0 : Nat) (v1 : Int32) (M : Mem) : Option (Mem) := if (20 : Int32) ≤ v1 then (lt_ (mm_x M) fun a16 => lt_ (ms_n M 11 40) fun M17 => gd (M17.1 v0 = 7) <| lt_ (ms_r M17 v0 5 (some a16)) fun M18 => f_X7_init_L98 41 v0 (0 : Int32) M18) else (gd (M.1 v0 = 7) <| rd (mm_r M v0 3) fun a19 => lt_ (mm_x M) fun a20 => lt_ (ms_n M 1 0) fun M21 => bd (f_X1_init a20 M21) fun z22 => gd ((z22.1 a19 = 12 ∧ z22.1 a20 = 1) ∧ vi_ v1 (mm_N z22 a19)) <| lt_ (ms_r z22 a19 (v1).toNatClampNeg (some a20)) fun M23 => lt_ (v1 + (1 : Int32)) fun x24 => k62 v0 x24 M23)
def f_X7_init_L62  : Nat → Nat → Int32 → Mem → Option (Mem)
  | 0 => fun _ _ _ => none
  | n + 1 => f_X7_init_b62  (f_X7_init_L62  n)
def f_X7_init_b26 (k26 : Nat → Int32 → Mem → Option (Mem)) (v0 : Nat) (v1 : Int32) (M : Mem) : Option (Mem) := if (6 : Int32) ≤ v1 then (lt_ (mm_x M) fun a25 => lt_ (ms_n M 12 20) fun M26 => gd (M26.1 v0 = 7) <| lt_ (ms_r M26 v0 3 (some a25)) fun M27 => f_X7_init_L62 21 v0 (0 : Int32) M27) else (gd (M.1 v0 = 7) <| rd (mm_r M v0 1) fun a28 => lt_ (mm_x M) fun a29 => lt_ (ms_n M 5 0) fun M30 => bd (f_X5_init a29 M30) fun z31 => gd ((z31.1 a28 = 14 ∧ z31.1 a29 = 5) ∧ vi_ v1 (mm_N z31 a28)) <| lt_ (ms_r z31 a28 (v1).toNatClampNeg (some a29)) fun M32 => lt_ (v1 + (1 : Int32)) fun x33 => k26 v0 x33 M32)
def f_X7_init_L26  : Nat → Nat → Int32 → Mem → Option (Mem)
  | 0 => fun _ _ _ => none
  | n + 1 => f_X7_init_b26  (f_X7_init_L26  n)
def f_X7_init (v0 : Nat) (M : Mem) : Option (Mem) := lt_ (mm_x M) fun a34 => lt_ (ms_n M 3 0) fun M35 => bd (f_X3_init a34 M35) fun z36 => gd (z36.1 v0 = 7) <| lt_ (ms_r z36 v0 0 (some a34)) fun M37 => lt_ (mm_x M37) fun a38 => lt_ (ms_n M37 14 6) fun M39 => gd (M39.1 v0 = 7) <| lt_ (ms_r M39 v0 1 (some a38)) fun M40 => f_X7_init_L26 7 v0 (0 : Int32) M40
abbrev rm_X7_init : Room := { frames := 3, cells := 181, slots := 2411, locals := 65 }
theorem hd_X7_init : yX7_init.cls ≠ "java/lang/invoke/MethodHandle" ∧ yX7_init.cls ≠ "java/lang/invoke/VarHandle" ∧ (parseMethodDescriptor yX7_init.desc).map (fun d => d.parameters.length) = some 0 := by decide +kernel
set_option maxHeartbeats 8000000 in
set_option maxRecDepth 100000 in
theorem c_X7_init {l : Launch} {D : va_G} {ca : Nat → ClassId} {b : Nat} {v0 : Nat} {M : Mem} {r : Mem} (hf : f_X7_init v0 M = some r) : CtV l yX7_init cX7_init 2 none rm_X7_init D ca b true [.ref v0] M r 181 2411 := by
  intro sz
  refine body_start (Qc := fun A => cvV D ca true A r) (by decide +kernel) (Nat.le_of_ble_eq_true rfl) ?_
  intro p e s m args below meth c A hC hr hR ls hl
  obtain ⟨hx, hb, hml, hts, hown, hlocks, hXe, hA, hAb, hnm⟩ := id hC
  have hK := hXe.1
  have hl : lv_has ls 2 [(0, .ref v0)] := hl
  have hB98 : ∀ (n : Nat) (k98 : Nat → Int32 → Mem → Option (Mem)) (hk98 : ∀ (v0 : Nat) (v1 : Int32) (M : Mem) (H : Heap) (locs : List Loc) (ls : Array Slot) (nc ns : Nat), k98 v0 v1 M = some r → Hp D ca true A s M H locs → lv_has ls 2 [(0, .ref v0), (1, .int v1)] → nc + n * 1 ≤ 178 → ns + n * 4 ≤ 2305 → W p l e rm_X7_init s m args below meth c H locs nc ns (MQ below (cvV D ca true A r) args s 181 2411 A) (F0 m 98 ls [])) (v0 : Nat) (v1 : Int32) (M : Mem) (H : Heap) (locs : List Loc) (ls : Array Slot) (nc ns : Nat), f_X7_init_b98 k98 v0 v1 M = some r → Hp D ca true A s M H locs → lv_has ls 2 [(0, .ref v0), (1, .int v1)] → nc + (n + 1) * 1 ≤ 178 → ns + (n + 1) * 4 ≤ 2305 → W p l e rm_X7_init s m args below meth c H locs nc ns (MQ below (cvV D ca true A r) args s 181 2411 A) (F0 m 98 ls []) := by
    intro n k98 hk98 v0 v1 M H locs ls nc ns hf hR hl hnc hns
    unfold f_X7_init_b98 at hf
    refine lv_iload_n (pc := 98) hx hb dX7_init_98 rfl (lv_at hl 1 rfl) ?_
    refine lv_bipush (pc := 99) (v := (40 : Int32)) hx hb dX7_init_99 (by decide) ?_
    refine lv_icmp_ge (pc := 101) (tgt := 123) hx hb dX7_init_101 (by decide) (fun hc => ?_) (fun hc => ?_)
    · replace hf := it_t hf hc
      refine W.widen (k := 178) (n := 2305) (by omega) (by omega) ?_
      refine lv_aload_n (pc := 123) hx hb dX7_init_123 rfl (lv_at hl 0 rfl) ?_
      refine lv_bipush (pc := 124) (v := (64 : Int32)) hx hb dX7_init_124 (by decide) ?_
      refine rg_newa (pc := 126) (atype := .int) (κ := 9) (N := 64) hx hb hts hK hR hA 0 rfl (by decide) m_202 (by decide) (by decide) (by decide) (Nat.le_of_ble_eq_true rfl) (Nat.le_of_ble_eq_true rfl) dX7_init_126 hf (fun a1 M2 H hf hR => ?_)
      refine rg_putr (pc := 128) (C := RX7) (T := TX7) (N := 11) (κ := 7) hx hb hts hK hR hown in_7 rfl (by decide) 8 (by decide) m_225 tyX7 tyX7_ok nmX7 ⟨rfl, hnm rfl, rfl⟩ rfl rfl rfl dX7_init_128 hf (fun M3 H locs hf hR => ?_)
      refine lv_aload_n (pc := 131) hx hb dX7_init_131 rfl (lv_at hl 0 rfl) ?_
      refine lv_bipush (pc := 132) (v := (21 : Int32)) hx hb dX7_init_132 (by decide) ?_
      refine rg_newa (pc := 134) (atype := .int) (κ := 9) (N := 21) hx hb hts hK hR hA 0 rfl (by decide) m_202 (by decide) (by decide) (by decide) (Nat.le_of_ble_eq_true rfl) (Nat.le_of_ble_eq_true rfl) dX7_init_134 hf (fun a4 M5 H hf hR => ?_)
      refine rg_putr (pc := 136) (C := RX7) (T := TX7) (N := 11) (κ := 7) hx hb hts hK hR hown in_7 rfl (by decide) 9 (by decide) m_226 tyX7 tyX7_ok nmX7 ⟨rfl, hnm rfl, rfl⟩ rfl rfl rfl dX7_init_136 hf (fun M6 H locs hf hR => ?_)
      refine lv_aload_n (pc := 139) hx hb dX7_init_139 rfl (lv_at hl 0 rfl) ?_
      refine lv_bipush (pc := 140) (v := (21 : Int32)) hx hb dX7_init_140 (by decide) ?_
      refine rg_newa (pc := 142) (atype := .int) (κ := 9) (N := 21) hx hb hts hK hR hA 0 rfl (by decide) m_202 (by decide) (by decide) (by decide) (Nat.le_of_ble_eq_true rfl) (Nat.le_of_ble_eq_true rfl) dX7_init_142 hf (fun a7 M8 H hf hR => ?_)
      refine rg_putr (pc := 144) (C := RX7) (T := TX7) (N := 11) (κ := 7) hx hb hts hK hR hown in_7 rfl (by decide) 10 (by decide) m_227 tyX7 tyX7_ok nmX7 ⟨rfl, hnm rfl, rfl⟩ rfl rfl rfl dX7_init_144 hf (fun M9 H locs hf hR => ?_)
      refine W.widen (k := 181) (n := 2411) (by show 181 ≤ 181; decide) (by show 2411 ≤ 2411; decide) ?_
      exact rg_vret (pc := 147) hx hb hlocks hr hf hR dX7_init_147
    · replace hf := it_f hf hc
      refine lv_aload_n (pc := 104) hx hb dX7_init_104 rfl (lv_at hl 0 rfl) ?_
      refine rg_getr (pc := 105) (C := RX7) (T := TX7) (N := 11) (κ := 7) hx hb hts hK hR hown in_7 rfl (by decide) 5 (by decide) m_223 rfl dX7_init_105 hf (fun a10 hf => ?_)
      refine lv_iload_n (pc := 108) hx hb dX7_init_108 rfl (lv_at hl 1 rfl) ?_
      refine rg_new (pc := 109) (C := RX0) (T := TX0) (N := 4) (κ := 0) hx hb hts hK hR hA hown in_0 rfl (by decide) tyX0 tyX0_ok df_0 m_203 m_205 m_8 (by show _ ≤ 181; omega) (by show _ ≤ 2411; omega) dX7_init_109 hf (fun a11 M12 H hf hR => ?_)
      refine lv_dup (pc := 112) hx hb dX7_init_112 rfl ?_
      refine rg_V (pc := 113) hf hR hA (fun z hz => rn_IN (host := "RingHerd") (As := []) (rest := [.ref a11, .int v1, .ref a10]) hC hR (c_X0_init  hz _) (by decide +kernel) m_207 m_8 m_208 rfl hd_X0_init ⟨rfl, rfl, Nat.le_of_ble_eq_true rfl, Nat.le_of_ble_eq_true rfl⟩ rfl hl.1 rfl (Nat.le_of_ble_eq_true rfl) dX7_init_113 ⟨by show _ ≤ 181; omega, by show _ ≤ 2411; omega⟩) (fun z13 H locs hf hR => ?_)
      refine rg_aast (pc := 116) (κ := 11) (κo := 0) hx hb hK hR 1 rfl (by decide) rfl (by decide) dX7_init_116 hf (fun M14 H locs hf hR => ?_)
      refine rg_iinc (pc := 117) hx hb dX7_init_117 hl (k := 1) rfl rfl (by decide) hf (fun x15 ls hf hl => ?_)
      have hl : lv_has ls 2 [(1, .int x15), (0, .ref v0)] := hl
      refine lv_goto (pc := 120) (tgt := 98) hx hb dX7_init_120 (by decide) ?_
      exact hk98 v0 x15 M14 _ _ _ _ _ hf hR (lv_sub hl [1, 0] rfl) (by omega) (by omega)
  have hL98 : ∀  (n : Nat) (v0 : Nat) (v1 : Int32) (M : Mem) (H : Heap) (locs : List Loc) (ls : Array Slot) (nc ns : Nat), f_X7_init_L98  n v0 v1 M = some r → Hp D ca true A s M H locs → lv_has ls 2 [(0, .ref v0), (1, .int v1)] → nc + n * 1 ≤ 178 → ns + n * 4 ≤ 2305 → W p l e rm_X7_init s m args below meth c H locs nc ns (MQ below (cvV D ca true A r) args s 181 2411 A) (F0 m 98 ls []) := by
    intro  n
    induction n with
    | zero => intro v0 v1 M H locs ls nc ns hf; exact nomatch (show (none : Option (Mem)) = some r from hf)
    | succ n ih => intro v0 v1 M H locs ls nc ns hf hR hl; exact hB98 n  (f_X7_init_L98  n) ih v0 v1 M H locs ls nc ns hf hR hl
  have hB62 : ∀ (n : Nat) (k62 : Nat → Int32 → Mem → Option (Mem)) (hk62 : ∀ (v0 : Nat) (v1 : Int32) (M : Mem) (H : Heap) (locs : List Loc) (ls : Array Slot) (nc ns : Nat), k62 v0 v1 M = some r → Hp D ca true A s M H locs → lv_has ls 2 [(0, .ref v0), (1, .int v1)] → nc + n * 2 ≤ 136 → ns + n * 66 ≤ 2101 → W p l e rm_X7_init s m args below meth c H locs nc ns (MQ below (cvV D ca true A r) args s 181 2411 A) (F0 m 62 ls [])) (v0 : Nat) (v1 : Int32) (M : Mem) (H : Heap) (locs : List Loc) (ls : Array Slot) (nc ns : Nat), f_X7_init_b62 k62 v0 v1 M = some r → Hp D ca true A s M H locs → lv_has ls 2 [(0, .ref v0), (1, .int v1)] → nc + (n + 1) * 2 ≤ 136 → ns + (n + 1) * 66 ≤ 2101 → W p l e rm_X7_init s m args below meth c H locs nc ns (MQ below (cvV D ca true A r) args s 181 2411 A) (F0 m 62 ls []) := by
    intro n k62 hk62 v0 v1 M H locs ls nc ns hf hR hl hnc hns
    unfold f_X7_init_b62 at hf
    refine lv_iload_n (pc := 62) hx hb dX7_init_62 rfl (lv_at hl 1 rfl) ?_
    refine lv_bipush (pc := 63) (v := (20 : Int32)) hx hb dX7_init_63 (by decide) ?_
    refine lv_icmp_ge (pc := 65) (tgt := 87) hx hb dX7_init_65 (by decide) (fun hc => ?_) (fun hc => ?_)
    · replace hf := it_t hf hc
      refine W.widen (k := 136) (n := 2101) (by omega) (by omega) ?_
      refine lv_aload_n (pc := 87) hx hb dX7_init_87 rfl (lv_at hl 0 rfl) ?_
      refine lv_bipush (pc := 88) (v := (40 : Int32)) hx hb dX7_init_88 (by decide) ?_
      refine rg_newq (pc := 90) (κ := 11) (N := 40) hx hb hts hK hR hA hown 1 rfl (by decide) m_203 (hXe.2.2.2.2.1 _ (by decide)) (by decide) (by decide) (by decide) (Nat.le_of_ble_eq_true rfl) (Nat.le_of_ble_eq_true rfl) dX7_init_90 hf (fun a16 M17 H hf hR => ?_)
      refine rg_putr (pc := 93) (C := RX7) (T := TX7) (N := 11) (κ := 7) hx hb hts hK hR hown in_7 rfl (by decide) 5 (by decide) m_223 tyX7 tyX7_ok nmX7 ⟨rfl, hnm rfl, rfl⟩ rfl rfl rfl dX7_init_93 hf (fun M18 H locs hf hR => ?_)
      refine lv_iconst (pc := 96) (v := (0 : Int32)) hx hb dX7_init_96 (by decide) ?_
      refine lv_istore_n (pc := 97) (lv' := [(1, .int (0 : Int32)), (0, .ref v0)]) hx hb dX7_init_97 rfl hl (by decide) rfl (fun ls hl => ?_)
      exact hL98 41 v0 (0 : Int32) M18 _ _ _ _ _ hf hR (lv_sub hl [1, 0] rfl) (by show 137 + _ ≤ _; decide) (by show 2141 + _ ≤ _; decide)
    · replace hf := it_f hf hc
      refine lv_aload_n (pc := 68) hx hb dX7_init_68 rfl (lv_at hl 0 rfl) ?_
      refine rg_getr (pc := 69) (C := RX7) (T := TX7) (N := 11) (κ := 7) hx hb hts hK hR hown in_7 rfl (by decide) 3 (by decide) m_222 rfl dX7_init_69 hf (fun a19 hf => ?_)
      refine lv_iload_n (pc := 72) hx hb dX7_init_72 rfl (lv_at hl 1 rfl) ?_
      refine rg_new (pc := 73) (C := RX1) (T := TX1) (N := 2) (κ := 1) hx hb hts hK hR hA hown in_1 rfl (by decide) tyX1 tyX1_ok df_1 m_189 m_191 m_7 (by show _ ≤ 181; omega) (by show _ ≤ 2411; omega) dX7_init_73 hf (fun a20 M21 H hf hR => ?_)
      refine lv_dup (pc := 76) hx hb dX7_init_76 rfl ?_
      refine rg_V (pc := 77) hf hR hA (fun z hz => rn_IN (host := "RingHerd") (As := []) (rest := [.ref a20, .int v1, .ref a19]) hC hR (c_X1_init  hz _) (by decide +kernel) m_193 m_7 m_194 rfl hd_X1_init ⟨rfl, rfl, Nat.le_of_ble_eq_true rfl, Nat.le_of_ble_eq_true rfl⟩ rfl hl.1 rfl (Nat.le_of_ble_eq_true rfl) dX7_init_77 ⟨by show _ ≤ 181; omega, by show _ ≤ 2411; omega⟩) (fun z22 H locs hf hR => ?_)
      refine rg_aast (pc := 80) (κ := 12) (κo := 1) hx hb hK hR 2 rfl (by decide) rfl (by decide) dX7_init_80 hf (fun M23 H locs hf hR => ?_)
      refine rg_iinc (pc := 81) hx hb dX7_init_81 hl (k := 1) rfl rfl (by decide) hf (fun x24 ls hf hl => ?_)
      have hl : lv_has ls 2 [(1, .int x24), (0, .ref v0)] := hl
      refine lv_goto (pc := 84) (tgt := 62) hx hb dX7_init_84 (by decide) ?_
      exact hk62 v0 x24 M23 _ _ _ _ _ hf hR (lv_sub hl [1, 0] rfl) (by omega) (by omega)
  have hL62 : ∀  (n : Nat) (v0 : Nat) (v1 : Int32) (M : Mem) (H : Heap) (locs : List Loc) (ls : Array Slot) (nc ns : Nat), f_X7_init_L62  n v0 v1 M = some r → Hp D ca true A s M H locs → lv_has ls 2 [(0, .ref v0), (1, .int v1)] → nc + n * 2 ≤ 136 → ns + n * 66 ≤ 2101 → W p l e rm_X7_init s m args below meth c H locs nc ns (MQ below (cvV D ca true A r) args s 181 2411 A) (F0 m 62 ls []) := by
    intro  n
    induction n with
    | zero => intro v0 v1 M H locs ls nc ns hf; exact nomatch (show (none : Option (Mem)) = some r from hf)
    | succ n ih => intro v0 v1 M H locs ls nc ns hf hR hl; exact hB62 n  (f_X7_init_L62  n) ih v0 v1 M H locs ls nc ns hf hR hl
  have hB26 : ∀ (n : Nat) (k26 : Nat → Int32 → Mem → Option (Mem)) (hk26 : ∀ (v0 : Nat) (v1 : Int32) (M : Mem) (H : Heap) (locs : List Loc) (ls : Array Slot) (nc ns : Nat), k26 v0 v1 M = some r → Hp D ca true A s M H locs → lv_has ls 2 [(0, .ref v0), (1, .int v1)] → nc + n * 1 ≤ 93 → ns + n * 3 ≤ 695 → W p l e rm_X7_init s m args below meth c H locs nc ns (MQ below (cvV D ca true A r) args s 181 2411 A) (F0 m 26 ls [])) (v0 : Nat) (v1 : Int32) (M : Mem) (H : Heap) (locs : List Loc) (ls : Array Slot) (nc ns : Nat), f_X7_init_b26 k26 v0 v1 M = some r → Hp D ca true A s M H locs → lv_has ls 2 [(0, .ref v0), (1, .int v1)] → nc + (n + 1) * 1 ≤ 93 → ns + (n + 1) * 3 ≤ 695 → W p l e rm_X7_init s m args below meth c H locs nc ns (MQ below (cvV D ca true A r) args s 181 2411 A) (F0 m 26 ls []) := by
    intro n k26 hk26 v0 v1 M H locs ls nc ns hf hR hl hnc hns
    unfold f_X7_init_b26 at hf
    refine lv_iload_n (pc := 26) hx hb dX7_init_26 rfl (lv_at hl 1 rfl) ?_
    refine lv_bipush (pc := 27) (v := (6 : Int32)) hx hb dX7_init_27 (by decide) ?_
    refine lv_icmp_ge (pc := 29) (tgt := 51) hx hb dX7_init_29 (by decide) (fun hc => ?_) (fun hc => ?_)
    · replace hf := it_t hf hc
      refine W.widen (k := 93) (n := 695) (by omega) (by omega) ?_
      refine lv_aload_n (pc := 51) hx hb dX7_init_51 rfl (lv_at hl 0 rfl) ?_
      refine lv_bipush (pc := 52) (v := (20 : Int32)) hx hb dX7_init_52 (by decide) ?_
      refine rg_newq (pc := 54) (κ := 12) (N := 20) hx hb hts hK hR hA hown 2 rfl (by decide) m_189 (hXe.2.2.2.2.1 _ (by decide)) (by decide) (by decide) (by decide) (Nat.le_of_ble_eq_true rfl) (Nat.le_of_ble_eq_true rfl) dX7_init_54 hf (fun a25 M26 H hf hR => ?_)
      refine rg_putr (pc := 57) (C := RX7) (T := TX7) (N := 11) (κ := 7) hx hb hts hK hR hown in_7 rfl (by decide) 3 (by decide) m_222 tyX7 tyX7_ok nmX7 ⟨rfl, hnm rfl, rfl⟩ rfl rfl rfl dX7_init_57 hf (fun M27 H locs hf hR => ?_)
      refine lv_iconst (pc := 60) (v := (0 : Int32)) hx hb dX7_init_60 (by decide) ?_
      refine lv_istore_n (pc := 61) (lv' := [(1, .int (0 : Int32)), (0, .ref v0)]) hx hb dX7_init_61 rfl hl (by decide) rfl (fun ls hl => ?_)
      exact hL62 21 v0 (0 : Int32) M27 _ _ _ _ _ hf hR (lv_sub hl [1, 0] rfl) (by show 94 + _ ≤ _; decide) (by show 715 + _ ≤ _; decide)
    · replace hf := it_f hf hc
      refine lv_aload_n (pc := 32) hx hb dX7_init_32 rfl (lv_at hl 0 rfl) ?_
      refine rg_getr (pc := 33) (C := RX7) (T := TX7) (N := 11) (κ := 7) hx hb hts hK hR hown in_7 rfl (by decide) 1 (by decide) m_220 rfl dX7_init_33 hf (fun a28 hf => ?_)
      refine lv_iload_n (pc := 36) hx hb dX7_init_36 rfl (lv_at hl 1 rfl) ?_
      refine rg_new (pc := 37) (C := RX5) (T := TX5) (N := 3) (κ := 5) hx hb hts hK hR hA hown in_5 rfl (by decide) tyX5 tyX5_ok df_5 m_169 m_171 m_6 (by show _ ≤ 181; omega) (by show _ ≤ 2411; omega) dX7_init_37 hf (fun a29 M30 H hf hR => ?_)
      refine lv_dup (pc := 40) hx hb dX7_init_40 rfl ?_
      refine rg_V (pc := 41) hf hR hA (fun z hz => rn_IN (host := "RingHerd") (As := []) (rest := [.ref a29, .int v1, .ref a28]) hC hR (c_X5_init  hz _) (by decide +kernel) m_173 m_6 m_174 rfl hd_X5_init ⟨rfl, rfl, Nat.le_of_ble_eq_true rfl, Nat.le_of_ble_eq_true rfl⟩ rfl hl.1 rfl (Nat.le_of_ble_eq_true rfl) dX7_init_41 ⟨by show _ ≤ 181; omega, by show _ ≤ 2411; omega⟩) (fun z31 H locs hf hR => ?_)
      refine rg_aast (pc := 44) (κ := 14) (κo := 5) hx hb hK hR 4 rfl (by decide) rfl (by decide) dX7_init_44 hf (fun M32 H locs hf hR => ?_)
      refine rg_iinc (pc := 45) hx hb dX7_init_45 hl (k := 1) rfl rfl (by decide) hf (fun x33 ls hf hl => ?_)
      have hl : lv_has ls 2 [(1, .int x33), (0, .ref v0)] := hl
      refine lv_goto (pc := 48) (tgt := 26) hx hb dX7_init_48 (by decide) ?_
      exact hk26 v0 x33 M32 _ _ _ _ _ hf hR (lv_sub hl [1, 0] rfl) (by omega) (by omega)
  have hL26 : ∀  (n : Nat) (v0 : Nat) (v1 : Int32) (M : Mem) (H : Heap) (locs : List Loc) (ls : Array Slot) (nc ns : Nat), f_X7_init_L26  n v0 v1 M = some r → Hp D ca true A s M H locs → lv_has ls 2 [(0, .ref v0), (1, .int v1)] → nc + n * 1 ≤ 93 → ns + n * 3 ≤ 695 → W p l e rm_X7_init s m args below meth c H locs nc ns (MQ below (cvV D ca true A r) args s 181 2411 A) (F0 m 26 ls []) := by
    intro  n
    induction n with
    | zero => intro v0 v1 M H locs ls nc ns hf; exact nomatch (show (none : Option (Mem)) = some r from hf)
    | succ n ih => intro v0 v1 M H locs ls nc ns hf hR hl; exact hB26 n  (f_X7_init_L26  n) ih v0 v1 M H locs ls nc ns hf hR hl
  unfold f_X7_init at hf
  refine lv_aload_n (pc := 0) hx hb dX7_init_0 rfl (lv_at hl 0 rfl) ?_
  refine W.objInit (g := F0 m 1 ls _) hx hb hown (hts _ m_21) (hts _ m_22) (hts _ m_23) rfl (by rw [hml]; exact hl.1) rfl dX7_init_1 (Nat.le_of_ble_eq_true rfl) (Nat.le_of_ble_eq_true rfl) ?_
  refine W.eq (g2 := F0 m 4 ls []) rfl ?_
  refine lv_aload_n (pc := 4) hx hb dX7_init_4 rfl (lv_at hl 0 rfl) ?_
  refine rg_new (pc := 5) (C := RX3) (T := TX3) (N := 7) (κ := 3) hx hb hts hK hR hA hown in_3 rfl (by decide) tyX3 tyX3_ok df_3 m_24 m_25 m_2 (Nat.le_of_ble_eq_true rfl) (Nat.le_of_ble_eq_true rfl) dX7_init_5 hf (fun a34 M35 H hf hR => ?_)
  refine lv_dup (pc := 8) hx hb dX7_init_8 rfl ?_
  refine rg_V (pc := 9) hf hR hA (fun z hz => rn_Ic (As := []) (rest := [.ref a34, .ref v0]) hC hR (c_X3_init  hz _) m_26 m_27 m_2 m_28 rfl hd_X3_init ⟨rfl, rfl, Nat.le_of_ble_eq_true rfl, Nat.le_of_ble_eq_true rfl⟩ rfl hl.1 rfl (Nat.le_of_ble_eq_true rfl) dX7_init_9 ⟨Nat.le_of_ble_eq_true rfl, Nat.le_of_ble_eq_true rfl⟩) (fun z36 H locs hf hR => ?_)
  refine rg_putr (pc := 12) (C := RX7) (T := TX7) (N := 11) (κ := 7) hx hb hts hK hR hown in_7 rfl (by decide) 0 (by decide) m_219 tyX7 tyX7_ok nmX7 ⟨rfl, hnm rfl, rfl⟩ rfl rfl rfl dX7_init_12 hf (fun M37 H locs hf hR => ?_)
  refine lv_aload_n (pc := 15) hx hb dX7_init_15 rfl (lv_at hl 0 rfl) ?_
  refine lv_bipush (pc := 16) (v := (6 : Int32)) hx hb dX7_init_16 (by decide) ?_
  refine rg_newq (pc := 18) (κ := 14) (N := 6) hx hb hts hK hR hA hown 4 rfl (by decide) m_169 (hXe.2.2.2.2.1 _ (by decide)) (by decide) (by decide) (by decide) (Nat.le_of_ble_eq_true rfl) (Nat.le_of_ble_eq_true rfl) dX7_init_18 hf (fun a38 M39 H hf hR => ?_)
  refine rg_putr (pc := 21) (C := RX7) (T := TX7) (N := 11) (κ := 7) hx hb hts hK hR hown in_7 rfl (by decide) 1 (by decide) m_220 tyX7 tyX7_ok nmX7 ⟨rfl, hnm rfl, rfl⟩ rfl rfl rfl dX7_init_21 hf (fun M40 H locs hf hR => ?_)
  refine lv_iconst (pc := 24) (v := (0 : Int32)) hx hb dX7_init_24 (by decide) ?_
  refine lv_istore_n (pc := 25) (lv' := [(1, .int (0 : Int32)), (0, .ref v0)]) hx hb dX7_init_25 rfl hl (by decide) rfl (fun ls hl => ?_)
  exact hL26 7 v0 (0 : Int32) M40 _ _ _ _ _ hf hR (lv_sub hl [1, 0] rfl) (by show 86 + _ ≤ _; decide) (by show 674 + _ ≤ _; decide)
