-- X8_angle
def f_X8_angle_b40  (s0 : Int32) (M : Mem) : Option (Mem × Int32) := some (M, s0)
def f_X8_angle_b20  (s0 : Int32) (s1 : Nat) (v0 : Nat) (v1 : Int32) (M : Mem) : Option (Mem × Int32) := gd (M.1 s1 = 8) <| lt_ (ms_i M s1 0 s0) fun M1 => gd (M1.1 v0 = 8) <| if (mm_i M1 v0 0) ≤ 0 then (gd (M1.1 v0 = 8) <| rd (mm_r M1 v0 16) fun a2 => gd (M1.1 a2 = 9 ∧ vi_ v1 (mm_N M1 a2)) <| f_X8_angle_b40 (mm_i M1 a2 (v1).toNatClampNeg) M1) else (f_X8_angle_b40 (0 : Int32) M1)
def f_X8_angle (v0 : Nat) (v1 : Int32) (M : Mem) : Option (Mem × Int32) := gd (M.1 v0 = 8) <| bd (f_X8_isIn v1 (0 : Int32) ((mm_i M v0 14) - (1 : Int32)) M) fun z3 => if z3.2 = 0 then (f_X8_angle_b20 (1 : Int32) v0 v0 v1 z3.1) else (f_X8_angle_b20 (0 : Int32) v0 v0 v1 z3.1)
abbrev rm_X8_angle : Room := { frames := 1, cells := 0, slots := 0, locals := 22 }
theorem hd_X8_angle : yX8_angle.cls ≠ "java/lang/invoke/MethodHandle" ∧ yX8_angle.cls ≠ "java/lang/invoke/VarHandle" ∧ (parseMethodDescriptor yX8_angle.desc).map (fun d => d.parameters.length) = some 1 := by decide +kernel
set_option maxHeartbeats 8000000 in
set_option maxRecDepth 100000 in
theorem c_X8_angle {l : Launch} {D : va_G} {ca : Nat → ClassId} {b : Nat} {nx : Bool} {v0 : Nat} {v1 : Int32} {M : Mem} {r : Mem × Int32} (hf : f_X8_angle v0 v1 M = some r) : CtI l yX8_angle cX8_angle 2 (some .int) rm_X8_angle D ca b nx [.ref v0, .int v1] M r := by
  intro sz
  refine body_start (Qc := fun A => cvI D ca nx A r) (by decide +kernel) (Nat.le_of_ble_eq_true rfl) ?_
  intro p e s m args below meth c A hC hr hR ls hl
  obtain ⟨hx, hb, hml, hts, hown, hlocks, hXe, hA, hAb, hnm⟩ := id hC
  have hK := hXe.1
  have hl : lv_has ls 2 [(0, .ref v0), (1, .int v1)] := hl
  have hB40 : ∀  (s0 : Int32) (M : Mem) (H : Heap) (locs : List Loc) (ls : Array Slot), f_X8_angle_b40  s0 M = some r → Hp D ca nx A s M H locs → lv_has ls 2 [] → W p l e rm_X8_angle s m args below meth c H locs 0 0 (MQ below (cvI D ca nx A r) args s 0 0 A) (F0 m 40 ls [.int s0]) := by
    intro  s0 M H locs ls hf hR hl
    unfold f_X8_angle_b40 at hf
    exact rg_iret (pc := 40) hx hb hlocks hr hf hR dX8_angle_40
  have hB20 : ∀  (s0 : Int32) (s1 : Nat) (v0 : Nat) (v1 : Int32) (M : Mem) (H : Heap) (locs : List Loc) (ls : Array Slot), f_X8_angle_b20  s0 s1 v0 v1 M = some r → Hp D ca nx A s M H locs → lv_has ls 2 [(0, .ref v0), (1, .int v1)] → W p l e rm_X8_angle s m args below meth c H locs 0 0 (MQ below (cvI D ca nx A r) args s 0 0 A) (F0 m 20 ls [.int s0, .ref s1]) := by
    intro  s0 s1 v0 v1 M H locs ls hf hR hl
    unfold f_X8_angle_b20 at hf
    refine rg_puti (pc := 20) (C := RX8) (T := TX8) (N := 37) (κ := 8) hx hb hts hK hR hown in_8 rfl (by decide) 0 (by decide) m_668 tyX8 tyX8_ok nmX8 rfl rfl rfl rfl dX8_angle_20 hf (fun M1 H locs hf hR => ?_)
    refine lv_aload_n (pc := 23) hx hb dX8_angle_23 rfl (lv_at hl 0 rfl) ?_
    refine rg_get (pc := 24) (C := RX8) (T := TX8) (N := 37) (κ := 8) (v := .int (mm_i M1 v0 0)) hx hb hts hK hR hown in_8 rfl (by decide) 0 (by decide) m_668 rfl dX8_angle_24 hf (fun hf => ?_)
    refine lv_if_le (pc := 27) (tgt := 34) hx hb dX8_angle_27 (by decide) (fun hc => ?_) (fun hc => ?_)
    · replace hf := it_t hf hc
      refine lv_aload_n (pc := 34) hx hb dX8_angle_34 rfl (lv_at hl 0 rfl) ?_
      refine rg_getr (pc := 35) (C := RX8) (T := TX8) (N := 37) (κ := 8) hx hb hts hK hR hown in_8 rfl (by decide) 16 (by decide) m_684 rfl dX8_angle_35 hf (fun a2 hf => ?_)
      refine lv_iload_n (pc := 38) hx hb dX8_angle_38 rfl (lv_at hl 1 rfl) ?_
      refine rg_iald (pc := 39) hx hb hK hR dX8_angle_39 hf (fun hf => ?_)
      exact hB40 (mm_i M1 a2 (v1).toNatClampNeg) M1 _ _ _ hf hR (lv_sub hl [] rfl)
    · replace hf := it_f hf hc
      refine lv_iconst (pc := 30) (v := (0 : Int32)) hx hb dX8_angle_30 (by decide) ?_
      refine lv_goto (pc := 31) (tgt := 40) hx hb dX8_angle_31 (by decide) ?_
      exact hB40 (0 : Int32) M1 _ _ _ hf hR (lv_sub hl [] rfl)
  unfold f_X8_angle at hf
  refine lv_aload_n (pc := 0) hx hb dX8_angle_0 rfl (lv_at hl 0 rfl) ?_
  refine lv_iload_n (pc := 1) hx hb dX8_angle_1 rfl (lv_at hl 1 rfl) ?_
  refine lv_iconst (pc := 2) (v := (0 : Int32)) hx hb dX8_angle_2 (by decide) ?_
  refine lv_aload_n (pc := 3) hx hb dX8_angle_3 rfl (lv_at hl 0 rfl) ?_
  refine rg_get (pc := 4) (C := RX8) (T := TX8) (N := 37) (κ := 8) (v := .int (mm_i M v0 14)) hx hb hts hK hR hown in_8 rfl (by decide) 14 (by decide) m_682 rfl dX8_angle_4 hf (fun hf => ?_)
  refine lv_iconst (pc := 7) (v := (1 : Int32)) hx hb dX8_angle_7 (by decide) ?_
  refine lv_isub (pc := 8) hx hb dX8_angle_8 ?_
  refine rg_I (pc := 9) hf hR hA (fun z hz => rn_S (As := [.int v1, .int (0 : Int32), .int ((mm_i M v0 14) - (1 : Int32))]) (rest := [.ref v0]) hC hR (c_X8_isIn  hz _) m_792 m_793 m_9 m_794 hd_X8_isIn ⟨rfl, rfl, Nat.le_of_ble_eq_true rfl, Nat.le_of_ble_eq_true rfl⟩ rfl hl.1 rfl (Nat.le_of_ble_eq_true rfl) dX8_angle_9 ⟨Nat.le_of_ble_eq_true rfl, Nat.le_of_ble_eq_true rfl⟩) (fun z3 H locs hf hR => ?_)
  refine lv_if_eq (pc := 12) (tgt := 19) hx hb dX8_angle_12 (by decide) (fun hc => ?_) (fun hc => ?_)
  · replace hf := it_t hf hc
    refine lv_iconst (pc := 19) (v := (1 : Int32)) hx hb dX8_angle_19 (by decide) ?_
    exact hB20 (1 : Int32) v0 v0 v1 z3.1 _ _ _ hf hR (lv_sub hl [0, 1] rfl)
  · replace hf := it_f hf hc
    refine lv_iconst (pc := 15) (v := (0 : Int32)) hx hb dX8_angle_15 (by decide) ?_
    refine lv_goto (pc := 16) (tgt := 20) hx hb dX8_angle_16 (by decide) ?_
    exact hB20 (0 : Int32) v0 v0 v1 z3.1 _ _ _ hf hR (lv_sub hl [0, 1] rfl)
-- X8_speed
def f_X8_speed_b32  (s0 : Int32) (M : Mem) : Option (Mem × Int32) := some (M, s0)
def f_X8_speed_b13  (s0 : Int32) (s1 : Nat) (v0 : Nat) (v1 : Int32) (M : Mem) : Option (Mem × Int32) := gd (M.1 s1 = 8) <| lt_ (ms_i M s1 0 s0) fun M1 => gd (M1.1 v0 = 8) <| if (mm_i M1 v0 0) ≤ 0 then (gd (M1.1 v0 = 8) <| bd (f_X8_speedOf v0 v1 M1) fun z2 => f_X8_speed_b32 z2.2 z2.1) else (f_X8_speed_b32 (0 : Int32) M1)
def f_X8_speed (v0 : Nat) (v1 : Int32) (M : Mem) : Option (Mem × Int32) := bd (f_X8_isLane v1 M) fun z3 => if z3.2 = 0 then (f_X8_speed_b13 (1 : Int32) v0 v0 v1 z3.1) else (f_X8_speed_b13 (0 : Int32) v0 v0 v1 z3.1)
abbrev rm_X8_speed : Room := { frames := 2, cells := 0, slots := 0, locals := 42 }
theorem hd_X8_speed : yX8_speed.cls ≠ "java/lang/invoke/MethodHandle" ∧ yX8_speed.cls ≠ "java/lang/invoke/VarHandle" ∧ (parseMethodDescriptor yX8_speed.desc).map (fun d => d.parameters.length) = some 1 := by decide +kernel
set_option maxHeartbeats 8000000 in
set_option maxRecDepth 100000 in
theorem c_X8_speed {l : Launch} {D : va_G} {ca : Nat → ClassId} {b : Nat} {nx : Bool} {v0 : Nat} {v1 : Int32} {M : Mem} {r : Mem × Int32} (hf : f_X8_speed v0 v1 M = some r) : CtI l yX8_speed cX8_speed 2 (some .int) rm_X8_speed D ca b nx [.ref v0, .int v1] M r := by
  intro sz
  refine body_start (Qc := fun A => cvI D ca nx A r) (by decide +kernel) (Nat.le_of_ble_eq_true rfl) ?_
  intro p e s m args below meth c A hC hr hR ls hl
  obtain ⟨hx, hb, hml, hts, hown, hlocks, hXe, hA, hAb, hnm⟩ := id hC
  have hK := hXe.1
  have hl : lv_has ls 2 [(0, .ref v0), (1, .int v1)] := hl
  have hB32 : ∀  (s0 : Int32) (M : Mem) (H : Heap) (locs : List Loc) (ls : Array Slot), f_X8_speed_b32  s0 M = some r → Hp D ca nx A s M H locs → lv_has ls 2 [] → W p l e rm_X8_speed s m args below meth c H locs 0 0 (MQ below (cvI D ca nx A r) args s 0 0 A) (F0 m 32 ls [.int s0]) := by
    intro  s0 M H locs ls hf hR hl
    unfold f_X8_speed_b32 at hf
    exact rg_iret (pc := 32) hx hb hlocks hr hf hR dX8_speed_32
  have hB13 : ∀  (s0 : Int32) (s1 : Nat) (v0 : Nat) (v1 : Int32) (M : Mem) (H : Heap) (locs : List Loc) (ls : Array Slot), f_X8_speed_b13  s0 s1 v0 v1 M = some r → Hp D ca nx A s M H locs → lv_has ls 2 [(0, .ref v0), (1, .int v1)] → W p l e rm_X8_speed s m args below meth c H locs 0 0 (MQ below (cvI D ca nx A r) args s 0 0 A) (F0 m 13 ls [.int s0, .ref s1]) := by
    intro  s0 s1 v0 v1 M H locs ls hf hR hl
    unfold f_X8_speed_b13 at hf
    refine rg_puti (pc := 13) (C := RX8) (T := TX8) (N := 37) (κ := 8) hx hb hts hK hR hown in_8 rfl (by decide) 0 (by decide) m_668 tyX8 tyX8_ok nmX8 rfl rfl rfl rfl dX8_speed_13 hf (fun M1 H locs hf hR => ?_)
    refine lv_aload_n (pc := 16) hx hb dX8_speed_16 rfl (lv_at hl 0 rfl) ?_
    refine rg_get (pc := 17) (C := RX8) (T := TX8) (N := 37) (κ := 8) (v := .int (mm_i M1 v0 0)) hx hb hts hK hR hown in_8 rfl (by decide) 0 (by decide) m_668 rfl dX8_speed_17 hf (fun hf => ?_)
    refine lv_if_le (pc := 20) (tgt := 27) hx hb dX8_speed_20 (by decide) (fun hc => ?_) (fun hc => ?_)
    · replace hf := it_t hf hc
      refine lv_aload_n (pc := 27) hx hb dX8_speed_27 rfl (lv_at hl 0 rfl) ?_
      refine lv_iload_n (pc := 28) hx hb dX8_speed_28 rfl (lv_at hl 1 rfl) ?_
      obtain ⟨hq, hf⟩ := gd_e hf
      refine rg_I (pc := 29) hf hR hA (fun z hz => rn_V (κ := 8) (As := [.int v1]) (rest := []) hC hR rfl (by decide) hq (c_X8_speedOf  hz _) m_820 m_822 ms_13 m_9 m_823 hd_X8_speedOf ⟨rfl, rfl, Nat.le_of_ble_eq_true rfl, Nat.le_of_ble_eq_true rfl⟩ rfl hl.1 rfl (Nat.le_of_ble_eq_true rfl) dX8_speed_29 ⟨Nat.le_of_ble_eq_true rfl, Nat.le_of_ble_eq_true rfl⟩) (fun z2 H locs hf hR => ?_)
      exact hB32 z2.2 z2.1 _ _ _ hf hR (lv_sub hl [] rfl)
    · replace hf := it_f hf hc
      refine lv_iconst (pc := 23) (v := (0 : Int32)) hx hb dX8_speed_23 (by decide) ?_
      refine lv_goto (pc := 24) (tgt := 32) hx hb dX8_speed_24 (by decide) ?_
      exact hB32 (0 : Int32) M1 _ _ _ hf hR (lv_sub hl [] rfl)
  unfold f_X8_speed at hf
  refine lv_aload_n (pc := 0) hx hb dX8_speed_0 rfl (lv_at hl 0 rfl) ?_
  refine lv_iload_n (pc := 1) hx hb dX8_speed_1 rfl (lv_at hl 1 rfl) ?_
  refine rg_I (pc := 2) hf hR hA (fun z hz => rn_S (As := [.int v1]) (rest := [.ref v0]) hC hR (c_X8_isLane  hz _) m_789 m_790 m_9 m_791 hd_X8_isLane ⟨rfl, rfl, Nat.le_of_ble_eq_true rfl, Nat.le_of_ble_eq_true rfl⟩ rfl hl.1 rfl (Nat.le_of_ble_eq_true rfl) dX8_speed_2 ⟨Nat.le_of_ble_eq_true rfl, Nat.le_of_ble_eq_true rfl⟩) (fun z3 H locs hf hR => ?_)
  refine lv_if_eq (pc := 5) (tgt := 12) hx hb dX8_speed_5 (by decide) (fun hc => ?_) (fun hc => ?_)
  · replace hf := it_t hf hc
    refine lv_iconst (pc := 12) (v := (1 : Int32)) hx hb dX8_speed_12 (by decide) ?_
    exact hB13 (1 : Int32) v0 v0 v1 z3.1 _ _ _ hf hR (lv_sub hl [0, 1] rfl)
  · replace hf := it_f hf hc
    refine lv_iconst (pc := 8) (v := (0 : Int32)) hx hb dX8_speed_8 (by decide) ?_
    refine lv_goto (pc := 9) (tgt := 13) hx hb dX8_speed_9 (by decide) ?_
    exact hB13 (0 : Int32) v0 v0 v1 z3.1 _ _ _ hf hR (lv_sub hl [0, 1] rfl)
-- X8_there
def f_X8_there_b27 (k4 : Nat → Int32 → Int32 → Mem → Option (Mem × Int32)) (s0 : Int32) (s1 : Int32) (v0 : Nat) (v2 : Int32) (M : Mem) : Option (Mem × Int32) := lt_ ((s1 + s0)) fun x1 => lt_ (v2 + (1 : Int32)) fun x2 => k4 v0 x1 x2 M
def f_X8_there_b4 (k4 : Nat → Int32 → Int32 → Mem → Option (Mem × Int32)) (v0 : Nat) (v1 : Int32) (v2 : Int32) (M : Mem) : Option (Mem × Int32) := gd (M.1 v0 = 8) <| if (mm_i M v0 6) ≤ v2 then (some (M, v1)) else (gd (M.1 v0 = 8) <| rd (mm_r M v0 12) fun a3 => gd (M.1 a3 = 10 ∧ vi_ v2 (mm_N M a3)) <| if (mm_i M a3 (v2).toNatClampNeg) = 0 then (f_X8_there_b27 k4 (0 : Int32) v1 v0 v2 M) else (f_X8_there_b27 k4 (1 : Int32) v1 v0 v2 M))
def f_X8_there_L4  : Nat → Nat → Int32 → Int32 → Mem → Option (Mem × Int32)
  | 0 => fun _ _ _ _ => none
  | n + 1 => f_X8_there_b4  (f_X8_there_L4  n)
def f_X8_there (v0 : Nat) (M : Mem) : Option (Mem × Int32) := f_X8_there_L4 200 v0 (0 : Int32) (0 : Int32) M
abbrev rm_X8_there : Room := { frames := 0, cells := 0, slots := 0, locals := 0 }
theorem hd_X8_there : yX8_there.cls ≠ "java/lang/invoke/MethodHandle" ∧ yX8_there.cls ≠ "java/lang/invoke/VarHandle" ∧ (parseMethodDescriptor yX8_there.desc).map (fun d => d.parameters.length) = some 0 := by decide +kernel
set_option maxHeartbeats 8000000 in
set_option maxRecDepth 100000 in
theorem c_X8_there {l : Launch} {D : va_G} {ca : Nat → ClassId} {b : Nat} {nx : Bool} {v0 : Nat} {M : Mem} {r : Mem × Int32} (hf : f_X8_there v0 M = some r) : CtI l yX8_there cX8_there 3 (some .int) rm_X8_there D ca b nx [.ref v0] M r := by
  intro sz
  refine body_start (Qc := fun A => cvI D ca nx A r) (by decide +kernel) (Nat.le_of_ble_eq_true rfl) ?_
  intro p e s m args below meth c A hC hr hR ls hl
  obtain ⟨hx, hb, hml, hts, hown, hlocks, hXe, hA, hAb, hnm⟩ := id hC
  have hK := hXe.1
  have hl : lv_has ls 3 [(0, .ref v0)] := hl
  have hB27 : ∀ (k4 : Nat → Int32 → Int32 → Mem → Option (Mem × Int32)) (hk4 : ∀ (v0 : Nat) (v1 : Int32) (v2 : Int32) (M : Mem) (H : Heap) (locs : List Loc) (ls : Array Slot), k4 v0 v1 v2 M = some r → Hp D ca nx A s M H locs → lv_has ls 3 [(0, .ref v0), (1, .int v1), (2, .int v2)] → W p l e rm_X8_there s m args below meth c H locs 0 0 (MQ below (cvI D ca nx A r) args s 0 0 A) (F0 m 4 ls [])) (s0 : Int32) (s1 : Int32) (v0 : Nat) (v2 : Int32) (M : Mem) (H : Heap) (locs : List Loc) (ls : Array Slot), f_X8_there_b27 k4 s0 s1 v0 v2 M = some r → Hp D ca nx A s M H locs → lv_has ls 3 [(0, .ref v0), (2, .int v2)] → W p l e rm_X8_there s m args below meth c H locs 0 0 (MQ below (cvI D ca nx A r) args s 0 0 A) (F0 m 27 ls [.int s0, .int s1]) := by
    intro k4 hk4 s0 s1 v0 v2 M H locs ls hf hR hl
    unfold f_X8_there_b27 at hf
    refine lv_iadd (pc := 27) hx hb dX8_there_27 ?_
    refine nm_i hf (fun x1 hf => ?_)
    refine lv_istore_n (pc := 28) (lv' := [(1, .int x1), (0, .ref v0), (2, .int v2)]) hx hb dX8_there_28 rfl hl (by decide) rfl (fun ls hl => ?_)
    refine rg_iinc (pc := 29) hx hb dX8_there_29 hl (k := 2) rfl rfl (by decide) hf (fun x2 ls hf hl => ?_)
    have hl : lv_has ls 3 [(2, .int x2), (1, .int x1), (0, .ref v0)] := hl
    refine lv_goto (pc := 32) (tgt := 4) hx hb dX8_there_32 (by decide) ?_
    exact hk4 v0 x1 x2 M _ _ _ hf hR (lv_sub hl [2, 1, 0] rfl)
  have hB4 : ∀ (k4 : Nat → Int32 → Int32 → Mem → Option (Mem × Int32)) (hk4 : ∀ (v0 : Nat) (v1 : Int32) (v2 : Int32) (M : Mem) (H : Heap) (locs : List Loc) (ls : Array Slot), k4 v0 v1 v2 M = some r → Hp D ca nx A s M H locs → lv_has ls 3 [(0, .ref v0), (1, .int v1), (2, .int v2)] → W p l e rm_X8_there s m args below meth c H locs 0 0 (MQ below (cvI D ca nx A r) args s 0 0 A) (F0 m 4 ls [])) (v0 : Nat) (v1 : Int32) (v2 : Int32) (M : Mem) (H : Heap) (locs : List Loc) (ls : Array Slot), f_X8_there_b4 k4 v0 v1 v2 M = some r → Hp D ca nx A s M H locs → lv_has ls 3 [(0, .ref v0), (1, .int v1), (2, .int v2)] → W p l e rm_X8_there s m args below meth c H locs 0 0 (MQ below (cvI D ca nx A r) args s 0 0 A) (F0 m 4 ls []) := by
    intro k4 hk4 v0 v1 v2 M H locs ls hf hR hl
    unfold f_X8_there_b4 at hf
    refine lv_iload_n (pc := 4) hx hb dX8_there_4 rfl (lv_at hl 2 rfl) ?_
    refine lv_aload_n (pc := 5) hx hb dX8_there_5 rfl (lv_at hl 0 rfl) ?_
    refine rg_get (pc := 6) (C := RX8) (T := TX8) (N := 37) (κ := 8) (v := .int (mm_i M v0 6)) hx hb hts hK hR hown in_8 rfl (by decide) 6 (by decide) m_674 rfl dX8_there_6 hf (fun hf => ?_)
    refine lv_icmp_ge (pc := 9) (tgt := 35) hx hb dX8_there_9 (by decide) (fun hc => ?_) (fun hc => ?_)
    · replace hf := it_t hf hc
      refine lv_iload_n (pc := 35) hx hb dX8_there_35 rfl (lv_at hl 1 rfl) ?_
      exact rg_iret (pc := 36) hx hb hlocks hr hf hR dX8_there_36
    · replace hf := it_f hf hc
      refine lv_iload_n (pc := 12) hx hb dX8_there_12 rfl (lv_at hl 1 rfl) ?_
      refine lv_aload_n (pc := 13) hx hb dX8_there_13 rfl (lv_at hl 0 rfl) ?_
      refine rg_getr (pc := 14) (C := RX8) (T := TX8) (N := 37) (κ := 8) hx hb hts hK hR hown in_8 rfl (by decide) 12 (by decide) m_680 rfl dX8_there_14 hf (fun a3 hf => ?_)
      refine lv_iload_n (pc := 17) hx hb dX8_there_17 rfl (lv_at hl 2 rfl) ?_
      refine rg_zald (pc := 18) hx hb hK hR dX8_there_18 hf (fun hf => ?_)
      refine lv_if_eq (pc := 19) (tgt := 26) hx hb dX8_there_19 (by decide) (fun hc => ?_) (fun hc => ?_)
      · replace hf := it_t hf hc
        refine lv_iconst (pc := 26) (v := (0 : Int32)) hx hb dX8_there_26 (by decide) ?_
        exact hB27 k4 hk4 (0 : Int32) v1 v0 v2 M _ _ _ hf hR (lv_sub hl [0, 2] rfl)
      · replace hf := it_f hf hc
        refine lv_iconst (pc := 22) (v := (1 : Int32)) hx hb dX8_there_22 (by decide) ?_
        refine lv_goto (pc := 23) (tgt := 27) hx hb dX8_there_23 (by decide) ?_
        exact hB27 k4 hk4 (1 : Int32) v1 v0 v2 M _ _ _ hf hR (lv_sub hl [0, 2] rfl)
  have hL4 : ∀  (n : Nat) (v0 : Nat) (v1 : Int32) (v2 : Int32) (M : Mem) (H : Heap) (locs : List Loc) (ls : Array Slot), f_X8_there_L4  n v0 v1 v2 M = some r → Hp D ca nx A s M H locs → lv_has ls 3 [(0, .ref v0), (1, .int v1), (2, .int v2)] → W p l e rm_X8_there s m args below meth c H locs 0 0 (MQ below (cvI D ca nx A r) args s 0 0 A) (F0 m 4 ls []) := by
    intro  n
    induction n with
    | zero => intro v0 v1 v2 M H locs ls hf; exact nomatch (show (none : Option (Mem × Int32)) = some r from hf)
    | succ n ih => intro v0 v1 v2 M H locs ls hf hR hl; exact hB4  (f_X8_there_L4  n) ih v0 v1 v2 M H locs ls hf hR hl
  unfold f_X8_there at hf
  refine lv_iconst (pc := 0) (v := (0 : Int32)) hx hb dX8_there_0 (by decide) ?_
  refine lv_istore_n (pc := 1) (lv' := [(1, .int (0 : Int32)), (0, .ref v0)]) hx hb dX8_there_1 rfl hl (by decide) rfl (fun ls hl => ?_)
  refine lv_iconst (pc := 2) (v := (0 : Int32)) hx hb dX8_there_2 (by decide) ?_
  refine lv_istore_n (pc := 3) (lv' := [(2, .int (0 : Int32)), (1, .int (0 : Int32)), (0, .ref v0)]) hx hb dX8_there_3 rfl hl (by decide) rfl (fun ls hl => ?_)
  exact hL4 200 v0 (0 : Int32) (0 : Int32) M _ _ _ hf hR (lv_sub hl [2, 1, 0] rfl)
-- X8_count
def f_X8_count_b16  (s0 : Int32) (s1 : Nat) (v0 : Nat) (v1 : Int32) (M : Mem) : Option (Mem × Int32) := gd (M.1 s1 = 8) <| lt_ (ms_i M s1 0 s0) fun M1 => gd (M1.1 v0 = 8) <| if (mm_i M1 v0 0) ≤ 0 then (if v1 = (0 : Int32) then (gd (M1.1 v0 = 8) <| some (M1, (mm_i M1 v0 6))) else if v1 = (1 : Int32) then (gd (M1.1 v0 = 8) <| bd (f_X8_there v0 M1) fun z2 => some (z2.1, z2.2)) else if v1 = (2 : Int32) then (gd (M1.1 v0 = 8) <| some (M1, (mm_i M1 v0 18))) else if v1 = (3 : Int32) then (gd (M1.1 v0 = 8) <| some (M1, (mm_i M1 v0 19))) else if v1 = (4 : Int32) then (gd (M1.1 v0 = 8) <| some (M1, (mm_i M1 v0 20))) else if v1 = (5 : Int32) then (gd (M1.1 v0 = 8) <| some (M1, (mm_i M1 v0 21))) else (gd (M1.1 v0 = 8) <| some (M1, (mm_i M1 v0 22)))) else (some (M1, (0 : Int32)))
def f_X8_count (v0 : Nat) (v1 : Int32) (M : Mem) : Option (Mem × Int32) := bd (f_X8_isIn v1 (0 : Int32) (6 : Int32) M) fun z3 => if z3.2 = 0 then (f_X8_count_b16 (1 : Int32) v0 v0 v1 z3.1) else (f_X8_count_b16 (0 : Int32) v0 v0 v1 z3.1)
abbrev rm_X8_count : Room := { frames := 1, cells := 0, slots := 0, locals := 22 }
theorem hd_X8_count : yX8_count.cls ≠ "java/lang/invoke/MethodHandle" ∧ yX8_count.cls ≠ "java/lang/invoke/VarHandle" ∧ (parseMethodDescriptor yX8_count.desc).map (fun d => d.parameters.length) = some 1 := by decide +kernel
set_option maxHeartbeats 8000000 in
set_option maxRecDepth 100000 in
theorem c_X8_count {l : Launch} {D : va_G} {ca : Nat → ClassId} {b : Nat} {nx : Bool} {v0 : Nat} {v1 : Int32} {M : Mem} {r : Mem × Int32} (hf : f_X8_count v0 v1 M = some r) : CtI l yX8_count cX8_count 2 (some .int) rm_X8_count D ca b nx [.ref v0, .int v1] M r := by
  intro sz
  refine body_start (Qc := fun A => cvI D ca nx A r) (by decide +kernel) (Nat.le_of_ble_eq_true rfl) ?_
  intro p e s m args below meth c A hC hr hR ls hl
  obtain ⟨hx, hb, hml, hts, hown, hlocks, hXe, hA, hAb, hnm⟩ := id hC
  have hK := hXe.1
  have hl : lv_has ls 2 [(0, .ref v0), (1, .int v1)] := hl
  have hB16 : ∀  (s0 : Int32) (s1 : Nat) (v0 : Nat) (v1 : Int32) (M : Mem) (H : Heap) (locs : List Loc) (ls : Array Slot), f_X8_count_b16  s0 s1 v0 v1 M = some r → Hp D ca nx A s M H locs → lv_has ls 2 [(0, .ref v0), (1, .int v1)] → W p l e rm_X8_count s m args below meth c H locs 0 0 (MQ below (cvI D ca nx A r) args s 0 0 A) (F0 m 16 ls [.int s0, .ref s1]) := by
    intro  s0 s1 v0 v1 M H locs ls hf hR hl
    unfold f_X8_count_b16 at hf
    refine rg_puti (pc := 16) (C := RX8) (T := TX8) (N := 37) (κ := 8) hx hb hts hK hR hown in_8 rfl (by decide) 0 (by decide) m_668 tyX8 tyX8_ok nmX8 rfl rfl rfl rfl dX8_count_16 hf (fun M1 H locs hf hR => ?_)
    refine lv_aload_n (pc := 19) hx hb dX8_count_19 rfl (lv_at hl 0 rfl) ?_
    refine rg_get (pc := 20) (C := RX8) (T := TX8) (N := 37) (κ := 8) (v := .int (mm_i M1 v0 0)) hx hb hts hK hR hown in_8 rfl (by decide) 0 (by decide) m_668 rfl dX8_count_20 hf (fun hf => ?_)
    refine lv_if_le (pc := 23) (tgt := 28) hx hb dX8_count_23 (by decide) (fun hc => ?_) (fun hc => ?_)
    · replace hf := it_t hf hc
      refine lv_iload_n (pc := 28) hx hb dX8_count_28 rfl (lv_at hl 1 rfl) ?_
      by_cases hw0 : v1 = (0 : Int32)
      · replace hf := it_t hf hw0
        refine lv_tableIn (pc := 29) (off := 39) (tgt := 68) hx hb dX8_count_29 (by rw [hw0]; decide) (by rw [hw0]; decide) (by rw [hw0]; decide) (by decide) ?_
        refine lv_aload_n (pc := 68) hx hb dX8_count_68 rfl (lv_at hl 0 rfl) ?_
        refine rg_get (pc := 69) (C := RX8) (T := TX8) (N := 37) (κ := 8) (v := .int (mm_i M1 v0 6)) hx hb hts hK hR hown in_8 rfl (by decide) 6 (by decide) m_674 rfl dX8_count_69 hf (fun hf => ?_)
        exact rg_iret (pc := 72) hx hb hlocks hr hf hR dX8_count_72
      replace hf := it_f hf hw0
      by_cases hw1 : v1 = (1 : Int32)
      · replace hf := it_t hf hw1
        refine lv_tableIn (pc := 29) (off := 44) (tgt := 73) hx hb dX8_count_29 (by rw [hw1]; decide) (by rw [hw1]; decide) (by rw [hw1]; decide) (by decide) ?_
        refine lv_aload_n (pc := 73) hx hb dX8_count_73 rfl (lv_at hl 0 rfl) ?_
        obtain ⟨hq, hf⟩ := gd_e hf
        refine rg_I (pc := 74) hf hR hA (fun z hz => rn_V (κ := 8) (As := []) (rest := []) hC hR rfl (by decide) hq (c_X8_there  hz _) m_903 m_905 ms_24 m_9 m_906 hd_X8_there ⟨rfl, rfl, Nat.le_of_ble_eq_true rfl, Nat.le_of_ble_eq_true rfl⟩ rfl hl.1 rfl (Nat.le_of_ble_eq_true rfl) dX8_count_74 ⟨Nat.le_of_ble_eq_true rfl, Nat.le_of_ble_eq_true rfl⟩) (fun z2 H locs hf hR => ?_)
        exact rg_iret (pc := 77) hx hb hlocks hr hf hR dX8_count_77
      replace hf := it_f hf hw1
      by_cases hw2 : v1 = (2 : Int32)
      · replace hf := it_t hf hw2
        refine lv_tableIn (pc := 29) (off := 49) (tgt := 78) hx hb dX8_count_29 (by rw [hw2]; decide) (by rw [hw2]; decide) (by rw [hw2]; decide) (by decide) ?_
        refine lv_aload_n (pc := 78) hx hb dX8_count_78 rfl (lv_at hl 0 rfl) ?_
        refine rg_get (pc := 79) (C := RX8) (T := TX8) (N := 37) (κ := 8) (v := .int (mm_i M1 v0 18)) hx hb hts hK hR hown in_8 rfl (by decide) 18 (by decide) m_686 rfl dX8_count_79 hf (fun hf => ?_)
        exact rg_iret (pc := 82) hx hb hlocks hr hf hR dX8_count_82
      replace hf := it_f hf hw2
      by_cases hw3 : v1 = (3 : Int32)
      · replace hf := it_t hf hw3
        refine lv_tableIn (pc := 29) (off := 54) (tgt := 83) hx hb dX8_count_29 (by rw [hw3]; decide) (by rw [hw3]; decide) (by rw [hw3]; decide) (by decide) ?_
        refine lv_aload_n (pc := 83) hx hb dX8_count_83 rfl (lv_at hl 0 rfl) ?_
        refine rg_get (pc := 84) (C := RX8) (T := TX8) (N := 37) (κ := 8) (v := .int (mm_i M1 v0 19)) hx hb hts hK hR hown in_8 rfl (by decide) 19 (by decide) m_687 rfl dX8_count_84 hf (fun hf => ?_)
        exact rg_iret (pc := 87) hx hb hlocks hr hf hR dX8_count_87
      replace hf := it_f hf hw3
      by_cases hw4 : v1 = (4 : Int32)
      · replace hf := it_t hf hw4
        refine lv_tableIn (pc := 29) (off := 59) (tgt := 88) hx hb dX8_count_29 (by rw [hw4]; decide) (by rw [hw4]; decide) (by rw [hw4]; decide) (by decide) ?_
        refine lv_aload_n (pc := 88) hx hb dX8_count_88 rfl (lv_at hl 0 rfl) ?_
        refine rg_get (pc := 89) (C := RX8) (T := TX8) (N := 37) (κ := 8) (v := .int (mm_i M1 v0 20)) hx hb hts hK hR hown in_8 rfl (by decide) 20 (by decide) m_688 rfl dX8_count_89 hf (fun hf => ?_)
        exact rg_iret (pc := 92) hx hb hlocks hr hf hR dX8_count_92
      replace hf := it_f hf hw4
      by_cases hw5 : v1 = (5 : Int32)
      · replace hf := it_t hf hw5
        refine lv_tableIn (pc := 29) (off := 64) (tgt := 93) hx hb dX8_count_29 (by rw [hw5]; decide) (by rw [hw5]; decide) (by rw [hw5]; decide) (by decide) ?_
        refine lv_aload_n (pc := 93) hx hb dX8_count_93 rfl (lv_at hl 0 rfl) ?_
        refine rg_get (pc := 94) (C := RX8) (T := TX8) (N := 37) (κ := 8) (v := .int (mm_i M1 v0 21)) hx hb hts hK hR hown in_8 rfl (by decide) 21 (by decide) m_689 rfl dX8_count_94 hf (fun hf => ?_)
        exact rg_iret (pc := 97) hx hb hlocks hr hf hR dX8_count_97
      replace hf := it_f hf hw5
      refine lv_tableOut (pc := 29) (tgt := 98) hx hb dX8_count_29 (by have h0 := sw_ne (0 : Int32) (k := 0) (by decide) hw0; have h1 := sw_ne (1 : Int32) (k := 1) (by decide) hw1; have h2 := sw_ne (2 : Int32) (k := 2) (by decide) hw2; have h3 := sw_ne (3 : Int32) (k := 3) (by decide) hw3; have h4 := sw_ne (4 : Int32) (k := 4) (by decide) hw4; have h5 := sw_ne (5 : Int32) (k := 5) (by decide) hw5; omega) (by decide) ?_
      refine lv_aload_n (pc := 98) hx hb dX8_count_98 rfl (lv_at hl 0 rfl) ?_
      refine rg_get (pc := 99) (C := RX8) (T := TX8) (N := 37) (κ := 8) (v := .int (mm_i M1 v0 22)) hx hb hts hK hR hown in_8 rfl (by decide) 22 (by decide) m_690 rfl dX8_count_99 hf (fun hf => ?_)
      exact rg_iret (pc := 102) hx hb hlocks hr hf hR dX8_count_102
    · replace hf := it_f hf hc
      refine lv_iconst (pc := 26) (v := (0 : Int32)) hx hb dX8_count_26 (by decide) ?_
      exact rg_iret (pc := 27) hx hb hlocks hr hf hR dX8_count_27
  unfold f_X8_count at hf
  refine lv_aload_n (pc := 0) hx hb dX8_count_0 rfl (lv_at hl 0 rfl) ?_
  refine lv_iload_n (pc := 1) hx hb dX8_count_1 rfl (lv_at hl 1 rfl) ?_
  refine lv_iconst (pc := 2) (v := (0 : Int32)) hx hb dX8_count_2 (by decide) ?_
  refine lv_bipush (pc := 3) (v := (6 : Int32)) hx hb dX8_count_3 (by decide) ?_
  refine rg_I (pc := 5) hf hR hA (fun z hz => rn_S (As := [.int v1, .int (0 : Int32), .int (6 : Int32)]) (rest := [.ref v0]) hC hR (c_X8_isIn  hz _) m_792 m_793 m_9 m_794 hd_X8_isIn ⟨rfl, rfl, Nat.le_of_ble_eq_true rfl, Nat.le_of_ble_eq_true rfl⟩ rfl hl.1 rfl (Nat.le_of_ble_eq_true rfl) dX8_count_5 ⟨Nat.le_of_ble_eq_true rfl, Nat.le_of_ble_eq_true rfl⟩) (fun z3 H locs hf hR => ?_)
  refine lv_if_eq (pc := 8) (tgt := 15) hx hb dX8_count_8 (by decide) (fun hc => ?_) (fun hc => ?_)
  · replace hf := it_t hf hc
    refine lv_iconst (pc := 15) (v := (1 : Int32)) hx hb dX8_count_15 (by decide) ?_
    exact hB16 (1 : Int32) v0 v0 v1 z3.1 _ _ _ hf hR (lv_sub hl [0, 1] rfl)
  · replace hf := it_f hf hc
    refine lv_iconst (pc := 11) (v := (0 : Int32)) hx hb dX8_count_11 (by decide) ?_
    refine lv_goto (pc := 12) (tgt := 16) hx hb dX8_count_12 (by decide) ?_
    exact hB16 (0 : Int32) v0 v0 v1 z3.1 _ _ _ hf hR (lv_sub hl [0, 1] rfl)
-- X8_mass
def f_X8_mass_b32  (s0 : Int32) (M : Mem) : Option (Mem × Int32) := some (M, s0)
def f_X8_mass_b13  (s0 : Int32) (s1 : Nat) (v0 : Nat) (v1 : Int32) (M : Mem) : Option (Mem × Int32) := gd (M.1 s1 = 8) <| lt_ (ms_i M s1 0 s0) fun M1 => gd (M1.1 v0 = 8) <| if (mm_i M1 v0 0) ≤ 0 then (gd (M1.1 v0 = 8) <| bd (f_X8_massOf v0 v1 M1) fun z2 => f_X8_mass_b32 z2.2 z2.1) else (f_X8_mass_b32 (0 : Int32) M1)
def f_X8_mass (v0 : Nat) (v1 : Int32) (M : Mem) : Option (Mem × Int32) := bd (f_X8_isLane v1 M) fun z3 => if z3.2 = 0 then (f_X8_mass_b13 (1 : Int32) v0 v0 v1 z3.1) else (f_X8_mass_b13 (0 : Int32) v0 v0 v1 z3.1)
abbrev rm_X8_mass : Room := { frames := 2, cells := 0, slots := 0, locals := 42 }
theorem hd_X8_mass : yX8_mass.cls ≠ "java/lang/invoke/MethodHandle" ∧ yX8_mass.cls ≠ "java/lang/invoke/VarHandle" ∧ (parseMethodDescriptor yX8_mass.desc).map (fun d => d.parameters.length) = some 1 := by decide +kernel
set_option maxHeartbeats 8000000 in
set_option maxRecDepth 100000 in
theorem c_X8_mass {l : Launch} {D : va_G} {ca : Nat → ClassId} {b : Nat} {nx : Bool} {v0 : Nat} {v1 : Int32} {M : Mem} {r : Mem × Int32} (hf : f_X8_mass v0 v1 M = some r) : CtI l yX8_mass cX8_mass 2 (some .int) rm_X8_mass D ca b nx [.ref v0, .int v1] M r := by
  intro sz
  refine body_start (Qc := fun A => cvI D ca nx A r) (by decide +kernel) (Nat.le_of_ble_eq_true rfl) ?_
  intro p e s m args below meth c A hC hr hR ls hl
  obtain ⟨hx, hb, hml, hts, hown, hlocks, hXe, hA, hAb, hnm⟩ := id hC
  have hK := hXe.1
  have hl : lv_has ls 2 [(0, .ref v0), (1, .int v1)] := hl
  have hB32 : ∀  (s0 : Int32) (M : Mem) (H : Heap) (locs : List Loc) (ls : Array Slot), f_X8_mass_b32  s0 M = some r → Hp D ca nx A s M H locs → lv_has ls 2 [] → W p l e rm_X8_mass s m args below meth c H locs 0 0 (MQ below (cvI D ca nx A r) args s 0 0 A) (F0 m 32 ls [.int s0]) := by
    intro  s0 M H locs ls hf hR hl
    unfold f_X8_mass_b32 at hf
    exact rg_iret (pc := 32) hx hb hlocks hr hf hR dX8_mass_32
  have hB13 : ∀  (s0 : Int32) (s1 : Nat) (v0 : Nat) (v1 : Int32) (M : Mem) (H : Heap) (locs : List Loc) (ls : Array Slot), f_X8_mass_b13  s0 s1 v0 v1 M = some r → Hp D ca nx A s M H locs → lv_has ls 2 [(0, .ref v0), (1, .int v1)] → W p l e rm_X8_mass s m args below meth c H locs 0 0 (MQ below (cvI D ca nx A r) args s 0 0 A) (F0 m 13 ls [.int s0, .ref s1]) := by
    intro  s0 s1 v0 v1 M H locs ls hf hR hl
    unfold f_X8_mass_b13 at hf
    refine rg_puti (pc := 13) (C := RX8) (T := TX8) (N := 37) (κ := 8) hx hb hts hK hR hown in_8 rfl (by decide) 0 (by decide) m_668 tyX8 tyX8_ok nmX8 rfl rfl rfl rfl dX8_mass_13 hf (fun M1 H locs hf hR => ?_)
    refine lv_aload_n (pc := 16) hx hb dX8_mass_16 rfl (lv_at hl 0 rfl) ?_
    refine rg_get (pc := 17) (C := RX8) (T := TX8) (N := 37) (κ := 8) (v := .int (mm_i M1 v0 0)) hx hb hts hK hR hown in_8 rfl (by decide) 0 (by decide) m_668 rfl dX8_mass_17 hf (fun hf => ?_)
    refine lv_if_le (pc := 20) (tgt := 27) hx hb dX8_mass_20 (by decide) (fun hc => ?_) (fun hc => ?_)
    · replace hf := it_t hf hc
      refine lv_aload_n (pc := 27) hx hb dX8_mass_27 rfl (lv_at hl 0 rfl) ?_
      refine lv_iload_n (pc := 28) hx hb dX8_mass_28 rfl (lv_at hl 1 rfl) ?_
      obtain ⟨hq, hf⟩ := gd_e hf
      refine rg_I (pc := 29) hf hR hA (fun z hz => rn_V (κ := 8) (As := [.int v1]) (rest := []) hC hR rfl (by decide) hq (c_X8_massOf  hz _) m_870 m_872 ms_22 m_9 m_873 hd_X8_massOf ⟨rfl, rfl, Nat.le_of_ble_eq_true rfl, Nat.le_of_ble_eq_true rfl⟩ rfl hl.1 rfl (Nat.le_of_ble_eq_true rfl) dX8_mass_29 ⟨Nat.le_of_ble_eq_true rfl, Nat.le_of_ble_eq_true rfl⟩) (fun z2 H locs hf hR => ?_)
      exact hB32 z2.2 z2.1 _ _ _ hf hR (lv_sub hl [] rfl)
    · replace hf := it_f hf hc
      refine lv_iconst (pc := 23) (v := (0 : Int32)) hx hb dX8_mass_23 (by decide) ?_
      refine lv_goto (pc := 24) (tgt := 32) hx hb dX8_mass_24 (by decide) ?_
      exact hB32 (0 : Int32) M1 _ _ _ hf hR (lv_sub hl [] rfl)
  unfold f_X8_mass at hf
  refine lv_aload_n (pc := 0) hx hb dX8_mass_0 rfl (lv_at hl 0 rfl) ?_
  refine lv_iload_n (pc := 1) hx hb dX8_mass_1 rfl (lv_at hl 1 rfl) ?_
  refine rg_I (pc := 2) hf hR hA (fun z hz => rn_S (As := [.int v1]) (rest := [.ref v0]) hC hR (c_X8_isLane  hz _) m_789 m_790 m_9 m_791 hd_X8_isLane ⟨rfl, rfl, Nat.le_of_ble_eq_true rfl, Nat.le_of_ble_eq_true rfl⟩ rfl hl.1 rfl (Nat.le_of_ble_eq_true rfl) dX8_mass_2 ⟨Nat.le_of_ble_eq_true rfl, Nat.le_of_ble_eq_true rfl⟩) (fun z3 H locs hf hR => ?_)
  refine lv_if_eq (pc := 5) (tgt := 12) hx hb dX8_mass_5 (by decide) (fun hc => ?_) (fun hc => ?_)
  · replace hf := it_t hf hc
    refine lv_iconst (pc := 12) (v := (1 : Int32)) hx hb dX8_mass_12 (by decide) ?_
    exact hB13 (1 : Int32) v0 v0 v1 z3.1 _ _ _ hf hR (lv_sub hl [0, 1] rfl)
  · replace hf := it_f hf hc
    refine lv_iconst (pc := 8) (v := (0 : Int32)) hx hb dX8_mass_8 (by decide) ?_
    refine lv_goto (pc := 9) (tgt := 13) hx hb dX8_mass_9 (by decide) ?_
    exact hB13 (0 : Int32) v0 v0 v1 z3.1 _ _ _ hf hR (lv_sub hl [0, 1] rfl)
-- X8_sum
def f_X8_sum_b103  (s0 : Int32) (M : Mem) : Option (Mem × Int32) := some (M, s0)
def f_X8_sum_b59 (k31 : Nat → Int32 → Int32 → Int32 → Mem → Option (Mem × Int32)) (s0 : Int32) (s1 : Int32) (v0 : Nat) (v1 : Int32) (v3 : Int32) (M : Mem) : Option (Mem × Int32) := lt_ ((s1 + s0)) fun x1 => lt_ (v3 + (1 : Int32)) fun x2 => k31 v0 v1 x1 x2 M
def f_X8_sum_b31 (k31 : Nat → Int32 → Int32 → Int32 → Mem → Option (Mem × Int32)) (v0 : Nat) (v1 : Int32) (v2 : Int32) (v3 : Int32) (M : Mem) : Option (Mem × Int32) := gd (M.1 v0 = 8) <| if (mm_i M v0 6) ≤ v3 then (if v1 = 0 then (f_X8_sum_b103 v2 M) else (if v1 = (1 : Int32) then (gd (M.1 v0 = 8) <| f_X8_sum_b103 (mm_i M v0 23) M) else (if v1 = (2 : Int32) then (gd (M.1 v0 = 8) <| f_X8_sum_b103 (mm_i M v0 24) M) else (gd (M.1 v0 = 8) <| f_X8_sum_b103 (mm_i M v0 25) M)))) else (gd (M.1 v0 = 8) <| rd (mm_r M v0 12) fun a3 => gd (M.1 a3 = 10 ∧ vi_ v3 (mm_N M a3)) <| if (mm_i M a3 (v3).toNatClampNeg) = 0 then (f_X8_sum_b59 k31 (0 : Int32) v2 v0 v1 v3 M) else (gd (M.1 v0 = 8) <| rd (mm_r M v0 9) fun a4 => gd (M.1 a4 = 9 ∧ vi_ v3 (mm_N M a4)) <| f_X8_sum_b59 k31 (mm_i M a4 (v3).toNatClampNeg) v2 v0 v1 v3 M))
def f_X8_sum_L31  : Nat → Nat → Int32 → Int32 → Int32 → Mem → Option (Mem × Int32)
  | 0 => fun _ _ _ _ _ => none
  | n + 1 => f_X8_sum_b31  (f_X8_sum_L31  n)
def f_X8_sum_b15  (s0 : Int32) (s1 : Nat) (v0 : Nat) (v1 : Int32) (M : Mem) : Option (Mem × Int32) := gd (M.1 s1 = 8) <| lt_ (ms_i M s1 0 s0) fun M5 => gd (M5.1 v0 = 8) <| if (mm_i M5 v0 0) ≤ 0 then (f_X8_sum_L31 200 v0 v1 (0 : Int32) (0 : Int32) M5) else (some (M5, (0 : Int32)))
def f_X8_sum (v0 : Nat) (v1 : Int32) (M : Mem) : Option (Mem × Int32) := bd (f_X8_isIn v1 (0 : Int32) (3 : Int32) M) fun z6 => if z6.2 = 0 then (f_X8_sum_b15 (1 : Int32) v0 v0 v1 z6.1) else (f_X8_sum_b15 (0 : Int32) v0 v0 v1 z6.1)
abbrev rm_X8_sum : Room := { frames := 1, cells := 0, slots := 0, locals := 22 }
theorem hd_X8_sum : yX8_sum.cls ≠ "java/lang/invoke/MethodHandle" ∧ yX8_sum.cls ≠ "java/lang/invoke/VarHandle" ∧ (parseMethodDescriptor yX8_sum.desc).map (fun d => d.parameters.length) = some 1 := by decide +kernel
set_option maxHeartbeats 8000000 in
set_option maxRecDepth 100000 in
theorem c_X8_sum {l : Launch} {D : va_G} {ca : Nat → ClassId} {b : Nat} {nx : Bool} {v0 : Nat} {v1 : Int32} {M : Mem} {r : Mem × Int32} (hf : f_X8_sum v0 v1 M = some r) : CtI l yX8_sum cX8_sum 4 (some .int) rm_X8_sum D ca b nx [.ref v0, .int v1] M r := by
  intro sz
  refine body_start (Qc := fun A => cvI D ca nx A r) (by decide +kernel) (Nat.le_of_ble_eq_true rfl) ?_
  intro p e s m args below meth c A hC hr hR ls hl
  obtain ⟨hx, hb, hml, hts, hown, hlocks, hXe, hA, hAb, hnm⟩ := id hC
  have hK := hXe.1
  have hl : lv_has ls 4 [(0, .ref v0), (1, .int v1)] := hl
  have hB103 : ∀  (s0 : Int32) (M : Mem) (H : Heap) (locs : List Loc) (ls : Array Slot), f_X8_sum_b103  s0 M = some r → Hp D ca nx A s M H locs → lv_has ls 4 [] → W p l e rm_X8_sum s m args below meth c H locs 0 0 (MQ below (cvI D ca nx A r) args s 0 0 A) (F0 m 103 ls [.int s0]) := by
    intro  s0 M H locs ls hf hR hl
    unfold f_X8_sum_b103 at hf
    exact rg_iret (pc := 103) hx hb hlocks hr hf hR dX8_sum_103
  have hB59 : ∀ (k31 : Nat → Int32 → Int32 → Int32 → Mem → Option (Mem × Int32)) (hk31 : ∀ (v0 : Nat) (v1 : Int32) (v2 : Int32) (v3 : Int32) (M : Mem) (H : Heap) (locs : List Loc) (ls : Array Slot), k31 v0 v1 v2 v3 M = some r → Hp D ca nx A s M H locs → lv_has ls 4 [(0, .ref v0), (1, .int v1), (2, .int v2), (3, .int v3)] → W p l e rm_X8_sum s m args below meth c H locs 0 0 (MQ below (cvI D ca nx A r) args s 0 0 A) (F0 m 31 ls [])) (s0 : Int32) (s1 : Int32) (v0 : Nat) (v1 : Int32) (v3 : Int32) (M : Mem) (H : Heap) (locs : List Loc) (ls : Array Slot), f_X8_sum_b59 k31 s0 s1 v0 v1 v3 M = some r → Hp D ca nx A s M H locs → lv_has ls 4 [(0, .ref v0), (1, .int v1), (3, .int v3)] → W p l e rm_X8_sum s m args below meth c H locs 0 0 (MQ below (cvI D ca nx A r) args s 0 0 A) (F0 m 59 ls [.int s0, .int s1]) := by
    intro k31 hk31 s0 s1 v0 v1 v3 M H locs ls hf hR hl
    unfold f_X8_sum_b59 at hf
    refine lv_iadd (pc := 59) hx hb dX8_sum_59 ?_
    refine nm_i hf (fun x1 hf => ?_)
    refine lv_istore_n (pc := 60) (lv' := [(2, .int x1), (0, .ref v0), (1, .int v1), (3, .int v3)]) hx hb dX8_sum_60 rfl hl (by decide) rfl (fun ls hl => ?_)
    refine rg_iinc (pc := 61) hx hb dX8_sum_61 hl (k := 3) rfl rfl (by decide) hf (fun x2 ls hf hl => ?_)
    have hl : lv_has ls 4 [(3, .int x2), (2, .int x1), (0, .ref v0), (1, .int v1)] := hl
    refine lv_goto (pc := 64) (tgt := 31) hx hb dX8_sum_64 (by decide) ?_
    exact hk31 v0 v1 x1 x2 M _ _ _ hf hR (lv_sub hl [2, 3, 1, 0] rfl)
  have hB31 : ∀ (k31 : Nat → Int32 → Int32 → Int32 → Mem → Option (Mem × Int32)) (hk31 : ∀ (v0 : Nat) (v1 : Int32) (v2 : Int32) (v3 : Int32) (M : Mem) (H : Heap) (locs : List Loc) (ls : Array Slot), k31 v0 v1 v2 v3 M = some r → Hp D ca nx A s M H locs → lv_has ls 4 [(0, .ref v0), (1, .int v1), (2, .int v2), (3, .int v3)] → W p l e rm_X8_sum s m args below meth c H locs 0 0 (MQ below (cvI D ca nx A r) args s 0 0 A) (F0 m 31 ls [])) (v0 : Nat) (v1 : Int32) (v2 : Int32) (v3 : Int32) (M : Mem) (H : Heap) (locs : List Loc) (ls : Array Slot), f_X8_sum_b31 k31 v0 v1 v2 v3 M = some r → Hp D ca nx A s M H locs → lv_has ls 4 [(0, .ref v0), (1, .int v1), (2, .int v2), (3, .int v3)] → W p l e rm_X8_sum s m args below meth c H locs 0 0 (MQ below (cvI D ca nx A r) args s 0 0 A) (F0 m 31 ls []) := by
    intro k31 hk31 v0 v1 v2 v3 M H locs ls hf hR hl
    unfold f_X8_sum_b31 at hf
    refine lv_iload_n (pc := 31) hx hb dX8_sum_31 rfl (lv_at hl 3 rfl) ?_
    refine lv_aload_n (pc := 32) hx hb dX8_sum_32 rfl (lv_at hl 0 rfl) ?_
    refine rg_get (pc := 33) (C := RX8) (T := TX8) (N := 37) (κ := 8) (v := .int (mm_i M v0 6)) hx hb hts hK hR hown in_8 rfl (by decide) 6 (by decide) m_674 rfl dX8_sum_33 hf (fun hf => ?_)
    refine lv_icmp_ge (pc := 36) (tgt := 67) hx hb dX8_sum_36 (by decide) (fun hc => ?_) (fun hc => ?_)
    · replace hf := it_t hf hc
      refine lv_iload_n (pc := 67) hx hb dX8_sum_67 rfl (lv_at hl 1 rfl) ?_
      refine lv_if_ne (pc := 68) (tgt := 75) hx hb dX8_sum_68 (by decide) (fun hc => ?_) (fun hc => ?_)
      · replace hf := it_f hf hc
        refine lv_iload_n (pc := 75) hx hb dX8_sum_75 rfl (lv_at hl 1 rfl) ?_
        refine lv_iconst (pc := 76) (v := (1 : Int32)) hx hb dX8_sum_76 (by decide) ?_
        refine lv_icmp_ne (pc := 77) (tgt := 87) hx hb dX8_sum_77 (by decide) (fun hc => ?_) (fun hc => ?_)
        · replace hf := it_f hf hc
          refine lv_iload_n (pc := 87) hx hb dX8_sum_87 rfl (lv_at hl 1 rfl) ?_
          refine lv_iconst (pc := 88) (v := (2 : Int32)) hx hb dX8_sum_88 (by decide) ?_
          refine lv_icmp_ne (pc := 89) (tgt := 99) hx hb dX8_sum_89 (by decide) (fun hc => ?_) (fun hc => ?_)
          · replace hf := it_f hf hc
            refine lv_aload_n (pc := 99) hx hb dX8_sum_99 rfl (lv_at hl 0 rfl) ?_
            refine rg_get (pc := 100) (C := RX8) (T := TX8) (N := 37) (κ := 8) (v := .int (mm_i M v0 25)) hx hb hts hK hR hown in_8 rfl (by decide) 25 (by decide) m_693 rfl dX8_sum_100 hf (fun hf => ?_)
            exact hB103 (mm_i M v0 25) M _ _ _ hf hR (lv_sub hl [] rfl)
          · replace hf := it_t hf hc
            refine lv_aload_n (pc := 92) hx hb dX8_sum_92 rfl (lv_at hl 0 rfl) ?_
            refine rg_get (pc := 93) (C := RX8) (T := TX8) (N := 37) (κ := 8) (v := .int (mm_i M v0 24)) hx hb hts hK hR hown in_8 rfl (by decide) 24 (by decide) m_692 rfl dX8_sum_93 hf (fun hf => ?_)
            refine lv_goto (pc := 96) (tgt := 103) hx hb dX8_sum_96 (by decide) ?_
            exact hB103 (mm_i M v0 24) M _ _ _ hf hR (lv_sub hl [] rfl)
        · replace hf := it_t hf hc
          refine lv_aload_n (pc := 80) hx hb dX8_sum_80 rfl (lv_at hl 0 rfl) ?_
          refine rg_get (pc := 81) (C := RX8) (T := TX8) (N := 37) (κ := 8) (v := .int (mm_i M v0 23)) hx hb hts hK hR hown in_8 rfl (by decide) 23 (by decide) m_691 rfl dX8_sum_81 hf (fun hf => ?_)
          refine lv_goto (pc := 84) (tgt := 103) hx hb dX8_sum_84 (by decide) ?_
          exact hB103 (mm_i M v0 23) M _ _ _ hf hR (lv_sub hl [] rfl)
      · replace hf := it_t hf hc
        refine lv_iload_n (pc := 71) hx hb dX8_sum_71 rfl (lv_at hl 2 rfl) ?_
        refine lv_goto (pc := 72) (tgt := 103) hx hb dX8_sum_72 (by decide) ?_
        exact hB103 v2 M _ _ _ hf hR (lv_sub hl [] rfl)
    · replace hf := it_f hf hc
      refine lv_iload_n (pc := 39) hx hb dX8_sum_39 rfl (lv_at hl 2 rfl) ?_
      refine lv_aload_n (pc := 40) hx hb dX8_sum_40 rfl (lv_at hl 0 rfl) ?_
      refine rg_getr (pc := 41) (C := RX8) (T := TX8) (N := 37) (κ := 8) hx hb hts hK hR hown in_8 rfl (by decide) 12 (by decide) m_680 rfl dX8_sum_41 hf (fun a3 hf => ?_)
      refine lv_iload_n (pc := 44) hx hb dX8_sum_44 rfl (lv_at hl 3 rfl) ?_
      refine rg_zald (pc := 45) hx hb hK hR dX8_sum_45 hf (fun hf => ?_)
      refine lv_if_eq (pc := 46) (tgt := 58) hx hb dX8_sum_46 (by decide) (fun hc => ?_) (fun hc => ?_)
      · replace hf := it_t hf hc
        refine lv_iconst (pc := 58) (v := (0 : Int32)) hx hb dX8_sum_58 (by decide) ?_
        exact hB59 k31 hk31 (0 : Int32) v2 v0 v1 v3 M _ _ _ hf hR (lv_sub hl [0, 1, 3] rfl)
      · replace hf := it_f hf hc
        refine lv_aload_n (pc := 49) hx hb dX8_sum_49 rfl (lv_at hl 0 rfl) ?_
        refine rg_getr (pc := 50) (C := RX8) (T := TX8) (N := 37) (κ := 8) hx hb hts hK hR hown in_8 rfl (by decide) 9 (by decide) m_677 rfl dX8_sum_50 hf (fun a4 hf => ?_)
        refine lv_iload_n (pc := 53) hx hb dX8_sum_53 rfl (lv_at hl 3 rfl) ?_
        refine rg_iald (pc := 54) hx hb hK hR dX8_sum_54 hf (fun hf => ?_)
        refine lv_goto (pc := 55) (tgt := 59) hx hb dX8_sum_55 (by decide) ?_
        exact hB59 k31 hk31 (mm_i M a4 (v3).toNatClampNeg) v2 v0 v1 v3 M _ _ _ hf hR (lv_sub hl [0, 1, 3] rfl)
  have hL31 : ∀  (n : Nat) (v0 : Nat) (v1 : Int32) (v2 : Int32) (v3 : Int32) (M : Mem) (H : Heap) (locs : List Loc) (ls : Array Slot), f_X8_sum_L31  n v0 v1 v2 v3 M = some r → Hp D ca nx A s M H locs → lv_has ls 4 [(0, .ref v0), (1, .int v1), (2, .int v2), (3, .int v3)] → W p l e rm_X8_sum s m args below meth c H locs 0 0 (MQ below (cvI D ca nx A r) args s 0 0 A) (F0 m 31 ls []) := by
    intro  n
    induction n with
    | zero => intro v0 v1 v2 v3 M H locs ls hf; exact nomatch (show (none : Option (Mem × Int32)) = some r from hf)
    | succ n ih => intro v0 v1 v2 v3 M H locs ls hf hR hl; exact hB31  (f_X8_sum_L31  n) ih v0 v1 v2 v3 M H locs ls hf hR hl
  have hB15 : ∀  (s0 : Int32) (s1 : Nat) (v0 : Nat) (v1 : Int32) (M : Mem) (H : Heap) (locs : List Loc) (ls : Array Slot), f_X8_sum_b15  s0 s1 v0 v1 M = some r → Hp D ca nx A s M H locs → lv_has ls 4 [(0, .ref v0), (1, .int v1)] → W p l e rm_X8_sum s m args below meth c H locs 0 0 (MQ below (cvI D ca nx A r) args s 0 0 A) (F0 m 15 ls [.int s0, .ref s1]) := by
    intro  s0 s1 v0 v1 M H locs ls hf hR hl
    unfold f_X8_sum_b15 at hf
    refine rg_puti (pc := 15) (C := RX8) (T := TX8) (N := 37) (κ := 8) hx hb hts hK hR hown in_8 rfl (by decide) 0 (by decide) m_668 tyX8 tyX8_ok nmX8 rfl rfl rfl rfl dX8_sum_15 hf (fun M5 H locs hf hR => ?_)
    refine lv_aload_n (pc := 18) hx hb dX8_sum_18 rfl (lv_at hl 0 rfl) ?_
    refine rg_get (pc := 19) (C := RX8) (T := TX8) (N := 37) (κ := 8) (v := .int (mm_i M5 v0 0)) hx hb hts hK hR hown in_8 rfl (by decide) 0 (by decide) m_668 rfl dX8_sum_19 hf (fun hf => ?_)
    refine lv_if_le (pc := 22) (tgt := 27) hx hb dX8_sum_22 (by decide) (fun hc => ?_) (fun hc => ?_)
    · replace hf := it_t hf hc
      refine lv_iconst (pc := 27) (v := (0 : Int32)) hx hb dX8_sum_27 (by decide) ?_
      refine lv_istore_n (pc := 28) (lv' := [(2, .int (0 : Int32)), (0, .ref v0), (1, .int v1)]) hx hb dX8_sum_28 rfl hl (by decide) rfl (fun ls hl => ?_)
      refine lv_iconst (pc := 29) (v := (0 : Int32)) hx hb dX8_sum_29 (by decide) ?_
      refine lv_istore_n (pc := 30) (lv' := [(3, .int (0 : Int32)), (2, .int (0 : Int32)), (0, .ref v0), (1, .int v1)]) hx hb dX8_sum_30 rfl hl (by decide) rfl (fun ls hl => ?_)
      exact hL31 200 v0 v1 (0 : Int32) (0 : Int32) M5 _ _ _ hf hR (lv_sub hl [2, 3, 1, 0] rfl)
    · replace hf := it_f hf hc
      refine lv_iconst (pc := 25) (v := (0 : Int32)) hx hb dX8_sum_25 (by decide) ?_
      exact rg_iret (pc := 26) hx hb hlocks hr hf hR dX8_sum_26
  unfold f_X8_sum at hf
  refine lv_aload_n (pc := 0) hx hb dX8_sum_0 rfl (lv_at hl 0 rfl) ?_
  refine lv_iload_n (pc := 1) hx hb dX8_sum_1 rfl (lv_at hl 1 rfl) ?_
  refine lv_iconst (pc := 2) (v := (0 : Int32)) hx hb dX8_sum_2 (by decide) ?_
  refine lv_iconst (pc := 3) (v := (3 : Int32)) hx hb dX8_sum_3 (by decide) ?_
  refine rg_I (pc := 4) hf hR hA (fun z hz => rn_S (As := [.int v1, .int (0 : Int32), .int (3 : Int32)]) (rest := [.ref v0]) hC hR (c_X8_isIn  hz _) m_792 m_793 m_9 m_794 hd_X8_isIn ⟨rfl, rfl, Nat.le_of_ble_eq_true rfl, Nat.le_of_ble_eq_true rfl⟩ rfl hl.1 rfl (Nat.le_of_ble_eq_true rfl) dX8_sum_4 ⟨Nat.le_of_ble_eq_true rfl, Nat.le_of_ble_eq_true rfl⟩) (fun z6 H locs hf hR => ?_)
  refine lv_if_eq (pc := 7) (tgt := 14) hx hb dX8_sum_7 (by decide) (fun hc => ?_) (fun hc => ?_)
  · replace hf := it_t hf hc
    refine lv_iconst (pc := 14) (v := (1 : Int32)) hx hb dX8_sum_14 (by decide) ?_
    exact hB15 (1 : Int32) v0 v0 v1 z6.1 _ _ _ hf hR (lv_sub hl [0, 1] rfl)
  · replace hf := it_f hf hc
    refine lv_iconst (pc := 10) (v := (0 : Int32)) hx hb dX8_sum_10 (by decide) ?_
    refine lv_goto (pc := 11) (tgt := 15) hx hb dX8_sum_11 (by decide) ?_
    exact hB15 (0 : Int32) v0 v0 v1 z6.1 _ _ _ hf hR (lv_sub hl [0, 1] rfl)
-- X8_momentumNow
def f_X8_momentumNow_b31 (k4 : Nat → Int64 → Int32 → Mem → Option (Mem × Int64)) (s0 : Int64) (s1 : Int64) (v0 : Nat) (v3 : Int32) (M : Mem) : Option (Mem × Int64) := lt_ ((s1 + s0)) fun x1 => lt_ (v3 + (1 : Int32)) fun x2 => k4 v0 x1 x2 M
def f_X8_momentumNow_b4 (k4 : Nat → Int64 → Int32 → Mem → Option (Mem × Int64)) (v0 : Nat) (v1 : Int64) (v3 : Int32) (M : Mem) : Option (Mem × Int64) := gd (M.1 v0 = 8) <| if (mm_i M v0 6) ≤ v3 then (some (M, v1)) else (gd (M.1 v0 = 8) <| rd (mm_r M v0 12) fun a3 => gd (M.1 a3 = 10 ∧ vi_ v3 (mm_N M a3)) <| if (mm_i M a3 (v3).toNatClampNeg) = 0 then (f_X8_momentumNow_b31 k4 (0 : Int64) v1 v0 v3 M) else (gd (M.1 v0 = 8) <| bd (f_X8_momentumOf v0 v3 M) fun z4 => f_X8_momentumNow_b31 k4 z4.2 v1 v0 v3 z4.1))
def f_X8_momentumNow_L4  : Nat → Nat → Int64 → Int32 → Mem → Option (Mem × Int64)
  | 0 => fun _ _ _ _ => none
  | n + 1 => f_X8_momentumNow_b4  (f_X8_momentumNow_L4  n)
def f_X8_momentumNow (v0 : Nat) (M : Mem) : Option (Mem × Int64) := f_X8_momentumNow_L4 200 v0 (0 : Int64) (0 : Int32) M
abbrev rm_X8_momentumNow : Room := { frames := 1, cells := 0, slots := 0, locals := 21 }
theorem hd_X8_momentumNow : yX8_momentumNow.cls ≠ "java/lang/invoke/MethodHandle" ∧ yX8_momentumNow.cls ≠ "java/lang/invoke/VarHandle" ∧ (parseMethodDescriptor yX8_momentumNow.desc).map (fun d => d.parameters.length) = some 0 := by decide +kernel
set_option maxHeartbeats 8000000 in
set_option maxRecDepth 100000 in
theorem c_X8_momentumNow {l : Launch} {D : va_G} {ca : Nat → ClassId} {b : Nat} {nx : Bool} {v0 : Nat} {M : Mem} {r : Mem × Int64} (hf : f_X8_momentumNow v0 M = some r) : CtL l yX8_momentumNow cX8_momentumNow 4 (some .long) rm_X8_momentumNow D ca b nx [.ref v0] M r := by
  intro sz
  refine body_start (Qc := fun A => cvL D ca nx A r) (by decide +kernel) (Nat.le_of_ble_eq_true rfl) ?_
  intro p e s m args below meth c A hC hr hR ls hl
  obtain ⟨hx, hb, hml, hts, hown, hlocks, hXe, hA, hAb, hnm⟩ := id hC
  have hK := hXe.1
  have hl : lv_has ls 4 [(0, .ref v0)] := hl
  have hB31 : ∀ (k4 : Nat → Int64 → Int32 → Mem → Option (Mem × Int64)) (hk4 : ∀ (v0 : Nat) (v1 : Int64) (v3 : Int32) (M : Mem) (H : Heap) (locs : List Loc) (ls : Array Slot), k4 v0 v1 v3 M = some r → Hp D ca nx A s M H locs → lv_has ls 4 [(0, .ref v0), (1, .long v1), (3, .int v3)] → W p l e rm_X8_momentumNow s m args below meth c H locs 0 0 (MQ below (cvL D ca nx A r) args s 0 0 A) (F0 m 4 ls [])) (s0 : Int64) (s1 : Int64) (v0 : Nat) (v3 : Int32) (M : Mem) (H : Heap) (locs : List Loc) (ls : Array Slot), f_X8_momentumNow_b31 k4 s0 s1 v0 v3 M = some r → Hp D ca nx A s M H locs → lv_has ls 4 [(0, .ref v0), (3, .int v3)] → W p l e rm_X8_momentumNow s m args below meth c H locs 0 0 (MQ below (cvL D ca nx A r) args s 0 0 A) (F0 m 31 ls [.long s0, .long s1]) := by
    intro k4 hk4 s0 s1 v0 v3 M H locs ls hf hR hl
    unfold f_X8_momentumNow_b31 at hf
    refine lv_ladd (pc := 31) hx hb dX8_momentumNow_31 ?_
    refine nm_l hf (fun x1 hf => ?_)
    refine lv_lstore_n (pc := 32) (lv' := [(1, .long x1), (0, .ref v0), (3, .int v3)]) hx hb dX8_momentumNow_32 rfl hl (by decide) rfl (fun ls hl => ?_)
    refine rg_iinc (pc := 33) hx hb dX8_momentumNow_33 hl (k := 2) rfl rfl (by decide) hf (fun x2 ls hf hl => ?_)
    have hl : lv_has ls 4 [(3, .int x2), (1, .long x1), (0, .ref v0)] := hl
    refine lv_goto (pc := 36) (tgt := 4) hx hb dX8_momentumNow_36 (by decide) ?_
    exact hk4 v0 x1 x2 M _ _ _ hf hR (lv_sub hl [2, 1, 0] rfl)
  have hB4 : ∀ (k4 : Nat → Int64 → Int32 → Mem → Option (Mem × Int64)) (hk4 : ∀ (v0 : Nat) (v1 : Int64) (v3 : Int32) (M : Mem) (H : Heap) (locs : List Loc) (ls : Array Slot), k4 v0 v1 v3 M = some r → Hp D ca nx A s M H locs → lv_has ls 4 [(0, .ref v0), (1, .long v1), (3, .int v3)] → W p l e rm_X8_momentumNow s m args below meth c H locs 0 0 (MQ below (cvL D ca nx A r) args s 0 0 A) (F0 m 4 ls [])) (v0 : Nat) (v1 : Int64) (v3 : Int32) (M : Mem) (H : Heap) (locs : List Loc) (ls : Array Slot), f_X8_momentumNow_b4 k4 v0 v1 v3 M = some r → Hp D ca nx A s M H locs → lv_has ls 4 [(0, .ref v0), (1, .long v1), (3, .int v3)] → W p l e rm_X8_momentumNow s m args below meth c H locs 0 0 (MQ below (cvL D ca nx A r) args s 0 0 A) (F0 m 4 ls []) := by
    intro k4 hk4 v0 v1 v3 M H locs ls hf hR hl
    unfold f_X8_momentumNow_b4 at hf
    refine lv_iload_n (pc := 4) hx hb dX8_momentumNow_4 rfl (lv_at hl 2 rfl) ?_
    refine lv_aload_n (pc := 5) hx hb dX8_momentumNow_5 rfl (lv_at hl 0 rfl) ?_
    refine rg_get (pc := 6) (C := RX8) (T := TX8) (N := 37) (κ := 8) (v := .int (mm_i M v0 6)) hx hb hts hK hR hown in_8 rfl (by decide) 6 (by decide) m_674 rfl dX8_momentumNow_6 hf (fun hf => ?_)
    refine lv_icmp_ge (pc := 9) (tgt := 39) hx hb dX8_momentumNow_9 (by decide) (fun hc => ?_) (fun hc => ?_)
    · replace hf := it_t hf hc
      refine lv_lload_n (pc := 39) hx hb dX8_momentumNow_39 rfl (lv_at hl 1 rfl) ?_
      exact rg_lret (pc := 40) hx hb hlocks hr hf hR dX8_momentumNow_40
    · replace hf := it_f hf hc
      refine lv_lload_n (pc := 12) hx hb dX8_momentumNow_12 rfl (lv_at hl 1 rfl) ?_
      refine lv_aload_n (pc := 13) hx hb dX8_momentumNow_13 rfl (lv_at hl 0 rfl) ?_
      refine rg_getr (pc := 14) (C := RX8) (T := TX8) (N := 37) (κ := 8) hx hb hts hK hR hown in_8 rfl (by decide) 12 (by decide) m_680 rfl dX8_momentumNow_14 hf (fun a3 hf => ?_)
      refine lv_iload_n (pc := 17) hx hb dX8_momentumNow_17 rfl (lv_at hl 2 rfl) ?_
      refine rg_zald (pc := 18) hx hb hK hR dX8_momentumNow_18 hf (fun hf => ?_)
      refine lv_if_eq (pc := 19) (tgt := 30) hx hb dX8_momentumNow_19 (by decide) (fun hc => ?_) (fun hc => ?_)
      · replace hf := it_t hf hc
        refine lv_lconst (pc := 30) (v := (0 : Int64)) hx hb dX8_momentumNow_30 (by decide) ?_
        exact hB31 k4 hk4 (0 : Int64) v1 v0 v3 M _ _ _ hf hR (lv_sub hl [0, 2] rfl)
      · replace hf := it_f hf hc
        refine lv_aload_n (pc := 22) hx hb dX8_momentumNow_22 rfl (lv_at hl 0 rfl) ?_
        refine lv_iload_n (pc := 23) hx hb dX8_momentumNow_23 rfl (lv_at hl 2 rfl) ?_
        obtain ⟨hq, hf⟩ := gd_e hf
        refine rg_L (pc := 24) hf hR hA (fun z hz => rn_V (κ := 8) (As := [.int v3]) (rest := [.long v1]) hC hR rfl (by decide) hq (c_X8_momentumOf  hz _) m_838 m_840 ms_15 m_9 m_841 hd_X8_momentumOf ⟨rfl, rfl, Nat.le_of_ble_eq_true rfl, Nat.le_of_ble_eq_true rfl⟩ rfl hl.1 rfl (Nat.le_of_ble_eq_true rfl) dX8_momentumNow_24 ⟨Nat.le_of_ble_eq_true rfl, Nat.le_of_ble_eq_true rfl⟩) (fun z4 H locs hf hR => ?_)
        refine lv_goto (pc := 27) (tgt := 31) hx hb dX8_momentumNow_27 (by decide) ?_
        exact hB31 k4 hk4 z4.2 v1 v0 v3 z4.1 _ _ _ hf hR (lv_sub hl [0, 2] rfl)
  have hL4 : ∀  (n : Nat) (v0 : Nat) (v1 : Int64) (v3 : Int32) (M : Mem) (H : Heap) (locs : List Loc) (ls : Array Slot), f_X8_momentumNow_L4  n v0 v1 v3 M = some r → Hp D ca nx A s M H locs → lv_has ls 4 [(0, .ref v0), (1, .long v1), (3, .int v3)] → W p l e rm_X8_momentumNow s m args below meth c H locs 0 0 (MQ below (cvL D ca nx A r) args s 0 0 A) (F0 m 4 ls []) := by
    intro  n
    induction n with
    | zero => intro v0 v1 v3 M H locs ls hf; exact nomatch (show (none : Option (Mem × Int64)) = some r from hf)
    | succ n ih => intro v0 v1 v3 M H locs ls hf hR hl; exact hB4  (f_X8_momentumNow_L4  n) ih v0 v1 v3 M H locs ls hf hR hl
  unfold f_X8_momentumNow at hf
  refine lv_lconst (pc := 0) (v := (0 : Int64)) hx hb dX8_momentumNow_0 (by decide) ?_
  refine lv_lstore_n (pc := 1) (lv' := [(1, .long (0 : Int64)), (0, .ref v0)]) hx hb dX8_momentumNow_1 rfl hl (by decide) rfl (fun ls hl => ?_)
  refine lv_iconst (pc := 2) (v := (0 : Int32)) hx hb dX8_momentumNow_2 (by decide) ?_
  refine lv_istore_n (pc := 3) (lv' := [(3, .int (0 : Int32)), (1, .long (0 : Int64)), (0, .ref v0)]) hx hb dX8_momentumNow_3 rfl hl (by decide) rfl (fun ls hl => ?_)
  exact hL4 200 v0 (0 : Int64) (0 : Int32) M _ _ _ hf hR (lv_sub hl [2, 1, 0] rfl)
-- X8_momentum
def f_X8_momentum_b15  (s0 : Int32) (s1 : Nat) (v0 : Nat) (v1 : Int32) (M : Mem) : Option (Mem × Int64) := gd (M.1 s1 = 8) <| lt_ (ms_i M s1 0 s0) fun M1 => gd (M1.1 v0 = 8) <| if (mm_i M1 v0 0) ≤ 0 then (if v1 = (0 : Int32) then (gd (M1.1 v0 = 8) <| bd (f_X8_momentumNow v0 M1) fun z2 => some (z2.1, z2.2)) else if v1 = (1 : Int32) then (gd (M1.1 v0 = 8) <| some (M1, (((mm_i M1 v0 23)).toInt64 * (19 : Int64)))) else if v1 = (2 : Int32) then (gd (M1.1 v0 = 8) <| some (M1, (((mm_i M1 v0 24)).toInt64 * (84 : Int64)))) else if v1 = (3 : Int32) then (gd (M1.1 v0 = 8) <| some (M1, (mm_l M1 v0 26))) else if v1 = (4 : Int32) then (gd (M1.1 v0 = 8) <| some (M1, (mm_l M1 v0 27))) else (gd (M1.1 v0 = 8) <| some (M1, (mm_l M1 v0 28)))) else (some (M1, (0 : Int64)))
def f_X8_momentum (v0 : Nat) (v1 : Int32) (M : Mem) : Option (Mem × Int64) := bd (f_X8_isIn v1 (0 : Int32) (5 : Int32) M) fun z3 => if z3.2 = 0 then (f_X8_momentum_b15 (1 : Int32) v0 v0 v1 z3.1) else (f_X8_momentum_b15 (0 : Int32) v0 v0 v1 z3.1)
abbrev rm_X8_momentum : Room := { frames := 2, cells := 0, slots := 0, locals := 44 }
theorem hd_X8_momentum : yX8_momentum.cls ≠ "java/lang/invoke/MethodHandle" ∧ yX8_momentum.cls ≠ "java/lang/invoke/VarHandle" ∧ (parseMethodDescriptor yX8_momentum.desc).map (fun d => d.parameters.length) = some 1 := by decide +kernel
set_option maxHeartbeats 8000000 in
set_option maxRecDepth 100000 in
theorem c_X8_momentum {l : Launch} {D : va_G} {ca : Nat → ClassId} {b : Nat} {nx : Bool} {v0 : Nat} {v1 : Int32} {M : Mem} {r : Mem × Int64} (hf : f_X8_momentum v0 v1 M = some r) : CtL l yX8_momentum cX8_momentum 2 (some .long) rm_X8_momentum D ca b nx [.ref v0, .int v1] M r := by
  intro sz
  refine body_start (Qc := fun A => cvL D ca nx A r) (by decide +kernel) (Nat.le_of_ble_eq_true rfl) ?_
  intro p e s m args below meth c A hC hr hR ls hl
  obtain ⟨hx, hb, hml, hts, hown, hlocks, hXe, hA, hAb, hnm⟩ := id hC
  have hK := hXe.1
  have hl : lv_has ls 2 [(0, .ref v0), (1, .int v1)] := hl
  have hB15 : ∀  (s0 : Int32) (s1 : Nat) (v0 : Nat) (v1 : Int32) (M : Mem) (H : Heap) (locs : List Loc) (ls : Array Slot), f_X8_momentum_b15  s0 s1 v0 v1 M = some r → Hp D ca nx A s M H locs → lv_has ls 2 [(0, .ref v0), (1, .int v1)] → W p l e rm_X8_momentum s m args below meth c H locs 0 0 (MQ below (cvL D ca nx A r) args s 0 0 A) (F0 m 15 ls [.int s0, .ref s1]) := by
    intro  s0 s1 v0 v1 M H locs ls hf hR hl
    unfold f_X8_momentum_b15 at hf
    refine rg_puti (pc := 15) (C := RX8) (T := TX8) (N := 37) (κ := 8) hx hb hts hK hR hown in_8 rfl (by decide) 0 (by decide) m_668 tyX8 tyX8_ok nmX8 rfl rfl rfl rfl dX8_momentum_15 hf (fun M1 H locs hf hR => ?_)
    refine lv_aload_n (pc := 18) hx hb dX8_momentum_18 rfl (lv_at hl 0 rfl) ?_
    refine rg_get (pc := 19) (C := RX8) (T := TX8) (N := 37) (κ := 8) (v := .int (mm_i M1 v0 0)) hx hb hts hK hR hown in_8 rfl (by decide) 0 (by decide) m_668 rfl dX8_momentum_19 hf (fun hf => ?_)
    refine lv_if_le (pc := 22) (tgt := 27) hx hb dX8_momentum_22 (by decide) (fun hc => ?_) (fun hc => ?_)
    · replace hf := it_t hf hc
      refine lv_iload_n (pc := 27) hx hb dX8_momentum_27 rfl (lv_at hl 1 rfl) ?_
      by_cases hw0 : v1 = (0 : Int32)
      · replace hf := it_t hf hw0
        refine lv_tableIn (pc := 28) (off := 36) (tgt := 64) hx hb dX8_momentum_28 (by rw [hw0]; decide) (by rw [hw0]; decide) (by rw [hw0]; decide) (by decide) ?_
        refine lv_aload_n (pc := 64) hx hb dX8_momentum_64 rfl (lv_at hl 0 rfl) ?_
        obtain ⟨hq, hf⟩ := gd_e hf
        refine rg_L (pc := 65) hf hR hA (fun z hz => rn_V (κ := 8) (As := []) (rest := []) hC hR rfl (by decide) hq (c_X8_momentumNow  hz _) m_919 m_921 ms_25 m_9 m_922 hd_X8_momentumNow ⟨rfl, rfl, Nat.le_of_ble_eq_true rfl, Nat.le_of_ble_eq_true rfl⟩ rfl hl.1 rfl (Nat.le_of_ble_eq_true rfl) dX8_momentum_65 ⟨Nat.le_of_ble_eq_true rfl, Nat.le_of_ble_eq_true rfl⟩) (fun z2 H locs hf hR => ?_)
        exact rg_lret (pc := 68) hx hb hlocks hr hf hR dX8_momentum_68
      replace hf := it_f hf hw0
      by_cases hw1 : v1 = (1 : Int32)
      · replace hf := it_t hf hw1
        refine lv_tableIn (pc := 28) (off := 41) (tgt := 69) hx hb dX8_momentum_28 (by rw [hw1]; decide) (by rw [hw1]; decide) (by rw [hw1]; decide) (by decide) ?_
        refine lv_aload_n (pc := 69) hx hb dX8_momentum_69 rfl (lv_at hl 0 rfl) ?_
        refine rg_get (pc := 70) (C := RX8) (T := TX8) (N := 37) (κ := 8) (v := .int (mm_i M1 v0 23)) hx hb hts hK hR hown in_8 rfl (by decide) 23 (by decide) m_691 rfl dX8_momentum_70 hf (fun hf => ?_)
        refine lv_i2l (pc := 73) hx hb dX8_momentum_73 rfl ?_
        refine lv_ldc2 (pc := 74) hx hb hown (hts _ m_923) dX8_momentum_74 ?_
        refine lv_lmul (pc := 77) hx hb dX8_momentum_77 ?_
        exact rg_lret (pc := 78) hx hb hlocks hr hf hR dX8_momentum_78
      replace hf := it_f hf hw1
      by_cases hw2 : v1 = (2 : Int32)
      · replace hf := it_t hf hw2
        refine lv_tableIn (pc := 28) (off := 51) (tgt := 79) hx hb dX8_momentum_28 (by rw [hw2]; decide) (by rw [hw2]; decide) (by rw [hw2]; decide) (by decide) ?_
        refine lv_aload_n (pc := 79) hx hb dX8_momentum_79 rfl (lv_at hl 0 rfl) ?_
        refine rg_get (pc := 80) (C := RX8) (T := TX8) (N := 37) (κ := 8) (v := .int (mm_i M1 v0 24)) hx hb hts hK hR hown in_8 rfl (by decide) 24 (by decide) m_692 rfl dX8_momentum_80 hf (fun hf => ?_)
        refine lv_i2l (pc := 83) hx hb dX8_momentum_83 rfl ?_
        refine lv_ldc2 (pc := 84) hx hb hown (hts _ m_924) dX8_momentum_84 ?_
        refine lv_lmul (pc := 87) hx hb dX8_momentum_87 ?_
        exact rg_lret (pc := 88) hx hb hlocks hr hf hR dX8_momentum_88
      replace hf := it_f hf hw2
      by_cases hw3 : v1 = (3 : Int32)
      · replace hf := it_t hf hw3
        refine lv_tableIn (pc := 28) (off := 61) (tgt := 89) hx hb dX8_momentum_28 (by rw [hw3]; decide) (by rw [hw3]; decide) (by rw [hw3]; decide) (by decide) ?_
        refine lv_aload_n (pc := 89) hx hb dX8_momentum_89 rfl (lv_at hl 0 rfl) ?_
        refine rg_get (pc := 90) (C := RX8) (T := TX8) (N := 37) (κ := 8) (v := .long (mm_l M1 v0 26)) hx hb hts hK hR hown in_8 rfl (by decide) 26 (by decide) m_694 rfl dX8_momentum_90 hf (fun hf => ?_)
        exact rg_lret (pc := 93) hx hb hlocks hr hf hR dX8_momentum_93
      replace hf := it_f hf hw3
      by_cases hw4 : v1 = (4 : Int32)
      · replace hf := it_t hf hw4
        refine lv_tableIn (pc := 28) (off := 66) (tgt := 94) hx hb dX8_momentum_28 (by rw [hw4]; decide) (by rw [hw4]; decide) (by rw [hw4]; decide) (by decide) ?_
        refine lv_aload_n (pc := 94) hx hb dX8_momentum_94 rfl (lv_at hl 0 rfl) ?_
        refine rg_get (pc := 95) (C := RX8) (T := TX8) (N := 37) (κ := 8) (v := .long (mm_l M1 v0 27)) hx hb hts hK hR hown in_8 rfl (by decide) 27 (by decide) m_695 rfl dX8_momentum_95 hf (fun hf => ?_)
        exact rg_lret (pc := 98) hx hb hlocks hr hf hR dX8_momentum_98
      replace hf := it_f hf hw4
      refine lv_tableOut (pc := 28) (tgt := 99) hx hb dX8_momentum_28 (by have h0 := sw_ne (0 : Int32) (k := 0) (by decide) hw0; have h1 := sw_ne (1 : Int32) (k := 1) (by decide) hw1; have h2 := sw_ne (2 : Int32) (k := 2) (by decide) hw2; have h3 := sw_ne (3 : Int32) (k := 3) (by decide) hw3; have h4 := sw_ne (4 : Int32) (k := 4) (by decide) hw4; omega) (by decide) ?_
      refine lv_aload_n (pc := 99) hx hb dX8_momentum_99 rfl (lv_at hl 0 rfl) ?_
      refine rg_get (pc := 100) (C := RX8) (T := TX8) (N := 37) (κ := 8) (v := .long (mm_l M1 v0 28)) hx hb hts hK hR hown in_8 rfl (by decide) 28 (by decide) m_696 rfl dX8_momentum_100 hf (fun hf => ?_)
      exact rg_lret (pc := 103) hx hb hlocks hr hf hR dX8_momentum_103
    · replace hf := it_f hf hc
      refine lv_lconst (pc := 25) (v := (0 : Int64)) hx hb dX8_momentum_25 (by decide) ?_
      exact rg_lret (pc := 26) hx hb hlocks hr hf hR dX8_momentum_26
  unfold f_X8_momentum at hf
  refine lv_aload_n (pc := 0) hx hb dX8_momentum_0 rfl (lv_at hl 0 rfl) ?_
  refine lv_iload_n (pc := 1) hx hb dX8_momentum_1 rfl (lv_at hl 1 rfl) ?_
  refine lv_iconst (pc := 2) (v := (0 : Int32)) hx hb dX8_momentum_2 (by decide) ?_
  refine lv_iconst (pc := 3) (v := (5 : Int32)) hx hb dX8_momentum_3 (by decide) ?_
  refine rg_I (pc := 4) hf hR hA (fun z hz => rn_S (As := [.int v1, .int (0 : Int32), .int (5 : Int32)]) (rest := [.ref v0]) hC hR (c_X8_isIn  hz _) m_792 m_793 m_9 m_794 hd_X8_isIn ⟨rfl, rfl, Nat.le_of_ble_eq_true rfl, Nat.le_of_ble_eq_true rfl⟩ rfl hl.1 rfl (Nat.le_of_ble_eq_true rfl) dX8_momentum_4 ⟨Nat.le_of_ble_eq_true rfl, Nat.le_of_ble_eq_true rfl⟩) (fun z3 H locs hf hR => ?_)
  refine lv_if_eq (pc := 7) (tgt := 14) hx hb dX8_momentum_7 (by decide) (fun hc => ?_) (fun hc => ?_)
  · replace hf := it_t hf hc
    refine lv_iconst (pc := 14) (v := (1 : Int32)) hx hb dX8_momentum_14 (by decide) ?_
    exact hB15 (1 : Int32) v0 v0 v1 z3.1 _ _ _ hf hR (lv_sub hl [0, 1] rfl)
  · replace hf := it_f hf hc
    refine lv_iconst (pc := 10) (v := (0 : Int32)) hx hb dX8_momentum_10 (by decide) ?_
    refine lv_goto (pc := 11) (tgt := 15) hx hb dX8_momentum_11 (by decide) ?_
    exact hB15 (0 : Int32) v0 v0 v1 z3.1 _ _ _ hf hR (lv_sub hl [0, 1] rfl)
-- X8_momentumByLanes
def f_X8_momentumByLanes (v0 : Nat) (M : Mem) : Option (Mem × Int64) := gd (M.1 v0 = 8) <| lt_ (ms_i M v0 0 (0 : Int32)) fun M1 => gd (M1.1 v0 = 8) <| bd (f_X8_momentumNow v0 M1) fun z2 => some (z2.1, z2.2)
abbrev rm_X8_momentumByLanes : Room := { frames := 2, cells := 0, slots := 0, locals := 44 }
theorem hd_X8_momentumByLanes : yX8_momentumByLanes.cls ≠ "java/lang/invoke/MethodHandle" ∧ yX8_momentumByLanes.cls ≠ "java/lang/invoke/VarHandle" ∧ (parseMethodDescriptor yX8_momentumByLanes.desc).map (fun d => d.parameters.length) = some 0 := by decide +kernel
set_option maxHeartbeats 8000000 in
set_option maxRecDepth 100000 in
theorem c_X8_momentumByLanes {l : Launch} {D : va_G} {ca : Nat → ClassId} {b : Nat} {nx : Bool} {v0 : Nat} {M : Mem} {r : Mem × Int64} (hf : f_X8_momentumByLanes v0 M = some r) : CtL l yX8_momentumByLanes cX8_momentumByLanes 1 (some .long) rm_X8_momentumByLanes D ca b nx [.ref v0] M r := by
  intro sz
  refine body_start (Qc := fun A => cvL D ca nx A r) (by decide +kernel) (Nat.le_of_ble_eq_true rfl) ?_
  intro p e s m args below meth c A hC hr hR ls hl
  obtain ⟨hx, hb, hml, hts, hown, hlocks, hXe, hA, hAb, hnm⟩ := id hC
  have hK := hXe.1
  have hl : lv_has ls 1 [(0, .ref v0)] := hl
  unfold f_X8_momentumByLanes at hf
  refine lv_aload_n (pc := 0) hx hb dX8_momentumByLanes_0 rfl (lv_at hl 0 rfl) ?_
  refine lv_iconst (pc := 1) (v := (0 : Int32)) hx hb dX8_momentumByLanes_1 (by decide) ?_
  refine rg_puti (pc := 2) (C := RX8) (T := TX8) (N := 37) (κ := 8) hx hb hts hK hR hown in_8 rfl (by decide) 0 (by decide) m_668 tyX8 tyX8_ok nmX8 rfl rfl rfl rfl dX8_momentumByLanes_2 hf (fun M1 H locs hf hR => ?_)
  refine lv_aload_n (pc := 5) hx hb dX8_momentumByLanes_5 rfl (lv_at hl 0 rfl) ?_
  obtain ⟨hq, hf⟩ := gd_e hf
  refine rg_L (pc := 6) hf hR hA (fun z hz => rn_V (κ := 8) (As := []) (rest := []) hC hR rfl (by decide) hq (c_X8_momentumNow  hz _) m_919 m_921 ms_25 m_9 m_922 hd_X8_momentumNow ⟨rfl, rfl, Nat.le_of_ble_eq_true rfl, Nat.le_of_ble_eq_true rfl⟩ rfl hl.1 rfl (Nat.le_of_ble_eq_true rfl) dX8_momentumByLanes_6 ⟨Nat.le_of_ble_eq_true rfl, Nat.le_of_ble_eq_true rfl⟩) (fun z2 H locs hf hR => ?_)
  exact rg_lret (pc := 9) hx hb hlocks hr hf hR dX8_momentumByLanes_9
-- X8_resonanceOf
def f_X8_resonanceOf_b107 (k9 : Nat → Int32 → Int32 → Int32 → Int32 → Int32 → Mem → Option (Mem × Int32)) (k19 : Nat → Int32 → Int32 → Int32 → Int32 → Int32 → Int32 → Mem → Option (Mem × Int32)) (v0 : Nat) (v1 : Int32) (v2 : Int32) (v3 : Int32) (v4 : Int32) (v5 : Int32) (v6 : Int32) (M : Mem) : Option (Mem × Int32) := lt_ (v6 + (1 : Int32)) fun x1 => k19 v0 v1 v2 v3 v4 v5 x1 M
def f_X8_resonanceOf_b68 (k9 : Nat → Int32 → Int32 → Int32 → Int32 → Int32 → Mem → Option (Mem × Int32)) (k19 : Nat → Int32 → Int32 → Int32 → Int32 → Int32 → Int32 → Mem → Option (Mem × Int32)) (s0 : Int32) (v0 : Nat) (v1 : Int32) (v2 : Int32) (v3 : Int32) (v4 : Int32) (v5 : Int32) (v6 : Int32) (M : Mem) : Option (Mem × Int32) := if s0 = 0 then (f_X8_resonanceOf_b107 k9 k19 v0 v1 v2 v3 v4 v5 v6 M) else (bd (f_X8_size (v5 - v6) M) fun z2 => if v4 ≤ z2.2 then (f_X8_resonanceOf_b107 k9 k19 v0 v1 v2 v3 v4 v5 v6 z2.1) else (bd (f_X8_size (v5 - v6) z2.1) fun z3 => lt_ ((((10 : Int32) * v5) + v6)) fun x4 => f_X8_resonanceOf_b107 k9 k19 v0 v1 v2 x4 z3.2 v5 v6 z3.1))
def f_X8_resonanceOf_b67 (k9 : Nat → Int32 → Int32 → Int32 → Int32 → Int32 → Mem → Option (Mem × Int32)) (k19 : Nat → Int32 → Int32 → Int32 → Int32 → Int32 → Int32 → Mem → Option (Mem × Int32)) (v0 : Nat) (v1 : Int32) (v2 : Int32) (v3 : Int32) (v4 : Int32) (v5 : Int32) (v6 : Int32) (M : Mem) : Option (Mem × Int32) := f_X8_resonanceOf_b68 k9 k19 (0 : Int32) v0 v1 v2 v3 v4 v5 v6 M
def f_X8_resonanceOf_b19 (k9 : Nat → Int32 → Int32 → Int32 → Int32 → Int32 → Mem → Option (Mem × Int32)) (k19 : Nat → Int32 → Int32 → Int32 → Int32 → Int32 → Int32 → Mem → Option (Mem × Int32)) (v0 : Nat) (v1 : Int32) (v2 : Int32) (v3 : Int32) (v4 : Int32) (v5 : Int32) (v6 : Int32) (M : Mem) : Option (Mem × Int32) := if (10 : Int32) ≤ v6 then (lt_ (v5 + (1 : Int32)) fun x5 => k9 v0 v1 v2 v3 v4 x5 M) else (if v5 = v6 then (f_X8_resonanceOf_b67 k9 k19 v0 v1 v2 v3 v4 v5 v6 M) else (gd (M.1 v0 = 8) <| rd (mm_r M v0 15) fun a6 => gd (M.1 a6 = 9 ∧ vi_ v1 (mm_N M a6)) <| gd (M.1 v0 = 8) <| bd (f_X8_speedOf v0 (mm_i M a6 (v1).toNatClampNeg) M) fun z7 => gd (z7.1.1 v0 = 8) <| bd (f_X8_speedOf v0 v2 z7.1) fun z8 => bd (f_X8_size ((v5 * z7.2) - (v6 * z8.2)) z8.1) fun z9 => if (20 : Int32) < z9.2 then (f_X8_resonanceOf_b67 k9 k19 v0 v1 v2 v3 v4 v5 v6 z9.1) else (f_X8_resonanceOf_b68 k9 k19 (1 : Int32) v0 v1 v2 v3 v4 v5 v6 z9.1)))
def f_X8_resonanceOf_L19 (k9 : Nat → Int32 → Int32 → Int32 → Int32 → Int32 → Mem → Option (Mem × Int32)) : Nat → Nat → Int32 → Int32 → Int32 → Int32 → Int32 → Int32 → Mem → Option (Mem × Int32)
  | 0 => fun _ _ _ _ _ _ _ _ => none
  | n + 1 => f_X8_resonanceOf_b19 k9 (f_X8_resonanceOf_L19 k9 n)
def f_X8_resonanceOf_b9 (k9 : Nat → Int32 → Int32 → Int32 → Int32 → Int32 → Mem → Option (Mem × Int32)) (v0 : Nat) (v1 : Int32) (v2 : Int32) (v3 : Int32) (v4 : Int32) (v5 : Int32) (M : Mem) : Option (Mem × Int32) := if (10 : Int32) ≤ v5 then (some (M, v3)) else (f_X8_resonanceOf_L19 k9 200 v0 v1 v2 v3 v4 v5 (1 : Int32) M)
def f_X8_resonanceOf_L9  : Nat → Nat → Int32 → Int32 → Int32 → Int32 → Int32 → Mem → Option (Mem × Int32)
  | 0 => fun _ _ _ _ _ _ _ => none
  | n + 1 => f_X8_resonanceOf_b9  (f_X8_resonanceOf_L9  n)
def f_X8_resonanceOf (v0 : Nat) (v1 : Int32) (v2 : Int32) (M : Mem) : Option (Mem × Int32) := f_X8_resonanceOf_L9 200 v0 v1 v2 (-1 : Int32) (9 : Int32) (1 : Int32) M
abbrev rm_X8_resonanceOf : Room := { frames := 1, cells := 0, slots := 0, locals := 22 }
theorem hd_X8_resonanceOf : yX8_resonanceOf.cls ≠ "java/lang/invoke/MethodHandle" ∧ yX8_resonanceOf.cls ≠ "java/lang/invoke/VarHandle" ∧ (parseMethodDescriptor yX8_resonanceOf.desc).map (fun d => d.parameters.length) = some 2 := by decide +kernel
set_option maxHeartbeats 8000000 in
set_option maxRecDepth 100000 in
theorem c_X8_resonanceOf {l : Launch} {D : va_G} {ca : Nat → ClassId} {b : Nat} {nx : Bool} {v0 : Nat} {v1 : Int32} {v2 : Int32} {M : Mem} {r : Mem × Int32} (hf : f_X8_resonanceOf v0 v1 v2 M = some r) : CtI l yX8_resonanceOf cX8_resonanceOf 8 (some .int) rm_X8_resonanceOf D ca b nx [.ref v0, .int v1, .int v2] M r := by
  intro sz
  refine body_start (Qc := fun A => cvI D ca nx A r) (by decide +kernel) (Nat.le_of_ble_eq_true rfl) ?_
  intro p e s m args below meth c A hC hr hR ls hl
  obtain ⟨hx, hb, hml, hts, hown, hlocks, hXe, hA, hAb, hnm⟩ := id hC
  have hK := hXe.1
  have hl : lv_has ls 8 [(0, .ref v0), (1, .int v1), (2, .int v2)] := hl
  have hB107 : ∀ (k9 : Nat → Int32 → Int32 → Int32 → Int32 → Int32 → Mem → Option (Mem × Int32)) (hk9 : ∀ (v0 : Nat) (v1 : Int32) (v2 : Int32) (v3 : Int32) (v4 : Int32) (v5 : Int32) (M : Mem) (H : Heap) (locs : List Loc) (ls : Array Slot), k9 v0 v1 v2 v3 v4 v5 M = some r → Hp D ca nx A s M H locs → lv_has ls 8 [(0, .ref v0), (1, .int v1), (2, .int v2), (3, .int v3), (4, .int v4), (5, .int v5)] → W p l e rm_X8_resonanceOf s m args below meth c H locs 0 0 (MQ below (cvI D ca nx A r) args s 0 0 A) (F0 m 9 ls [])) (k19 : Nat → Int32 → Int32 → Int32 → Int32 → Int32 → Int32 → Mem → Option (Mem × Int32)) (hk19 : ∀ (v0 : Nat) (v1 : Int32) (v2 : Int32) (v3 : Int32) (v4 : Int32) (v5 : Int32) (v6 : Int32) (M : Mem) (H : Heap) (locs : List Loc) (ls : Array Slot), k19 v0 v1 v2 v3 v4 v5 v6 M = some r → Hp D ca nx A s M H locs → lv_has ls 8 [(0, .ref v0), (1, .int v1), (2, .int v2), (3, .int v3), (4, .int v4), (5, .int v5), (6, .int v6)] → W p l e rm_X8_resonanceOf s m args below meth c H locs 0 0 (MQ below (cvI D ca nx A r) args s 0 0 A) (F0 m 19 ls [])) (v0 : Nat) (v1 : Int32) (v2 : Int32) (v3 : Int32) (v4 : Int32) (v5 : Int32) (v6 : Int32) (M : Mem) (H : Heap) (locs : List Loc) (ls : Array Slot), f_X8_resonanceOf_b107 k9 k19 v0 v1 v2 v3 v4 v5 v6 M = some r → Hp D ca nx A s M H locs → lv_has ls 8 [(0, .ref v0), (1, .int v1), (2, .int v2), (3, .int v3), (4, .int v4), (5, .int v5), (6, .int v6)] → W p l e rm_X8_resonanceOf s m args below meth c H locs 0 0 (MQ below (cvI D ca nx A r) args s 0 0 A) (F0 m 107 ls []) := by
    intro k9 hk9 k19 hk19 v0 v1 v2 v3 v4 v5 v6 M H locs ls hf hR hl
    unfold f_X8_resonanceOf_b107 at hf
    refine rg_iinc (pc := 107) hx hb dX8_resonanceOf_107 hl (k := 6) rfl rfl (by decide) hf (fun x1 ls hf hl => ?_)
    have hl : lv_has ls 8 [(6, .int x1), (0, .ref v0), (1, .int v1), (2, .int v2), (3, .int v3), (4, .int v4), (5, .int v5)] := hl
    refine lv_goto (pc := 110) (tgt := 19) hx hb dX8_resonanceOf_110 (by decide) ?_
    exact hk19 v0 v1 v2 v3 v4 v5 x1 M _ _ _ hf hR (lv_sub hl [1, 2, 3, 4, 5, 6, 0] rfl)
  have hB68 : ∀ (k9 : Nat → Int32 → Int32 → Int32 → Int32 → Int32 → Mem → Option (Mem × Int32)) (hk9 : ∀ (v0 : Nat) (v1 : Int32) (v2 : Int32) (v3 : Int32) (v4 : Int32) (v5 : Int32) (M : Mem) (H : Heap) (locs : List Loc) (ls : Array Slot), k9 v0 v1 v2 v3 v4 v5 M = some r → Hp D ca nx A s M H locs → lv_has ls 8 [(0, .ref v0), (1, .int v1), (2, .int v2), (3, .int v3), (4, .int v4), (5, .int v5)] → W p l e rm_X8_resonanceOf s m args below meth c H locs 0 0 (MQ below (cvI D ca nx A r) args s 0 0 A) (F0 m 9 ls [])) (k19 : Nat → Int32 → Int32 → Int32 → Int32 → Int32 → Int32 → Mem → Option (Mem × Int32)) (hk19 : ∀ (v0 : Nat) (v1 : Int32) (v2 : Int32) (v3 : Int32) (v4 : Int32) (v5 : Int32) (v6 : Int32) (M : Mem) (H : Heap) (locs : List Loc) (ls : Array Slot), k19 v0 v1 v2 v3 v4 v5 v6 M = some r → Hp D ca nx A s M H locs → lv_has ls 8 [(0, .ref v0), (1, .int v1), (2, .int v2), (3, .int v3), (4, .int v4), (5, .int v5), (6, .int v6)] → W p l e rm_X8_resonanceOf s m args below meth c H locs 0 0 (MQ below (cvI D ca nx A r) args s 0 0 A) (F0 m 19 ls [])) (s0 : Int32) (v0 : Nat) (v1 : Int32) (v2 : Int32) (v3 : Int32) (v4 : Int32) (v5 : Int32) (v6 : Int32) (M : Mem) (H : Heap) (locs : List Loc) (ls : Array Slot), f_X8_resonanceOf_b68 k9 k19 s0 v0 v1 v2 v3 v4 v5 v6 M = some r → Hp D ca nx A s M H locs → lv_has ls 8 [(0, .ref v0), (1, .int v1), (2, .int v2), (3, .int v3), (4, .int v4), (5, .int v5), (6, .int v6)] → W p l e rm_X8_resonanceOf s m args below meth c H locs 0 0 (MQ below (cvI D ca nx A r) args s 0 0 A) (F0 m 68 ls [.int s0]) := by
    intro k9 hk9 k19 hk19 s0 v0 v1 v2 v3 v4 v5 v6 M H locs ls hf hR hl
    unfold f_X8_resonanceOf_b68 at hf
    refine lv_istore (pc := 68) (lv' := [(7, .int s0), (0, .ref v0), (1, .int v1), (2, .int v2), (3, .int v3), (4, .int v4), (5, .int v5), (6, .int v6)]) hx hb dX8_resonanceOf_68 hl (by decide) rfl (fun ls hl => ?_)
    refine lv_iload (pc := 70) hx hb dX8_resonanceOf_70 (lv_at hl 0 rfl) ?_
    refine lv_if_eq (pc := 72) (tgt := 107) hx hb dX8_resonanceOf_72 (by decide) (fun hc => ?_) (fun hc => ?_)
    · replace hf := it_t hf hc
      exact hB107 k9 hk9 k19 hk19 v0 v1 v2 v3 v4 v5 v6 M _ _ _ hf hR (lv_sub hl [1, 2, 3, 4, 5, 6, 7] rfl)
    · replace hf := it_f hf hc
      refine lv_iload (pc := 75) hx hb dX8_resonanceOf_75 (lv_at hl 6 rfl) ?_
      refine lv_iload (pc := 77) hx hb dX8_resonanceOf_77 (lv_at hl 7 rfl) ?_
      refine lv_isub (pc := 79) hx hb dX8_resonanceOf_79 ?_
      refine rg_I (pc := 80) hf hR hA (fun z hz => rn_S (As := [.int (v5 - v6)]) (rest := []) hC hR (c_X8_size  hz _) m_832 m_833 m_9 m_834 hd_X8_size ⟨rfl, rfl, Nat.le_of_ble_eq_true rfl, Nat.le_of_ble_eq_true rfl⟩ rfl hl.1 rfl (Nat.le_of_ble_eq_true rfl) dX8_resonanceOf_80 ⟨Nat.le_of_ble_eq_true rfl, Nat.le_of_ble_eq_true rfl⟩) (fun z2 H locs hf hR => ?_)
      refine lv_iload (pc := 83) hx hb dX8_resonanceOf_83 (lv_at hl 5 rfl) ?_
      refine lv_icmp_ge (pc := 85) (tgt := 107) hx hb dX8_resonanceOf_85 (by decide) (fun hc => ?_) (fun hc => ?_)
      · replace hf := it_t hf hc
        exact hB107 k9 hk9 k19 hk19 v0 v1 v2 v3 v4 v5 v6 z2.1 _ _ _ hf hR (lv_sub hl [1, 2, 3, 4, 5, 6, 7] rfl)
      · replace hf := it_f hf hc
        refine lv_iload (pc := 88) hx hb dX8_resonanceOf_88 (lv_at hl 6 rfl) ?_
        refine lv_iload (pc := 90) hx hb dX8_resonanceOf_90 (lv_at hl 7 rfl) ?_
        refine lv_isub (pc := 92) hx hb dX8_resonanceOf_92 ?_
        refine rg_I (pc := 93) hf hR hA (fun z hz => rn_S (As := [.int (v5 - v6)]) (rest := []) hC hR (c_X8_size  hz _) m_832 m_833 m_9 m_834 hd_X8_size ⟨rfl, rfl, Nat.le_of_ble_eq_true rfl, Nat.le_of_ble_eq_true rfl⟩ rfl hl.1 rfl (Nat.le_of_ble_eq_true rfl) dX8_resonanceOf_93 ⟨Nat.le_of_ble_eq_true rfl, Nat.le_of_ble_eq_true rfl⟩) (fun z3 H locs hf hR => ?_)
        refine lv_istore (pc := 96) (lv' := [(4, .int z3.2), (7, .int s0), (0, .ref v0), (1, .int v1), (2, .int v2), (3, .int v3), (5, .int v5), (6, .int v6)]) hx hb dX8_resonanceOf_96 hl (by decide) rfl (fun ls hl => ?_)
        refine lv_bipush (pc := 98) (v := (10 : Int32)) hx hb dX8_resonanceOf_98 (by decide) ?_
        refine lv_iload (pc := 100) hx hb dX8_resonanceOf_100 (lv_at hl 6 rfl) ?_
        refine lv_imul (pc := 102) hx hb dX8_resonanceOf_102 ?_
        refine lv_iload (pc := 103) hx hb dX8_resonanceOf_103 (lv_at hl 7 rfl) ?_
        refine lv_iadd (pc := 105) hx hb dX8_resonanceOf_105 ?_
        refine nm_i hf (fun x4 hf => ?_)
        refine lv_istore_n (pc := 106) (lv' := [(3, .int x4), (4, .int z3.2), (7, .int s0), (0, .ref v0), (1, .int v1), (2, .int v2), (5, .int v5), (6, .int v6)]) hx hb dX8_resonanceOf_106 rfl hl (by decide) rfl (fun ls hl => ?_)
        exact hB107 k9 hk9 k19 hk19 v0 v1 v2 x4 z3.2 v5 v6 z3.1 _ _ _ hf hR (lv_sub hl [3, 4, 5, 0, 1, 6, 7] rfl)
  have hB67 : ∀ (k9 : Nat → Int32 → Int32 → Int32 → Int32 → Int32 → Mem → Option (Mem × Int32)) (hk9 : ∀ (v0 : Nat) (v1 : Int32) (v2 : Int32) (v3 : Int32) (v4 : Int32) (v5 : Int32) (M : Mem) (H : Heap) (locs : List Loc) (ls : Array Slot), k9 v0 v1 v2 v3 v4 v5 M = some r → Hp D ca nx A s M H locs → lv_has ls 8 [(0, .ref v0), (1, .int v1), (2, .int v2), (3, .int v3), (4, .int v4), (5, .int v5)] → W p l e rm_X8_resonanceOf s m args below meth c H locs 0 0 (MQ below (cvI D ca nx A r) args s 0 0 A) (F0 m 9 ls [])) (k19 : Nat → Int32 → Int32 → Int32 → Int32 → Int32 → Int32 → Mem → Option (Mem × Int32)) (hk19 : ∀ (v0 : Nat) (v1 : Int32) (v2 : Int32) (v3 : Int32) (v4 : Int32) (v5 : Int32) (v6 : Int32) (M : Mem) (H : Heap) (locs : List Loc) (ls : Array Slot), k19 v0 v1 v2 v3 v4 v5 v6 M = some r → Hp D ca nx A s M H locs → lv_has ls 8 [(0, .ref v0), (1, .int v1), (2, .int v2), (3, .int v3), (4, .int v4), (5, .int v5), (6, .int v6)] → W p l e rm_X8_resonanceOf s m args below meth c H locs 0 0 (MQ below (cvI D ca nx A r) args s 0 0 A) (F0 m 19 ls [])) (v0 : Nat) (v1 : Int32) (v2 : Int32) (v3 : Int32) (v4 : Int32) (v5 : Int32) (v6 : Int32) (M : Mem) (H : Heap) (locs : List Loc) (ls : Array Slot), f_X8_resonanceOf_b67 k9 k19 v0 v1 v2 v3 v4 v5 v6 M = some r → Hp D ca nx A s M H locs → lv_has ls 8 [(0, .ref v0), (1, .int v1), (2, .int v2), (3, .int v3), (4, .int v4), (5, .int v5), (6, .int v6)] → W p l e rm_X8_resonanceOf s m args below meth c H locs 0 0 (MQ below (cvI D ca nx A r) args s 0 0 A) (F0 m 67 ls []) := by
    intro k9 hk9 k19 hk19 v0 v1 v2 v3 v4 v5 v6 M H locs ls hf hR hl
    unfold f_X8_resonanceOf_b67 at hf
    refine lv_iconst (pc := 67) (v := (0 : Int32)) hx hb dX8_resonanceOf_67 (by decide) ?_
    exact hB68 k9 hk9 k19 hk19 (0 : Int32) v0 v1 v2 v3 v4 v5 v6 M _ _ _ hf hR (lv_sub hl [0, 1, 2, 3, 4, 5, 6] rfl)
  have hB19 : ∀ (k9 : Nat → Int32 → Int32 → Int32 → Int32 → Int32 → Mem → Option (Mem × Int32)) (hk9 : ∀ (v0 : Nat) (v1 : Int32) (v2 : Int32) (v3 : Int32) (v4 : Int32) (v5 : Int32) (M : Mem) (H : Heap) (locs : List Loc) (ls : Array Slot), k9 v0 v1 v2 v3 v4 v5 M = some r → Hp D ca nx A s M H locs → lv_has ls 8 [(0, .ref v0), (1, .int v1), (2, .int v2), (3, .int v3), (4, .int v4), (5, .int v5)] → W p l e rm_X8_resonanceOf s m args below meth c H locs 0 0 (MQ below (cvI D ca nx A r) args s 0 0 A) (F0 m 9 ls [])) (k19 : Nat → Int32 → Int32 → Int32 → Int32 → Int32 → Int32 → Mem → Option (Mem × Int32)) (hk19 : ∀ (v0 : Nat) (v1 : Int32) (v2 : Int32) (v3 : Int32) (v4 : Int32) (v5 : Int32) (v6 : Int32) (M : Mem) (H : Heap) (locs : List Loc) (ls : Array Slot), k19 v0 v1 v2 v3 v4 v5 v6 M = some r → Hp D ca nx A s M H locs → lv_has ls 8 [(0, .ref v0), (1, .int v1), (2, .int v2), (3, .int v3), (4, .int v4), (5, .int v5), (6, .int v6)] → W p l e rm_X8_resonanceOf s m args below meth c H locs 0 0 (MQ below (cvI D ca nx A r) args s 0 0 A) (F0 m 19 ls [])) (v0 : Nat) (v1 : Int32) (v2 : Int32) (v3 : Int32) (v4 : Int32) (v5 : Int32) (v6 : Int32) (M : Mem) (H : Heap) (locs : List Loc) (ls : Array Slot), f_X8_resonanceOf_b19 k9 k19 v0 v1 v2 v3 v4 v5 v6 M = some r → Hp D ca nx A s M H locs → lv_has ls 8 [(0, .ref v0), (1, .int v1), (2, .int v2), (3, .int v3), (4, .int v4), (5, .int v5), (6, .int v6)] → W p l e rm_X8_resonanceOf s m args below meth c H locs 0 0 (MQ below (cvI D ca nx A r) args s 0 0 A) (F0 m 19 ls []) := by
    intro k9 hk9 k19 hk19 v0 v1 v2 v3 v4 v5 v6 M H locs ls hf hR hl
    unfold f_X8_resonanceOf_b19 at hf
    refine lv_iload (pc := 19) hx hb dX8_resonanceOf_19 (lv_at hl 6 rfl) ?_
    refine lv_bipush (pc := 21) (v := (10 : Int32)) hx hb dX8_resonanceOf_21 (by decide) ?_
    refine lv_icmp_ge (pc := 23) (tgt := 113) hx hb dX8_resonanceOf_23 (by decide) (fun hc => ?_) (fun hc => ?_)
    · replace hf := it_t hf hc
      refine rg_iinc (pc := 113) hx hb dX8_resonanceOf_113 hl (k := 5) rfl rfl (by decide) hf (fun x5 ls hf hl => ?_)
      have hl : lv_has ls 8 [(5, .int x5), (0, .ref v0), (1, .int v1), (2, .int v2), (3, .int v3), (4, .int v4), (6, .int v6)] := hl
      refine lv_goto (pc := 116) (tgt := 9) hx hb dX8_resonanceOf_116 (by decide) ?_
      exact hk9 v0 v1 v2 v3 v4 x5 M _ _ _ hf hR (lv_sub hl [1, 2, 3, 4, 5, 0] rfl)
    · replace hf := it_f hf hc
      refine lv_iload (pc := 26) hx hb dX8_resonanceOf_26 (lv_at hl 5 rfl) ?_
      refine lv_iload (pc := 28) hx hb dX8_resonanceOf_28 (lv_at hl 6 rfl) ?_
      refine lv_icmp_eq (pc := 30) (tgt := 67) hx hb dX8_resonanceOf_30 (by decide) (fun hc => ?_) (fun hc => ?_)
      · replace hf := it_t hf hc
        exact hB67 k9 hk9 k19 hk19 v0 v1 v2 v3 v4 v5 v6 M _ _ _ hf hR (lv_sub hl [0, 1, 2, 3, 4, 5, 6] rfl)
      · replace hf := it_f hf hc
        refine lv_iload (pc := 33) hx hb dX8_resonanceOf_33 (lv_at hl 5 rfl) ?_
        refine lv_aload_n (pc := 35) hx hb dX8_resonanceOf_35 rfl (lv_at hl 0 rfl) ?_
        refine lv_aload_n (pc := 36) hx hb dX8_resonanceOf_36 rfl (lv_at hl 0 rfl) ?_
        refine rg_getr (pc := 37) (C := RX8) (T := TX8) (N := 37) (κ := 8) hx hb hts hK hR hown in_8 rfl (by decide) 15 (by decide) m_683 rfl dX8_resonanceOf_37 hf (fun a6 hf => ?_)
        refine lv_iload_n (pc := 40) hx hb dX8_resonanceOf_40 rfl (lv_at hl 1 rfl) ?_
        refine rg_iald (pc := 41) hx hb hK hR dX8_resonanceOf_41 hf (fun hf => ?_)
        obtain ⟨hq, hf⟩ := gd_e hf
        refine rg_I (pc := 42) hf hR hA (fun z hz => rn_V (κ := 8) (As := [.int (mm_i M a6 (v1).toNatClampNeg)]) (rest := [.int v5]) hC hR rfl (by decide) hq (c_X8_speedOf  hz _) m_820 m_822 ms_13 m_9 m_823 hd_X8_speedOf ⟨rfl, rfl, Nat.le_of_ble_eq_true rfl, Nat.le_of_ble_eq_true rfl⟩ rfl hl.1 rfl (Nat.le_of_ble_eq_true rfl) dX8_resonanceOf_42 ⟨Nat.le_of_ble_eq_true rfl, Nat.le_of_ble_eq_true rfl⟩) (fun z7 H locs hf hR => ?_)
        refine lv_imul (pc := 45) hx hb dX8_resonanceOf_45 ?_
        refine lv_iload (pc := 46) hx hb dX8_resonanceOf_46 (lv_at hl 6 rfl) ?_
        refine lv_aload_n (pc := 48) hx hb dX8_resonanceOf_48 rfl (lv_at hl 0 rfl) ?_
        refine lv_iload_n (pc := 49) hx hb dX8_resonanceOf_49 rfl (lv_at hl 2 rfl) ?_
        obtain ⟨hq, hf⟩ := gd_e hf
        refine rg_I (pc := 50) hf hR hA (fun z hz => rn_V (κ := 8) (As := [.int v2]) (rest := [.int v6, .int (v5 * z7.2)]) hC hR rfl (by decide) hq (c_X8_speedOf  hz _) m_820 m_822 ms_13 m_9 m_823 hd_X8_speedOf ⟨rfl, rfl, Nat.le_of_ble_eq_true rfl, Nat.le_of_ble_eq_true rfl⟩ rfl hl.1 rfl (Nat.le_of_ble_eq_true rfl) dX8_resonanceOf_50 ⟨Nat.le_of_ble_eq_true rfl, Nat.le_of_ble_eq_true rfl⟩) (fun z8 H locs hf hR => ?_)
        refine lv_imul (pc := 53) hx hb dX8_resonanceOf_53 ?_
        refine lv_isub (pc := 54) hx hb dX8_resonanceOf_54 ?_
        refine rg_I (pc := 55) hf hR hA (fun z hz => rn_S (As := [.int ((v5 * z7.2) - (v6 * z8.2))]) (rest := []) hC hR (c_X8_size  hz _) m_832 m_833 m_9 m_834 hd_X8_size ⟨rfl, rfl, Nat.le_of_ble_eq_true rfl, Nat.le_of_ble_eq_true rfl⟩ rfl hl.1 rfl (Nat.le_of_ble_eq_true rfl) dX8_resonanceOf_55 ⟨Nat.le_of_ble_eq_true rfl, Nat.le_of_ble_eq_true rfl⟩) (fun z9 H locs hf hR => ?_)
        refine lv_bipush (pc := 58) (v := (20 : Int32)) hx hb dX8_resonanceOf_58 (by decide) ?_
        refine lv_icmp_gt (pc := 60) (tgt := 67) hx hb dX8_resonanceOf_60 (by decide) (fun hc => ?_) (fun hc => ?_)
        · replace hf := it_t hf hc
          exact hB67 k9 hk9 k19 hk19 v0 v1 v2 v3 v4 v5 v6 z9.1 _ _ _ hf hR (lv_sub hl [0, 1, 2, 3, 4, 5, 6] rfl)
        · replace hf := it_f hf hc
          refine lv_iconst (pc := 63) (v := (1 : Int32)) hx hb dX8_resonanceOf_63 (by decide) ?_
          refine lv_goto (pc := 64) (tgt := 68) hx hb dX8_resonanceOf_64 (by decide) ?_
          exact hB68 k9 hk9 k19 hk19 (1 : Int32) v0 v1 v2 v3 v4 v5 v6 z9.1 _ _ _ hf hR (lv_sub hl [0, 1, 2, 3, 4, 5, 6] rfl)
  have hL19 : ∀ (k9 : Nat → Int32 → Int32 → Int32 → Int32 → Int32 → Mem → Option (Mem × Int32)) (hk9 : ∀ (v0 : Nat) (v1 : Int32) (v2 : Int32) (v3 : Int32) (v4 : Int32) (v5 : Int32) (M : Mem) (H : Heap) (locs : List Loc) (ls : Array Slot), k9 v0 v1 v2 v3 v4 v5 M = some r → Hp D ca nx A s M H locs → lv_has ls 8 [(0, .ref v0), (1, .int v1), (2, .int v2), (3, .int v3), (4, .int v4), (5, .int v5)] → W p l e rm_X8_resonanceOf s m args below meth c H locs 0 0 (MQ below (cvI D ca nx A r) args s 0 0 A) (F0 m 9 ls [])) (n : Nat) (v0 : Nat) (v1 : Int32) (v2 : Int32) (v3 : Int32) (v4 : Int32) (v5 : Int32) (v6 : Int32) (M : Mem) (H : Heap) (locs : List Loc) (ls : Array Slot), f_X8_resonanceOf_L19 k9 n v0 v1 v2 v3 v4 v5 v6 M = some r → Hp D ca nx A s M H locs → lv_has ls 8 [(0, .ref v0), (1, .int v1), (2, .int v2), (3, .int v3), (4, .int v4), (5, .int v5), (6, .int v6)] → W p l e rm_X8_resonanceOf s m args below meth c H locs 0 0 (MQ below (cvI D ca nx A r) args s 0 0 A) (F0 m 19 ls []) := by
    intro k9 hk9 n
    induction n with
    | zero => intro v0 v1 v2 v3 v4 v5 v6 M H locs ls hf; exact nomatch (show (none : Option (Mem × Int32)) = some r from hf)
    | succ n ih => intro v0 v1 v2 v3 v4 v5 v6 M H locs ls hf hR hl; exact hB19 k9 hk9 (f_X8_resonanceOf_L19 k9 n) ih v0 v1 v2 v3 v4 v5 v6 M H locs ls hf hR hl
  have hB9 : ∀ (k9 : Nat → Int32 → Int32 → Int32 → Int32 → Int32 → Mem → Option (Mem × Int32)) (hk9 : ∀ (v0 : Nat) (v1 : Int32) (v2 : Int32) (v3 : Int32) (v4 : Int32) (v5 : Int32) (M : Mem) (H : Heap) (locs : List Loc) (ls : Array Slot), k9 v0 v1 v2 v3 v4 v5 M = some r → Hp D ca nx A s M H locs → lv_has ls 8 [(0, .ref v0), (1, .int v1), (2, .int v2), (3, .int v3), (4, .int v4), (5, .int v5)] → W p l e rm_X8_resonanceOf s m args below meth c H locs 0 0 (MQ below (cvI D ca nx A r) args s 0 0 A) (F0 m 9 ls [])) (v0 : Nat) (v1 : Int32) (v2 : Int32) (v3 : Int32) (v4 : Int32) (v5 : Int32) (M : Mem) (H : Heap) (locs : List Loc) (ls : Array Slot), f_X8_resonanceOf_b9 k9 v0 v1 v2 v3 v4 v5 M = some r → Hp D ca nx A s M H locs → lv_has ls 8 [(0, .ref v0), (1, .int v1), (2, .int v2), (3, .int v3), (4, .int v4), (5, .int v5)] → W p l e rm_X8_resonanceOf s m args below meth c H locs 0 0 (MQ below (cvI D ca nx A r) args s 0 0 A) (F0 m 9 ls []) := by
    intro k9 hk9 v0 v1 v2 v3 v4 v5 M H locs ls hf hR hl
    unfold f_X8_resonanceOf_b9 at hf
    refine lv_iload (pc := 9) hx hb dX8_resonanceOf_9 (lv_at hl 5 rfl) ?_
    refine lv_bipush (pc := 11) (v := (10 : Int32)) hx hb dX8_resonanceOf_11 (by decide) ?_
    refine lv_icmp_ge (pc := 13) (tgt := 119) hx hb dX8_resonanceOf_13 (by decide) (fun hc => ?_) (fun hc => ?_)
    · replace hf := it_t hf hc
      refine lv_iload_n (pc := 119) hx hb dX8_resonanceOf_119 rfl (lv_at hl 3 rfl) ?_
      exact rg_iret (pc := 120) hx hb hlocks hr hf hR dX8_resonanceOf_120
    · replace hf := it_f hf hc
      refine lv_iconst (pc := 16) (v := (1 : Int32)) hx hb dX8_resonanceOf_16 (by decide) ?_
      refine lv_istore (pc := 17) (lv' := [(6, .int (1 : Int32)), (0, .ref v0), (1, .int v1), (2, .int v2), (3, .int v3), (4, .int v4), (5, .int v5)]) hx hb dX8_resonanceOf_17 hl (by decide) rfl (fun ls hl => ?_)
      exact hL19 k9 hk9 200 v0 v1 v2 v3 v4 v5 (1 : Int32) M _ _ _ hf hR (lv_sub hl [1, 2, 3, 4, 5, 6, 0] rfl)
  have hL9 : ∀  (n : Nat) (v0 : Nat) (v1 : Int32) (v2 : Int32) (v3 : Int32) (v4 : Int32) (v5 : Int32) (M : Mem) (H : Heap) (locs : List Loc) (ls : Array Slot), f_X8_resonanceOf_L9  n v0 v1 v2 v3 v4 v5 M = some r → Hp D ca nx A s M H locs → lv_has ls 8 [(0, .ref v0), (1, .int v1), (2, .int v2), (3, .int v3), (4, .int v4), (5, .int v5)] → W p l e rm_X8_resonanceOf s m args below meth c H locs 0 0 (MQ below (cvI D ca nx A r) args s 0 0 A) (F0 m 9 ls []) := by
    intro  n
    induction n with
    | zero => intro v0 v1 v2 v3 v4 v5 M H locs ls hf; exact nomatch (show (none : Option (Mem × Int32)) = some r from hf)
    | succ n ih => intro v0 v1 v2 v3 v4 v5 M H locs ls hf hR hl; exact hB9  (f_X8_resonanceOf_L9  n) ih v0 v1 v2 v3 v4 v5 M H locs ls hf hR hl
  unfold f_X8_resonanceOf at hf
  refine lv_iconst (pc := 0) (v := (-1 : Int32)) hx hb dX8_resonanceOf_0 (by decide) ?_
  refine lv_istore_n (pc := 1) (lv' := [(3, .int (-1 : Int32)), (0, .ref v0), (1, .int v1), (2, .int v2)]) hx hb dX8_resonanceOf_1 rfl hl (by decide) rfl (fun ls hl => ?_)
  refine lv_bipush (pc := 2) (v := (9 : Int32)) hx hb dX8_resonanceOf_2 (by decide) ?_
  refine lv_istore (pc := 4) (lv' := [(4, .int (9 : Int32)), (3, .int (-1 : Int32)), (0, .ref v0), (1, .int v1), (2, .int v2)]) hx hb dX8_resonanceOf_4 hl (by decide) rfl (fun ls hl => ?_)
  refine lv_iconst (pc := 6) (v := (1 : Int32)) hx hb dX8_resonanceOf_6 (by decide) ?_
  refine lv_istore (pc := 7) (lv' := [(5, .int (1 : Int32)), (4, .int (9 : Int32)), (3, .int (-1 : Int32)), (0, .ref v0), (1, .int v1), (2, .int v2)]) hx hb dX8_resonanceOf_7 hl (by decide) rfl (fun ls hl => ?_)
  exact hL9 200 v0 v1 v2 (-1 : Int32) (9 : Int32) (1 : Int32) M _ _ _ hf hR (lv_sub hl [3, 4, 5, 2, 1, 0] rfl)
-- X8_resonance
def f_X8_resonance_b51  (s0 : Int32) (M : Mem) : Option (Mem × Int32) := some (M, s0)
def f_X8_resonance_b31  (s0 : Int32) (s1 : Nat) (v0 : Nat) (v1 : Int32) (v2 : Int32) (M : Mem) : Option (Mem × Int32) := gd (M.1 s1 = 8) <| lt_ (ms_i M s1 0 s0) fun M1 => gd (M1.1 v0 = 8) <| if (mm_i M1 v0 0) ≤ 0 then (gd (M1.1 v0 = 8) <| bd (f_X8_resonanceOf v0 v1 v2 M1) fun z2 => f_X8_resonance_b51 z2.2 z2.1) else (f_X8_resonance_b51 (0 : Int32) M1)
def f_X8_resonance (v0 : Nat) (v1 : Int32) (v2 : Int32) (M : Mem) : Option (Mem × Int32) := gd (M.1 v0 = 8) <| bd (f_X8_isIn v1 (0 : Int32) ((mm_i M v0 14) - (1 : Int32)) M) fun z3 => if z3.2 = 0 then (f_X8_resonance_b31 (1 : Int32) v0 v0 v1 v2 z3.1) else (bd (f_X8_isLane v2 z3.1) fun z4 => if z4.2 = 0 then (f_X8_resonance_b31 (2 : Int32) v0 v0 v1 v2 z4.1) else (f_X8_resonance_b31 (0 : Int32) v0 v0 v1 v2 z4.1))
abbrev rm_X8_resonance : Room := { frames := 2, cells := 0, slots := 0, locals := 49 }
theorem hd_X8_resonance : yX8_resonance.cls ≠ "java/lang/invoke/MethodHandle" ∧ yX8_resonance.cls ≠ "java/lang/invoke/VarHandle" ∧ (parseMethodDescriptor yX8_resonance.desc).map (fun d => d.parameters.length) = some 2 := by decide +kernel
set_option maxHeartbeats 8000000 in
set_option maxRecDepth 100000 in
theorem c_X8_resonance {l : Launch} {D : va_G} {ca : Nat → ClassId} {b : Nat} {nx : Bool} {v0 : Nat} {v1 : Int32} {v2 : Int32} {M : Mem} {r : Mem × Int32} (hf : f_X8_resonance v0 v1 v2 M = some r) : CtI l yX8_resonance cX8_resonance 3 (some .int) rm_X8_resonance D ca b nx [.ref v0, .int v1, .int v2] M r := by
  intro sz
  refine body_start (Qc := fun A => cvI D ca nx A r) (by decide +kernel) (Nat.le_of_ble_eq_true rfl) ?_
  intro p e s m args below meth c A hC hr hR ls hl
  obtain ⟨hx, hb, hml, hts, hown, hlocks, hXe, hA, hAb, hnm⟩ := id hC
  have hK := hXe.1
  have hl : lv_has ls 3 [(0, .ref v0), (1, .int v1), (2, .int v2)] := hl
  have hB51 : ∀  (s0 : Int32) (M : Mem) (H : Heap) (locs : List Loc) (ls : Array Slot), f_X8_resonance_b51  s0 M = some r → Hp D ca nx A s M H locs → lv_has ls 3 [] → W p l e rm_X8_resonance s m args below meth c H locs 0 0 (MQ below (cvI D ca nx A r) args s 0 0 A) (F0 m 51 ls [.int s0]) := by
    intro  s0 M H locs ls hf hR hl
    unfold f_X8_resonance_b51 at hf
    exact rg_iret (pc := 51) hx hb hlocks hr hf hR dX8_resonance_51
  have hB31 : ∀  (s0 : Int32) (s1 : Nat) (v0 : Nat) (v1 : Int32) (v2 : Int32) (M : Mem) (H : Heap) (locs : List Loc) (ls : Array Slot), f_X8_resonance_b31  s0 s1 v0 v1 v2 M = some r → Hp D ca nx A s M H locs → lv_has ls 3 [(0, .ref v0), (1, .int v1), (2, .int v2)] → W p l e rm_X8_resonance s m args below meth c H locs 0 0 (MQ below (cvI D ca nx A r) args s 0 0 A) (F0 m 31 ls [.int s0, .ref s1]) := by
    intro  s0 s1 v0 v1 v2 M H locs ls hf hR hl
    unfold f_X8_resonance_b31 at hf
    refine rg_puti (pc := 31) (C := RX8) (T := TX8) (N := 37) (κ := 8) hx hb hts hK hR hown in_8 rfl (by decide) 0 (by decide) m_668 tyX8 tyX8_ok nmX8 rfl rfl rfl rfl dX8_resonance_31 hf (fun M1 H locs hf hR => ?_)
    refine lv_aload_n (pc := 34) hx hb dX8_resonance_34 rfl (lv_at hl 0 rfl) ?_
    refine rg_get (pc := 35) (C := RX8) (T := TX8) (N := 37) (κ := 8) (v := .int (mm_i M1 v0 0)) hx hb hts hK hR hown in_8 rfl (by decide) 0 (by decide) m_668 rfl dX8_resonance_35 hf (fun hf => ?_)
    refine lv_if_le (pc := 38) (tgt := 45) hx hb dX8_resonance_38 (by decide) (fun hc => ?_) (fun hc => ?_)
    · replace hf := it_t hf hc
      refine lv_aload_n (pc := 45) hx hb dX8_resonance_45 rfl (lv_at hl 0 rfl) ?_
      refine lv_iload_n (pc := 46) hx hb dX8_resonance_46 rfl (lv_at hl 1 rfl) ?_
      refine lv_iload_n (pc := 47) hx hb dX8_resonance_47 rfl (lv_at hl 2 rfl) ?_
      obtain ⟨hq, hf⟩ := gd_e hf
      refine rg_I (pc := 48) hf hR hA (fun z hz => rn_V (κ := 8) (As := [.int v1, .int v2]) (rest := []) hC hR rfl (by decide) hq (c_X8_resonanceOf  hz _) m_933 m_935 ms_26 m_9 m_936 hd_X8_resonanceOf ⟨rfl, rfl, Nat.le_of_ble_eq_true rfl, Nat.le_of_ble_eq_true rfl⟩ rfl hl.1 rfl (Nat.le_of_ble_eq_true rfl) dX8_resonance_48 ⟨Nat.le_of_ble_eq_true rfl, Nat.le_of_ble_eq_true rfl⟩) (fun z2 H locs hf hR => ?_)
      exact hB51 z2.2 z2.1 _ _ _ hf hR (lv_sub hl [] rfl)
    · replace hf := it_f hf hc
      refine lv_iconst (pc := 41) (v := (0 : Int32)) hx hb dX8_resonance_41 (by decide) ?_
      refine lv_goto (pc := 42) (tgt := 51) hx hb dX8_resonance_42 (by decide) ?_
      exact hB51 (0 : Int32) M1 _ _ _ hf hR (lv_sub hl [] rfl)
  unfold f_X8_resonance at hf
  refine lv_aload_n (pc := 0) hx hb dX8_resonance_0 rfl (lv_at hl 0 rfl) ?_
  refine lv_iload_n (pc := 1) hx hb dX8_resonance_1 rfl (lv_at hl 1 rfl) ?_
  refine lv_iconst (pc := 2) (v := (0 : Int32)) hx hb dX8_resonance_2 (by decide) ?_
  refine lv_aload_n (pc := 3) hx hb dX8_resonance_3 rfl (lv_at hl 0 rfl) ?_
  refine rg_get (pc := 4) (C := RX8) (T := TX8) (N := 37) (κ := 8) (v := .int (mm_i M v0 14)) hx hb hts hK hR hown in_8 rfl (by decide) 14 (by decide) m_682 rfl dX8_resonance_4 hf (fun hf => ?_)
  refine lv_iconst (pc := 7) (v := (1 : Int32)) hx hb dX8_resonance_7 (by decide) ?_
  refine lv_isub (pc := 8) hx hb dX8_resonance_8 ?_
  refine rg_I (pc := 9) hf hR hA (fun z hz => rn_S (As := [.int v1, .int (0 : Int32), .int ((mm_i M v0 14) - (1 : Int32))]) (rest := [.ref v0]) hC hR (c_X8_isIn  hz _) m_792 m_793 m_9 m_794 hd_X8_isIn ⟨rfl, rfl, Nat.le_of_ble_eq_true rfl, Nat.le_of_ble_eq_true rfl⟩ rfl hl.1 rfl (Nat.le_of_ble_eq_true rfl) dX8_resonance_9 ⟨Nat.le_of_ble_eq_true rfl, Nat.le_of_ble_eq_true rfl⟩) (fun z3 H locs hf hR => ?_)
  refine lv_if_ne (pc := 12) (tgt := 19) hx hb dX8_resonance_12 (by decide) (fun hc => ?_) (fun hc => ?_)
  · replace hf := it_f hf hc
    refine lv_iload_n (pc := 19) hx hb dX8_resonance_19 rfl (lv_at hl 2 rfl) ?_
    refine rg_I (pc := 20) hf hR hA (fun z hz => rn_S (As := [.int v2]) (rest := [.ref v0]) hC hR (c_X8_isLane  hz _) m_789 m_790 m_9 m_791 hd_X8_isLane ⟨rfl, rfl, Nat.le_of_ble_eq_true rfl, Nat.le_of_ble_eq_true rfl⟩ rfl hl.1 rfl (Nat.le_of_ble_eq_true rfl) dX8_resonance_20 ⟨Nat.le_of_ble_eq_true rfl, Nat.le_of_ble_eq_true rfl⟩) (fun z4 H locs hf hR => ?_)
    refine lv_if_ne (pc := 23) (tgt := 30) hx hb dX8_resonance_23 (by decide) (fun hc => ?_) (fun hc => ?_)
    · replace hf := it_f hf hc
      refine lv_iconst (pc := 30) (v := (0 : Int32)) hx hb dX8_resonance_30 (by decide) ?_
      exact hB31 (0 : Int32) v0 v0 v1 v2 z4.1 _ _ _ hf hR (lv_sub hl [0, 1, 2] rfl)
    · replace hf := it_t hf hc
      refine lv_iconst (pc := 26) (v := (2 : Int32)) hx hb dX8_resonance_26 (by decide) ?_
      refine lv_goto (pc := 27) (tgt := 31) hx hb dX8_resonance_27 (by decide) ?_
      exact hB31 (2 : Int32) v0 v0 v1 v2 z4.1 _ _ _ hf hR (lv_sub hl [0, 1, 2] rfl)
  · replace hf := it_t hf hc
    refine lv_iconst (pc := 15) (v := (1 : Int32)) hx hb dX8_resonance_15 (by decide) ?_
    refine lv_goto (pc := 16) (tgt := 31) hx hb dX8_resonance_16 (by decide) ?_
    exact hB31 (1 : Int32) v0 v0 v1 v2 z3.1 _ _ _ hf hR (lv_sub hl [0, 1, 2] rfl)
-- X8_isEmpty
def f_X8_isEmpty_b40 (k4 : Nat → Int32 → Int32 → Int32 → Mem → Option (Mem × Int32)) (s0 : Int32) (v0 : Nat) (v1 : Int32) (v3 : Int32) (M : Mem) : Option (Mem × Int32) := lt_ (v3 + (1 : Int32)) fun x1 => k4 v0 v1 s0 x1 M
def f_X8_isEmpty_b39 (k4 : Nat → Int32 → Int32 → Int32 → Mem → Option (Mem × Int32)) (v0 : Nat) (v1 : Int32) (v3 : Int32) (M : Mem) : Option (Mem × Int32) := f_X8_isEmpty_b40 k4 (0 : Int32) v0 v1 v3 M
def f_X8_isEmpty_b35 (k4 : Nat → Int32 → Int32 → Int32 → Mem → Option (Mem × Int32)) (v0 : Nat) (v1 : Int32) (v3 : Int32) (M : Mem) : Option (Mem × Int32) := f_X8_isEmpty_b40 k4 (1 : Int32) v0 v1 v3 M
def f_X8_isEmpty_b4 (k4 : Nat → Int32 → Int32 → Int32 → Mem → Option (Mem × Int32)) (v0 : Nat) (v1 : Int32) (v2 : Int32) (v3 : Int32) (M : Mem) : Option (Mem × Int32) := gd (M.1 v0 = 8) <| if (mm_i M v0 6) ≤ v3 then (gd (v2 = 0 ∨ v2 = 1) <| some (M, v2)) else (if v2 = 0 then (f_X8_isEmpty_b39 k4 v0 v1 v3 M) else (gd (M.1 v0 = 8) <| rd (mm_r M v0 12) fun a2 => gd (M.1 a2 = 10 ∧ vi_ v3 (mm_N M a2)) <| if (mm_i M a2 (v3).toNatClampNeg) = 0 then (f_X8_isEmpty_b35 k4 v0 v1 v3 M) else (gd (M.1 v0 = 8) <| rd (mm_r M v0 7) fun a3 => gd (M.1 a3 = 9 ∧ vi_ v3 (mm_N M a3)) <| if (mm_i M a3 (v3).toNatClampNeg) = v1 then (f_X8_isEmpty_b39 k4 v0 v1 v3 M) else (f_X8_isEmpty_b35 k4 v0 v1 v3 M))))
def f_X8_isEmpty_L4  : Nat → Nat → Int32 → Int32 → Int32 → Mem → Option (Mem × Int32)
  | 0 => fun _ _ _ _ _ => none
  | n + 1 => f_X8_isEmpty_b4  (f_X8_isEmpty_L4  n)
def f_X8_isEmpty (v0 : Nat) (v1 : Int32) (M : Mem) : Option (Mem × Int32) := f_X8_isEmpty_L4 200 v0 v1 (1 : Int32) (0 : Int32) M
abbrev rm_X8_isEmpty : Room := { frames := 0, cells := 0, slots := 0, locals := 0 }
theorem hd_X8_isEmpty : yX8_isEmpty.cls ≠ "java/lang/invoke/MethodHandle" ∧ yX8_isEmpty.cls ≠ "java/lang/invoke/VarHandle" ∧ (parseMethodDescriptor yX8_isEmpty.desc).map (fun d => d.parameters.length) = some 1 := by decide +kernel
set_option maxHeartbeats 8000000 in
set_option maxRecDepth 100000 in
theorem c_X8_isEmpty {l : Launch} {D : va_G} {ca : Nat → ClassId} {b : Nat} {nx : Bool} {v0 : Nat} {v1 : Int32} {M : Mem} {r : Mem × Int32} (hf : f_X8_isEmpty v0 v1 M = some r) : CtI l yX8_isEmpty cX8_isEmpty 4 (some .boolean) rm_X8_isEmpty D ca b nx [.ref v0, .int v1] M r := by
  intro sz
  refine body_start (Qc := fun A => cvI D ca nx A r) (by decide +kernel) (Nat.le_of_ble_eq_true rfl) ?_
  intro p e s m args below meth c A hC hr hR ls hl
  obtain ⟨hx, hb, hml, hts, hown, hlocks, hXe, hA, hAb, hnm⟩ := id hC
  have hK := hXe.1
  have hl : lv_has ls 4 [(0, .ref v0), (1, .int v1)] := hl
  have hB40 : ∀ (k4 : Nat → Int32 → Int32 → Int32 → Mem → Option (Mem × Int32)) (hk4 : ∀ (v0 : Nat) (v1 : Int32) (v2 : Int32) (v3 : Int32) (M : Mem) (H : Heap) (locs : List Loc) (ls : Array Slot), k4 v0 v1 v2 v3 M = some r → Hp D ca nx A s M H locs → lv_has ls 4 [(0, .ref v0), (1, .int v1), (2, .int v2), (3, .int v3)] → W p l e rm_X8_isEmpty s m args below meth c H locs 0 0 (MQ below (cvI D ca nx A r) args s 0 0 A) (F0 m 4 ls [])) (s0 : Int32) (v0 : Nat) (v1 : Int32) (v3 : Int32) (M : Mem) (H : Heap) (locs : List Loc) (ls : Array Slot), f_X8_isEmpty_b40 k4 s0 v0 v1 v3 M = some r → Hp D ca nx A s M H locs → lv_has ls 4 [(0, .ref v0), (1, .int v1), (3, .int v3)] → W p l e rm_X8_isEmpty s m args below meth c H locs 0 0 (MQ below (cvI D ca nx A r) args s 0 0 A) (F0 m 40 ls [.int s0]) := by
    intro k4 hk4 s0 v0 v1 v3 M H locs ls hf hR hl
    unfold f_X8_isEmpty_b40 at hf
    refine lv_istore_n (pc := 40) (lv' := [(2, .int s0), (0, .ref v0), (1, .int v1), (3, .int v3)]) hx hb dX8_isEmpty_40 rfl hl (by decide) rfl (fun ls hl => ?_)
    refine rg_iinc (pc := 41) hx hb dX8_isEmpty_41 hl (k := 3) rfl rfl (by decide) hf (fun x1 ls hf hl => ?_)
    have hl : lv_has ls 4 [(3, .int x1), (2, .int s0), (0, .ref v0), (1, .int v1)] := hl
    refine lv_goto (pc := 44) (tgt := 4) hx hb dX8_isEmpty_44 (by decide) ?_
    exact hk4 v0 v1 s0 x1 M _ _ _ hf hR (lv_sub hl [2, 3, 1, 0] rfl)
  have hB39 : ∀ (k4 : Nat → Int32 → Int32 → Int32 → Mem → Option (Mem × Int32)) (hk4 : ∀ (v0 : Nat) (v1 : Int32) (v2 : Int32) (v3 : Int32) (M : Mem) (H : Heap) (locs : List Loc) (ls : Array Slot), k4 v0 v1 v2 v3 M = some r → Hp D ca nx A s M H locs → lv_has ls 4 [(0, .ref v0), (1, .int v1), (2, .int v2), (3, .int v3)] → W p l e rm_X8_isEmpty s m args below meth c H locs 0 0 (MQ below (cvI D ca nx A r) args s 0 0 A) (F0 m 4 ls [])) (v0 : Nat) (v1 : Int32) (v3 : Int32) (M : Mem) (H : Heap) (locs : List Loc) (ls : Array Slot), f_X8_isEmpty_b39 k4 v0 v1 v3 M = some r → Hp D ca nx A s M H locs → lv_has ls 4 [(0, .ref v0), (1, .int v1), (3, .int v3)] → W p l e rm_X8_isEmpty s m args below meth c H locs 0 0 (MQ below (cvI D ca nx A r) args s 0 0 A) (F0 m 39 ls []) := by
    intro k4 hk4 v0 v1 v3 M H locs ls hf hR hl
    unfold f_X8_isEmpty_b39 at hf
    refine lv_iconst (pc := 39) (v := (0 : Int32)) hx hb dX8_isEmpty_39 (by decide) ?_
    exact hB40 k4 hk4 (0 : Int32) v0 v1 v3 M _ _ _ hf hR (lv_sub hl [0, 1, 2] rfl)
  have hB35 : ∀ (k4 : Nat → Int32 → Int32 → Int32 → Mem → Option (Mem × Int32)) (hk4 : ∀ (v0 : Nat) (v1 : Int32) (v2 : Int32) (v3 : Int32) (M : Mem) (H : Heap) (locs : List Loc) (ls : Array Slot), k4 v0 v1 v2 v3 M = some r → Hp D ca nx A s M H locs → lv_has ls 4 [(0, .ref v0), (1, .int v1), (2, .int v2), (3, .int v3)] → W p l e rm_X8_isEmpty s m args below meth c H locs 0 0 (MQ below (cvI D ca nx A r) args s 0 0 A) (F0 m 4 ls [])) (v0 : Nat) (v1 : Int32) (v3 : Int32) (M : Mem) (H : Heap) (locs : List Loc) (ls : Array Slot), f_X8_isEmpty_b35 k4 v0 v1 v3 M = some r → Hp D ca nx A s M H locs → lv_has ls 4 [(0, .ref v0), (1, .int v1), (3, .int v3)] → W p l e rm_X8_isEmpty s m args below meth c H locs 0 0 (MQ below (cvI D ca nx A r) args s 0 0 A) (F0 m 35 ls []) := by
    intro k4 hk4 v0 v1 v3 M H locs ls hf hR hl
    unfold f_X8_isEmpty_b35 at hf
    refine lv_iconst (pc := 35) (v := (1 : Int32)) hx hb dX8_isEmpty_35 (by decide) ?_
    refine lv_goto (pc := 36) (tgt := 40) hx hb dX8_isEmpty_36 (by decide) ?_
    exact hB40 k4 hk4 (1 : Int32) v0 v1 v3 M _ _ _ hf hR (lv_sub hl [0, 1, 2] rfl)
  have hB4 : ∀ (k4 : Nat → Int32 → Int32 → Int32 → Mem → Option (Mem × Int32)) (hk4 : ∀ (v0 : Nat) (v1 : Int32) (v2 : Int32) (v3 : Int32) (M : Mem) (H : Heap) (locs : List Loc) (ls : Array Slot), k4 v0 v1 v2 v3 M = some r → Hp D ca nx A s M H locs → lv_has ls 4 [(0, .ref v0), (1, .int v1), (2, .int v2), (3, .int v3)] → W p l e rm_X8_isEmpty s m args below meth c H locs 0 0 (MQ below (cvI D ca nx A r) args s 0 0 A) (F0 m 4 ls [])) (v0 : Nat) (v1 : Int32) (v2 : Int32) (v3 : Int32) (M : Mem) (H : Heap) (locs : List Loc) (ls : Array Slot), f_X8_isEmpty_b4 k4 v0 v1 v2 v3 M = some r → Hp D ca nx A s M H locs → lv_has ls 4 [(0, .ref v0), (1, .int v1), (2, .int v2), (3, .int v3)] → W p l e rm_X8_isEmpty s m args below meth c H locs 0 0 (MQ below (cvI D ca nx A r) args s 0 0 A) (F0 m 4 ls []) := by
    intro k4 hk4 v0 v1 v2 v3 M H locs ls hf hR hl
    unfold f_X8_isEmpty_b4 at hf
    refine lv_iload_n (pc := 4) hx hb dX8_isEmpty_4 rfl (lv_at hl 3 rfl) ?_
    refine lv_aload_n (pc := 5) hx hb dX8_isEmpty_5 rfl (lv_at hl 0 rfl) ?_
    refine rg_get (pc := 6) (C := RX8) (T := TX8) (N := 37) (κ := 8) (v := .int (mm_i M v0 6)) hx hb hts hK hR hown in_8 rfl (by decide) 6 (by decide) m_674 rfl dX8_isEmpty_6 hf (fun hf => ?_)
    refine lv_icmp_ge (pc := 9) (tgt := 47) hx hb dX8_isEmpty_9 (by decide) (fun hc => ?_) (fun hc => ?_)
    · replace hf := it_t hf hc
      refine lv_iload_n (pc := 47) hx hb dX8_isEmpty_47 rfl (lv_at hl 2 rfl) ?_
      exact rg_zret (pc := 48) hx hb hlocks hr hf hR dX8_isEmpty_48
    · replace hf := it_f hf hc
      refine lv_iload_n (pc := 12) hx hb dX8_isEmpty_12 rfl (lv_at hl 2 rfl) ?_
      refine lv_if_eq (pc := 13) (tgt := 39) hx hb dX8_isEmpty_13 (by decide) (fun hc => ?_) (fun hc => ?_)
      · replace hf := it_t hf hc
        exact hB39 k4 hk4 v0 v1 v3 M _ _ _ hf hR (lv_sub hl [0, 1, 3] rfl)
      · replace hf := it_f hf hc
        refine lv_aload_n (pc := 16) hx hb dX8_isEmpty_16 rfl (lv_at hl 0 rfl) ?_
        refine rg_getr (pc := 17) (C := RX8) (T := TX8) (N := 37) (κ := 8) hx hb hts hK hR hown in_8 rfl (by decide) 12 (by decide) m_680 rfl dX8_isEmpty_17 hf (fun a2 hf => ?_)
        refine lv_iload_n (pc := 20) hx hb dX8_isEmpty_20 rfl (lv_at hl 3 rfl) ?_
        refine rg_zald (pc := 21) hx hb hK hR dX8_isEmpty_21 hf (fun hf => ?_)
        refine lv_if_eq (pc := 22) (tgt := 35) hx hb dX8_isEmpty_22 (by decide) (fun hc => ?_) (fun hc => ?_)
        · replace hf := it_t hf hc
          exact hB35 k4 hk4 v0 v1 v3 M _ _ _ hf hR (lv_sub hl [0, 1, 3] rfl)
        · replace hf := it_f hf hc
          refine lv_aload_n (pc := 25) hx hb dX8_isEmpty_25 rfl (lv_at hl 0 rfl) ?_
          refine rg_getr (pc := 26) (C := RX8) (T := TX8) (N := 37) (κ := 8) hx hb hts hK hR hown in_8 rfl (by decide) 7 (by decide) m_675 rfl dX8_isEmpty_26 hf (fun a3 hf => ?_)
          refine lv_iload_n (pc := 29) hx hb dX8_isEmpty_29 rfl (lv_at hl 3 rfl) ?_
          refine rg_iald (pc := 30) hx hb hK hR dX8_isEmpty_30 hf (fun hf => ?_)
          refine lv_iload_n (pc := 31) hx hb dX8_isEmpty_31 rfl (lv_at hl 1 rfl) ?_
          refine lv_icmp_eq (pc := 32) (tgt := 39) hx hb dX8_isEmpty_32 (by decide) (fun hc => ?_) (fun hc => ?_)
          · replace hf := it_t hf hc
            exact hB39 k4 hk4 v0 v1 v3 M _ _ _ hf hR (lv_sub hl [0, 1, 3] rfl)
          · replace hf := it_f hf hc
            exact hB35 k4 hk4 v0 v1 v3 M _ _ _ hf hR (lv_sub hl [0, 1, 3] rfl)
  have hL4 : ∀  (n : Nat) (v0 : Nat) (v1 : Int32) (v2 : Int32) (v3 : Int32) (M : Mem) (H : Heap) (locs : List Loc) (ls : Array Slot), f_X8_isEmpty_L4  n v0 v1 v2 v3 M = some r → Hp D ca nx A s M H locs → lv_has ls 4 [(0, .ref v0), (1, .int v1), (2, .int v2), (3, .int v3)] → W p l e rm_X8_isEmpty s m args below meth c H locs 0 0 (MQ below (cvI D ca nx A r) args s 0 0 A) (F0 m 4 ls []) := by
    intro  n
    induction n with
    | zero => intro v0 v1 v2 v3 M H locs ls hf; exact nomatch (show (none : Option (Mem × Int32)) = some r from hf)
    | succ n ih => intro v0 v1 v2 v3 M H locs ls hf hR hl; exact hB4  (f_X8_isEmpty_L4  n) ih v0 v1 v2 v3 M H locs ls hf hR hl
  unfold f_X8_isEmpty at hf
  refine lv_iconst (pc := 0) (v := (1 : Int32)) hx hb dX8_isEmpty_0 (by decide) ?_
  refine lv_istore_n (pc := 1) (lv' := [(2, .int (1 : Int32)), (0, .ref v0), (1, .int v1)]) hx hb dX8_isEmpty_1 rfl hl (by decide) rfl (fun ls hl => ?_)
  refine lv_iconst (pc := 2) (v := (0 : Int32)) hx hb dX8_isEmpty_2 (by decide) ?_
  refine lv_istore_n (pc := 3) (lv' := [(3, .int (0 : Int32)), (2, .int (1 : Int32)), (0, .ref v0), (1, .int v1)]) hx hb dX8_isEmpty_3 rfl hl (by decide) rfl (fun ls hl => ?_)
  exact hL4 200 v0 v1 (1 : Int32) (0 : Int32) M _ _ _ hf hR (lv_sub hl [2, 3, 1, 0] rfl)
-- X8_gapFrom
def f_X8_gapFrom_b81  (v3 : Int32) (M : Mem) : Option (Mem × Int32) := some (M, v3)
def f_X8_gapFrom_b75 (k35 : Nat → Int32 → Int32 → Int32 → Mem → Option (Mem × Int32)) (v0 : Nat) (v2 : Int32) (v3 : Int32) (v4 : Int32) (M : Mem) : Option (Mem × Int32) := lt_ (v4 + (1 : Int32)) fun x1 => k35 v0 v2 v3 x1 M
def f_X8_gapFrom_b71 (k35 : Nat → Int32 → Int32 → Int32 → Mem → Option (Mem × Int32)) (s0 : Int32) (v0 : Nat) (v4 : Int32) (M : Mem) : Option (Mem × Int32) := f_X8_gapFrom_b75 k35 v0 v4 s0 v4 M
def f_X8_gapFrom_b35 (k35 : Nat → Int32 → Int32 → Int32 → Mem → Option (Mem × Int32)) (v0 : Nat) (v2 : Int32) (v3 : Int32) (v4 : Int32) (M : Mem) : Option (Mem × Int32) := if (64 : Int32) ≤ v4 then (f_X8_gapFrom_b81 v3 M) else (if v3 = (-1 : Int32) then (gd (M.1 v0 = 8) <| bd (f_X8_isEmpty v0 v4 M) fun z2 => if z2.2 = 0 then (if (v4 - v2) ≤ (2 : Int32) then (f_X8_gapFrom_b71 k35 (-1 : Int32) v0 v4 z2.1) else (f_X8_gapFrom_b71 k35 (v2 + (1 : Int32)) v0 v4 z2.1)) else (f_X8_gapFrom_b75 k35 v0 v2 v3 v4 z2.1)) else (f_X8_gapFrom_b81 v3 M))
def f_X8_gapFrom_L35  : Nat → Nat → Int32 → Int32 → Int32 → Mem → Option (Mem × Int32)
  | 0 => fun _ _ _ _ _ => none
  | n + 1 => f_X8_gapFrom_b35  (f_X8_gapFrom_L35  n)
def f_X8_gapFrom_b28  (v0 : Nat) (v2 : Int32) (M : Mem) : Option (Mem × Int32) := lt_ ((v2 + (1 : Int32))) fun x3 => f_X8_gapFrom_L35 200 v0 v2 (-1 : Int32) x3 M
def f_X8_gapFrom_b22 (k4 : Nat → Int32 → Mem → Option (Mem × Int32)) (v0 : Nat) (v2 : Int32) (M : Mem) : Option (Mem × Int32) := lt_ (v2 + (1 : Int32)) fun x4 => k4 v0 x4 M
def f_X8_gapFrom_b4 (k4 : Nat → Int32 → Mem → Option (Mem × Int32)) (v0 : Nat) (v2 : Int32) (M : Mem) : Option (Mem × Int32) := if (64 : Int32) ≤ v2 then (f_X8_gapFrom_b28 v0 v2 M) else (if v2 < 0 then (f_X8_gapFrom_b22 k4 v0 v2 M) else (gd (M.1 v0 = 8) <| bd (f_X8_isEmpty v0 v2 M) fun z5 => if z5.2 = 0 then (f_X8_gapFrom_b28 v0 v2 z5.1) else (f_X8_gapFrom_b22 k4 v0 v2 z5.1)))
def f_X8_gapFrom_L4  : Nat → Nat → Int32 → Mem → Option (Mem × Int32)
  | 0 => fun _ _ _ => none
  | n + 1 => f_X8_gapFrom_b4  (f_X8_gapFrom_L4  n)
def f_X8_gapFrom (v0 : Nat) (v1 : Int32) (M : Mem) : Option (Mem × Int32) := lt_ ((v1 - (1 : Int32))) fun x6 => f_X8_gapFrom_L4 200 v0 x6 M
abbrev rm_X8_gapFrom : Room := { frames := 1, cells := 0, slots := 0, locals := 23 }
theorem hd_X8_gapFrom : yX8_gapFrom.cls ≠ "java/lang/invoke/MethodHandle" ∧ yX8_gapFrom.cls ≠ "java/lang/invoke/VarHandle" ∧ (parseMethodDescriptor yX8_gapFrom.desc).map (fun d => d.parameters.length) = some 1 := by decide +kernel
set_option maxHeartbeats 8000000 in
set_option maxRecDepth 100000 in
theorem c_X8_gapFrom {l : Launch} {D : va_G} {ca : Nat → ClassId} {b : Nat} {nx : Bool} {v0 : Nat} {v1 : Int32} {M : Mem} {r : Mem × Int32} (hf : f_X8_gapFrom v0 v1 M = some r) : CtI l yX8_gapFrom cX8_gapFrom 5 (some .int) rm_X8_gapFrom D ca b nx [.ref v0, .int v1] M r := by
  intro sz
  refine body_start (Qc := fun A => cvI D ca nx A r) (by decide +kernel) (Nat.le_of_ble_eq_true rfl) ?_
  intro p e s m args below meth c A hC hr hR ls hl
  obtain ⟨hx, hb, hml, hts, hown, hlocks, hXe, hA, hAb, hnm⟩ := id hC
  have hK := hXe.1
  have hl : lv_has ls 5 [(0, .ref v0), (1, .int v1)] := hl
  have hB81 : ∀  (v3 : Int32) (M : Mem) (H : Heap) (locs : List Loc) (ls : Array Slot), f_X8_gapFrom_b81  v3 M = some r → Hp D ca nx A s M H locs → lv_has ls 5 [(3, .int v3)] → W p l e rm_X8_gapFrom s m args below meth c H locs 0 0 (MQ below (cvI D ca nx A r) args s 0 0 A) (F0 m 81 ls []) := by
    intro  v3 M H locs ls hf hR hl
    unfold f_X8_gapFrom_b81 at hf
    refine lv_iload_n (pc := 81) hx hb dX8_gapFrom_81 rfl (lv_at hl 0 rfl) ?_
    exact rg_iret (pc := 82) hx hb hlocks hr hf hR dX8_gapFrom_82
  have hB75 : ∀ (k35 : Nat → Int32 → Int32 → Int32 → Mem → Option (Mem × Int32)) (hk35 : ∀ (v0 : Nat) (v2 : Int32) (v3 : Int32) (v4 : Int32) (M : Mem) (H : Heap) (locs : List Loc) (ls : Array Slot), k35 v0 v2 v3 v4 M = some r → Hp D ca nx A s M H locs → lv_has ls 5 [(0, .ref v0), (2, .int v2), (3, .int v3), (4, .int v4)] → W p l e rm_X8_gapFrom s m args below meth c H locs 0 0 (MQ below (cvI D ca nx A r) args s 0 0 A) (F0 m 35 ls [])) (v0 : Nat) (v2 : Int32) (v3 : Int32) (v4 : Int32) (M : Mem) (H : Heap) (locs : List Loc) (ls : Array Slot), f_X8_gapFrom_b75 k35 v0 v2 v3 v4 M = some r → Hp D ca nx A s M H locs → lv_has ls 5 [(0, .ref v0), (2, .int v2), (3, .int v3), (4, .int v4)] → W p l e rm_X8_gapFrom s m args below meth c H locs 0 0 (MQ below (cvI D ca nx A r) args s 0 0 A) (F0 m 75 ls []) := by
    intro k35 hk35 v0 v2 v3 v4 M H locs ls hf hR hl
    unfold f_X8_gapFrom_b75 at hf
    refine rg_iinc (pc := 75) hx hb dX8_gapFrom_75 hl (k := 3) rfl rfl (by decide) hf (fun x1 ls hf hl => ?_)
    have hl : lv_has ls 5 [(4, .int x1), (0, .ref v0), (2, .int v2), (3, .int v3)] := hl
    refine lv_goto (pc := 78) (tgt := 35) hx hb dX8_gapFrom_78 (by decide) ?_
    exact hk35 v0 v2 v3 x1 M _ _ _ hf hR (lv_sub hl [1, 2, 3, 0] rfl)
  have hB71 : ∀ (k35 : Nat → Int32 → Int32 → Int32 → Mem → Option (Mem × Int32)) (hk35 : ∀ (v0 : Nat) (v2 : Int32) (v3 : Int32) (v4 : Int32) (M : Mem) (H : Heap) (locs : List Loc) (ls : Array Slot), k35 v0 v2 v3 v4 M = some r → Hp D ca nx A s M H locs → lv_has ls 5 [(0, .ref v0), (2, .int v2), (3, .int v3), (4, .int v4)] → W p l e rm_X8_gapFrom s m args below meth c H locs 0 0 (MQ below (cvI D ca nx A r) args s 0 0 A) (F0 m 35 ls [])) (s0 : Int32) (v0 : Nat) (v4 : Int32) (M : Mem) (H : Heap) (locs : List Loc) (ls : Array Slot), f_X8_gapFrom_b71 k35 s0 v0 v4 M = some r → Hp D ca nx A s M H locs → lv_has ls 5 [(0, .ref v0), (4, .int v4)] → W p l e rm_X8_gapFrom s m args below meth c H locs 0 0 (MQ below (cvI D ca nx A r) args s 0 0 A) (F0 m 71 ls [.int s0]) := by
    intro k35 hk35 s0 v0 v4 M H locs ls hf hR hl
    unfold f_X8_gapFrom_b71 at hf
    refine lv_istore_n (pc := 71) (lv' := [(3, .int s0), (0, .ref v0), (4, .int v4)]) hx hb dX8_gapFrom_71 rfl hl (by decide) rfl (fun ls hl => ?_)
    refine lv_iload (pc := 72) hx hb dX8_gapFrom_72 (lv_at hl 2 rfl) ?_
    refine lv_istore_n (pc := 74) (lv' := [(2, .int v4), (3, .int s0), (0, .ref v0), (4, .int v4)]) hx hb dX8_gapFrom_74 rfl hl (by decide) rfl (fun ls hl => ?_)
    exact hB75 k35 hk35 v0 v4 s0 v4 M _ _ _ hf hR (lv_sub hl [2, 0, 1, 3] rfl)
  have hB35 : ∀ (k35 : Nat → Int32 → Int32 → Int32 → Mem → Option (Mem × Int32)) (hk35 : ∀ (v0 : Nat) (v2 : Int32) (v3 : Int32) (v4 : Int32) (M : Mem) (H : Heap) (locs : List Loc) (ls : Array Slot), k35 v0 v2 v3 v4 M = some r → Hp D ca nx A s M H locs → lv_has ls 5 [(0, .ref v0), (2, .int v2), (3, .int v3), (4, .int v4)] → W p l e rm_X8_gapFrom s m args below meth c H locs 0 0 (MQ below (cvI D ca nx A r) args s 0 0 A) (F0 m 35 ls [])) (v0 : Nat) (v2 : Int32) (v3 : Int32) (v4 : Int32) (M : Mem) (H : Heap) (locs : List Loc) (ls : Array Slot), f_X8_gapFrom_b35 k35 v0 v2 v3 v4 M = some r → Hp D ca nx A s M H locs → lv_has ls 5 [(0, .ref v0), (2, .int v2), (3, .int v3), (4, .int v4)] → W p l e rm_X8_gapFrom s m args below meth c H locs 0 0 (MQ below (cvI D ca nx A r) args s 0 0 A) (F0 m 35 ls []) := by
    intro k35 hk35 v0 v2 v3 v4 M H locs ls hf hR hl
    unfold f_X8_gapFrom_b35 at hf
    refine lv_iload (pc := 35) hx hb dX8_gapFrom_35 (lv_at hl 3 rfl) ?_
    refine lv_bipush (pc := 37) (v := (64 : Int32)) hx hb dX8_gapFrom_37 (by decide) ?_
    refine lv_icmp_ge (pc := 39) (tgt := 81) hx hb dX8_gapFrom_39 (by decide) (fun hc => ?_) (fun hc => ?_)
    · replace hf := it_t hf hc
      exact hB81 v3 M _ _ _ hf hR (lv_sub hl [2] rfl)
    · replace hf := it_f hf hc
      refine lv_iload_n (pc := 42) hx hb dX8_gapFrom_42 rfl (lv_at hl 2 rfl) ?_
      refine lv_iconst (pc := 43) (v := (-1 : Int32)) hx hb dX8_gapFrom_43 (by decide) ?_
      refine lv_icmp_ne (pc := 44) (tgt := 81) hx hb dX8_gapFrom_44 (by decide) (fun hc => ?_) (fun hc => ?_)
      · replace hf := it_f hf hc
        exact hB81 v3 M _ _ _ hf hR (lv_sub hl [2] rfl)
      · replace hf := it_t hf hc
        refine lv_aload_n (pc := 47) hx hb dX8_gapFrom_47 rfl (lv_at hl 0 rfl) ?_
        refine lv_iload (pc := 48) hx hb dX8_gapFrom_48 (lv_at hl 3 rfl) ?_
        obtain ⟨hq, hf⟩ := gd_e hf
        refine rg_I (pc := 50) hf hR hA (fun z hz => rn_V (κ := 8) (As := [.int v4]) (rest := []) hC hR rfl (by decide) hq (c_X8_isEmpty  hz _) m_949 m_951 ms_29 m_9 m_952 hd_X8_isEmpty ⟨rfl, rfl, Nat.le_of_ble_eq_true rfl, Nat.le_of_ble_eq_true rfl⟩ rfl hl.1 rfl (Nat.le_of_ble_eq_true rfl) dX8_gapFrom_50 ⟨Nat.le_of_ble_eq_true rfl, Nat.le_of_ble_eq_true rfl⟩) (fun z2 H locs hf hR => ?_)
        refine lv_if_ne (pc := 53) (tgt := 75) hx hb dX8_gapFrom_53 (by decide) (fun hc => ?_) (fun hc => ?_)
        · replace hf := it_f hf hc
          exact hB75 k35 hk35 v0 v2 v3 v4 z2.1 _ _ _ hf hR (lv_sub hl [0, 1, 2, 3] rfl)
        · replace hf := it_t hf hc
          refine lv_iload (pc := 56) hx hb dX8_gapFrom_56 (lv_at hl 3 rfl) ?_
          refine lv_iload_n (pc := 58) hx hb dX8_gapFrom_58 rfl (lv_at hl 1 rfl) ?_
          refine lv_isub (pc := 59) hx hb dX8_gapFrom_59 ?_
          refine lv_iconst (pc := 60) (v := (2 : Int32)) hx hb dX8_gapFrom_60 (by decide) ?_
          refine lv_icmp_le (pc := 61) (tgt := 70) hx hb dX8_gapFrom_61 (by decide) (fun hc => ?_) (fun hc => ?_)
          · replace hf := it_t hf hc
            refine lv_iconst (pc := 70) (v := (-1 : Int32)) hx hb dX8_gapFrom_70 (by decide) ?_
            exact hB71 k35 hk35 (-1 : Int32) v0 v4 z2.1 _ _ _ hf hR (lv_sub hl [0, 3] rfl)
          · replace hf := it_f hf hc
            refine lv_iload_n (pc := 64) hx hb dX8_gapFrom_64 rfl (lv_at hl 1 rfl) ?_
            refine lv_iconst (pc := 65) (v := (1 : Int32)) hx hb dX8_gapFrom_65 (by decide) ?_
            refine lv_iadd (pc := 66) hx hb dX8_gapFrom_66 ?_
            refine lv_goto (pc := 67) (tgt := 71) hx hb dX8_gapFrom_67 (by decide) ?_
            exact hB71 k35 hk35 (v2 + (1 : Int32)) v0 v4 z2.1 _ _ _ hf hR (lv_sub hl [0, 3] rfl)
  have hL35 : ∀  (n : Nat) (v0 : Nat) (v2 : Int32) (v3 : Int32) (v4 : Int32) (M : Mem) (H : Heap) (locs : List Loc) (ls : Array Slot), f_X8_gapFrom_L35  n v0 v2 v3 v4 M = some r → Hp D ca nx A s M H locs → lv_has ls 5 [(0, .ref v0), (2, .int v2), (3, .int v3), (4, .int v4)] → W p l e rm_X8_gapFrom s m args below meth c H locs 0 0 (MQ below (cvI D ca nx A r) args s 0 0 A) (F0 m 35 ls []) := by
    intro  n
    induction n with
    | zero => intro v0 v2 v3 v4 M H locs ls hf; exact nomatch (show (none : Option (Mem × Int32)) = some r from hf)
    | succ n ih => intro v0 v2 v3 v4 M H locs ls hf hR hl; exact hB35  (f_X8_gapFrom_L35  n) ih v0 v2 v3 v4 M H locs ls hf hR hl
  have hB28 : ∀  (v0 : Nat) (v2 : Int32) (M : Mem) (H : Heap) (locs : List Loc) (ls : Array Slot), f_X8_gapFrom_b28  v0 v2 M = some r → Hp D ca nx A s M H locs → lv_has ls 5 [(0, .ref v0), (2, .int v2)] → W p l e rm_X8_gapFrom s m args below meth c H locs 0 0 (MQ below (cvI D ca nx A r) args s 0 0 A) (F0 m 28 ls []) := by
    intro  v0 v2 M H locs ls hf hR hl
    unfold f_X8_gapFrom_b28 at hf
    refine lv_iconst (pc := 28) (v := (-1 : Int32)) hx hb dX8_gapFrom_28 (by decide) ?_
    refine lv_istore_n (pc := 29) (lv' := [(3, .int (-1 : Int32)), (0, .ref v0), (2, .int v2)]) hx hb dX8_gapFrom_29 rfl hl (by decide) rfl (fun ls hl => ?_)
    refine lv_iload_n (pc := 30) hx hb dX8_gapFrom_30 rfl (lv_at hl 2 rfl) ?_
    refine lv_iconst (pc := 31) (v := (1 : Int32)) hx hb dX8_gapFrom_31 (by decide) ?_
    refine lv_iadd (pc := 32) hx hb dX8_gapFrom_32 ?_
    refine nm_i hf (fun x3 hf => ?_)
    refine lv_istore (pc := 33) (lv' := [(4, .int x3), (3, .int (-1 : Int32)), (0, .ref v0), (2, .int v2)]) hx hb dX8_gapFrom_33 hl (by decide) rfl (fun ls hl => ?_)
    exact hL35 200 v0 v2 (-1 : Int32) x3 M _ _ _ hf hR (lv_sub hl [2, 3, 1, 0] rfl)
  have hB22 : ∀ (k4 : Nat → Int32 → Mem → Option (Mem × Int32)) (hk4 : ∀ (v0 : Nat) (v2 : Int32) (M : Mem) (H : Heap) (locs : List Loc) (ls : Array Slot), k4 v0 v2 M = some r → Hp D ca nx A s M H locs → lv_has ls 5 [(0, .ref v0), (2, .int v2)] → W p l e rm_X8_gapFrom s m args below meth c H locs 0 0 (MQ below (cvI D ca nx A r) args s 0 0 A) (F0 m 4 ls [])) (v0 : Nat) (v2 : Int32) (M : Mem) (H : Heap) (locs : List Loc) (ls : Array Slot), f_X8_gapFrom_b22 k4 v0 v2 M = some r → Hp D ca nx A s M H locs → lv_has ls 5 [(0, .ref v0), (2, .int v2)] → W p l e rm_X8_gapFrom s m args below meth c H locs 0 0 (MQ below (cvI D ca nx A r) args s 0 0 A) (F0 m 22 ls []) := by
    intro k4 hk4 v0 v2 M H locs ls hf hR hl
    unfold f_X8_gapFrom_b22 at hf
    refine rg_iinc (pc := 22) hx hb dX8_gapFrom_22 hl (k := 1) rfl rfl (by decide) hf (fun x4 ls hf hl => ?_)
    have hl : lv_has ls 5 [(2, .int x4), (0, .ref v0)] := hl
    refine lv_goto (pc := 25) (tgt := 4) hx hb dX8_gapFrom_25 (by decide) ?_
    exact hk4 v0 x4 M _ _ _ hf hR (lv_sub hl [1, 0] rfl)
  have hB4 : ∀ (k4 : Nat → Int32 → Mem → Option (Mem × Int32)) (hk4 : ∀ (v0 : Nat) (v2 : Int32) (M : Mem) (H : Heap) (locs : List Loc) (ls : Array Slot), k4 v0 v2 M = some r → Hp D ca nx A s M H locs → lv_has ls 5 [(0, .ref v0), (2, .int v2)] → W p l e rm_X8_gapFrom s m args below meth c H locs 0 0 (MQ below (cvI D ca nx A r) args s 0 0 A) (F0 m 4 ls [])) (v0 : Nat) (v2 : Int32) (M : Mem) (H : Heap) (locs : List Loc) (ls : Array Slot), f_X8_gapFrom_b4 k4 v0 v2 M = some r → Hp D ca nx A s M H locs → lv_has ls 5 [(0, .ref v0), (2, .int v2)] → W p l e rm_X8_gapFrom s m args below meth c H locs 0 0 (MQ below (cvI D ca nx A r) args s 0 0 A) (F0 m 4 ls []) := by
    intro k4 hk4 v0 v2 M H locs ls hf hR hl
    unfold f_X8_gapFrom_b4 at hf
    refine lv_iload_n (pc := 4) hx hb dX8_gapFrom_4 rfl (lv_at hl 1 rfl) ?_
    refine lv_bipush (pc := 5) (v := (64 : Int32)) hx hb dX8_gapFrom_5 (by decide) ?_
    refine lv_icmp_ge (pc := 7) (tgt := 28) hx hb dX8_gapFrom_7 (by decide) (fun hc => ?_) (fun hc => ?_)
    · replace hf := it_t hf hc
      exact hB28 v0 v2 M _ _ _ hf hR (lv_sub hl [0, 1] rfl)
    · replace hf := it_f hf hc
      refine lv_iload_n (pc := 10) hx hb dX8_gapFrom_10 rfl (lv_at hl 1 rfl) ?_
      refine lv_if_lt (pc := 11) (tgt := 22) hx hb dX8_gapFrom_11 (by decide) (fun hc => ?_) (fun hc => ?_)
      · replace hf := it_t hf hc
        exact hB22 k4 hk4 v0 v2 M _ _ _ hf hR (lv_sub hl [0, 1] rfl)
      · replace hf := it_f hf hc
        refine lv_aload_n (pc := 14) hx hb dX8_gapFrom_14 rfl (lv_at hl 0 rfl) ?_
        refine lv_iload_n (pc := 15) hx hb dX8_gapFrom_15 rfl (lv_at hl 1 rfl) ?_
        obtain ⟨hq, hf⟩ := gd_e hf
        refine rg_I (pc := 16) hf hR hA (fun z hz => rn_V (κ := 8) (As := [.int v2]) (rest := []) hC hR rfl (by decide) hq (c_X8_isEmpty  hz _) m_949 m_951 ms_29 m_9 m_952 hd_X8_isEmpty ⟨rfl, rfl, Nat.le_of_ble_eq_true rfl, Nat.le_of_ble_eq_true rfl⟩ rfl hl.1 rfl (Nat.le_of_ble_eq_true rfl) dX8_gapFrom_16 ⟨Nat.le_of_ble_eq_true rfl, Nat.le_of_ble_eq_true rfl⟩) (fun z5 H locs hf hR => ?_)
        refine lv_if_eq (pc := 19) (tgt := 28) hx hb dX8_gapFrom_19 (by decide) (fun hc => ?_) (fun hc => ?_)
        · replace hf := it_t hf hc
          exact hB28 v0 v2 z5.1 _ _ _ hf hR (lv_sub hl [0, 1] rfl)
        · replace hf := it_f hf hc
          exact hB22 k4 hk4 v0 v2 z5.1 _ _ _ hf hR (lv_sub hl [0, 1] rfl)
  have hL4 : ∀  (n : Nat) (v0 : Nat) (v2 : Int32) (M : Mem) (H : Heap) (locs : List Loc) (ls : Array Slot), f_X8_gapFrom_L4  n v0 v2 M = some r → Hp D ca nx A s M H locs → lv_has ls 5 [(0, .ref v0), (2, .int v2)] → W p l e rm_X8_gapFrom s m args below meth c H locs 0 0 (MQ below (cvI D ca nx A r) args s 0 0 A) (F0 m 4 ls []) := by
    intro  n
    induction n with
    | zero => intro v0 v2 M H locs ls hf; exact nomatch (show (none : Option (Mem × Int32)) = some r from hf)
    | succ n ih => intro v0 v2 M H locs ls hf hR hl; exact hB4  (f_X8_gapFrom_L4  n) ih v0 v2 M H locs ls hf hR hl
  unfold f_X8_gapFrom at hf
  refine lv_iload_n (pc := 0) hx hb dX8_gapFrom_0 rfl (lv_at hl 1 rfl) ?_
  refine lv_iconst (pc := 1) (v := (1 : Int32)) hx hb dX8_gapFrom_1 (by decide) ?_
  refine lv_isub (pc := 2) hx hb dX8_gapFrom_2 ?_
  refine nm_i hf (fun x6 hf => ?_)
  refine lv_istore_n (pc := 3) (lv' := [(2, .int x6), (0, .ref v0), (1, .int v1)]) hx hb dX8_gapFrom_3 rfl hl (by decide) rfl (fun ls hl => ?_)
  exact hL4 200 v0 x6 M _ _ _ hf hR (lv_sub hl [1, 0] rfl)
