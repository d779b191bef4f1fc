-- X2_carried
def f_X2_carried (v0 : Nat) (M : Mem) : Option (Mem × Int64) := gd (M.1 v0 = 2) <| gd (M.1 v0 = 2) <| some (M, (((mm_i M v0 2)).toInt64 * (((mm_i M v0 0) + (20 : Int32))).toInt64))
abbrev rm_X2_carried : Room := { frames := 0, cells := 0, slots := 0, locals := 0 }
theorem hd_X2_carried : yX2_carried.cls ≠ "java/lang/invoke/MethodHandle" ∧ yX2_carried.cls ≠ "java/lang/invoke/VarHandle" ∧ (parseMethodDescriptor yX2_carried.desc).map (fun d => d.parameters.length) = some 0 := by decide +kernel
set_option maxHeartbeats 8000000 in
set_option maxRecDepth 100000 in
theorem c_X2_carried {l : Launch} {D : va_G} {ca : Nat → ClassId} {b : Nat} {nx : Bool} {v0 : Nat} {M : Mem} {r : Mem × Int64} (hf : f_X2_carried v0 M = some r) : CtL l yX2_carried cX2_carried 1 (some .long) rm_X2_carried D ca b nx [.ref v0] M r := by
  intro sz
  refine body_start (Qc := fun A => cvL D ca nx A r) (by decide +kernel) (Nat.le_of_ble_eq_true rfl) ?_
  intro p e s m args below meth c A hC hr hR ls hl
  obtain ⟨hx, hb, hml, hts, hown, hlocks, hXe, hA, hAb, hnm⟩ := id hC
  have hK := hXe.1
  have hl : lv_has ls 1 [(0, .ref v0)] := hl
  unfold f_X2_carried at hf
  refine lv_aload_n (pc := 0) hx hb dX2_carried_0 rfl (lv_at hl 0 rfl) ?_
  refine rg_get (pc := 1) (C := RX2) (T := TX2) (N := 7) (κ := 2) (v := .int (mm_i M v0 2)) hx hb hts hK hR hown in_2 rfl (by decide) 2 (by decide) m_113 rfl dX2_carried_1 hf (fun hf => ?_)
  refine lv_i2l (pc := 4) hx hb dX2_carried_4 rfl ?_
  refine lv_aload_n (pc := 5) hx hb dX2_carried_5 rfl (lv_at hl 0 rfl) ?_
  refine rg_get (pc := 6) (C := RX2) (T := TX2) (N := 7) (κ := 2) (v := .int (mm_i M v0 0)) hx hb hts hK hR hown in_2 rfl (by decide) 0 (by decide) m_107 rfl dX2_carried_6 hf (fun hf => ?_)
  refine lv_bipush (pc := 9) (v := (20 : Int32)) hx hb dX2_carried_9 (by decide) ?_
  refine lv_iadd (pc := 11) hx hb dX2_carried_11 ?_
  refine lv_i2l (pc := 12) hx hb dX2_carried_12 rfl ?_
  refine lv_lmul (pc := 13) hx hb dX2_carried_13 ?_
  exact rg_lret (pc := 14) hx hb hlocks hr hf hR dX2_carried_14
-- X7_anglesApart
def f_X7_anglesApart (v0 : Int32) (v1 : Int32) (M : Mem) : Option (Mem × Int32) := lt_ ((if 0 ≤ (v0 - v1) then (v0 - v1) else 0 - (v0 - v1))) fun x1 => some (M, (if ((36000 : Int32) - x1) < x1 then ((36000 : Int32) - x1) else x1))
abbrev rm_X7_anglesApart : Room := { frames := 1, cells := 0, slots := 0, locals := 24 }
theorem hd_X7_anglesApart : yX7_anglesApart.cls ≠ "java/lang/invoke/MethodHandle" ∧ yX7_anglesApart.cls ≠ "java/lang/invoke/VarHandle" ∧ (parseMethodDescriptor yX7_anglesApart.desc).map (fun d => d.parameters.length) = some 2 := by decide +kernel
set_option maxHeartbeats 8000000 in
set_option maxRecDepth 100000 in
theorem c_X7_anglesApart {l : Launch} {D : va_G} {ca : Nat → ClassId} {b : Nat} {nx : Bool} {v0 : Int32} {v1 : Int32} {M : Mem} {r : Mem × Int32} (hf : f_X7_anglesApart v0 v1 M = some r) : CtI l yX7_anglesApart cX7_anglesApart 3 (some .int) rm_X7_anglesApart D ca b nx [.int v0, .int v1] M r := by
  intro sz
  refine body_start (Qc := fun A => cvI D ca nx A r) (by decide +kernel) (Nat.le_of_ble_eq_true rfl) ?_
  intro p e s m args below meth c A hC hr hR ls hl
  obtain ⟨hx, hb, hml, hts, hown, hlocks, hXe, hA, hAb, hnm⟩ := id hC
  have hK := hXe.1
  have hl : lv_has ls 3 [(0, .int v0), (1, .int v1)] := hl
  unfold f_X7_anglesApart at hf
  refine lv_iload_n (pc := 0) hx hb dX7_anglesApart_0 rfl (lv_at hl 0 rfl) ?_
  refine lv_iload_n (pc := 1) hx hb dX7_anglesApart_1 rfl (lv_at hl 1 rfl) ?_
  refine lv_isub (pc := 2) hx hb dX7_anglesApart_2 ?_
  refine va_mabs (pc := 3) hx hb (hml.trans hl.1.symm) hown (hts _ m_414) (hts _ m_409) (hts _ m_14) (hts _ m_410) (Nat.le_of_ble_eq_true rfl) (Nat.le_of_ble_eq_true rfl) (Nat.le_of_ble_eq_true rfl) (Nat.le_of_ble_eq_true rfl) dX7_anglesApart_3 ?_
  refine nm_i hf (fun x1 hf => ?_)
  refine lv_istore_n (pc := 6) (lv' := [(2, .int x1), (0, .int v0), (1, .int v1)]) hx hb dX7_anglesApart_6 rfl hl (by decide) rfl (fun ls hl => ?_)
  refine lv_iload_n (pc := 7) hx hb dX7_anglesApart_7 rfl (lv_at hl 0 rfl) ?_
  refine lv_ldcw (pc := 8) hx hb hown (hts _ m_393) dX7_anglesApart_8 ?_
  refine lv_iload_n (pc := 11) hx hb dX7_anglesApart_11 rfl (lv_at hl 0 rfl) ?_
  refine lv_isub (pc := 12) hx hb dX7_anglesApart_12 ?_
  refine va_mmin (pc := 13) hx hb (hml.trans hl.1.symm) hown (hts _ m_415) (hts _ m_416) (hts _ m_14) (hts _ m_417) (Nat.le_of_ble_eq_true rfl) (Nat.le_of_ble_eq_true rfl) (Nat.le_of_ble_eq_true rfl) (Nat.le_of_ble_eq_true rfl) dX7_anglesApart_13 ?_
  exact rg_iret (pc := 16) hx hb hlocks hr hf hR dX7_anglesApart_16
-- X2_isNear
def f_X2_isNear_b31  (s0 : Int32) (M : Mem) : Option (Mem × Int32) := gd (s0 = 0 ∨ s0 = 1) <| some (M, s0)
def f_X2_isNear_b30   (M : Mem) : Option (Mem × Int32) := f_X2_isNear_b31 (0 : Int32) M
def f_X2_isNear (v0 : Nat) (v1 : Int32) (v2 : Int32) (v3 : Int32) (v4 : Int32) (M : Mem) : Option (Mem × Int32) := gd (M.1 v0 = 2) <| if v3 < (if 0 ≤ ((mm_i M v0 0) - v1) then ((mm_i M v0 0) - v1) else 0 - ((mm_i M v0 0) - v1)) then (f_X2_isNear_b30  M) else (gd (M.1 v0 = 2) <| bd (f_X7_anglesApart (mm_i M v0 1) v2 M) fun z1 => if v4 < z1.2 then (f_X2_isNear_b30  z1.1) else (f_X2_isNear_b31 (1 : Int32) z1.1))
abbrev rm_X2_isNear : Room := { frames := 2, cells := 0, slots := 0, locals := 46 }
theorem hd_X2_isNear : yX2_isNear.cls ≠ "java/lang/invoke/MethodHandle" ∧ yX2_isNear.cls ≠ "java/lang/invoke/VarHandle" ∧ (parseMethodDescriptor yX2_isNear.desc).map (fun d => d.parameters.length) = some 4 := by decide +kernel
set_option maxHeartbeats 8000000 in
set_option maxRecDepth 100000 in
theorem c_X2_isNear {l : Launch} {D : va_G} {ca : Nat → ClassId} {b : Nat} {nx : Bool} {v0 : Nat} {v1 : Int32} {v2 : Int32} {v3 : Int32} {v4 : Int32} {M : Mem} {r : Mem × Int32} (hf : f_X2_isNear v0 v1 v2 v3 v4 M = some r) : CtI l yX2_isNear cX2_isNear 5 (some .boolean) rm_X2_isNear D ca b nx [.ref v0, .int v1, .int v2, .int v3, .int v4] M r := by
  intro sz
  refine body_start (Qc := fun A => cvI D ca nx A r) (by decide +kernel) (Nat.le_of_ble_eq_true rfl) ?_
  intro p e s m args below meth c A hC hr hR ls hl
  obtain ⟨hx, hb, hml, hts, hown, hlocks, hXe, hA, hAb, hnm⟩ := id hC
  have hK := hXe.1
  have hl : lv_has ls 5 [(0, .ref v0), (1, .int v1), (2, .int v2), (3, .int v3), (4, .int v4)] := hl
  have hB31 : ∀  (s0 : Int32) (M : Mem) (H : Heap) (locs : List Loc) (ls : Array Slot), f_X2_isNear_b31  s0 M = some r → Hp D ca nx A s M H locs → lv_has ls 5 [] → W p l e rm_X2_isNear s m args below meth c H locs 0 0 (MQ below (cvI D ca nx A r) args s 0 0 A) (F0 m 31 ls [.int s0]) := by
    intro  s0 M H locs ls hf hR hl
    unfold f_X2_isNear_b31 at hf
    exact rg_zret (pc := 31) hx hb hlocks hr hf hR dX2_isNear_31
  have hB30 : ∀   (M : Mem) (H : Heap) (locs : List Loc) (ls : Array Slot), f_X2_isNear_b30   M = some r → Hp D ca nx A s M H locs → lv_has ls 5 [] → W p l e rm_X2_isNear s m args below meth c H locs 0 0 (MQ below (cvI D ca nx A r) args s 0 0 A) (F0 m 30 ls []) := by
    intro   M H locs ls hf hR hl
    unfold f_X2_isNear_b30 at hf
    refine lv_iconst (pc := 30) (v := (0 : Int32)) hx hb dX2_isNear_30 (by decide) ?_
    exact hB31 (0 : Int32) M _ _ _ hf hR (lv_sub hl [] rfl)
  unfold f_X2_isNear at hf
  refine lv_aload_n (pc := 0) hx hb dX2_isNear_0 rfl (lv_at hl 0 rfl) ?_
  refine rg_get (pc := 1) (C := RX2) (T := TX2) (N := 7) (κ := 2) (v := .int (mm_i M v0 0)) hx hb hts hK hR hown in_2 rfl (by decide) 0 (by decide) m_107 rfl dX2_isNear_1 hf (fun hf => ?_)
  refine lv_iload_n (pc := 4) hx hb dX2_isNear_4 rfl (lv_at hl 1 rfl) ?_
  refine lv_isub (pc := 5) hx hb dX2_isNear_5 ?_
  refine va_mabs (pc := 6) hx hb (hml.trans hl.1.symm) hown (hts _ m_408) (hts _ m_409) (hts _ m_14) (hts _ m_410) (Nat.le_of_ble_eq_true rfl) (Nat.le_of_ble_eq_true rfl) (Nat.le_of_ble_eq_true rfl) (Nat.le_of_ble_eq_true rfl) dX2_isNear_6 ?_
  refine lv_iload_n (pc := 9) hx hb dX2_isNear_9 rfl (lv_at hl 3 rfl) ?_
  refine lv_icmp_gt (pc := 10) (tgt := 30) hx hb dX2_isNear_10 (by decide) (fun hc => ?_) (fun hc => ?_)
  · replace hf := it_t hf hc
    exact hB30  M _ _ _ hf hR (lv_sub hl [] rfl)
  · replace hf := it_f hf hc
    refine lv_aload_n (pc := 13) hx hb dX2_isNear_13 rfl (lv_at hl 0 rfl) ?_
    refine rg_get (pc := 14) (C := RX2) (T := TX2) (N := 7) (κ := 2) (v := .int (mm_i M v0 1)) hx hb hts hK hR hown in_2 rfl (by decide) 1 (by decide) m_111 rfl dX2_isNear_14 hf (fun hf => ?_)
    refine lv_iload_n (pc := 17) hx hb dX2_isNear_17 rfl (lv_at hl 2 rfl) ?_
    refine rg_I (pc := 18) hf hR hA (fun z hz => rn_SN (host := "RingHerd") (As := [.int (mm_i M v0 1), .int v2]) (rest := []) hC hR (c_X7_anglesApart  hz _) (by decide +kernel) m_412 m_1 m_413 hd_X7_anglesApart ⟨rfl, rfl, Nat.le_of_ble_eq_true rfl, Nat.le_of_ble_eq_true rfl⟩ rfl hl.1 rfl (Nat.le_of_ble_eq_true rfl) dX2_isNear_18 ⟨Nat.le_of_ble_eq_true rfl, Nat.le_of_ble_eq_true rfl⟩) (fun z1 H locs hf hR => ?_)
    refine lv_iload (pc := 21) hx hb dX2_isNear_21 (lv_at hl 4 rfl) ?_
    refine lv_icmp_gt (pc := 23) (tgt := 30) hx hb dX2_isNear_23 (by decide) (fun hc => ?_) (fun hc => ?_)
    · replace hf := it_t hf hc
      exact hB30  z1.1 _ _ _ hf hR (lv_sub hl [] rfl)
    · replace hf := it_f hf hc
      refine lv_iconst (pc := 26) (v := (1 : Int32)) hx hb dX2_isNear_26 (by decide) ?_
      refine lv_goto (pc := 27) (tgt := 31) hx hb dX2_isNear_27 (by decide) ?_
      exact hB31 (1 : Int32) z1.1 _ _ _ hf hR (lv_sub hl [] rfl)
-- X2_mayMeet
def f_X2_mayMeet_b19  (s0 : Int32) (M : Mem) : Option (Mem × Int32) := gd (s0 = 0 ∨ s0 = 1) <| some (M, s0)
def f_X2_mayMeet_b18   (M : Mem) : Option (Mem × Int32) := f_X2_mayMeet_b19 (0 : Int32) M
def f_X2_mayMeet (v0 : Nat) (M : Mem) : Option (Mem × Int32) := gd (M.1 v0 = 2) <| if (mm_i M v0 5) = 0 then (f_X2_mayMeet_b18  M) else (gd (M.1 v0 = 2) <| if (mm_i M v0 6) = 0 then (f_X2_mayMeet_b19 (1 : Int32) M) else (f_X2_mayMeet_b18  M))
abbrev rm_X2_mayMeet : Room := { frames := 0, cells := 0, slots := 0, locals := 0 }
theorem hd_X2_mayMeet : yX2_mayMeet.cls ≠ "java/lang/invoke/MethodHandle" ∧ yX2_mayMeet.cls ≠ "java/lang/invoke/VarHandle" ∧ (parseMethodDescriptor yX2_mayMeet.desc).map (fun d => d.parameters.length) = some 0 := by decide +kernel
set_option maxHeartbeats 8000000 in
set_option maxRecDepth 100000 in
theorem c_X2_mayMeet {l : Launch} {D : va_G} {ca : Nat → ClassId} {b : Nat} {nx : Bool} {v0 : Nat} {M : Mem} {r : Mem × Int32} (hf : f_X2_mayMeet v0 M = some r) : CtI l yX2_mayMeet cX2_mayMeet 1 (some .boolean) rm_X2_mayMeet D ca b nx [.ref v0] M r := by
  intro sz
  refine body_start (Qc := fun A => cvI D ca nx A r) (by decide +kernel) (Nat.le_of_ble_eq_true rfl) ?_
  intro p e s m args below meth c A hC hr hR ls hl
  obtain ⟨hx, hb, hml, hts, hown, hlocks, hXe, hA, hAb, hnm⟩ := id hC
  have hK := hXe.1
  have hl : lv_has ls 1 [(0, .ref v0)] := hl
  have hB19 : ∀  (s0 : Int32) (M : Mem) (H : Heap) (locs : List Loc) (ls : Array Slot), f_X2_mayMeet_b19  s0 M = some r → Hp D ca nx A s M H locs → lv_has ls 1 [] → W p l e rm_X2_mayMeet s m args below meth c H locs 0 0 (MQ below (cvI D ca nx A r) args s 0 0 A) (F0 m 19 ls [.int s0]) := by
    intro  s0 M H locs ls hf hR hl
    unfold f_X2_mayMeet_b19 at hf
    exact rg_zret (pc := 19) hx hb hlocks hr hf hR dX2_mayMeet_19
  have hB18 : ∀   (M : Mem) (H : Heap) (locs : List Loc) (ls : Array Slot), f_X2_mayMeet_b18   M = some r → Hp D ca nx A s M H locs → lv_has ls 1 [] → W p l e rm_X2_mayMeet s m args below meth c H locs 0 0 (MQ below (cvI D ca nx A r) args s 0 0 A) (F0 m 18 ls []) := by
    intro   M H locs ls hf hR hl
    unfold f_X2_mayMeet_b18 at hf
    refine lv_iconst (pc := 18) (v := (0 : Int32)) hx hb dX2_mayMeet_18 (by decide) ?_
    exact hB19 (0 : Int32) M _ _ _ hf hR (lv_sub hl [] rfl)
  unfold f_X2_mayMeet at hf
  refine lv_aload_n (pc := 0) hx hb dX2_mayMeet_0 rfl (lv_at hl 0 rfl) ?_
  refine rg_get (pc := 1) (C := RX2) (T := TX2) (N := 7) (κ := 2) (v := .int (mm_i M v0 5)) hx hb hts hK hR hown in_2 rfl (by decide) 5 (by decide) m_121 rfl dX2_mayMeet_1 hf (fun hf => ?_)
  refine lv_if_eq (pc := 4) (tgt := 18) hx hb dX2_mayMeet_4 (by decide) (fun hc => ?_) (fun hc => ?_)
  · replace hf := it_t hf hc
    exact hB18  M _ _ _ hf hR (lv_sub hl [] rfl)
  · replace hf := it_f hf hc
    refine lv_aload_n (pc := 7) hx hb dX2_mayMeet_7 rfl (lv_at hl 0 rfl) ?_
    refine rg_get (pc := 8) (C := RX2) (T := TX2) (N := 7) (κ := 2) (v := .int (mm_i M v0 6)) hx hb hts hK hR hown in_2 rfl (by decide) 6 (by decide) m_123 rfl dX2_mayMeet_8 hf (fun hf => ?_)
    refine lv_if_ne (pc := 11) (tgt := 18) hx hb dX2_mayMeet_11 (by decide) (fun hc => ?_) (fun hc => ?_)
    · replace hf := it_f hf hc
      exact hB18  M _ _ _ hf hR (lv_sub hl [] rfl)
    · replace hf := it_t hf hc
      refine lv_iconst (pc := 14) (v := (1 : Int32)) hx hb dX2_mayMeet_14 (by decide) ?_
      refine lv_goto (pc := 15) (tgt := 19) hx hb dX2_mayMeet_15 (by decide) ?_
      exact hB19 (1 : Int32) M _ _ _ hf hR (lv_sub hl [] rfl)
-- X3_put
def f_X3_put (v0 : Nat) (v1 : Int32) (v2 : Int32) (v3 : Int32) (v4 : Int32) (M : Mem) : Option (Mem × Int32) := gd (M.1 v0 = 3) <| rd (mm_r M v0 2) fun a1 => gd (M.1 v0 = 3) <| gd (M.1 a1 = 13 ∧ vi_ (mm_i M v0 3) (mm_N M a1)) <| rd (mm_r M a1 ((mm_i M v0 3)).toNatClampNeg) fun a2 => gd (M.1 a2 = 2) <| lt_ (ms_i M a2 0 v1) fun M3 => gd (M3.1 a2 = 2) <| lt_ (ms_i M3 a2 1 v2) fun M4 => gd (M4.1 a2 = 2) <| lt_ (ms_i M4 a2 2 v3) fun M5 => gd (M5.1 a2 = 2) <| lt_ (ms_i M5 a2 3 v4) fun M6 => gd (M6.1 a2 = 2) <| lt_ (ms_i M6 a2 5 (1 : Int32)) fun M7 => gd (M7.1 v0 = 3) <| rd (mm_r M7 v0 1) fun a8 => gd (M7.1 a8 = 4) <| gd (M7.1 a8 = 4) <| lt_ (ms_i M7 a8 5 ((mm_i M7 a8 5) + v3)) fun M9 => gd (M9.1 v0 = 3) <| rd (mm_r M9 v0 1) fun a10 => gd (M9.1 a10 = 4) <| gd (M9.1 a2 = 2) <| bd (f_X2_carried a2 M9) fun z11 => gd (z11.1.1 a10 = 4) <| lt_ (ms_l z11.1 a10 8 ((mm_l M9 a10 8) + z11.2)) fun M12 => gd (M12.1 v0 = 3) <| gd (M12.1 v0 = 3) <| lt_ (ms_i M12 v0 3 ((mm_i M12 v0 3) + (1 : Int32))) fun M13 => gd (M13.1 v0 = 3) <| some (M13, ((mm_i M13 v0 3) - (1 : Int32)))
abbrev rm_X3_put : Room := { frames := 1, cells := 0, slots := 0, locals := 20 }
theorem hd_X3_put : yX3_put.cls ≠ "java/lang/invoke/MethodHandle" ∧ yX3_put.cls ≠ "java/lang/invoke/VarHandle" ∧ (parseMethodDescriptor yX3_put.desc).map (fun d => d.parameters.length) = some 4 := by decide +kernel
set_option maxHeartbeats 8000000 in
set_option maxRecDepth 100000 in
theorem c_X3_put {l : Launch} {D : va_G} {ca : Nat → ClassId} {b : Nat} {nx : Bool} {v0 : Nat} {v1 : Int32} {v2 : Int32} {v3 : Int32} {v4 : Int32} {M : Mem} {r : Mem × Int32} (hf : f_X3_put v0 v1 v2 v3 v4 M = some r) : CtI l yX3_put cX3_put 6 (some .int) rm_X3_put D ca b nx [.ref v0, .int v1, .int v2, .int v3, .int v4] M r := by
  intro sz
  refine body_start (Qc := fun A => cvI D ca nx A r) (by decide +kernel) (Nat.le_of_ble_eq_true rfl) ?_
  intro p e s m args below meth c A hC hr hR ls hl
  obtain ⟨hx, hb, hml, hts, hown, hlocks, hXe, hA, hAb, hnm⟩ := id hC
  have hK := hXe.1
  have hl : lv_has ls 6 [(0, .ref v0), (1, .int v1), (2, .int v2), (3, .int v3), (4, .int v4)] := hl
  unfold f_X3_put at hf
  refine lv_aload_n (pc := 0) hx hb dX3_put_0 rfl (lv_at hl 0 rfl) ?_
  refine rg_getr (pc := 1) (C := RX3) (T := TX3) (N := 7) (κ := 3) hx hb hts hK hR hown in_3 rfl (by decide) 2 (by decide) m_144 rfl dX3_put_1 hf (fun a1 hf => ?_)
  refine lv_aload_n (pc := 4) hx hb dX3_put_4 rfl (lv_at hl 0 rfl) ?_
  refine rg_get (pc := 5) (C := RX3) (T := TX3) (N := 7) (κ := 3) (v := .int (mm_i M v0 3)) hx hb hts hK hR hown in_3 rfl (by decide) 3 (by decide) m_146 rfl dX3_put_5 hf (fun hf => ?_)
  refine rg_aald (pc := 8) (κ := 13) hx hb hK hR 3 rfl (by decide) dX3_put_8 hf (fun a2 hf => ?_)
  refine lv_astore (pc := 9) (lv' := [(5, .ref a2), (0, .ref v0), (1, .int v1), (2, .int v2), (3, .int v3), (4, .int v4)]) hx hb dX3_put_9 hl (by decide) rfl (fun ls hl => ?_)
  refine lv_aload (pc := 11) hx hb dX3_put_11 (lv_at hl 0 rfl) ?_
  refine lv_iload_n (pc := 13) hx hb dX3_put_13 rfl (lv_at hl 2 rfl) ?_
  refine rg_puti (pc := 14) (C := RX2) (T := TX2) (N := 7) (κ := 2) hx hb hts hK hR hown in_2 rfl (by decide) 0 (by decide) m_108 tyX2 tyX2_ok nmX2 rfl rfl rfl rfl dX3_put_14 hf (fun M3 H locs hf hR => ?_)
  refine lv_aload (pc := 17) hx hb dX3_put_17 (lv_at hl 0 rfl) ?_
  refine lv_iload_n (pc := 19) hx hb dX3_put_19 rfl (lv_at hl 3 rfl) ?_
  refine rg_puti (pc := 20) (C := RX2) (T := TX2) (N := 7) (κ := 2) hx hb hts hK hR hown in_2 rfl (by decide) 1 (by decide) m_110 tyX2 tyX2_ok nmX2 rfl rfl rfl rfl dX3_put_20 hf (fun M4 H locs hf hR => ?_)
  refine lv_aload (pc := 23) hx hb dX3_put_23 (lv_at hl 0 rfl) ?_
  refine lv_iload_n (pc := 25) hx hb dX3_put_25 rfl (lv_at hl 4 rfl) ?_
  refine rg_puti (pc := 26) (C := RX2) (T := TX2) (N := 7) (κ := 2) hx hb hts hK hR hown in_2 rfl (by decide) 2 (by decide) m_114 tyX2 tyX2_ok nmX2 rfl rfl rfl rfl dX3_put_26 hf (fun M5 H locs hf hR => ?_)
  refine lv_aload (pc := 29) hx hb dX3_put_29 (lv_at hl 0 rfl) ?_
  refine lv_iload (pc := 31) hx hb dX3_put_31 (lv_at hl 5 rfl) ?_
  refine rg_puti (pc := 33) (C := RX2) (T := TX2) (N := 7) (κ := 2) hx hb hts hK hR hown in_2 rfl (by decide) 3 (by decide) m_116 tyX2 tyX2_ok nmX2 rfl rfl rfl rfl dX3_put_33 hf (fun M6 H locs hf hR => ?_)
  refine lv_aload (pc := 36) hx hb dX3_put_36 (lv_at hl 0 rfl) ?_
  refine lv_iconst (pc := 38) (v := (1 : Int32)) hx hb dX3_put_38 (by decide) ?_
  refine rg_puti (pc := 39) (C := RX2) (T := TX2) (N := 7) (κ := 2) hx hb hts hK hR hown in_2 rfl (by decide) 5 (by decide) m_120 tyX2 tyX2_ok nmX2 rfl rfl rfl rfl dX3_put_39 hf (fun M7 H locs hf hR => ?_)
  refine lv_aload_n (pc := 42) hx hb dX3_put_42 rfl (lv_at hl 1 rfl) ?_
  refine rg_getr (pc := 43) (C := RX3) (T := TX3) (N := 7) (κ := 3) hx hb hts hK hR hown in_3 rfl (by decide) 1 (by decide) m_142 rfl dX3_put_43 hf (fun a8 hf => ?_)
  refine lv_dup (pc := 46) hx hb dX3_put_46 rfl ?_
  refine rg_get (pc := 47) (C := RX4) (T := TX4) (N := 13) (κ := 4) (v := .int (mm_i M7 a8 5)) hx hb hts hK hR hown in_4 rfl (by decide) 5 (by decide) m_57 rfl dX3_put_47 hf (fun hf => ?_)
  refine lv_iload_n (pc := 50) hx hb dX3_put_50 rfl (lv_at hl 4 rfl) ?_
  refine lv_iadd (pc := 51) hx hb dX3_put_51 ?_
  refine rg_puti (pc := 52) (C := RX4) (T := TX4) (N := 13) (κ := 4) hx hb hts hK hR hown in_4 rfl (by decide) 5 (by decide) m_57 tyX4 tyX4_ok nmX4 rfl rfl rfl rfl dX3_put_52 hf (fun M9 H locs hf hR => ?_)
  refine lv_aload_n (pc := 55) hx hb dX3_put_55 rfl (lv_at hl 1 rfl) ?_
  refine rg_getr (pc := 56) (C := RX3) (T := TX3) (N := 7) (κ := 3) hx hb hts hK hR hown in_3 rfl (by decide) 1 (by decide) m_142 rfl dX3_put_56 hf (fun a10 hf => ?_)
  refine lv_dup (pc := 59) hx hb dX3_put_59 rfl ?_
  refine rg_get (pc := 60) (C := RX4) (T := TX4) (N := 13) (κ := 4) (v := .long (mm_l M9 a10 8)) hx hb hts hK hR hown in_4 rfl (by decide) 8 (by decide) m_63 rfl dX3_put_60 hf (fun hf => ?_)
  refine lv_aload (pc := 63) hx hb dX3_put_63 (lv_at hl 0 rfl) ?_
  obtain ⟨hq, hf⟩ := gd_e hf
  refine rg_L (pc := 65) hf hR hA (fun z hz => rn_V (κ := 2) (As := []) (rest := [.long (mm_l M9 a10 8), .ref a10]) hC hR rfl (by decide) hq (c_X2_carried  hz _) m_353 m_354 m_355 m_5 m_356 hd_X2_carried ⟨rfl, rfl, Nat.le_of_ble_eq_true rfl, Nat.le_of_ble_eq_true rfl⟩ rfl hl.1 rfl (Nat.le_of_ble_eq_true rfl) dX3_put_65 ⟨Nat.le_of_ble_eq_true rfl, Nat.le_of_ble_eq_true rfl⟩) (fun z11 H locs hf hR => ?_)
  refine lv_ladd (pc := 68) hx hb dX3_put_68 ?_
  refine rg_putl (pc := 69) (C := RX4) (T := TX4) (N := 13) (κ := 4) hx hb hts hK hR hown in_4 rfl (by decide) 8 (by decide) m_63 tyX4 tyX4_ok nmX4 rfl rfl rfl rfl dX3_put_69 hf (fun M12 H locs hf hR => ?_)
  refine lv_aload_n (pc := 72) hx hb dX3_put_72 rfl (lv_at hl 1 rfl) ?_
  refine lv_dup (pc := 73) hx hb dX3_put_73 rfl ?_
  refine rg_get (pc := 74) (C := RX3) (T := TX3) (N := 7) (κ := 3) (v := .int (mm_i M12 v0 3)) hx hb hts hK hR hown in_3 rfl (by decide) 3 (by decide) m_146 rfl dX3_put_74 hf (fun hf => ?_)
  refine lv_iconst (pc := 77) (v := (1 : Int32)) hx hb dX3_put_77 (by decide) ?_
  refine lv_iadd (pc := 78) hx hb dX3_put_78 ?_
  refine rg_puti (pc := 79) (C := RX3) (T := TX3) (N := 7) (κ := 3) hx hb hts hK hR hown in_3 rfl (by decide) 3 (by decide) m_146 tyX3 tyX3_ok nmX3 rfl rfl rfl rfl dX3_put_79 hf (fun M13 H locs hf hR => ?_)
  refine lv_aload_n (pc := 82) hx hb dX3_put_82 rfl (lv_at hl 1 rfl) ?_
  refine rg_get (pc := 83) (C := RX3) (T := TX3) (N := 7) (κ := 3) (v := .int (mm_i M13 v0 3)) hx hb hts hK hR hown in_3 rfl (by decide) 3 (by decide) m_146 rfl dX3_put_83 hf (fun hf => ?_)
  refine lv_iconst (pc := 86) (v := (1 : Int32)) hx hb dX3_put_86 (by decide) ?_
  refine lv_isub (pc := 87) hx hb dX3_put_87 ?_
  exact rg_iret (pc := 88) hx hb hlocks hr hf hR dX3_put_88
-- X3_countThere
def f_X3_countThere_b36 (k13 : Int32 → Nat → Int32 → Int32 → Mem → Option (Mem × Int32)) (v1 : Int32) (v2 : Nat) (v3 : Int32) (v4 : Int32) (M : Mem) : Option (Mem × Int32) := lt_ (v4 + (1 : Int32)) fun x1 => k13 v1 v2 v3 x1 M
def f_X3_countThere_b13 (k13 : Int32 → Nat → Int32 → Int32 → Mem → Option (Mem × Int32)) (v1 : Int32) (v2 : Nat) (v3 : Int32) (v4 : Int32) (M : Mem) : Option (Mem × Int32) := if v3 ≤ v4 then (some (M, v1)) else (gd (M.1 v2 = 13 ∧ vi_ v4 (mm_N M v2)) <| rd (mm_r M v2 (v4).toNatClampNeg) fun a2 => gd (M.1 a2 = 2) <| if (mm_i M a2 5) = 0 then (f_X3_countThere_b36 k13 v1 v2 v3 v4 M) else (lt_ (v1 + (1 : Int32)) fun x3 => f_X3_countThere_b36 k13 x3 v2 v3 v4 M))
def f_X3_countThere_L13  : Nat → Int32 → Nat → Int32 → Int32 → Mem → Option (Mem × Int32)
  | 0 => fun _ _ _ _ _ => none
  | n + 1 => f_X3_countThere_b13  (f_X3_countThere_L13  n)
def f_X3_countThere (v0 : Nat) (M : Mem) : Option (Mem × Int32) := gd (M.1 v0 = 3) <| rd (mm_r M v0 2) fun a4 => gd (M.1 a4 = 13) <| lt_ ((nI (mm_N M a4))) fun x5 => f_X3_countThere_L13 200 (0 : Int32) a4 x5 (0 : Int32) M
abbrev rm_X3_countThere : Room := { frames := 0, cells := 0, slots := 0, locals := 0 }
theorem hd_X3_countThere : yX3_countThere.cls ≠ "java/lang/invoke/MethodHandle" ∧ yX3_countThere.cls ≠ "java/lang/invoke/VarHandle" ∧ (parseMethodDescriptor yX3_countThere.desc).map (fun d => d.parameters.length) = some 0 := by decide +kernel
set_option maxHeartbeats 8000000 in
set_option maxRecDepth 100000 in
theorem c_X3_countThere {l : Launch} {D : va_G} {ca : Nat → ClassId} {b : Nat} {nx : Bool} {v0 : Nat} {M : Mem} {r : Mem × Int32} (hf : f_X3_countThere v0 M = some r) : CtI l yX3_countThere cX3_countThere 6 (some .int) rm_X3_countThere D ca b nx [.ref v0] M r := by
  intro sz
  refine body_start (Qc := fun A => cvI D ca nx A r) (by decide +kernel) (Nat.le_of_ble_eq_true rfl) ?_
  intro p e s m args below meth c A hC hr hR ls hl
  obtain ⟨hx, hb, hml, hts, hown, hlocks, hXe, hA, hAb, hnm⟩ := id hC
  have hK := hXe.1
  have hl : lv_has ls 6 [(0, .ref v0)] := hl
  have hB36 : ∀ (k13 : Int32 → Nat → Int32 → Int32 → Mem → Option (Mem × Int32)) (hk13 : ∀ (v1 : Int32) (v2 : Nat) (v3 : Int32) (v4 : Int32) (M : Mem) (H : Heap) (locs : List Loc) (ls : Array Slot), k13 v1 v2 v3 v4 M = some r → Hp D ca nx A s M H locs → lv_has ls 6 [(1, .int v1), (2, .ref v2), (3, .int v3), (4, .int v4)] → W p l e rm_X3_countThere s m args below meth c H locs 0 0 (MQ below (cvI D ca nx A r) args s 0 0 A) (F0 m 13 ls [])) (v1 : Int32) (v2 : Nat) (v3 : Int32) (v4 : Int32) (M : Mem) (H : Heap) (locs : List Loc) (ls : Array Slot), f_X3_countThere_b36 k13 v1 v2 v3 v4 M = some r → Hp D ca nx A s M H locs → lv_has ls 6 [(1, .int v1), (2, .ref v2), (3, .int v3), (4, .int v4)] → W p l e rm_X3_countThere s m args below meth c H locs 0 0 (MQ below (cvI D ca nx A r) args s 0 0 A) (F0 m 36 ls []) := by
    intro k13 hk13 v1 v2 v3 v4 M H locs ls hf hR hl
    unfold f_X3_countThere_b36 at hf
    refine rg_iinc (pc := 36) hx hb dX3_countThere_36 hl (k := 3) rfl rfl (by decide) hf (fun x1 ls hf hl => ?_)
    have hl : lv_has ls 6 [(4, .int x1), (1, .int v1), (2, .ref v2), (3, .int v3)] := hl
    refine lv_goto (pc := 39) (tgt := 13) hx hb dX3_countThere_39 (by decide) ?_
    exact hk13 v1 v2 v3 x1 M _ _ _ hf hR (lv_sub hl [1, 2, 3, 0] rfl)
  have hB13 : ∀ (k13 : Int32 → Nat → Int32 → Int32 → Mem → Option (Mem × Int32)) (hk13 : ∀ (v1 : Int32) (v2 : Nat) (v3 : Int32) (v4 : Int32) (M : Mem) (H : Heap) (locs : List Loc) (ls : Array Slot), k13 v1 v2 v3 v4 M = some r → Hp D ca nx A s M H locs → lv_has ls 6 [(1, .int v1), (2, .ref v2), (3, .int v3), (4, .int v4)] → W p l e rm_X3_countThere s m args below meth c H locs 0 0 (MQ below (cvI D ca nx A r) args s 0 0 A) (F0 m 13 ls [])) (v1 : Int32) (v2 : Nat) (v3 : Int32) (v4 : Int32) (M : Mem) (H : Heap) (locs : List Loc) (ls : Array Slot), f_X3_countThere_b13 k13 v1 v2 v3 v4 M = some r → Hp D ca nx A s M H locs → lv_has ls 6 [(1, .int v1), (2, .ref v2), (3, .int v3), (4, .int v4)] → W p l e rm_X3_countThere s m args below meth c H locs 0 0 (MQ below (cvI D ca nx A r) args s 0 0 A) (F0 m 13 ls []) := by
    intro k13 hk13 v1 v2 v3 v4 M H locs ls hf hR hl
    unfold f_X3_countThere_b13 at hf
    refine lv_iload (pc := 13) hx hb dX3_countThere_13 (lv_at hl 3 rfl) ?_
    refine lv_iload_n (pc := 15) hx hb dX3_countThere_15 rfl (lv_at hl 2 rfl) ?_
    refine lv_icmp_ge (pc := 16) (tgt := 42) hx hb dX3_countThere_16 (by decide) (fun hc => ?_) (fun hc => ?_)
    · replace hf := it_t hf hc
      refine lv_iload_n (pc := 42) hx hb dX3_countThere_42 rfl (lv_at hl 0 rfl) ?_
      exact rg_iret (pc := 43) hx hb hlocks hr hf hR dX3_countThere_43
    · replace hf := it_f hf hc
      refine lv_aload_n (pc := 19) hx hb dX3_countThere_19 rfl (lv_at hl 1 rfl) ?_
      refine lv_iload (pc := 20) hx hb dX3_countThere_20 (lv_at hl 3 rfl) ?_
      refine rg_aald (pc := 22) (κ := 13) hx hb hK hR 3 rfl (by decide) dX3_countThere_22 hf (fun a2 hf => ?_)
      refine lv_astore (pc := 23) (lv' := [(5, .ref a2), (1, .int v1), (2, .ref v2), (3, .int v3), (4, .int v4)]) hx hb dX3_countThere_23 hl (by decide) rfl (fun ls hl => ?_)
      refine lv_aload (pc := 25) hx hb dX3_countThere_25 (lv_at hl 0 rfl) ?_
      refine rg_get (pc := 27) (C := RX2) (T := TX2) (N := 7) (κ := 2) (v := .int (mm_i M a2 5)) hx hb hts hK hR hown in_2 rfl (by decide) 5 (by decide) m_120 rfl dX3_countThere_27 hf (fun hf => ?_)
      refine lv_if_eq (pc := 30) (tgt := 36) hx hb dX3_countThere_30 (by decide) (fun hc => ?_) (fun hc => ?_)
      · replace hf := it_t hf hc
        exact hB36 k13 hk13 v1 v2 v3 v4 M _ _ _ hf hR (lv_sub hl [1, 2, 3, 4] rfl)
      · replace hf := it_f hf hc
        refine rg_iinc (pc := 33) hx hb dX3_countThere_33 hl (k := 1) rfl rfl (by decide) hf (fun x3 ls hf hl => ?_)
        have hl : lv_has ls 6 [(1, .int x3), (5, .ref a2), (2, .ref v2), (3, .int v3), (4, .int v4)] := hl
        exact hB36 k13 hk13 x3 v2 v3 v4 M _ _ _ hf hR (lv_sub hl [0, 2, 3, 4] rfl)
  have hL13 : ∀  (n : Nat) (v1 : Int32) (v2 : Nat) (v3 : Int32) (v4 : Int32) (M : Mem) (H : Heap) (locs : List Loc) (ls : Array Slot), f_X3_countThere_L13  n v1 v2 v3 v4 M = some r → Hp D ca nx A s M H locs → lv_has ls 6 [(1, .int v1), (2, .ref v2), (3, .int v3), (4, .int v4)] → W p l e rm_X3_countThere s m args below meth c H locs 0 0 (MQ below (cvI D ca nx A r) args s 0 0 A) (F0 m 13 ls []) := by
    intro  n
    induction n with
    | zero => intro v1 v2 v3 v4 M H locs ls hf; exact nomatch (show (none : Option (Mem × Int32)) = some r from hf)
    | succ n ih => intro v1 v2 v3 v4 M H locs ls hf hR hl; exact hB13  (f_X3_countThere_L13  n) ih v1 v2 v3 v4 M H locs ls hf hR hl
  unfold f_X3_countThere at hf
  refine lv_iconst (pc := 0) (v := (0 : Int32)) hx hb dX3_countThere_0 (by decide) ?_
  refine lv_istore_n (pc := 1) (lv' := [(1, .int (0 : Int32)), (0, .ref v0)]) hx hb dX3_countThere_1 rfl hl (by decide) rfl (fun ls hl => ?_)
  refine lv_aload_n (pc := 2) hx hb dX3_countThere_2 rfl (lv_at hl 1 rfl) ?_
  refine rg_getr (pc := 3) (C := RX3) (T := TX3) (N := 7) (κ := 3) hx hb hts hK hR hown in_3 rfl (by decide) 2 (by decide) m_144 rfl dX3_countThere_3 hf (fun a4 hf => ?_)
  refine lv_astore_n (pc := 6) (lv' := [(2, .ref a4), (1, .int (0 : Int32)), (0, .ref v0)]) hx hb dX3_countThere_6 rfl hl (by decide) rfl (fun ls hl => ?_)
  refine lv_aload_n (pc := 7) hx hb dX3_countThere_7 rfl (lv_at hl 0 rfl) ?_
  refine rg_alen (pc := 8) (κ := 13) hx hb hK hR 3 rfl (by decide) dX3_countThere_8 hf (fun hf => ?_)
  refine nm_i hf (fun x5 hf => ?_)
  refine lv_istore_n (pc := 9) (lv' := [(3, .int x5), (2, .ref a4), (1, .int (0 : Int32)), (0, .ref v0)]) hx hb dX3_countThere_9 rfl hl (by decide) rfl (fun ls hl => ?_)
  refine lv_iconst (pc := 10) (v := (0 : Int32)) hx hb dX3_countThere_10 (by decide) ?_
  refine lv_istore (pc := 11) (lv' := [(4, .int (0 : Int32)), (3, .int x5), (2, .ref a4), (1, .int (0 : Int32)), (0, .ref v0)]) hx hb dX3_countThere_11 hl (by decide) rfl (fun ls hl => ?_)
  exact hL13 200 (0 : Int32) a4 x5 (0 : Int32) M _ _ _ hf hR (lv_sub hl [3, 2, 1, 0] rfl)
-- X3_massThere
def f_X3_massThere_b41 (k13 : Int32 → Nat → Int32 → Int32 → Mem → Option (Mem × Int32)) (v1 : Int32) (v2 : Nat) (v3 : Int32) (v4 : Int32) (M : Mem) : Option (Mem × Int32) := lt_ (v4 + (1 : Int32)) fun x1 => k13 v1 v2 v3 x1 M
def f_X3_massThere_b13 (k13 : Int32 → Nat → Int32 → Int32 → Mem → Option (Mem × Int32)) (v1 : Int32) (v2 : Nat) (v3 : Int32) (v4 : Int32) (M : Mem) : Option (Mem × Int32) := if v3 ≤ v4 then (some (M, v1)) else (gd (M.1 v2 = 13 ∧ vi_ v4 (mm_N M v2)) <| rd (mm_r M v2 (v4).toNatClampNeg) fun a2 => gd (M.1 a2 = 2) <| if (mm_i M a2 5) = 0 then (f_X3_massThere_b41 k13 v1 v2 v3 v4 M) else (gd (M.1 a2 = 2) <| lt_ ((v1 + (mm_i M a2 2))) fun x3 => f_X3_massThere_b41 k13 x3 v2 v3 v4 M))
def f_X3_massThere_L13  : Nat → Int32 → Nat → Int32 → Int32 → Mem → Option (Mem × Int32)
  | 0 => fun _ _ _ _ _ => none
  | n + 1 => f_X3_massThere_b13  (f_X3_massThere_L13  n)
def f_X3_massThere (v0 : Nat) (M : Mem) : Option (Mem × Int32) := gd (M.1 v0 = 3) <| rd (mm_r M v0 2) fun a4 => gd (M.1 a4 = 13) <| lt_ ((nI (mm_N M a4))) fun x5 => f_X3_massThere_L13 200 (0 : Int32) a4 x5 (0 : Int32) M
abbrev rm_X3_massThere : Room := { frames := 0, cells := 0, slots := 0, locals := 0 }
theorem hd_X3_massThere : yX3_massThere.cls ≠ "java/lang/invoke/MethodHandle" ∧ yX3_massThere.cls ≠ "java/lang/invoke/VarHandle" ∧ (parseMethodDescriptor yX3_massThere.desc).map (fun d => d.parameters.length) = some 0 := by decide +kernel
set_option maxHeartbeats 8000000 in
set_option maxRecDepth 100000 in
theorem c_X3_massThere {l : Launch} {D : va_G} {ca : Nat → ClassId} {b : Nat} {nx : Bool} {v0 : Nat} {M : Mem} {r : Mem × Int32} (hf : f_X3_massThere v0 M = some r) : CtI l yX3_massThere cX3_massThere 6 (some .int) rm_X3_massThere D ca b nx [.ref v0] M r := by
  intro sz
  refine body_start (Qc := fun A => cvI D ca nx A r) (by decide +kernel) (Nat.le_of_ble_eq_true rfl) ?_
  intro p e s m args below meth c A hC hr hR ls hl
  obtain ⟨hx, hb, hml, hts, hown, hlocks, hXe, hA, hAb, hnm⟩ := id hC
  have hK := hXe.1
  have hl : lv_has ls 6 [(0, .ref v0)] := hl
  have hB41 : ∀ (k13 : Int32 → Nat → Int32 → Int32 → Mem → Option (Mem × Int32)) (hk13 : ∀ (v1 : Int32) (v2 : Nat) (v3 : Int32) (v4 : Int32) (M : Mem) (H : Heap) (locs : List Loc) (ls : Array Slot), k13 v1 v2 v3 v4 M = some r → Hp D ca nx A s M H locs → lv_has ls 6 [(1, .int v1), (2, .ref v2), (3, .int v3), (4, .int v4)] → W p l e rm_X3_massThere s m args below meth c H locs 0 0 (MQ below (cvI D ca nx A r) args s 0 0 A) (F0 m 13 ls [])) (v1 : Int32) (v2 : Nat) (v3 : Int32) (v4 : Int32) (M : Mem) (H : Heap) (locs : List Loc) (ls : Array Slot), f_X3_massThere_b41 k13 v1 v2 v3 v4 M = some r → Hp D ca nx A s M H locs → lv_has ls 6 [(1, .int v1), (2, .ref v2), (3, .int v3), (4, .int v4)] → W p l e rm_X3_massThere s m args below meth c H locs 0 0 (MQ below (cvI D ca nx A r) args s 0 0 A) (F0 m 41 ls []) := by
    intro k13 hk13 v1 v2 v3 v4 M H locs ls hf hR hl
    unfold f_X3_massThere_b41 at hf
    refine rg_iinc (pc := 41) hx hb dX3_massThere_41 hl (k := 3) rfl rfl (by decide) hf (fun x1 ls hf hl => ?_)
    have hl : lv_has ls 6 [(4, .int x1), (1, .int v1), (2, .ref v2), (3, .int v3)] := hl
    refine lv_goto (pc := 44) (tgt := 13) hx hb dX3_massThere_44 (by decide) ?_
    exact hk13 v1 v2 v3 x1 M _ _ _ hf hR (lv_sub hl [1, 2, 3, 0] rfl)
  have hB13 : ∀ (k13 : Int32 → Nat → Int32 → Int32 → Mem → Option (Mem × Int32)) (hk13 : ∀ (v1 : Int32) (v2 : Nat) (v3 : Int32) (v4 : Int32) (M : Mem) (H : Heap) (locs : List Loc) (ls : Array Slot), k13 v1 v2 v3 v4 M = some r → Hp D ca nx A s M H locs → lv_has ls 6 [(1, .int v1), (2, .ref v2), (3, .int v3), (4, .int v4)] → W p l e rm_X3_massThere s m args below meth c H locs 0 0 (MQ below (cvI D ca nx A r) args s 0 0 A) (F0 m 13 ls [])) (v1 : Int32) (v2 : Nat) (v3 : Int32) (v4 : Int32) (M : Mem) (H : Heap) (locs : List Loc) (ls : Array Slot), f_X3_massThere_b13 k13 v1 v2 v3 v4 M = some r → Hp D ca nx A s M H locs → lv_has ls 6 [(1, .int v1), (2, .ref v2), (3, .int v3), (4, .int v4)] → W p l e rm_X3_massThere s m args below meth c H locs 0 0 (MQ below (cvI D ca nx A r) args s 0 0 A) (F0 m 13 ls []) := by
    intro k13 hk13 v1 v2 v3 v4 M H locs ls hf hR hl
    unfold f_X3_massThere_b13 at hf
    refine lv_iload (pc := 13) hx hb dX3_massThere_13 (lv_at hl 3 rfl) ?_
    refine lv_iload_n (pc := 15) hx hb dX3_massThere_15 rfl (lv_at hl 2 rfl) ?_
    refine lv_icmp_ge (pc := 16) (tgt := 47) hx hb dX3_massThere_16 (by decide) (fun hc => ?_) (fun hc => ?_)
    · replace hf := it_t hf hc
      refine lv_iload_n (pc := 47) hx hb dX3_massThere_47 rfl (lv_at hl 0 rfl) ?_
      exact rg_iret (pc := 48) hx hb hlocks hr hf hR dX3_massThere_48
    · replace hf := it_f hf hc
      refine lv_aload_n (pc := 19) hx hb dX3_massThere_19 rfl (lv_at hl 1 rfl) ?_
      refine lv_iload (pc := 20) hx hb dX3_massThere_20 (lv_at hl 3 rfl) ?_
      refine rg_aald (pc := 22) (κ := 13) hx hb hK hR 3 rfl (by decide) dX3_massThere_22 hf (fun a2 hf => ?_)
      refine lv_astore (pc := 23) (lv' := [(5, .ref a2), (1, .int v1), (2, .ref v2), (3, .int v3), (4, .int v4)]) hx hb dX3_massThere_23 hl (by decide) rfl (fun ls hl => ?_)
      refine lv_aload (pc := 25) hx hb dX3_massThere_25 (lv_at hl 0 rfl) ?_
      refine rg_get (pc := 27) (C := RX2) (T := TX2) (N := 7) (κ := 2) (v := .int (mm_i M a2 5)) hx hb hts hK hR hown in_2 rfl (by decide) 5 (by decide) m_120 rfl dX3_massThere_27 hf (fun hf => ?_)
      refine lv_if_eq (pc := 30) (tgt := 41) hx hb dX3_massThere_30 (by decide) (fun hc => ?_) (fun hc => ?_)
      · replace hf := it_t hf hc
        exact hB41 k13 hk13 v1 v2 v3 v4 M _ _ _ hf hR (lv_sub hl [1, 2, 3, 4] rfl)
      · replace hf := it_f hf hc
        refine lv_iload_n (pc := 33) hx hb dX3_massThere_33 rfl (lv_at hl 1 rfl) ?_
        refine lv_aload (pc := 34) hx hb dX3_massThere_34 (lv_at hl 0 rfl) ?_
        refine rg_get (pc := 36) (C := RX2) (T := TX2) (N := 7) (κ := 2) (v := .int (mm_i M a2 2)) hx hb hts hK hR hown in_2 rfl (by decide) 2 (by decide) m_114 rfl dX3_massThere_36 hf (fun hf => ?_)
        refine lv_iadd (pc := 39) hx hb dX3_massThere_39 ?_
        refine nm_i hf (fun x3 hf => ?_)
        refine lv_istore_n (pc := 40) (lv' := [(1, .int x3), (5, .ref a2), (2, .ref v2), (3, .int v3), (4, .int v4)]) hx hb dX3_massThere_40 rfl hl (by decide) rfl (fun ls hl => ?_)
        exact hB41 k13 hk13 x3 v2 v3 v4 M _ _ _ hf hR (lv_sub hl [0, 2, 3, 4] rfl)
  have hL13 : ∀  (n : Nat) (v1 : Int32) (v2 : Nat) (v3 : Int32) (v4 : Int32) (M : Mem) (H : Heap) (locs : List Loc) (ls : Array Slot), f_X3_massThere_L13  n v1 v2 v3 v4 M = some r → Hp D ca nx A s M H locs → lv_has ls 6 [(1, .int v1), (2, .ref v2), (3, .int v3), (4, .int v4)] → W p l e rm_X3_massThere s m args below meth c H locs 0 0 (MQ below (cvI D ca nx A r) args s 0 0 A) (F0 m 13 ls []) := by
    intro  n
    induction n with
    | zero => intro v1 v2 v3 v4 M H locs ls hf; exact nomatch (show (none : Option (Mem × Int32)) = some r from hf)
    | succ n ih => intro v1 v2 v3 v4 M H locs ls hf hR hl; exact hB13  (f_X3_massThere_L13  n) ih v1 v2 v3 v4 M H locs ls hf hR hl
  unfold f_X3_massThere at hf
  refine lv_iconst (pc := 0) (v := (0 : Int32)) hx hb dX3_massThere_0 (by decide) ?_
  refine lv_istore_n (pc := 1) (lv' := [(1, .int (0 : Int32)), (0, .ref v0)]) hx hb dX3_massThere_1 rfl hl (by decide) rfl (fun ls hl => ?_)
  refine lv_aload_n (pc := 2) hx hb dX3_massThere_2 rfl (lv_at hl 1 rfl) ?_
  refine rg_getr (pc := 3) (C := RX3) (T := TX3) (N := 7) (κ := 3) hx hb hts hK hR hown in_3 rfl (by decide) 2 (by decide) m_144 rfl dX3_massThere_3 hf (fun a4 hf => ?_)
  refine lv_astore_n (pc := 6) (lv' := [(2, .ref a4), (1, .int (0 : Int32)), (0, .ref v0)]) hx hb dX3_massThere_6 rfl hl (by decide) rfl (fun ls hl => ?_)
  refine lv_aload_n (pc := 7) hx hb dX3_massThere_7 rfl (lv_at hl 0 rfl) ?_
  refine rg_alen (pc := 8) (κ := 13) hx hb hK hR 3 rfl (by decide) dX3_massThere_8 hf (fun hf => ?_)
  refine nm_i hf (fun x5 hf => ?_)
  refine lv_istore_n (pc := 9) (lv' := [(3, .int x5), (2, .ref a4), (1, .int (0 : Int32)), (0, .ref v0)]) hx hb dX3_massThere_9 rfl hl (by decide) rfl (fun ls hl => ?_)
  refine lv_iconst (pc := 10) (v := (0 : Int32)) hx hb dX3_massThere_10 (by decide) ?_
  refine lv_istore (pc := 11) (lv' := [(4, .int (0 : Int32)), (3, .int x5), (2, .ref a4), (1, .int (0 : Int32)), (0, .ref v0)]) hx hb dX3_massThere_11 hl (by decide) rfl (fun ls hl => ?_)
  exact hL13 200 (0 : Int32) a4 x5 (0 : Int32) M _ _ _ hf hR (lv_sub hl [3, 2, 1, 0] rfl)
-- X3_momentumThere
def f_X3_momentumThere_b43 (k14 : Int64 → Nat → Int32 → Int32 → Mem → Option (Mem × Int64)) (v1 : Int64) (v3 : Nat) (v4 : Int32) (v5 : Int32) (M : Mem) : Option (Mem × Int64) := lt_ (v5 + (1 : Int32)) fun x1 => k14 v1 v3 v4 x1 M
def f_X3_momentumThere_b14 (k14 : Int64 → Nat → Int32 → Int32 → Mem → Option (Mem × Int64)) (v1 : Int64) (v3 : Nat) (v4 : Int32) (v5 : Int32) (M : Mem) : Option (Mem × Int64) := if v4 ≤ v5 then (some (M, v1)) else (gd (M.1 v3 = 13 ∧ vi_ v5 (mm_N M v3)) <| rd (mm_r M v3 (v5).toNatClampNeg) fun a2 => gd (M.1 a2 = 2) <| if (mm_i M a2 5) = 0 then (f_X3_momentumThere_b43 k14 v1 v3 v4 v5 M) else (gd (M.1 a2 = 2) <| bd (f_X2_carried a2 M) fun z3 => lt_ ((v1 + z3.2)) fun x4 => f_X3_momentumThere_b43 k14 x4 v3 v4 v5 z3.1))
def f_X3_momentumThere_L14  : Nat → Int64 → Nat → Int32 → Int32 → Mem → Option (Mem × Int64)
  | 0 => fun _ _ _ _ _ => none
  | n + 1 => f_X3_momentumThere_b14  (f_X3_momentumThere_L14  n)
def f_X3_momentumThere (v0 : Nat) (M : Mem) : Option (Mem × Int64) := gd (M.1 v0 = 3) <| rd (mm_r M v0 2) fun a5 => gd (M.1 a5 = 13) <| lt_ ((nI (mm_N M a5))) fun x6 => f_X3_momentumThere_L14 200 (0 : Int64) a5 x6 (0 : Int32) M
abbrev rm_X3_momentumThere : Room := { frames := 1, cells := 0, slots := 0, locals := 20 }
theorem hd_X3_momentumThere : yX3_momentumThere.cls ≠ "java/lang/invoke/MethodHandle" ∧ yX3_momentumThere.cls ≠ "java/lang/invoke/VarHandle" ∧ (parseMethodDescriptor yX3_momentumThere.desc).map (fun d => d.parameters.length) = some 0 := by decide +kernel
set_option maxHeartbeats 8000000 in
set_option maxRecDepth 100000 in
theorem c_X3_momentumThere {l : Launch} {D : va_G} {ca : Nat → ClassId} {b : Nat} {nx : Bool} {v0 : Nat} {M : Mem} {r : Mem × Int64} (hf : f_X3_momentumThere v0 M = some r) : CtL l yX3_momentumThere cX3_momentumThere 7 (some .long) rm_X3_momentumThere D ca b nx [.ref v0] M r := by
  intro sz
  refine body_start (Qc := fun A => cvL D ca nx A r) (by decide +kernel) (Nat.le_of_ble_eq_true rfl) ?_
  intro p e s m args below meth c A hC hr hR ls hl
  obtain ⟨hx, hb, hml, hts, hown, hlocks, hXe, hA, hAb, hnm⟩ := id hC
  have hK := hXe.1
  have hl : lv_has ls 7 [(0, .ref v0)] := hl
  have hB43 : ∀ (k14 : Int64 → Nat → Int32 → Int32 → Mem → Option (Mem × Int64)) (hk14 : ∀ (v1 : Int64) (v3 : Nat) (v4 : Int32) (v5 : Int32) (M : Mem) (H : Heap) (locs : List Loc) (ls : Array Slot), k14 v1 v3 v4 v5 M = some r → Hp D ca nx A s M H locs → lv_has ls 7 [(1, .long v1), (3, .ref v3), (4, .int v4), (5, .int v5)] → W p l e rm_X3_momentumThere s m args below meth c H locs 0 0 (MQ below (cvL D ca nx A r) args s 0 0 A) (F0 m 14 ls [])) (v1 : Int64) (v3 : Nat) (v4 : Int32) (v5 : Int32) (M : Mem) (H : Heap) (locs : List Loc) (ls : Array Slot), f_X3_momentumThere_b43 k14 v1 v3 v4 v5 M = some r → Hp D ca nx A s M H locs → lv_has ls 7 [(1, .long v1), (3, .ref v3), (4, .int v4), (5, .int v5)] → W p l e rm_X3_momentumThere s m args below meth c H locs 0 0 (MQ below (cvL D ca nx A r) args s 0 0 A) (F0 m 43 ls []) := by
    intro k14 hk14 v1 v3 v4 v5 M H locs ls hf hR hl
    unfold f_X3_momentumThere_b43 at hf
    refine rg_iinc (pc := 43) hx hb dX3_momentumThere_43 hl (k := 3) rfl rfl (by decide) hf (fun x1 ls hf hl => ?_)
    have hl : lv_has ls 7 [(5, .int x1), (1, .long v1), (3, .ref v3), (4, .int v4)] := hl
    refine lv_goto (pc := 46) (tgt := 14) hx hb dX3_momentumThere_46 (by decide) ?_
    exact hk14 v1 v3 v4 x1 M _ _ _ hf hR (lv_sub hl [1, 2, 3, 0] rfl)
  have hB14 : ∀ (k14 : Int64 → Nat → Int32 → Int32 → Mem → Option (Mem × Int64)) (hk14 : ∀ (v1 : Int64) (v3 : Nat) (v4 : Int32) (v5 : Int32) (M : Mem) (H : Heap) (locs : List Loc) (ls : Array Slot), k14 v1 v3 v4 v5 M = some r → Hp D ca nx A s M H locs → lv_has ls 7 [(1, .long v1), (3, .ref v3), (4, .int v4), (5, .int v5)] → W p l e rm_X3_momentumThere s m args below meth c H locs 0 0 (MQ below (cvL D ca nx A r) args s 0 0 A) (F0 m 14 ls [])) (v1 : Int64) (v3 : Nat) (v4 : Int32) (v5 : Int32) (M : Mem) (H : Heap) (locs : List Loc) (ls : Array Slot), f_X3_momentumThere_b14 k14 v1 v3 v4 v5 M = some r → Hp D ca nx A s M H locs → lv_has ls 7 [(1, .long v1), (3, .ref v3), (4, .int v4), (5, .int v5)] → W p l e rm_X3_momentumThere s m args below meth c H locs 0 0 (MQ below (cvL D ca nx A r) args s 0 0 A) (F0 m 14 ls []) := by
    intro k14 hk14 v1 v3 v4 v5 M H locs ls hf hR hl
    unfold f_X3_momentumThere_b14 at hf
    refine lv_iload (pc := 14) hx hb dX3_momentumThere_14 (lv_at hl 3 rfl) ?_
    refine lv_iload (pc := 16) hx hb dX3_momentumThere_16 (lv_at hl 2 rfl) ?_
    refine lv_icmp_ge (pc := 18) (tgt := 49) hx hb dX3_momentumThere_18 (by decide) (fun hc => ?_) (fun hc => ?_)
    · replace hf := it_t hf hc
      refine lv_lload_n (pc := 49) hx hb dX3_momentumThere_49 rfl (lv_at hl 0 rfl) ?_
      exact rg_lret (pc := 50) hx hb hlocks hr hf hR dX3_momentumThere_50
    · replace hf := it_f hf hc
      refine lv_aload_n (pc := 21) hx hb dX3_momentumThere_21 rfl (lv_at hl 1 rfl) ?_
      refine lv_iload (pc := 22) hx hb dX3_momentumThere_22 (lv_at hl 3 rfl) ?_
      refine rg_aald (pc := 24) (κ := 13) hx hb hK hR 3 rfl (by decide) dX3_momentumThere_24 hf (fun a2 hf => ?_)
      refine lv_astore (pc := 25) (lv' := [(6, .ref a2), (1, .long v1), (3, .ref v3), (4, .int v4), (5, .int v5)]) hx hb dX3_momentumThere_25 hl (by decide) rfl (fun ls hl => ?_)
      refine lv_aload (pc := 27) hx hb dX3_momentumThere_27 (lv_at hl 0 rfl) ?_
      refine rg_get (pc := 29) (C := RX2) (T := TX2) (N := 7) (κ := 2) (v := .int (mm_i M a2 5)) hx hb hts hK hR hown in_2 rfl (by decide) 5 (by decide) m_120 rfl dX3_momentumThere_29 hf (fun hf => ?_)
      refine lv_if_eq (pc := 32) (tgt := 43) hx hb dX3_momentumThere_32 (by decide) (fun hc => ?_) (fun hc => ?_)
      · replace hf := it_t hf hc
        exact hB43 k14 hk14 v1 v3 v4 v5 M _ _ _ hf hR (lv_sub hl [1, 2, 3, 4] rfl)
      · replace hf := it_f hf hc
        refine lv_lload_n (pc := 35) hx hb dX3_momentumThere_35 rfl (lv_at hl 1 rfl) ?_
        refine lv_aload (pc := 36) hx hb dX3_momentumThere_36 (lv_at hl 0 rfl) ?_
        obtain ⟨hq, hf⟩ := gd_e hf
        refine rg_L (pc := 38) hf hR hA (fun z hz => rn_V (κ := 2) (As := []) (rest := [.long v1]) hC hR rfl (by decide) hq (c_X2_carried  hz _) m_353 m_354 m_355 m_5 m_356 hd_X2_carried ⟨rfl, rfl, Nat.le_of_ble_eq_true rfl, Nat.le_of_ble_eq_true rfl⟩ rfl hl.1 rfl (Nat.le_of_ble_eq_true rfl) dX3_momentumThere_38 ⟨Nat.le_of_ble_eq_true rfl, Nat.le_of_ble_eq_true rfl⟩) (fun z3 H locs hf hR => ?_)
        refine lv_ladd (pc := 41) hx hb dX3_momentumThere_41 ?_
        refine nm_l hf (fun x4 hf => ?_)
        refine lv_lstore_n (pc := 42) (lv' := [(1, .long x4), (6, .ref a2), (3, .ref v3), (4, .int v4), (5, .int v5)]) hx hb dX3_momentumThere_42 rfl hl (by decide) rfl (fun ls hl => ?_)
        exact hB43 k14 hk14 x4 v3 v4 v5 z3.1 _ _ _ hf hR (lv_sub hl [0, 2, 3, 4] rfl)
  have hL14 : ∀  (n : Nat) (v1 : Int64) (v3 : Nat) (v4 : Int32) (v5 : Int32) (M : Mem) (H : Heap) (locs : List Loc) (ls : Array Slot), f_X3_momentumThere_L14  n v1 v3 v4 v5 M = some r → Hp D ca nx A s M H locs → lv_has ls 7 [(1, .long v1), (3, .ref v3), (4, .int v4), (5, .int v5)] → W p l e rm_X3_momentumThere s m args below meth c H locs 0 0 (MQ below (cvL D ca nx A r) args s 0 0 A) (F0 m 14 ls []) := by
    intro  n
    induction n with
    | zero => intro v1 v3 v4 v5 M H locs ls hf; exact nomatch (show (none : Option (Mem × Int64)) = some r from hf)
    | succ n ih => intro v1 v3 v4 v5 M H locs ls hf hR hl; exact hB14  (f_X3_momentumThere_L14  n) ih v1 v3 v4 v5 M H locs ls hf hR hl
  unfold f_X3_momentumThere at hf
  refine lv_lconst (pc := 0) (v := (0 : Int64)) hx hb dX3_momentumThere_0 (by decide) ?_
  refine lv_lstore_n (pc := 1) (lv' := [(1, .long (0 : Int64)), (0, .ref v0)]) hx hb dX3_momentumThere_1 rfl hl (by decide) rfl (fun ls hl => ?_)
  refine lv_aload_n (pc := 2) hx hb dX3_momentumThere_2 rfl (lv_at hl 1 rfl) ?_
  refine rg_getr (pc := 3) (C := RX3) (T := TX3) (N := 7) (κ := 3) hx hb hts hK hR hown in_3 rfl (by decide) 2 (by decide) m_144 rfl dX3_momentumThere_3 hf (fun a5 hf => ?_)
  refine lv_astore_n (pc := 6) (lv' := [(3, .ref a5), (1, .long (0 : Int64)), (0, .ref v0)]) hx hb dX3_momentumThere_6 rfl hl (by decide) rfl (fun ls hl => ?_)
  refine lv_aload_n (pc := 7) hx hb dX3_momentumThere_7 rfl (lv_at hl 0 rfl) ?_
  refine rg_alen (pc := 8) (κ := 13) hx hb hK hR 3 rfl (by decide) dX3_momentumThere_8 hf (fun hf => ?_)
  refine nm_i hf (fun x6 hf => ?_)
  refine lv_istore (pc := 9) (lv' := [(4, .int x6), (3, .ref a5), (1, .long (0 : Int64)), (0, .ref v0)]) hx hb dX3_momentumThere_9 hl (by decide) rfl (fun ls hl => ?_)
  refine lv_iconst (pc := 11) (v := (0 : Int32)) hx hb dX3_momentumThere_11 (by decide) ?_
  refine lv_istore (pc := 12) (lv' := [(5, .int (0 : Int32)), (4, .int x6), (3, .ref a5), (1, .long (0 : Int64)), (0, .ref v0)]) hx hb dX3_momentumThere_12 hl (by decide) rfl (fun ls hl => ?_)
  exact hL14 200 (0 : Int64) a5 x6 (0 : Int32) M _ _ _ hf hR (lv_sub hl [3, 2, 1, 0] rfl)
-- X3_weighLanes
def f_X3_weighLanes_b82 (k29 : Nat → Nat → Int32 → Int32 → Mem → Option (Mem)) (v1 : Nat) (v2 : Nat) (v3 : Int32) (v4 : Int32) (M : Mem) : Option (Mem) := lt_ (v4 + (1 : Int32)) fun x1 => k29 v1 v2 v3 x1 M
def f_X3_weighLanes_b29 (k29 : Nat → Nat → Int32 → Int32 → Mem → Option (Mem)) (v1 : Nat) (v2 : Nat) (v3 : Int32) (v4 : Int32) (M : Mem) : Option (Mem) := if v3 ≤ v4 then (some M) else (gd (M.1 v2 = 13 ∧ vi_ v4 (mm_N M v2)) <| rd (mm_r M v2 (v4).toNatClampNeg) fun a2 => gd (M.1 a2 = 2) <| if (mm_i M a2 5) = 0 then (f_X3_weighLanes_b82 k29 v1 v2 v3 v4 M) else (gd (M.1 a2 = 2) <| if (mm_i M a2 0) < 0 then (f_X3_weighLanes_b82 k29 v1 v2 v3 v4 M) else (gd (M.1 a2 = 2) <| gd (M.1 v1 = 9) <| if (nI (mm_N M v1)) ≤ (mm_i M a2 0) then (f_X3_weighLanes_b82 k29 v1 v2 v3 v4 M) else (gd (M.1 a2 = 2) <| gd (M.1 v1 = 9 ∧ vi_ (mm_i M a2 0) (mm_N M v1)) <| gd (M.1 a2 = 2) <| gd (M.1 v1 = 9 ∧ vi_ (mm_i M a2 0) (mm_N M v1)) <| lt_ (ms_i M v1 ((mm_i M a2 0)).toNatClampNeg ((mm_i M v1 ((mm_i M a2 0)).toNatClampNeg) + (mm_i M a2 2))) fun M3 => f_X3_weighLanes_b82 k29 v1 v2 v3 v4 M3))))
def f_X3_weighLanes_L29  : Nat → Nat → Nat → Int32 → Int32 → Mem → Option (Mem)
  | 0 => fun _ _ _ _ _ => none
  | n + 1 => f_X3_weighLanes_b29  (f_X3_weighLanes_L29  n)
def f_X3_weighLanes_b2 (k2 : Nat → Nat → Int32 → Mem → Option (Mem)) (v0 : Nat) (v1 : Nat) (v2 : Int32) (M : Mem) : Option (Mem) := gd (M.1 v1 = 9) <| if (nI (mm_N M v1)) ≤ v2 then (gd (M.1 v0 = 3) <| rd (mm_r M v0 2) fun a4 => gd (M.1 a4 = 13) <| lt_ ((nI (mm_N M a4))) fun x5 => f_X3_weighLanes_L29 200 v1 a4 x5 (0 : Int32) M) else (gd (M.1 v1 = 9 ∧ vi_ v2 (mm_N M v1)) <| lt_ (ms_i M v1 (v2).toNatClampNeg (0 : Int32)) fun M6 => lt_ (v2 + (1 : Int32)) fun x7 => k2 v0 v1 x7 M6)
def f_X3_weighLanes_L2  : Nat → Nat → Nat → Int32 → Mem → Option (Mem)
  | 0 => fun _ _ _ _ => none
  | n + 1 => f_X3_weighLanes_b2  (f_X3_weighLanes_L2  n)
def f_X3_weighLanes (v0 : Nat) (v1 : Nat) (M : Mem) : Option (Mem) := f_X3_weighLanes_L2 200 v0 v1 (0 : Int32) M
abbrev rm_X3_weighLanes : Room := { frames := 0, cells := 0, slots := 0, locals := 0 }
theorem hd_X3_weighLanes : yX3_weighLanes.cls ≠ "java/lang/invoke/MethodHandle" ∧ yX3_weighLanes.cls ≠ "java/lang/invoke/VarHandle" ∧ (parseMethodDescriptor yX3_weighLanes.desc).map (fun d => d.parameters.length) = some 1 := by decide +kernel
set_option maxHeartbeats 8000000 in
set_option maxRecDepth 100000 in
theorem c_X3_weighLanes {l : Launch} {D : va_G} {ca : Nat → ClassId} {b : Nat} {nx : Bool} {v0 : Nat} {v1 : Nat} {M : Mem} {r : Mem} (hf : f_X3_weighLanes v0 v1 M = some r) : CtV l yX3_weighLanes cX3_weighLanes 6 none rm_X3_weighLanes D ca b nx [.ref v0, .ref v1] M r 0 0 := by
  intro sz
  refine body_start (Qc := fun A => cvV D ca nx A r) (by decide +kernel) (Nat.le_of_ble_eq_true rfl) ?_
  intro p e s m args below meth c A hC hr hR ls hl
  obtain ⟨hx, hb, hml, hts, hown, hlocks, hXe, hA, hAb, hnm⟩ := id hC
  have hK := hXe.1
  have hl : lv_has ls 6 [(0, .ref v0), (1, .ref v1)] := hl
  have hB82 : ∀ (k29 : Nat → Nat → Int32 → Int32 → Mem → Option (Mem)) (hk29 : ∀ (v1 : Nat) (v2 : Nat) (v3 : Int32) (v4 : Int32) (M : Mem) (H : Heap) (locs : List Loc) (ls : Array Slot), k29 v1 v2 v3 v4 M = some r → Hp D ca nx A s M H locs → lv_has ls 6 [(1, .ref v1), (2, .ref v2), (3, .int v3), (4, .int v4)] → W p l e rm_X3_weighLanes s m args below meth c H locs 0 0 (MQ below (cvV D ca nx A r) args s 0 0 A) (F0 m 29 ls [])) (v1 : Nat) (v2 : Nat) (v3 : Int32) (v4 : Int32) (M : Mem) (H : Heap) (locs : List Loc) (ls : Array Slot), f_X3_weighLanes_b82 k29 v1 v2 v3 v4 M = some r → Hp D ca nx A s M H locs → lv_has ls 6 [(1, .ref v1), (2, .ref v2), (3, .int v3), (4, .int v4)] → W p l e rm_X3_weighLanes s m args below meth c H locs 0 0 (MQ below (cvV D ca nx A r) args s 0 0 A) (F0 m 82 ls []) := by
    intro k29 hk29 v1 v2 v3 v4 M H locs ls hf hR hl
    unfold f_X3_weighLanes_b82 at hf
    refine rg_iinc (pc := 82) hx hb dX3_weighLanes_82 hl (k := 3) rfl rfl (by decide) hf (fun x1 ls hf hl => ?_)
    have hl : lv_has ls 6 [(4, .int x1), (1, .ref v1), (2, .ref v2), (3, .int v3)] := hl
    refine lv_goto (pc := 85) (tgt := 29) hx hb dX3_weighLanes_85 (by decide) ?_
    exact hk29 v1 v2 v3 x1 M _ _ _ hf hR (lv_sub hl [1, 2, 3, 0] rfl)
  have hB29 : ∀ (k29 : Nat → Nat → Int32 → Int32 → Mem → Option (Mem)) (hk29 : ∀ (v1 : Nat) (v2 : Nat) (v3 : Int32) (v4 : Int32) (M : Mem) (H : Heap) (locs : List Loc) (ls : Array Slot), k29 v1 v2 v3 v4 M = some r → Hp D ca nx A s M H locs → lv_has ls 6 [(1, .ref v1), (2, .ref v2), (3, .int v3), (4, .int v4)] → W p l e rm_X3_weighLanes s m args below meth c H locs 0 0 (MQ below (cvV D ca nx A r) args s 0 0 A) (F0 m 29 ls [])) (v1 : Nat) (v2 : Nat) (v3 : Int32) (v4 : Int32) (M : Mem) (H : Heap) (locs : List Loc) (ls : Array Slot), f_X3_weighLanes_b29 k29 v1 v2 v3 v4 M = some r → Hp D ca nx A s M H locs → lv_has ls 6 [(1, .ref v1), (2, .ref v2), (3, .int v3), (4, .int v4)] → W p l e rm_X3_weighLanes s m args below meth c H locs 0 0 (MQ below (cvV D ca nx A r) args s 0 0 A) (F0 m 29 ls []) := by
    intro k29 hk29 v1 v2 v3 v4 M H locs ls hf hR hl
    unfold f_X3_weighLanes_b29 at hf
    refine lv_iload (pc := 29) hx hb dX3_weighLanes_29 (lv_at hl 3 rfl) ?_
    refine lv_iload_n (pc := 31) hx hb dX3_weighLanes_31 rfl (lv_at hl 2 rfl) ?_
    refine lv_icmp_ge (pc := 32) (tgt := 88) hx hb dX3_weighLanes_32 (by decide) (fun hc => ?_) (fun hc => ?_)
    · replace hf := it_t hf hc
      exact rg_vret (pc := 88) hx hb hlocks hr hf hR dX3_weighLanes_88
    · replace hf := it_f hf hc
      refine lv_aload_n (pc := 35) hx hb dX3_weighLanes_35 rfl (lv_at hl 1 rfl) ?_
      refine lv_iload (pc := 36) hx hb dX3_weighLanes_36 (lv_at hl 3 rfl) ?_
      refine rg_aald (pc := 38) (κ := 13) hx hb hK hR 3 rfl (by decide) dX3_weighLanes_38 hf (fun a2 hf => ?_)
      refine lv_astore (pc := 39) (lv' := [(5, .ref a2), (1, .ref v1), (2, .ref v2), (3, .int v3), (4, .int v4)]) hx hb dX3_weighLanes_39 hl (by decide) rfl (fun ls hl => ?_)
      refine lv_aload (pc := 41) hx hb dX3_weighLanes_41 (lv_at hl 0 rfl) ?_
      refine rg_get (pc := 43) (C := RX2) (T := TX2) (N := 7) (κ := 2) (v := .int (mm_i M a2 5)) hx hb hts hK hR hown in_2 rfl (by decide) 5 (by decide) m_120 rfl dX3_weighLanes_43 hf (fun hf => ?_)
      refine lv_if_eq (pc := 46) (tgt := 82) hx hb dX3_weighLanes_46 (by decide) (fun hc => ?_) (fun hc => ?_)
      · replace hf := it_t hf hc
        exact hB82 k29 hk29 v1 v2 v3 v4 M _ _ _ hf hR (lv_sub hl [1, 2, 3, 4] rfl)
      · replace hf := it_f hf hc
        refine lv_aload (pc := 49) hx hb dX3_weighLanes_49 (lv_at hl 0 rfl) ?_
        refine rg_get (pc := 51) (C := RX2) (T := TX2) (N := 7) (κ := 2) (v := .int (mm_i M a2 0)) hx hb hts hK hR hown in_2 rfl (by decide) 0 (by decide) m_108 rfl dX3_weighLanes_51 hf (fun hf => ?_)
        refine lv_if_lt (pc := 54) (tgt := 82) hx hb dX3_weighLanes_54 (by decide) (fun hc => ?_) (fun hc => ?_)
        · replace hf := it_t hf hc
          exact hB82 k29 hk29 v1 v2 v3 v4 M _ _ _ hf hR (lv_sub hl [1, 2, 3, 4] rfl)
        · replace hf := it_f hf hc
          refine lv_aload (pc := 57) hx hb dX3_weighLanes_57 (lv_at hl 0 rfl) ?_
          refine rg_get (pc := 59) (C := RX2) (T := TX2) (N := 7) (κ := 2) (v := .int (mm_i M a2 0)) hx hb hts hK hR hown in_2 rfl (by decide) 0 (by decide) m_108 rfl dX3_weighLanes_59 hf (fun hf => ?_)
          refine lv_aload_n (pc := 62) hx hb dX3_weighLanes_62 rfl (lv_at hl 1 rfl) ?_
          refine rg_alen (pc := 63) (κ := 9) hx hb hK hR 0 rfl (by decide) dX3_weighLanes_63 hf (fun hf => ?_)
          refine lv_icmp_ge (pc := 64) (tgt := 82) hx hb dX3_weighLanes_64 (by decide) (fun hc => ?_) (fun hc => ?_)
          · replace hf := it_t hf hc
            exact hB82 k29 hk29 v1 v2 v3 v4 M _ _ _ hf hR (lv_sub hl [1, 2, 3, 4] rfl)
          · replace hf := it_f hf hc
            refine lv_aload_n (pc := 67) hx hb dX3_weighLanes_67 rfl (lv_at hl 1 rfl) ?_
            refine lv_aload (pc := 68) hx hb dX3_weighLanes_68 (lv_at hl 0 rfl) ?_
            refine rg_get (pc := 70) (C := RX2) (T := TX2) (N := 7) (κ := 2) (v := .int (mm_i M a2 0)) hx hb hts hK hR hown in_2 rfl (by decide) 0 (by decide) m_108 rfl dX3_weighLanes_70 hf (fun hf => ?_)
            refine lv_dup2_11 (pc := 73) hx hb dX3_weighLanes_73 rfl rfl ?_
            refine rg_iald (pc := 74) hx hb hK hR dX3_weighLanes_74 hf (fun hf => ?_)
            refine lv_aload (pc := 75) hx hb dX3_weighLanes_75 (lv_at hl 0 rfl) ?_
            refine rg_get (pc := 77) (C := RX2) (T := TX2) (N := 7) (κ := 2) (v := .int (mm_i M a2 2)) hx hb hts hK hR hown in_2 rfl (by decide) 2 (by decide) m_114 rfl dX3_weighLanes_77 hf (fun hf => ?_)
            refine lv_iadd (pc := 80) hx hb dX3_weighLanes_80 ?_
            refine rg_iast (pc := 81) hx hb hK hR dX3_weighLanes_81 hf (fun M3 H locs hf hR => ?_)
            exact hB82 k29 hk29 v1 v2 v3 v4 M3 _ _ _ hf hR (lv_sub hl [1, 2, 3, 4] rfl)
  have hL29 : ∀  (n : Nat) (v1 : Nat) (v2 : Nat) (v3 : Int32) (v4 : Int32) (M : Mem) (H : Heap) (locs : List Loc) (ls : Array Slot), f_X3_weighLanes_L29  n v1 v2 v3 v4 M = some r → Hp D ca nx A s M H locs → lv_has ls 6 [(1, .ref v1), (2, .ref v2), (3, .int v3), (4, .int v4)] → W p l e rm_X3_weighLanes s m args below meth c H locs 0 0 (MQ below (cvV D ca nx A r) args s 0 0 A) (F0 m 29 ls []) := by
    intro  n
    induction n with
    | zero => intro v1 v2 v3 v4 M H locs ls hf; exact nomatch (show (none : Option (Mem)) = some r from hf)
    | succ n ih => intro v1 v2 v3 v4 M H locs ls hf hR hl; exact hB29  (f_X3_weighLanes_L29  n) ih v1 v2 v3 v4 M H locs ls hf hR hl
  have hB2 : ∀ (k2 : Nat → Nat → Int32 → Mem → Option (Mem)) (hk2 : ∀ (v0 : Nat) (v1 : Nat) (v2 : Int32) (M : Mem) (H : Heap) (locs : List Loc) (ls : Array Slot), k2 v0 v1 v2 M = some r → Hp D ca nx A s M H locs → lv_has ls 6 [(0, .ref v0), (1, .ref v1), (2, .int v2)] → W p l e rm_X3_weighLanes s m args below meth c H locs 0 0 (MQ below (cvV D ca nx A r) args s 0 0 A) (F0 m 2 ls [])) (v0 : Nat) (v1 : Nat) (v2 : Int32) (M : Mem) (H : Heap) (locs : List Loc) (ls : Array Slot), f_X3_weighLanes_b2 k2 v0 v1 v2 M = some r → Hp D ca nx A s M H locs → lv_has ls 6 [(0, .ref v0), (1, .ref v1), (2, .int v2)] → W p l e rm_X3_weighLanes s m args below meth c H locs 0 0 (MQ below (cvV D ca nx A r) args s 0 0 A) (F0 m 2 ls []) := by
    intro k2 hk2 v0 v1 v2 M H locs ls hf hR hl
    unfold f_X3_weighLanes_b2 at hf
    refine lv_iload_n (pc := 2) hx hb dX3_weighLanes_2 rfl (lv_at hl 2 rfl) ?_
    refine lv_aload_n (pc := 3) hx hb dX3_weighLanes_3 rfl (lv_at hl 1 rfl) ?_
    refine rg_alen (pc := 4) (κ := 9) hx hb hK hR 0 rfl (by decide) dX3_weighLanes_4 hf (fun hf => ?_)
    refine lv_icmp_ge (pc := 5) (tgt := 18) hx hb dX3_weighLanes_5 (by decide) (fun hc => ?_) (fun hc => ?_)
    · replace hf := it_t hf hc
      refine lv_aload_n (pc := 18) hx hb dX3_weighLanes_18 rfl (lv_at hl 0 rfl) ?_
      refine rg_getr (pc := 19) (C := RX3) (T := TX3) (N := 7) (κ := 3) hx hb hts hK hR hown in_3 rfl (by decide) 2 (by decide) m_144 rfl dX3_weighLanes_19 hf (fun a4 hf => ?_)
      refine lv_astore_n (pc := 22) (lv' := [(2, .ref a4), (0, .ref v0), (1, .ref v1)]) hx hb dX3_weighLanes_22 rfl hl (by decide) rfl (fun ls hl => ?_)
      refine lv_aload_n (pc := 23) hx hb dX3_weighLanes_23 rfl (lv_at hl 0 rfl) ?_
      refine rg_alen (pc := 24) (κ := 13) hx hb hK hR 3 rfl (by decide) dX3_weighLanes_24 hf (fun hf => ?_)
      refine nm_i hf (fun x5 hf => ?_)
      refine lv_istore_n (pc := 25) (lv' := [(3, .int x5), (2, .ref a4), (0, .ref v0), (1, .ref v1)]) hx hb dX3_weighLanes_25 rfl hl (by decide) rfl (fun ls hl => ?_)
      refine lv_iconst (pc := 26) (v := (0 : Int32)) hx hb dX3_weighLanes_26 (by decide) ?_
      refine lv_istore (pc := 27) (lv' := [(4, .int (0 : Int32)), (3, .int x5), (2, .ref a4), (0, .ref v0), (1, .ref v1)]) hx hb dX3_weighLanes_27 hl (by decide) rfl (fun ls hl => ?_)
      exact hL29 200 v1 a4 x5 (0 : Int32) M _ _ _ hf hR (lv_sub hl [4, 2, 1, 0] rfl)
    · replace hf := it_f hf hc
      refine lv_aload_n (pc := 8) hx hb dX3_weighLanes_8 rfl (lv_at hl 1 rfl) ?_
      refine lv_iload_n (pc := 9) hx hb dX3_weighLanes_9 rfl (lv_at hl 2 rfl) ?_
      refine lv_iconst (pc := 10) (v := (0 : Int32)) hx hb dX3_weighLanes_10 (by decide) ?_
      refine rg_iast (pc := 11) hx hb hK hR dX3_weighLanes_11 hf (fun M6 H locs hf hR => ?_)
      refine rg_iinc (pc := 12) hx hb dX3_weighLanes_12 hl (k := 2) rfl rfl (by decide) hf (fun x7 ls hf hl => ?_)
      have hl : lv_has ls 6 [(2, .int x7), (0, .ref v0), (1, .ref v1)] := hl
      refine lv_goto (pc := 15) (tgt := 2) hx hb dX3_weighLanes_15 (by decide) ?_
      exact hk2 v0 v1 x7 M6 _ _ _ hf hR (lv_sub hl [1, 2, 0] rfl)
  have hL2 : ∀  (n : Nat) (v0 : Nat) (v1 : Nat) (v2 : Int32) (M : Mem) (H : Heap) (locs : List Loc) (ls : Array Slot), f_X3_weighLanes_L2  n v0 v1 v2 M = some r → Hp D ca nx A s M H locs → lv_has ls 6 [(0, .ref v0), (1, .ref v1), (2, .int v2)] → W p l e rm_X3_weighLanes s m args below meth c H locs 0 0 (MQ below (cvV D ca nx A r) args s 0 0 A) (F0 m 2 ls []) := by
    intro  n
    induction n with
    | zero => intro v0 v1 v2 M H locs ls hf; exact nomatch (show (none : Option (Mem)) = some r from hf)
    | succ n ih => intro v0 v1 v2 M H locs ls hf hR hl; exact hB2  (f_X3_weighLanes_L2  n) ih v0 v1 v2 M H locs ls hf hR hl
  unfold f_X3_weighLanes at hf
  refine lv_iconst (pc := 0) (v := (0 : Int32)) hx hb dX3_weighLanes_0 (by decide) ?_
  refine lv_istore_n (pc := 1) (lv' := [(2, .int (0 : Int32)), (0, .ref v0), (1, .ref v1)]) hx hb dX3_weighLanes_1 rfl hl (by decide) rfl (fun ls hl => ?_)
  exact hL2 200 v0 v1 (0 : Int32) M _ _ _ hf hR (lv_sub hl [1, 2, 0] rfl)
-- X7_radiusOf
def f_X7_radiusOf (v0 : Int32) (M : Mem) : Option (Mem × Int32) := some (M, (v0 + (20 : Int32)))
abbrev rm_X7_radiusOf : Room := { frames := 0, cells := 0, slots := 0, locals := 0 }
theorem hd_X7_radiusOf : yX7_radiusOf.cls ≠ "java/lang/invoke/MethodHandle" ∧ yX7_radiusOf.cls ≠ "java/lang/invoke/VarHandle" ∧ (parseMethodDescriptor yX7_radiusOf.desc).map (fun d => d.parameters.length) = some 1 := by decide +kernel
set_option maxHeartbeats 8000000 in
set_option maxRecDepth 100000 in
theorem c_X7_radiusOf {l : Launch} {D : va_G} {ca : Nat → ClassId} {b : Nat} {nx : Bool} {v0 : Int32} {M : Mem} {r : Mem × Int32} (hf : f_X7_radiusOf v0 M = some r) : CtI l yX7_radiusOf cX7_radiusOf 1 (some .int) rm_X7_radiusOf D ca b nx [.int v0] M r := by
  intro sz
  refine body_start (Qc := fun A => cvI D ca nx A r) (by decide +kernel) (Nat.le_of_ble_eq_true rfl) ?_
  intro p e s m args below meth c A hC hr hR ls hl
  obtain ⟨hx, hb, hml, hts, hown, hlocks, hXe, hA, hAb, hnm⟩ := id hC
  have hK := hXe.1
  have hl : lv_has ls 1 [(0, .int v0)] := hl
  unfold f_X7_radiusOf at hf
  refine lv_iload_n (pc := 0) hx hb dX7_radiusOf_0 rfl (lv_at hl 0 rfl) ?_
  refine lv_bipush (pc := 1) (v := (20 : Int32)) hx hb dX7_radiusOf_1 (by decide) ?_
  refine lv_iadd (pc := 3) hx hb dX7_radiusOf_3 ?_
  exact rg_iret (pc := 4) hx hb hlocks hr hf hR dX7_radiusOf_4
-- X6_speedIn
def f_X6_speedIn (v0 : Nat) (v1 : Int32) (M : Mem) : Option (Mem × Int32) := bd (f_X7_radiusOf v1 M) fun z1 => if (1 : Int32) ≤ z1.2 then (gd (¬ z1.2 = 0) <| gd (z1.1.1 v0 = 6) <| gd (¬ (z1.2 * z1.2) = 0) <| some (z1.1, (((36000 : Int32) / z1.2) + (((100 : Int32) * (mm_i z1.1 v0 0)) / (z1.2 * z1.2))))) else (some (z1.1, (0 : Int32)))
abbrev rm_X6_speedIn : Room := { frames := 1, cells := 0, slots := 0, locals := 20 }
theorem hd_X6_speedIn : yX6_speedIn.cls ≠ "java/lang/invoke/MethodHandle" ∧ yX6_speedIn.cls ≠ "java/lang/invoke/VarHandle" ∧ (parseMethodDescriptor yX6_speedIn.desc).map (fun d => d.parameters.length) = some 1 := by decide +kernel
set_option maxHeartbeats 8000000 in
set_option maxRecDepth 100000 in
theorem c_X6_speedIn {l : Launch} {D : va_G} {ca : Nat → ClassId} {b : Nat} {nx : Bool} {v0 : Nat} {v1 : Int32} {M : Mem} {r : Mem × Int32} (hf : f_X6_speedIn v0 v1 M = some r) : CtI l yX6_speedIn cX6_speedIn 3 (some .int) rm_X6_speedIn D ca b nx [.ref v0, .int v1] M r := by
  intro sz
  refine body_start (Qc := fun A => cvI D ca nx A r) (by decide +kernel) (Nat.le_of_ble_eq_true rfl) ?_
  intro p e s m args below meth c A hC hr hR ls hl
  obtain ⟨hx, hb, hml, hts, hown, hlocks, hXe, hA, hAb, hnm⟩ := id hC
  have hK := hXe.1
  have hl : lv_has ls 3 [(0, .ref v0), (1, .int v1)] := hl
  unfold f_X6_speedIn at hf
  refine lv_iload_n (pc := 0) hx hb dX6_speedIn_0 rfl (lv_at hl 1 rfl) ?_
  refine rg_I (pc := 1) hf hR hA (fun z hz => rn_SN (host := "RingHerd") (As := [.int v1]) (rest := []) hC hR (c_X7_radiusOf  hz _) (by decide +kernel) m_387 m_1 m_388 hd_X7_radiusOf ⟨rfl, rfl, Nat.le_of_ble_eq_true rfl, Nat.le_of_ble_eq_true rfl⟩ rfl hl.1 rfl (Nat.le_of_ble_eq_true rfl) dX6_speedIn_1 ⟨Nat.le_of_ble_eq_true rfl, Nat.le_of_ble_eq_true rfl⟩) (fun z1 H locs hf hR => ?_)
  refine lv_istore_n (pc := 4) (lv' := [(2, .int z1.2), (0, .ref v0), (1, .int v1)]) hx hb dX6_speedIn_4 rfl hl (by decide) rfl (fun ls hl => ?_)
  refine lv_iload_n (pc := 5) hx hb dX6_speedIn_5 rfl (lv_at hl 0 rfl) ?_
  refine lv_iconst (pc := 6) (v := (1 : Int32)) hx hb dX6_speedIn_6 (by decide) ?_
  refine lv_icmp_ge (pc := 7) (tgt := 12) hx hb dX6_speedIn_7 (by decide) (fun hc => ?_) (fun hc => ?_)
  · replace hf := it_t hf hc
    refine lv_ldc (pc := 12) hx hb hown (hts _ m_389) dX6_speedIn_12 ?_
    refine lv_iload_n (pc := 14) hx hb dX6_speedIn_14 rfl (lv_at hl 0 rfl) ?_
    obtain ⟨hz, hf⟩ := gd_e hf
    refine lv_idiv (pc := 15) hx hb dX6_speedIn_15 hz ?_
    refine lv_bipush (pc := 16) (v := (100 : Int32)) hx hb dX6_speedIn_16 (by decide) ?_
    refine lv_aload_n (pc := 18) hx hb dX6_speedIn_18 rfl (lv_at hl 1 rfl) ?_
    refine rg_get (pc := 19) (C := RX6) (T := TX6) (N := 1) (κ := 6) (v := .int (mm_i z1.1 v0 0)) hx hb hts hK hR hown in_6 rfl (by decide) 0 (by decide) m_36 rfl dX6_speedIn_19 hf (fun hf => ?_)
    refine lv_imul (pc := 22) hx hb dX6_speedIn_22 ?_
    refine lv_iload_n (pc := 23) hx hb dX6_speedIn_23 rfl (lv_at hl 0 rfl) ?_
    refine lv_iload_n (pc := 24) hx hb dX6_speedIn_24 rfl (lv_at hl 0 rfl) ?_
    refine lv_imul (pc := 25) hx hb dX6_speedIn_25 ?_
    obtain ⟨hz, hf⟩ := gd_e hf
    refine lv_idiv (pc := 26) hx hb dX6_speedIn_26 hz ?_
    refine lv_iadd (pc := 27) hx hb dX6_speedIn_27 ?_
    exact rg_iret (pc := 28) hx hb hlocks hr hf hR dX6_speedIn_28
  · replace hf := it_f hf hc
    refine lv_iconst (pc := 10) (v := (0 : Int32)) hx hb dX6_speedIn_10 (by decide) ?_
    exact rg_iret (pc := 11) hx hb hlocks hr hf hR dX6_speedIn_11
-- X7_turned
def f_X7_turned (v0 : Int32) (v1 : Int32) (M : Mem) : Option (Mem × Int32) := some (M, ((v0 + v1) - (v0 + v1) / (36000 : Int32) * (36000 : Int32)))
abbrev rm_X7_turned : Room := { frames := 0, cells := 0, slots := 0, locals := 0 }
theorem hd_X7_turned : yX7_turned.cls ≠ "java/lang/invoke/MethodHandle" ∧ yX7_turned.cls ≠ "java/lang/invoke/VarHandle" ∧ (parseMethodDescriptor yX7_turned.desc).map (fun d => d.parameters.length) = some 2 := by decide +kernel
set_option maxHeartbeats 8000000 in
set_option maxRecDepth 100000 in
theorem c_X7_turned {l : Launch} {D : va_G} {ca : Nat → ClassId} {b : Nat} {nx : Bool} {v0 : Int32} {v1 : Int32} {M : Mem} {r : Mem × Int32} (hf : f_X7_turned v0 v1 M = some r) : CtI l yX7_turned cX7_turned 2 (some .int) rm_X7_turned D ca b nx [.int v0, .int v1] M r := by
  intro sz
  refine body_start (Qc := fun A => cvI D ca nx A r) (by decide +kernel) (Nat.le_of_ble_eq_true rfl) ?_
  intro p e s m args below meth c A hC hr hR ls hl
  obtain ⟨hx, hb, hml, hts, hown, hlocks, hXe, hA, hAb, hnm⟩ := id hC
  have hK := hXe.1
  have hl : lv_has ls 2 [(0, .int v0), (1, .int v1)] := hl
  unfold f_X7_turned at hf
  refine lv_iload_n (pc := 0) hx hb dX7_turned_0 rfl (lv_at hl 0 rfl) ?_
  refine lv_iload_n (pc := 1) hx hb dX7_turned_1 rfl (lv_at hl 1 rfl) ?_
  refine lv_iadd (pc := 2) hx hb dX7_turned_2 ?_
  refine lv_ldcw (pc := 3) hx hb hown (hts _ m_393) dX7_turned_3 ?_
  refine lv_irem (pc := 6) hx hb dX7_turned_6 (by decide) ?_
  exact rg_iret (pc := 7) hx hb hlocks hr hf hR dX7_turned_7
-- X3_goRound
def f_X3_goRound_b53 (k10 : Nat → Nat → Int32 → Int32 → Mem → Option (Mem)) (v0 : Nat) (v1 : Nat) (v2 : Int32) (v3 : Int32) (M : Mem) : Option (Mem) := lt_ (v3 + (1 : Int32)) fun x1 => k10 v0 v1 v2 x1 M
def f_X3_goRound_b10 (k10 : Nat → Nat → Int32 → Int32 → Mem → Option (Mem)) (v0 : Nat) (v1 : Nat) (v2 : Int32) (v3 : Int32) (M : Mem) : Option (Mem) := if v2 ≤ v3 then (some M) else (gd (M.1 v1 = 13 ∧ vi_ v3 (mm_N M v1)) <| rd (mm_r M v1 (v3).toNatClampNeg) fun a2 => gd (M.1 a2 = 2) <| if (mm_i M a2 5) = 0 then (f_X3_goRound_b53 k10 v0 v1 v2 v3 M) else (gd (M.1 a2 = 2) <| gd (M.1 v0 = 3) <| rd (mm_r M v0 0) fun a3 => gd (M.1 a2 = 2) <| gd (M.1 a3 = 6) <| bd (f_X6_speedIn a3 (mm_i M a2 0) M) fun z4 => bd (f_X7_turned (mm_i M a2 1) z4.2 z4.1) fun z5 => gd (z5.1.1 a2 = 2) <| lt_ (ms_i z5.1 a2 1 z5.2) fun M6 => f_X3_goRound_b53 k10 v0 v1 v2 v3 M6))
def f_X3_goRound_L10  : Nat → Nat → Nat → Int32 → Int32 → Mem → Option (Mem)
  | 0 => fun _ _ _ _ _ => none
  | n + 1 => f_X3_goRound_b10  (f_X3_goRound_L10  n)
def f_X3_goRound (v0 : Nat) (M : Mem) : Option (Mem) := gd (M.1 v0 = 3) <| rd (mm_r M v0 2) fun a7 => gd (M.1 a7 = 13) <| lt_ ((nI (mm_N M a7))) fun x8 => f_X3_goRound_L10 200 v0 a7 x8 (0 : Int32) M
abbrev rm_X3_goRound : Room := { frames := 2, cells := 0, slots := 0, locals := 42 }
theorem hd_X3_goRound : yX3_goRound.cls ≠ "java/lang/invoke/MethodHandle" ∧ yX3_goRound.cls ≠ "java/lang/invoke/VarHandle" ∧ (parseMethodDescriptor yX3_goRound.desc).map (fun d => d.parameters.length) = some 0 := by decide +kernel
set_option maxHeartbeats 8000000 in
set_option maxRecDepth 100000 in
theorem c_X3_goRound {l : Launch} {D : va_G} {ca : Nat → ClassId} {b : Nat} {nx : Bool} {v0 : Nat} {M : Mem} {r : Mem} (hf : f_X3_goRound v0 M = some r) : CtV l yX3_goRound cX3_goRound 5 none rm_X3_goRound D ca b nx [.ref v0] M r 0 0 := by
  intro sz
  refine body_start (Qc := fun A => cvV D ca nx A r) (by decide +kernel) (Nat.le_of_ble_eq_true rfl) ?_
  intro p e s m args below meth c A hC hr hR ls hl
  obtain ⟨hx, hb, hml, hts, hown, hlocks, hXe, hA, hAb, hnm⟩ := id hC
  have hK := hXe.1
  have hl : lv_has ls 5 [(0, .ref v0)] := hl
  have hB53 : ∀ (k10 : Nat → Nat → Int32 → Int32 → Mem → Option (Mem)) (hk10 : ∀ (v0 : Nat) (v1 : Nat) (v2 : Int32) (v3 : Int32) (M : Mem) (H : Heap) (locs : List Loc) (ls : Array Slot), k10 v0 v1 v2 v3 M = some r → Hp D ca nx A s M H locs → lv_has ls 5 [(0, .ref v0), (1, .ref v1), (2, .int v2), (3, .int v3)] → W p l e rm_X3_goRound s m args below meth c H locs 0 0 (MQ below (cvV D ca nx A r) args s 0 0 A) (F0 m 10 ls [])) (v0 : Nat) (v1 : Nat) (v2 : Int32) (v3 : Int32) (M : Mem) (H : Heap) (locs : List Loc) (ls : Array Slot), f_X3_goRound_b53 k10 v0 v1 v2 v3 M = some r → Hp D ca nx A s M H locs → lv_has ls 5 [(0, .ref v0), (1, .ref v1), (2, .int v2), (3, .int v3)] → W p l e rm_X3_goRound s m args below meth c H locs 0 0 (MQ below (cvV D ca nx A r) args s 0 0 A) (F0 m 53 ls []) := by
    intro k10 hk10 v0 v1 v2 v3 M H locs ls hf hR hl
    unfold f_X3_goRound_b53 at hf
    refine rg_iinc (pc := 53) hx hb dX3_goRound_53 hl (k := 3) rfl rfl (by decide) hf (fun x1 ls hf hl => ?_)
    have hl : lv_has ls 5 [(3, .int x1), (0, .ref v0), (1, .ref v1), (2, .int v2)] := hl
    refine lv_goto (pc := 56) (tgt := 10) hx hb dX3_goRound_56 (by decide) ?_
    exact hk10 v0 v1 v2 x1 M _ _ _ hf hR (lv_sub hl [1, 2, 3, 0] rfl)
  have hB10 : ∀ (k10 : Nat → Nat → Int32 → Int32 → Mem → Option (Mem)) (hk10 : ∀ (v0 : Nat) (v1 : Nat) (v2 : Int32) (v3 : Int32) (M : Mem) (H : Heap) (locs : List Loc) (ls : Array Slot), k10 v0 v1 v2 v3 M = some r → Hp D ca nx A s M H locs → lv_has ls 5 [(0, .ref v0), (1, .ref v1), (2, .int v2), (3, .int v3)] → W p l e rm_X3_goRound s m args below meth c H locs 0 0 (MQ below (cvV D ca nx A r) args s 0 0 A) (F0 m 10 ls [])) (v0 : Nat) (v1 : Nat) (v2 : Int32) (v3 : Int32) (M : Mem) (H : Heap) (locs : List Loc) (ls : Array Slot), f_X3_goRound_b10 k10 v0 v1 v2 v3 M = some r → Hp D ca nx A s M H locs → lv_has ls 5 [(0, .ref v0), (1, .ref v1), (2, .int v2), (3, .int v3)] → W p l e rm_X3_goRound s m args below meth c H locs 0 0 (MQ below (cvV D ca nx A r) args s 0 0 A) (F0 m 10 ls []) := by
    intro k10 hk10 v0 v1 v2 v3 M H locs ls hf hR hl
    unfold f_X3_goRound_b10 at hf
    refine lv_iload_n (pc := 10) hx hb dX3_goRound_10 rfl (lv_at hl 3 rfl) ?_
    refine lv_iload_n (pc := 11) hx hb dX3_goRound_11 rfl (lv_at hl 2 rfl) ?_
    refine lv_icmp_ge (pc := 12) (tgt := 59) hx hb dX3_goRound_12 (by decide) (fun hc => ?_) (fun hc => ?_)
    · replace hf := it_t hf hc
      exact rg_vret (pc := 59) hx hb hlocks hr hf hR dX3_goRound_59
    · replace hf := it_f hf hc
      refine lv_aload_n (pc := 15) hx hb dX3_goRound_15 rfl (lv_at hl 1 rfl) ?_
      refine lv_iload_n (pc := 16) hx hb dX3_goRound_16 rfl (lv_at hl 3 rfl) ?_
      refine rg_aald (pc := 17) (κ := 13) hx hb hK hR 3 rfl (by decide) dX3_goRound_17 hf (fun a2 hf => ?_)
      refine lv_astore (pc := 18) (lv' := [(4, .ref a2), (0, .ref v0), (1, .ref v1), (2, .int v2), (3, .int v3)]) hx hb dX3_goRound_18 hl (by decide) rfl (fun ls hl => ?_)
      refine lv_aload (pc := 20) hx hb dX3_goRound_20 (lv_at hl 0 rfl) ?_
      refine rg_get (pc := 22) (C := RX2) (T := TX2) (N := 7) (κ := 2) (v := .int (mm_i M a2 5)) hx hb hts hK hR hown in_2 rfl (by decide) 5 (by decide) m_120 rfl dX3_goRound_22 hf (fun hf => ?_)
      refine lv_if_eq (pc := 25) (tgt := 53) hx hb dX3_goRound_25 (by decide) (fun hc => ?_) (fun hc => ?_)
      · replace hf := it_t hf hc
        exact hB53 k10 hk10 v0 v1 v2 v3 M _ _ _ hf hR (lv_sub hl [1, 2, 3, 4] rfl)
      · replace hf := it_f hf hc
        refine lv_aload (pc := 28) hx hb dX3_goRound_28 (lv_at hl 0 rfl) ?_
        refine lv_aload (pc := 30) hx hb dX3_goRound_30 (lv_at hl 0 rfl) ?_
        refine rg_get (pc := 32) (C := RX2) (T := TX2) (N := 7) (κ := 2) (v := .int (mm_i M a2 1)) hx hb hts hK hR hown in_2 rfl (by decide) 1 (by decide) m_110 rfl dX3_goRound_32 hf (fun hf => ?_)
        refine lv_aload_n (pc := 35) hx hb dX3_goRound_35 rfl (lv_at hl 1 rfl) ?_
        refine rg_getr (pc := 36) (C := RX3) (T := TX3) (N := 7) (κ := 3) hx hb hts hK hR hown in_3 rfl (by decide) 0 (by decide) m_140 rfl dX3_goRound_36 hf (fun a3 hf => ?_)
        refine lv_aload (pc := 39) hx hb dX3_goRound_39 (lv_at hl 0 rfl) ?_
        refine rg_get (pc := 41) (C := RX2) (T := TX2) (N := 7) (κ := 2) (v := .int (mm_i M a2 0)) hx hb hts hK hR hown in_2 rfl (by decide) 0 (by decide) m_108 rfl dX3_goRound_41 hf (fun hf => ?_)
        obtain ⟨hq, hf⟩ := gd_e hf
        refine rg_I (pc := 44) hf hR hA (fun z hz => rn_V (κ := 6) (As := [.int (mm_i M a2 0)]) (rest := [.int (mm_i M a2 1), .ref a2]) hC hR rfl (by decide) hq (c_X6_speedIn  hz _) m_398 m_383 m_384 m_3 m_385 hd_X6_speedIn ⟨rfl, rfl, Nat.le_of_ble_eq_true rfl, Nat.le_of_ble_eq_true rfl⟩ rfl hl.1 rfl (Nat.le_of_ble_eq_true rfl) dX3_goRound_44 ⟨Nat.le_of_ble_eq_true rfl, Nat.le_of_ble_eq_true rfl⟩) (fun z4 H locs hf hR => ?_)
        refine rg_I (pc := 47) hf hR hA (fun z hz => rn_SN (host := "RingHerd") (As := [.int (mm_i M a2 1), .int z4.2]) (rest := [.ref a2]) hC hR (c_X7_turned  hz _) (by decide +kernel) m_391 m_1 m_392 hd_X7_turned ⟨rfl, rfl, Nat.le_of_ble_eq_true rfl, Nat.le_of_ble_eq_true rfl⟩ rfl hl.1 rfl (Nat.le_of_ble_eq_true rfl) dX3_goRound_47 ⟨Nat.le_of_ble_eq_true rfl, Nat.le_of_ble_eq_true rfl⟩) (fun z5 H locs hf hR => ?_)
        refine rg_puti (pc := 50) (C := RX2) (T := TX2) (N := 7) (κ := 2) hx hb hts hK hR hown in_2 rfl (by decide) 1 (by decide) m_110 tyX2 tyX2_ok nmX2 rfl rfl rfl rfl dX3_goRound_50 hf (fun M6 H locs hf hR => ?_)
        exact hB53 k10 hk10 v0 v1 v2 v3 M6 _ _ _ hf hR (lv_sub hl [1, 2, 3, 4] rfl)
  have hL10 : ∀  (n : Nat) (v0 : Nat) (v1 : Nat) (v2 : Int32) (v3 : Int32) (M : Mem) (H : Heap) (locs : List Loc) (ls : Array Slot), f_X3_goRound_L10  n v0 v1 v2 v3 M = some r → Hp D ca nx A s M H locs → lv_has ls 5 [(0, .ref v0), (1, .ref v1), (2, .int v2), (3, .int v3)] → W p l e rm_X3_goRound s m args below meth c H locs 0 0 (MQ below (cvV D ca nx A r) args s 0 0 A) (F0 m 10 ls []) := by
    intro  n
    induction n with
    | zero => intro v0 v1 v2 v3 M H locs ls hf; exact nomatch (show (none : Option (Mem)) = some r from hf)
    | succ n ih => intro v0 v1 v2 v3 M H locs ls hf hR hl; exact hB10  (f_X3_goRound_L10  n) ih v0 v1 v2 v3 M H locs ls hf hR hl
  unfold f_X3_goRound at hf
  refine lv_aload_n (pc := 0) hx hb dX3_goRound_0 rfl (lv_at hl 0 rfl) ?_
  refine rg_getr (pc := 1) (C := RX3) (T := TX3) (N := 7) (κ := 3) hx hb hts hK hR hown in_3 rfl (by decide) 2 (by decide) m_144 rfl dX3_goRound_1 hf (fun a7 hf => ?_)
  refine lv_astore_n (pc := 4) (lv' := [(1, .ref a7), (0, .ref v0)]) hx hb dX3_goRound_4 rfl hl (by decide) rfl (fun ls hl => ?_)
  refine lv_aload_n (pc := 5) hx hb dX3_goRound_5 rfl (lv_at hl 0 rfl) ?_
  refine rg_alen (pc := 6) (κ := 13) hx hb hK hR 3 rfl (by decide) dX3_goRound_6 hf (fun hf => ?_)
  refine nm_i hf (fun x8 hf => ?_)
  refine lv_istore_n (pc := 7) (lv' := [(2, .int x8), (1, .ref a7), (0, .ref v0)]) hx hb dX3_goRound_7 rfl hl (by decide) rfl (fun ls hl => ?_)
  refine lv_iconst (pc := 8) (v := (0 : Int32)) hx hb dX3_goRound_8 (by decide) ?_
  refine lv_istore_n (pc := 9) (lv' := [(3, .int (0 : Int32)), (2, .int x8), (1, .ref a7), (0, .ref v0)]) hx hb dX3_goRound_9 rfl hl (by decide) rfl (fun ls hl => ?_)
  exact hL10 200 v0 a7 x8 (0 : Int32) M _ _ _ hf hR (lv_sub hl [3, 2, 1, 0] rfl)
-- X3_shift
def f_X3_shift_b129   (M : Mem) : Option (Mem) := some M
def f_X3_shift (v0 : Nat) (v1 : Nat) (v2 : Int32) (M : Mem) : Option (Mem) := gd (M.1 v1 = 2) <| gd (M.1 v1 = 2) <| lt_ (ms_i M v1 0 ((mm_i M v1 0) + v2)) fun M1 => gd (M1.1 v1 = 2) <| if 0 ≤ (mm_i M1 v1 0) then (gd (M1.1 v1 = 2) <| if (mm_i M1 v1 0) < (64 : Int32) then (f_X3_shift_b129  M1) else (gd (M1.1 v1 = 2) <| lt_ (ms_i M1 v1 5 (0 : Int32)) fun M2 => gd (M2.1 v0 = 3) <| rd (mm_r M2 v0 1) fun a3 => gd (M2.1 a3 = 4) <| gd (M2.1 a3 = 4) <| lt_ (ms_i M2 a3 4 ((mm_i M2 a3 4) + (1 : Int32))) fun M4 => gd (M4.1 v0 = 3) <| rd (mm_r M4 v0 1) fun a5 => gd (M4.1 a5 = 4) <| gd (M4.1 v1 = 2) <| gd (M4.1 a5 = 4) <| lt_ (ms_i M4 a5 7 ((mm_i M4 a5 7) + (mm_i M4 v1 2))) fun M6 => gd (M6.1 v0 = 3) <| rd (mm_r M6 v0 1) fun a7 => gd (M6.1 a7 = 4) <| gd (M6.1 v1 = 2) <| bd (f_X2_carried v1 M6) fun z8 => gd (z8.1.1 a7 = 4) <| lt_ (ms_l z8.1 a7 10 ((mm_l M6 a7 10) + z8.2)) fun M9 => f_X3_shift_b129  M9)) else (gd (M1.1 v1 = 2) <| lt_ (ms_i M1 v1 5 (0 : Int32)) fun M10 => gd (M10.1 v0 = 3) <| rd (mm_r M10 v0 1) fun a11 => gd (M10.1 a11 = 4) <| gd (M10.1 a11 = 4) <| lt_ (ms_i M10 a11 3 ((mm_i M10 a11 3) + (1 : Int32))) fun M12 => gd (M12.1 v0 = 3) <| rd (mm_r M12 v0 1) fun a13 => gd (M12.1 a13 = 4) <| gd (M12.1 v1 = 2) <| gd (M12.1 a13 = 4) <| lt_ (ms_i M12 a13 6 ((mm_i M12 a13 6) + (mm_i M12 v1 2))) fun M14 => gd (M14.1 v0 = 3) <| rd (mm_r M14 v0 1) fun a15 => gd (M14.1 a15 = 4) <| gd (M14.1 v1 = 2) <| bd (f_X2_carried v1 M14) fun z16 => gd (z16.1.1 a15 = 4) <| lt_ (ms_l z16.1 a15 9 ((mm_l M14 a15 9) + z16.2)) fun M17 => f_X3_shift_b129  M17)
abbrev rm_X3_shift : Room := { frames := 1, cells := 0, slots := 0, locals := 20 }
theorem hd_X3_shift : yX3_shift.cls ≠ "java/lang/invoke/MethodHandle" ∧ yX3_shift.cls ≠ "java/lang/invoke/VarHandle" ∧ (parseMethodDescriptor yX3_shift.desc).map (fun d => d.parameters.length) = some 2 := by decide +kernel
set_option maxHeartbeats 8000000 in
set_option maxRecDepth 100000 in
theorem c_X3_shift {l : Launch} {D : va_G} {ca : Nat → ClassId} {b : Nat} {nx : Bool} {v0 : Nat} {v1 : Nat} {v2 : Int32} {M : Mem} {r : Mem} (hf : f_X3_shift v0 v1 v2 M = some r) : CtV l yX3_shift cX3_shift 3 none rm_X3_shift D ca b nx [.ref v0, .ref v1, .int v2] M r 0 0 := by
  intro sz
  refine body_start (Qc := fun A => cvV D ca nx A r) (by decide +kernel) (Nat.le_of_ble_eq_true rfl) ?_
  intro p e s m args below meth c A hC hr hR ls hl
  obtain ⟨hx, hb, hml, hts, hown, hlocks, hXe, hA, hAb, hnm⟩ := id hC
  have hK := hXe.1
  have hl : lv_has ls 3 [(0, .ref v0), (1, .ref v1), (2, .int v2)] := hl
  have hB129 : ∀   (M : Mem) (H : Heap) (locs : List Loc) (ls : Array Slot), f_X3_shift_b129   M = some r → Hp D ca nx A s M H locs → lv_has ls 3 [] → W p l e rm_X3_shift s m args below meth c H locs 0 0 (MQ below (cvV D ca nx A r) args s 0 0 A) (F0 m 129 ls []) := by
    intro   M H locs ls hf hR hl
    unfold f_X3_shift_b129 at hf
    exact rg_vret (pc := 129) hx hb hlocks hr hf hR dX3_shift_129
  unfold f_X3_shift at hf
  refine lv_aload_n (pc := 0) hx hb dX3_shift_0 rfl (lv_at hl 1 rfl) ?_
  refine lv_dup (pc := 1) hx hb dX3_shift_1 rfl ?_
  refine rg_get (pc := 2) (C := RX2) (T := TX2) (N := 7) (κ := 2) (v := .int (mm_i M v1 0)) hx hb hts hK hR hown in_2 rfl (by decide) 0 (by decide) m_108 rfl dX3_shift_2 hf (fun hf => ?_)
  refine lv_iload_n (pc := 5) hx hb dX3_shift_5 rfl (lv_at hl 2 rfl) ?_
  refine lv_iadd (pc := 6) hx hb dX3_shift_6 ?_
  refine rg_puti (pc := 7) (C := RX2) (T := TX2) (N := 7) (κ := 2) hx hb hts hK hR hown in_2 rfl (by decide) 0 (by decide) m_108 tyX2 tyX2_ok nmX2 rfl rfl rfl rfl dX3_shift_7 hf (fun M1 H locs hf hR => ?_)
  refine lv_aload_n (pc := 10) hx hb dX3_shift_10 rfl (lv_at hl 1 rfl) ?_
  refine rg_get (pc := 11) (C := RX2) (T := TX2) (N := 7) (κ := 2) (v := .int (mm_i M1 v1 0)) hx hb hts hK hR hown in_2 rfl (by decide) 0 (by decide) m_108 rfl dX3_shift_11 hf (fun hf => ?_)
  refine lv_if_ge (pc := 14) (tgt := 70) hx hb dX3_shift_14 (by decide) (fun hc => ?_) (fun hc => ?_)
  · replace hf := it_t hf hc
    refine lv_aload_n (pc := 70) hx hb dX3_shift_70 rfl (lv_at hl 1 rfl) ?_
    refine rg_get (pc := 71) (C := RX2) (T := TX2) (N := 7) (κ := 2) (v := .int (mm_i M1 v1 0)) hx hb hts hK hR hown in_2 rfl (by decide) 0 (by decide) m_108 rfl dX3_shift_71 hf (fun hf => ?_)
    refine lv_bipush (pc := 74) (v := (64 : Int32)) hx hb dX3_shift_74 (by decide) ?_
    refine lv_icmp_lt (pc := 76) (tgt := 129) hx hb dX3_shift_76 (by decide) (fun hc => ?_) (fun hc => ?_)
    · replace hf := it_t hf hc
      exact hB129  M1 _ _ _ hf hR (lv_sub hl [] rfl)
    · replace hf := it_f hf hc
      refine lv_aload_n (pc := 79) hx hb dX3_shift_79 rfl (lv_at hl 1 rfl) ?_
      refine lv_iconst (pc := 80) (v := (0 : Int32)) hx hb dX3_shift_80 (by decide) ?_
      refine rg_puti (pc := 81) (C := RX2) (T := TX2) (N := 7) (κ := 2) hx hb hts hK hR hown in_2 rfl (by decide) 5 (by decide) m_120 tyX2 tyX2_ok nmX2 rfl rfl rfl rfl dX3_shift_81 hf (fun M2 H locs hf hR => ?_)
      refine lv_aload_n (pc := 84) hx hb dX3_shift_84 rfl (lv_at hl 0 rfl) ?_
      refine rg_getr (pc := 85) (C := RX3) (T := TX3) (N := 7) (κ := 3) hx hb hts hK hR hown in_3 rfl (by decide) 1 (by decide) m_142 rfl dX3_shift_85 hf (fun a3 hf => ?_)
      refine lv_dup (pc := 88) hx hb dX3_shift_88 rfl ?_
      refine rg_get (pc := 89) (C := RX4) (T := TX4) (N := 13) (κ := 4) (v := .int (mm_i M2 a3 4)) hx hb hts hK hR hown in_4 rfl (by decide) 4 (by decide) m_56 rfl dX3_shift_89 hf (fun hf => ?_)
      refine lv_iconst (pc := 92) (v := (1 : Int32)) hx hb dX3_shift_92 (by decide) ?_
      refine lv_iadd (pc := 93) hx hb dX3_shift_93 ?_
      refine rg_puti (pc := 94) (C := RX4) (T := TX4) (N := 13) (κ := 4) hx hb hts hK hR hown in_4 rfl (by decide) 4 (by decide) m_56 tyX4 tyX4_ok nmX4 rfl rfl rfl rfl dX3_shift_94 hf (fun M4 H locs hf hR => ?_)
      refine lv_aload_n (pc := 97) hx hb dX3_shift_97 rfl (lv_at hl 0 rfl) ?_
      refine rg_getr (pc := 98) (C := RX3) (T := TX3) (N := 7) (κ := 3) hx hb hts hK hR hown in_3 rfl (by decide) 1 (by decide) m_142 rfl dX3_shift_98 hf (fun a5 hf => ?_)
      refine lv_dup (pc := 101) hx hb dX3_shift_101 rfl ?_
      refine rg_get (pc := 102) (C := RX4) (T := TX4) (N := 13) (κ := 4) (v := .int (mm_i M4 a5 7)) hx hb hts hK hR hown in_4 rfl (by decide) 7 (by decide) m_62 rfl dX3_shift_102 hf (fun hf => ?_)
      refine lv_aload_n (pc := 105) hx hb dX3_shift_105 rfl (lv_at hl 1 rfl) ?_
      refine rg_get (pc := 106) (C := RX2) (T := TX2) (N := 7) (κ := 2) (v := .int (mm_i M4 v1 2)) hx hb hts hK hR hown in_2 rfl (by decide) 2 (by decide) m_114 rfl dX3_shift_106 hf (fun hf => ?_)
      refine lv_iadd (pc := 109) hx hb dX3_shift_109 ?_
      refine rg_puti (pc := 110) (C := RX4) (T := TX4) (N := 13) (κ := 4) hx hb hts hK hR hown in_4 rfl (by decide) 7 (by decide) m_62 tyX4 tyX4_ok nmX4 rfl rfl rfl rfl dX3_shift_110 hf (fun M6 H locs hf hR => ?_)
      refine lv_aload_n (pc := 113) hx hb dX3_shift_113 rfl (lv_at hl 0 rfl) ?_
      refine rg_getr (pc := 114) (C := RX3) (T := TX3) (N := 7) (κ := 3) hx hb hts hK hR hown in_3 rfl (by decide) 1 (by decide) m_142 rfl dX3_shift_114 hf (fun a7 hf => ?_)
      refine lv_dup (pc := 117) hx hb dX3_shift_117 rfl ?_
      refine rg_get (pc := 118) (C := RX4) (T := TX4) (N := 13) (κ := 4) (v := .long (mm_l M6 a7 10)) hx hb hts hK hR hown in_4 rfl (by decide) 10 (by decide) m_68 rfl dX3_shift_118 hf (fun hf => ?_)
      refine lv_aload_n (pc := 121) hx hb dX3_shift_121 rfl (lv_at hl 1 rfl) ?_
      obtain ⟨hq, hf⟩ := gd_e hf
      refine rg_L (pc := 122) hf hR hA (fun z hz => rn_V (κ := 2) (As := []) (rest := [.long (mm_l M6 a7 10), .ref a7]) hC hR rfl (by decide) hq (c_X2_carried  hz _) m_353 m_354 m_355 m_5 m_356 hd_X2_carried ⟨rfl, rfl, Nat.le_of_ble_eq_true rfl, Nat.le_of_ble_eq_true rfl⟩ rfl hl.1 rfl (Nat.le_of_ble_eq_true rfl) dX3_shift_122 ⟨Nat.le_of_ble_eq_true rfl, Nat.le_of_ble_eq_true rfl⟩) (fun z8 H locs hf hR => ?_)
      refine lv_ladd (pc := 125) hx hb dX3_shift_125 ?_
      refine rg_putl (pc := 126) (C := RX4) (T := TX4) (N := 13) (κ := 4) hx hb hts hK hR hown in_4 rfl (by decide) 10 (by decide) m_68 tyX4 tyX4_ok nmX4 rfl rfl rfl rfl dX3_shift_126 hf (fun M9 H locs hf hR => ?_)
      exact hB129  M9 _ _ _ hf hR (lv_sub hl [] rfl)
  · replace hf := it_f hf hc
    refine lv_aload_n (pc := 17) hx hb dX3_shift_17 rfl (lv_at hl 1 rfl) ?_
    refine lv_iconst (pc := 18) (v := (0 : Int32)) hx hb dX3_shift_18 (by decide) ?_
    refine rg_puti (pc := 19) (C := RX2) (T := TX2) (N := 7) (κ := 2) hx hb hts hK hR hown in_2 rfl (by decide) 5 (by decide) m_120 tyX2 tyX2_ok nmX2 rfl rfl rfl rfl dX3_shift_19 hf (fun M10 H locs hf hR => ?_)
    refine lv_aload_n (pc := 22) hx hb dX3_shift_22 rfl (lv_at hl 0 rfl) ?_
    refine rg_getr (pc := 23) (C := RX3) (T := TX3) (N := 7) (κ := 3) hx hb hts hK hR hown in_3 rfl (by decide) 1 (by decide) m_142 rfl dX3_shift_23 hf (fun a11 hf => ?_)
    refine lv_dup (pc := 26) hx hb dX3_shift_26 rfl ?_
    refine rg_get (pc := 27) (C := RX4) (T := TX4) (N := 13) (κ := 4) (v := .int (mm_i M10 a11 3)) hx hb hts hK hR hown in_4 rfl (by decide) 3 (by decide) m_54 rfl dX3_shift_27 hf (fun hf => ?_)
    refine lv_iconst (pc := 30) (v := (1 : Int32)) hx hb dX3_shift_30 (by decide) ?_
    refine lv_iadd (pc := 31) hx hb dX3_shift_31 ?_
    refine rg_puti (pc := 32) (C := RX4) (T := TX4) (N := 13) (κ := 4) hx hb hts hK hR hown in_4 rfl (by decide) 3 (by decide) m_54 tyX4 tyX4_ok nmX4 rfl rfl rfl rfl dX3_shift_32 hf (fun M12 H locs hf hR => ?_)
    refine lv_aload_n (pc := 35) hx hb dX3_shift_35 rfl (lv_at hl 0 rfl) ?_
    refine rg_getr (pc := 36) (C := RX3) (T := TX3) (N := 7) (κ := 3) hx hb hts hK hR hown in_3 rfl (by decide) 1 (by decide) m_142 rfl dX3_shift_36 hf (fun a13 hf => ?_)
    refine lv_dup (pc := 39) hx hb dX3_shift_39 rfl ?_
    refine rg_get (pc := 40) (C := RX4) (T := TX4) (N := 13) (κ := 4) (v := .int (mm_i M12 a13 6)) hx hb hts hK hR hown in_4 rfl (by decide) 6 (by decide) m_60 rfl dX3_shift_40 hf (fun hf => ?_)
    refine lv_aload_n (pc := 43) hx hb dX3_shift_43 rfl (lv_at hl 1 rfl) ?_
    refine rg_get (pc := 44) (C := RX2) (T := TX2) (N := 7) (κ := 2) (v := .int (mm_i M12 v1 2)) hx hb hts hK hR hown in_2 rfl (by decide) 2 (by decide) m_114 rfl dX3_shift_44 hf (fun hf => ?_)
    refine lv_iadd (pc := 47) hx hb dX3_shift_47 ?_
    refine rg_puti (pc := 48) (C := RX4) (T := TX4) (N := 13) (κ := 4) hx hb hts hK hR hown in_4 rfl (by decide) 6 (by decide) m_60 tyX4 tyX4_ok nmX4 rfl rfl rfl rfl dX3_shift_48 hf (fun M14 H locs hf hR => ?_)
    refine lv_aload_n (pc := 51) hx hb dX3_shift_51 rfl (lv_at hl 0 rfl) ?_
    refine rg_getr (pc := 52) (C := RX3) (T := TX3) (N := 7) (κ := 3) hx hb hts hK hR hown in_3 rfl (by decide) 1 (by decide) m_142 rfl dX3_shift_52 hf (fun a15 hf => ?_)
    refine lv_dup (pc := 55) hx hb dX3_shift_55 rfl ?_
    refine rg_get (pc := 56) (C := RX4) (T := TX4) (N := 13) (κ := 4) (v := .long (mm_l M14 a15 9)) hx hb hts hK hR hown in_4 rfl (by decide) 9 (by decide) m_66 rfl dX3_shift_56 hf (fun hf => ?_)
    refine lv_aload_n (pc := 59) hx hb dX3_shift_59 rfl (lv_at hl 1 rfl) ?_
    obtain ⟨hq, hf⟩ := gd_e hf
    refine rg_L (pc := 60) hf hR hA (fun z hz => rn_V (κ := 2) (As := []) (rest := [.long (mm_l M14 a15 9), .ref a15]) hC hR rfl (by decide) hq (c_X2_carried  hz _) m_353 m_354 m_355 m_5 m_356 hd_X2_carried ⟨rfl, rfl, Nat.le_of_ble_eq_true rfl, Nat.le_of_ble_eq_true rfl⟩ rfl hl.1 rfl (Nat.le_of_ble_eq_true rfl) dX3_shift_60 ⟨Nat.le_of_ble_eq_true rfl, Nat.le_of_ble_eq_true rfl⟩) (fun z16 H locs hf hR => ?_)
    refine lv_ladd (pc := 63) hx hb dX3_shift_63 ?_
    refine rg_putl (pc := 64) (C := RX4) (T := TX4) (N := 13) (κ := 4) hx hb hts hK hR hown in_4 rfl (by decide) 9 (by decide) m_66 tyX4 tyX4_ok nmX4 rfl rfl rfl rfl dX3_shift_64 hf (fun M17 H locs hf hR => ?_)
    refine lv_goto (pc := 67) (tgt := 129) hx hb dX3_shift_67 (by decide) ?_
    exact hB129  M17 _ _ _ hf hR (lv_sub hl [] rfl)
-- X3_yieldTo
def f_X3_yieldTo_b121 (k11 : Nat → Nat → Nat → Int32 → Int32 → Mem → Option (Mem)) (v0 : Nat) (v1 : Nat) (v2 : Nat) (v3 : Int32) (v4 : Int32) (M : Mem) : Option (Mem) := lt_ (v4 + (1 : Int32)) fun x1 => k11 v0 v1 v2 v3 x1 M
def f_X3_yieldTo_b81 (k11 : Nat → Nat → Nat → Int32 → Int32 → Mem → Option (Mem)) (s0 : Int32) (s1 : Nat) (s2 : Nat) (v0 : Nat) (v1 : Nat) (v2 : Nat) (v3 : Int32) (v4 : Int32) (v5 : Nat) (v6 : Int64) (M : Mem) : Option (Mem) := gd (M.1 s2 = 3) <| bd (f_X3_shift s2 s1 s0 M) fun z2 => gd (z2.1 v5 = 2) <| gd (z2.1 v5 = 2) <| lt_ (ms_i z2 v5 3 (if (99 : Int32) < ((mm_i z2 v5 3) + (5 : Int32)) then (99 : Int32) else ((mm_i z2 v5 3) + (5 : Int32)))) fun M3 => gd (M3.1 v0 = 3) <| rd (mm_r M3 v0 1) fun a4 => gd (M3.1 a4 = 4) <| gd (M3.1 v5 = 2) <| bd (f_X2_carried v5 M3) fun z5 => gd (z5.1.1 a4 = 4) <| lt_ (ms_l z5.1 a4 11 ((mm_l M3 a4 11) + (z5.2 - v6))) fun M6 => f_X3_yieldTo_b121 k11 v0 v1 v2 v3 v4 M6
def f_X3_yieldTo_b11 (k11 : Nat → Nat → Nat → Int32 → Int32 → Mem → Option (Mem)) (v0 : Nat) (v1 : Nat) (v2 : Nat) (v3 : Int32) (v4 : Int32) (M : Mem) : Option (Mem) := if v3 ≤ v4 then (some M) else (gd (M.1 v2 = 13 ∧ vi_ v4 (mm_N M v2)) <| rd (mm_r M v2 (v4).toNatClampNeg) fun a7 => gd (M.1 a7 = 2) <| if (mm_i M a7 5) = 0 then (f_X3_yieldTo_b121 k11 v0 v1 v2 v3 v4 M) else (gd (M.1 v1 = 5) <| gd (M.1 v1 = 5) <| gd (M.1 v1 = 5) <| gd (M.1 a7 = 2) <| bd (f_X2_isNear a7 (mm_i M v1 0) (mm_i M v1 1) (mm_i M v1 2) (1000 : Int32) M) fun z8 => if z8.2 = 0 then (f_X3_yieldTo_b121 k11 v0 v1 v2 v3 v4 z8.1) else (gd (z8.1.1 a7 = 2) <| bd (f_X2_carried a7 z8.1) fun z9 => gd (z9.1.1 a7 = 2) <| gd (z9.1.1 v1 = 5) <| if (mm_i z9.1 v1 0) ≤ (mm_i z9.1 a7 0) then (f_X3_yieldTo_b81 k11 (1 : Int32) a7 v0 v0 v1 v2 v3 v4 a7 z9.2 z9.1) else (f_X3_yieldTo_b81 k11 (-1 : Int32) a7 v0 v0 v1 v2 v3 v4 a7 z9.2 z9.1))))
def f_X3_yieldTo_L11  : Nat → Nat → Nat → Nat → Int32 → Int32 → Mem → Option (Mem)
  | 0 => fun _ _ _ _ _ _ => none
  | n + 1 => f_X3_yieldTo_b11  (f_X3_yieldTo_L11  n)
def f_X3_yieldTo (v0 : Nat) (v1 : Nat) (M : Mem) : Option (Mem) := gd (M.1 v0 = 3) <| rd (mm_r M v0 2) fun a10 => gd (M.1 a10 = 13) <| lt_ ((nI (mm_N M a10))) fun x11 => f_X3_yieldTo_L11 200 v0 v1 a10 x11 (0 : Int32) M
abbrev rm_X3_yieldTo : Room := { frames := 3, cells := 0, slots := 0, locals := 70 }
theorem hd_X3_yieldTo : yX3_yieldTo.cls ≠ "java/lang/invoke/MethodHandle" ∧ yX3_yieldTo.cls ≠ "java/lang/invoke/VarHandle" ∧ (parseMethodDescriptor yX3_yieldTo.desc).map (fun d => d.parameters.length) = some 1 := by decide +kernel
set_option maxHeartbeats 8000000 in
set_option maxRecDepth 100000 in
theorem c_X3_yieldTo {l : Launch} {D : va_G} {ca : Nat → ClassId} {b : Nat} {nx : Bool} {v0 : Nat} {v1 : Nat} {M : Mem} {r : Mem} (hf : f_X3_yieldTo v0 v1 M = some r) : CtV l yX3_yieldTo cX3_yieldTo 8 none rm_X3_yieldTo D ca b nx [.ref v0, .ref v1] M r 0 0 := by
  intro sz
  refine body_start (Qc := fun A => cvV D ca nx A r) (by decide +kernel) (Nat.le_of_ble_eq_true rfl) ?_
  intro p e s m args below meth c A hC hr hR ls hl
  obtain ⟨hx, hb, hml, hts, hown, hlocks, hXe, hA, hAb, hnm⟩ := id hC
  have hK := hXe.1
  have hl : lv_has ls 8 [(0, .ref v0), (1, .ref v1)] := hl
  have hB121 : ∀ (k11 : Nat → Nat → Nat → Int32 → Int32 → Mem → Option (Mem)) (hk11 : ∀ (v0 : Nat) (v1 : Nat) (v2 : Nat) (v3 : Int32) (v4 : Int32) (M : Mem) (H : Heap) (locs : List Loc) (ls : Array Slot), k11 v0 v1 v2 v3 v4 M = some r → Hp D ca nx A s M H locs → lv_has ls 8 [(0, .ref v0), (1, .ref v1), (2, .ref v2), (3, .int v3), (4, .int v4)] → W p l e rm_X3_yieldTo s m args below meth c H locs 0 0 (MQ below (cvV D ca nx A r) args s 0 0 A) (F0 m 11 ls [])) (v0 : Nat) (v1 : Nat) (v2 : Nat) (v3 : Int32) (v4 : Int32) (M : Mem) (H : Heap) (locs : List Loc) (ls : Array Slot), f_X3_yieldTo_b121 k11 v0 v1 v2 v3 v4 M = some r → Hp D ca nx A s M H locs → lv_has ls 8 [(0, .ref v0), (1, .ref v1), (2, .ref v2), (3, .int v3), (4, .int v4)] → W p l e rm_X3_yieldTo s m args below meth c H locs 0 0 (MQ below (cvV D ca nx A r) args s 0 0 A) (F0 m 121 ls []) := by
    intro k11 hk11 v0 v1 v2 v3 v4 M H locs ls hf hR hl
    unfold f_X3_yieldTo_b121 at hf
    refine rg_iinc (pc := 121) hx hb dX3_yieldTo_121 hl (k := 4) rfl rfl (by decide) hf (fun x1 ls hf hl => ?_)
    have hl : lv_has ls 8 [(4, .int x1), (0, .ref v0), (1, .ref v1), (2, .ref v2), (3, .int v3)] := hl
    refine lv_goto (pc := 124) (tgt := 11) hx hb dX3_yieldTo_124 (by decide) ?_
    exact hk11 v0 v1 v2 v3 x1 M _ _ _ hf hR (lv_sub hl [1, 2, 3, 4, 0] rfl)
  have hB81 : ∀ (k11 : Nat → Nat → Nat → Int32 → Int32 → Mem → Option (Mem)) (hk11 : ∀ (v0 : Nat) (v1 : Nat) (v2 : Nat) (v3 : Int32) (v4 : Int32) (M : Mem) (H : Heap) (locs : List Loc) (ls : Array Slot), k11 v0 v1 v2 v3 v4 M = some r → Hp D ca nx A s M H locs → lv_has ls 8 [(0, .ref v0), (1, .ref v1), (2, .ref v2), (3, .int v3), (4, .int v4)] → W p l e rm_X3_yieldTo s m args below meth c H locs 0 0 (MQ below (cvV D ca nx A r) args s 0 0 A) (F0 m 11 ls [])) (s0 : Int32) (s1 : Nat) (s2 : Nat) (v0 : Nat) (v1 : Nat) (v2 : Nat) (v3 : Int32) (v4 : Int32) (v5 : Nat) (v6 : Int64) (M : Mem) (H : Heap) (locs : List Loc) (ls : Array Slot), f_X3_yieldTo_b81 k11 s0 s1 s2 v0 v1 v2 v3 v4 v5 v6 M = some r → Hp D ca nx A s M H locs → lv_has ls 8 [(0, .ref v0), (1, .ref v1), (2, .ref v2), (3, .int v3), (4, .int v4), (5, .ref v5), (6, .long v6)] → W p l e rm_X3_yieldTo s m args below meth c H locs 0 0 (MQ below (cvV D ca nx A r) args s 0 0 A) (F0 m 81 ls [.int s0, .ref s1, .ref s2]) := by
    intro k11 hk11 s0 s1 s2 v0 v1 v2 v3 v4 v5 v6 M H locs ls hf hR hl
    unfold f_X3_yieldTo_b81 at hf
    obtain ⟨hq, hf⟩ := gd_e hf
    refine rg_V (pc := 81) hf hR hA (fun z hz => rn_V (κ := 3) (As := [.ref s1, .int s0]) (rest := []) hC hR rfl (by decide) hq (c_X3_shift  hz _) m_418 m_420 ms_2 m_2 m_421 hd_X3_shift ⟨rfl, rfl, Nat.le_of_ble_eq_true rfl, Nat.le_of_ble_eq_true rfl⟩ rfl hl.1 rfl (Nat.le_of_ble_eq_true rfl) dX3_yieldTo_81 ⟨Nat.le_of_ble_eq_true rfl, Nat.le_of_ble_eq_true rfl⟩) (fun z2 H locs hf hR => ?_)
    refine lv_aload (pc := 84) hx hb dX3_yieldTo_84 (lv_at hl 5 rfl) ?_
    refine lv_aload (pc := 86) hx hb dX3_yieldTo_86 (lv_at hl 5 rfl) ?_
    refine rg_get (pc := 88) (C := RX2) (T := TX2) (N := 7) (κ := 2) (v := .int (mm_i z2 v5 3)) hx hb hts hK hR hown in_2 rfl (by decide) 3 (by decide) m_116 rfl dX3_yieldTo_88 hf (fun hf => ?_)
    refine lv_iconst (pc := 91) (v := (5 : Int32)) hx hb dX3_yieldTo_91 (by decide) ?_
    refine lv_iadd (pc := 92) hx hb dX3_yieldTo_92 ?_
    refine lv_bipush (pc := 93) (v := (99 : Int32)) hx hb dX3_yieldTo_93 (by decide) ?_
    refine va_mmin (pc := 95) hx hb (hml.trans hl.1.symm) hown (hts _ m_422) (hts _ m_416) (hts _ m_14) (hts _ m_417) (Nat.le_of_ble_eq_true rfl) (Nat.le_of_ble_eq_true rfl) (Nat.le_of_ble_eq_true rfl) (Nat.le_of_ble_eq_true rfl) dX3_yieldTo_95 ?_
    refine rg_puti (pc := 98) (C := RX2) (T := TX2) (N := 7) (κ := 2) hx hb hts hK hR hown in_2 rfl (by decide) 3 (by decide) m_116 tyX2 tyX2_ok nmX2 rfl rfl rfl rfl dX3_yieldTo_98 hf (fun M3 H locs hf hR => ?_)
    refine lv_aload_n (pc := 101) hx hb dX3_yieldTo_101 rfl (lv_at hl 0 rfl) ?_
    refine rg_getr (pc := 102) (C := RX3) (T := TX3) (N := 7) (κ := 3) hx hb hts hK hR hown in_3 rfl (by decide) 1 (by decide) m_142 rfl dX3_yieldTo_102 hf (fun a4 hf => ?_)
    refine lv_dup (pc := 105) hx hb dX3_yieldTo_105 rfl ?_
    refine rg_get (pc := 106) (C := RX4) (T := TX4) (N := 13) (κ := 4) (v := .long (mm_l M3 a4 11)) hx hb hts hK hR hown in_4 rfl (by decide) 11 (by decide) m_69 rfl dX3_yieldTo_106 hf (fun hf => ?_)
    refine lv_aload (pc := 109) hx hb dX3_yieldTo_109 (lv_at hl 5 rfl) ?_
    obtain ⟨hq, hf⟩ := gd_e hf
    refine rg_L (pc := 111) hf hR hA (fun z hz => rn_V (κ := 2) (As := []) (rest := [.long (mm_l M3 a4 11), .ref a4]) hC hR rfl (by decide) hq (c_X2_carried  hz _) m_353 m_354 m_355 m_5 m_356 hd_X2_carried ⟨rfl, rfl, Nat.le_of_ble_eq_true rfl, Nat.le_of_ble_eq_true rfl⟩ rfl hl.1 rfl (Nat.le_of_ble_eq_true rfl) dX3_yieldTo_111 ⟨Nat.le_of_ble_eq_true rfl, Nat.le_of_ble_eq_true rfl⟩) (fun z5 H locs hf hR => ?_)
    refine lv_lload (pc := 114) hx hb dX3_yieldTo_114 (lv_at hl 6 rfl) ?_
    refine lv_lsub (pc := 116) hx hb dX3_yieldTo_116 ?_
    refine lv_ladd (pc := 117) hx hb dX3_yieldTo_117 ?_
    refine rg_putl (pc := 118) (C := RX4) (T := TX4) (N := 13) (κ := 4) hx hb hts hK hR hown in_4 rfl (by decide) 11 (by decide) m_69 tyX4 tyX4_ok nmX4 rfl rfl rfl rfl dX3_yieldTo_118 hf (fun M6 H locs hf hR => ?_)
    exact hB121 k11 hk11 v0 v1 v2 v3 v4 M6 _ _ _ hf hR (lv_sub hl [0, 1, 2, 3, 4] rfl)
  have hB11 : ∀ (k11 : Nat → Nat → Nat → Int32 → Int32 → Mem → Option (Mem)) (hk11 : ∀ (v0 : Nat) (v1 : Nat) (v2 : Nat) (v3 : Int32) (v4 : Int32) (M : Mem) (H : Heap) (locs : List Loc) (ls : Array Slot), k11 v0 v1 v2 v3 v4 M = some r → Hp D ca nx A s M H locs → lv_has ls 8 [(0, .ref v0), (1, .ref v1), (2, .ref v2), (3, .int v3), (4, .int v4)] → W p l e rm_X3_yieldTo s m args below meth c H locs 0 0 (MQ below (cvV D ca nx A r) args s 0 0 A) (F0 m 11 ls [])) (v0 : Nat) (v1 : Nat) (v2 : Nat) (v3 : Int32) (v4 : Int32) (M : Mem) (H : Heap) (locs : List Loc) (ls : Array Slot), f_X3_yieldTo_b11 k11 v0 v1 v2 v3 v4 M = some r → Hp D ca nx A s M H locs → lv_has ls 8 [(0, .ref v0), (1, .ref v1), (2, .ref v2), (3, .int v3), (4, .int v4)] → W p l e rm_X3_yieldTo s m args below meth c H locs 0 0 (MQ below (cvV D ca nx A r) args s 0 0 A) (F0 m 11 ls []) := by
    intro k11 hk11 v0 v1 v2 v3 v4 M H locs ls hf hR hl
    unfold f_X3_yieldTo_b11 at hf
    refine lv_iload (pc := 11) hx hb dX3_yieldTo_11 (lv_at hl 4 rfl) ?_
    refine lv_iload_n (pc := 13) hx hb dX3_yieldTo_13 rfl (lv_at hl 3 rfl) ?_
    refine lv_icmp_ge (pc := 14) (tgt := 127) hx hb dX3_yieldTo_14 (by decide) (fun hc => ?_) (fun hc => ?_)
    · replace hf := it_t hf hc
      exact rg_vret (pc := 127) hx hb hlocks hr hf hR dX3_yieldTo_127
    · replace hf := it_f hf hc
      refine lv_aload_n (pc := 17) hx hb dX3_yieldTo_17 rfl (lv_at hl 2 rfl) ?_
      refine lv_iload (pc := 18) hx hb dX3_yieldTo_18 (lv_at hl 4 rfl) ?_
      refine rg_aald (pc := 20) (κ := 13) hx hb hK hR 3 rfl (by decide) dX3_yieldTo_20 hf (fun a7 hf => ?_)
      refine lv_astore (pc := 21) (lv' := [(5, .ref a7), (0, .ref v0), (1, .ref v1), (2, .ref v2), (3, .int v3), (4, .int v4)]) hx hb dX3_yieldTo_21 hl (by decide) rfl (fun ls hl => ?_)
      refine lv_aload (pc := 23) hx hb dX3_yieldTo_23 (lv_at hl 0 rfl) ?_
      refine rg_get (pc := 25) (C := RX2) (T := TX2) (N := 7) (κ := 2) (v := .int (mm_i M a7 5)) hx hb hts hK hR hown in_2 rfl (by decide) 5 (by decide) m_120 rfl dX3_yieldTo_25 hf (fun hf => ?_)
      refine lv_if_eq (pc := 28) (tgt := 121) hx hb dX3_yieldTo_28 (by decide) (fun hc => ?_) (fun hc => ?_)
      · replace hf := it_t hf hc
        exact hB121 k11 hk11 v0 v1 v2 v3 v4 M _ _ _ hf hR (lv_sub hl [1, 2, 3, 4, 5] rfl)
      · replace hf := it_f hf hc
        refine lv_aload (pc := 31) hx hb dX3_yieldTo_31 (lv_at hl 0 rfl) ?_
        refine lv_aload_n (pc := 33) hx hb dX3_yieldTo_33 rfl (lv_at hl 2 rfl) ?_
        refine rg_get (pc := 34) (C := RX5) (T := TX5) (N := 3) (κ := 5) (v := .int (mm_i M v1 0)) hx hb hts hK hR hown in_5 rfl (by decide) 0 (by decide) m_177 rfl dX3_yieldTo_34 hf (fun hf => ?_)
        refine lv_aload_n (pc := 37) hx hb dX3_yieldTo_37 rfl (lv_at hl 2 rfl) ?_
        refine rg_get (pc := 38) (C := RX5) (T := TX5) (N := 3) (κ := 5) (v := .int (mm_i M v1 1)) hx hb hts hK hR hown in_5 rfl (by decide) 1 (by decide) m_179 rfl dX3_yieldTo_38 hf (fun hf => ?_)
        refine lv_aload_n (pc := 41) hx hb dX3_yieldTo_41 rfl (lv_at hl 2 rfl) ?_
        refine rg_get (pc := 42) (C := RX5) (T := TX5) (N := 3) (κ := 5) (v := .int (mm_i M v1 2)) hx hb hts hK hR hown in_5 rfl (by decide) 2 (by decide) m_181 rfl dX3_yieldTo_42 hf (fun hf => ?_)
        refine lv_sipush (pc := 45) (v := (1000 : Int32)) hx hb dX3_yieldTo_45 (by decide) ?_
        obtain ⟨hq, hf⟩ := gd_e hf
        refine rg_I (pc := 48) hf hR hA (fun z hz => rn_V (κ := 2) (As := [.int (mm_i M v1 0), .int (mm_i M v1 1), .int (mm_i M v1 2), .int (1000 : Int32)]) (rest := []) hC hR rfl (by decide) hq (c_X2_isNear  hz _) m_404 m_405 m_406 m_5 m_407 hd_X2_isNear ⟨rfl, rfl, Nat.le_of_ble_eq_true rfl, Nat.le_of_ble_eq_true rfl⟩ rfl hl.1 rfl (Nat.le_of_ble_eq_true rfl) dX3_yieldTo_48 ⟨Nat.le_of_ble_eq_true rfl, Nat.le_of_ble_eq_true rfl⟩) (fun z8 H locs hf hR => ?_)
        refine lv_if_eq (pc := 51) (tgt := 121) hx hb dX3_yieldTo_51 (by decide) (fun hc => ?_) (fun hc => ?_)
        · replace hf := it_t hf hc
          exact hB121 k11 hk11 v0 v1 v2 v3 v4 z8.1 _ _ _ hf hR (lv_sub hl [1, 2, 3, 4, 5] rfl)
        · replace hf := it_f hf hc
          refine lv_aload (pc := 54) hx hb dX3_yieldTo_54 (lv_at hl 0 rfl) ?_
          obtain ⟨hq, hf⟩ := gd_e hf
          refine rg_L (pc := 56) hf hR hA (fun z hz => rn_V (κ := 2) (As := []) (rest := []) hC hR rfl (by decide) hq (c_X2_carried  hz _) m_353 m_354 m_355 m_5 m_356 hd_X2_carried ⟨rfl, rfl, Nat.le_of_ble_eq_true rfl, Nat.le_of_ble_eq_true rfl⟩ rfl hl.1 rfl (Nat.le_of_ble_eq_true rfl) dX3_yieldTo_56 ⟨Nat.le_of_ble_eq_true rfl, Nat.le_of_ble_eq_true rfl⟩) (fun z9 H locs hf hR => ?_)
          refine lv_lstore (pc := 59) (lv' := [(6, .long z9.2), (5, .ref a7), (0, .ref v0), (1, .ref v1), (2, .ref v2), (3, .int v3), (4, .int v4)]) hx hb dX3_yieldTo_59 hl (by decide) rfl (fun ls hl => ?_)
          refine lv_aload_n (pc := 61) hx hb dX3_yieldTo_61 rfl (lv_at hl 2 rfl) ?_
          refine lv_aload (pc := 62) hx hb dX3_yieldTo_62 (lv_at hl 1 rfl) ?_
          refine lv_aload (pc := 64) hx hb dX3_yieldTo_64 (lv_at hl 1 rfl) ?_
          refine rg_get (pc := 66) (C := RX2) (T := TX2) (N := 7) (κ := 2) (v := .int (mm_i z9.1 a7 0)) hx hb hts hK hR hown in_2 rfl (by decide) 0 (by decide) m_108 rfl dX3_yieldTo_66 hf (fun hf => ?_)
          refine lv_aload_n (pc := 69) hx hb dX3_yieldTo_69 rfl (lv_at hl 3 rfl) ?_
          refine rg_get (pc := 70) (C := RX5) (T := TX5) (N := 3) (κ := 5) (v := .int (mm_i z9.1 v1 0)) hx hb hts hK hR hown in_5 rfl (by decide) 0 (by decide) m_177 rfl dX3_yieldTo_70 hf (fun hf => ?_)
          refine lv_icmp_ge (pc := 73) (tgt := 80) hx hb dX3_yieldTo_73 (by decide) (fun hc => ?_) (fun hc => ?_)
          · replace hf := it_t hf hc
            refine lv_iconst (pc := 80) (v := (1 : Int32)) hx hb dX3_yieldTo_80 (by decide) ?_
            exact hB81 k11 hk11 (1 : Int32) a7 v0 v0 v1 v2 v3 v4 a7 z9.2 z9.1 _ _ _ hf hR (lv_sub hl [2, 3, 4, 5, 6, 1, 0] rfl)
          · replace hf := it_f hf hc
            refine lv_iconst (pc := 76) (v := (-1 : Int32)) hx hb dX3_yieldTo_76 (by decide) ?_
            refine lv_goto (pc := 77) (tgt := 81) hx hb dX3_yieldTo_77 (by decide) ?_
            exact hB81 k11 hk11 (-1 : Int32) a7 v0 v0 v1 v2 v3 v4 a7 z9.2 z9.1 _ _ _ hf hR (lv_sub hl [2, 3, 4, 5, 6, 1, 0] rfl)
  have hL11 : ∀  (n : Nat) (v0 : Nat) (v1 : Nat) (v2 : Nat) (v3 : Int32) (v4 : Int32) (M : Mem) (H : Heap) (locs : List Loc) (ls : Array Slot), f_X3_yieldTo_L11  n v0 v1 v2 v3 v4 M = some r → Hp D ca nx A s M H locs → lv_has ls 8 [(0, .ref v0), (1, .ref v1), (2, .ref v2), (3, .int v3), (4, .int v4)] → W p l e rm_X3_yieldTo s m args below meth c H locs 0 0 (MQ below (cvV D ca nx A r) args s 0 0 A) (F0 m 11 ls []) := by
    intro  n
    induction n with
    | zero => intro v0 v1 v2 v3 v4 M H locs ls hf; exact nomatch (show (none : Option (Mem)) = some r from hf)
    | succ n ih => intro v0 v1 v2 v3 v4 M H locs ls hf hR hl; exact hB11  (f_X3_yieldTo_L11  n) ih v0 v1 v2 v3 v4 M H locs ls hf hR hl
  unfold f_X3_yieldTo at hf
  refine lv_aload_n (pc := 0) hx hb dX3_yieldTo_0 rfl (lv_at hl 0 rfl) ?_
  refine rg_getr (pc := 1) (C := RX3) (T := TX3) (N := 7) (κ := 3) hx hb hts hK hR hown in_3 rfl (by decide) 2 (by decide) m_144 rfl dX3_yieldTo_1 hf (fun a10 hf => ?_)
  refine lv_astore_n (pc := 4) (lv' := [(2, .ref a10), (0, .ref v0), (1, .ref v1)]) hx hb dX3_yieldTo_4 rfl hl (by decide) rfl (fun ls hl => ?_)
  refine lv_aload_n (pc := 5) hx hb dX3_yieldTo_5 rfl (lv_at hl 0 rfl) ?_
  refine rg_alen (pc := 6) (κ := 13) hx hb hK hR 3 rfl (by decide) dX3_yieldTo_6 hf (fun hf => ?_)
  refine nm_i hf (fun x11 hf => ?_)
  refine lv_istore_n (pc := 7) (lv' := [(3, .int x11), (2, .ref a10), (0, .ref v0), (1, .ref v1)]) hx hb dX3_yieldTo_7 rfl hl (by decide) rfl (fun ls hl => ?_)
  refine lv_iconst (pc := 8) (v := (0 : Int32)) hx hb dX3_yieldTo_8 (by decide) ?_
  refine lv_istore (pc := 9) (lv' := [(4, .int (0 : Int32)), (3, .int x11), (2, .ref a10), (0, .ref v0), (1, .ref v1)]) hx hb dX3_yieldTo_9 hl (by decide) rfl (fun ls hl => ?_)
  exact hL11 200 v0 v1 a10 x11 (0 : Int32) M _ _ _ hf hR (lv_sub hl [3, 4, 2, 1, 0] rfl)
