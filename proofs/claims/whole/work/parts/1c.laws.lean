-- L_grain
def f_L_grain (v0 : Nat) (v1 : Int32) (v2 : Int32) (v3 : Int32) (v4 : Int32) (v5 : Nat) (M : Mem) : Option (Mem × Int32) := gd (M.1 v0 = 7) <| bc (f_X7_grain v0 v1 v2 v3 v4 M) (fun M1 x2 => gd (M1.1 v5 = 15 ∧ vi_ (0 : Int32) (mm_N M1 v5)) <| lt_ (ms_l M1 v5 ((0 : Int32)).toNatClampNeg (x2).toInt64) fun M4 => some (M4, (0 : Int32))) (fun M1 e3 => if e3 = 0 then (some (M1, (1 : Int32))) else if e3 = 1 then (some (M1, (2 : Int32))) else if e3 = 2 then (none) else none)
abbrev rm_L_grain : Room := { frames := 10, cells := 5, slots := 30, locals := 178 }
theorem hd_L_grain : yL_grain.cls ≠ "java/lang/invoke/MethodHandle" ∧ yL_grain.cls ≠ "java/lang/invoke/VarHandle" ∧ (parseMethodDescriptor yL_grain.desc).map (fun d => d.parameters.length) = some 6 := by decide +kernel
set_option maxHeartbeats 8000000 in
set_option maxRecDepth 100000 in
theorem c_L_grain {l : Launch} (hlt : l.stackTraces = false) {D : va_G} {ca : Nat → ClassId} {b : Nat} {v0 : Nat} {v1 : Int32} {v2 : Int32} {v3 : Int32} {v4 : Int32} {v5 : Nat} {M : Mem} {r : Mem × Int32} (hf : f_L_grain v0 v1 v2 v3 v4 v5 M = some r) : CtW l yL_grain cL_grain 7 [(0, 14, 17, 13), (0, 14, 21, 15)] rm_L_grain D ca b [.ref v0, .int v1, .int v2, .int v3, .int v4, .ref v5] M r 5 30 := by
  intro sz
  refine bodyh_start (Qc := fun A => cvI D ca false A r) (by decide +kernel) (Nat.le_of_ble_eq_true rfl) ?_
  intro p e s m args below meth c A hC htab hr hR ls hl
  obtain ⟨hx, hb, hml, hts, hown, hlocks, hXe, hA, hAb, hnm⟩ := id hC
  have hK := hXe.1
  have hl : lv_has ls 7 [(0, .ref v0), (1, .int v1), (2, .int v2), (3, .int v3), (4, .int v4), (5, .ref v5)] := hl
  unfold f_L_grain at hf
  refine lv_aload (pc := 0) hx hb dL_grain_0 (lv_at hl 5 rfl) ?_
  refine lv_iconst (pc := 2) (v := (0 : Int32)) hx hb dL_grain_2 (by decide) ?_
  refine lv_aload_n (pc := 3) hx hb dL_grain_3 rfl (lv_at hl 0 rfl) ?_
  refine lv_iload_n (pc := 4) hx hb dL_grain_4 rfl (lv_at hl 1 rfl) ?_
  refine lv_iload_n (pc := 5) hx hb dL_grain_5 rfl (lv_at hl 2 rfl) ?_
  refine lv_iload_n (pc := 6) hx hb dL_grain_6 rfl (lv_at hl 3 rfl) ?_
  refine lv_iload (pc := 7) hx hb dL_grain_7 (lv_at hl 4 rfl) ?_
  obtain ⟨hq, hf⟩ := gd_e hf
  refine rg_wI (pc := 9) hf hR hA (fun z hz => xn_V (κ := 7) (As := [.int v1, .int v2, .int v3, .int v4]) (rest := [.int (0 : Int32), .ref v5]) hC hR rfl (by decide) hq (c_X7_grain hlt hz _) m_292 m_293 m_294 m_1 m_295 hd_X7_grain ⟨rfl, rfl, Nat.le_of_ble_eq_true rfl, Nat.le_of_ble_eq_true rfl⟩ rfl hl.1 rfl (Nat.le_of_ble_eq_true rfl) dL_grain_9 ⟨Nat.le_of_ble_eq_true rfl, Nat.le_of_ble_eq_true rfl⟩) (fun e3 M1 q9 ce H locs hf hR hce hcv hcl => ?_) (fun x2 M1 H locs hf hR => ?_)
  · by_cases he0 : e3 = 0
    · replace hf := it_t hf he0
      subst he0
      refine rg_catch (pc := 9) 0 hC htab [] ⟨0, 14, 17, 13⟩ [⟨0, 14, 21, 15⟩] rfl (by intro z hz; simp at hz) (by decide) (by decide) m_290 (by decide +kernel) hce hcv hcl ?_
      refine lv_astore (pc := 17) (lv' := [(6, .ref q9), (0, .ref v0), (1, .int v1), (2, .int v2), (3, .int v3), (4, .int v4), (5, .ref v5)]) hx hb dL_grain_17 hl (by decide) rfl (fun ls hl => ?_)
      refine lv_iconst (pc := 19) (v := (1 : Int32)) hx hb dL_grain_19 (by decide) ?_
      exact rg_iret (pc := 20) hx hb hlocks hr hf hR dL_grain_20
    replace hf := it_f hf he0
    by_cases he1 : e3 = 1
    · replace hf := it_t hf he1
      subst he1
      refine rg_catch (pc := 9) 1 hC htab [⟨0, 14, 17, 13⟩] ⟨0, 14, 21, 15⟩ [] rfl (by intro z hz; simp at hz; rcases hz with rfl <;> first | exact Or.inr ⟨by decide, _, m_290, by decide +kernel⟩) (by decide) (by decide) m_291 (by decide +kernel) hce hcv hcl ?_
      refine lv_astore (pc := 21) (lv' := [(6, .ref q9), (0, .ref v0), (1, .int v1), (2, .int v2), (3, .int v3), (4, .int v4), (5, .ref v5)]) hx hb dL_grain_21 hl (by decide) rfl (fun ls hl => ?_)
      refine lv_iconst (pc := 23) (v := (2 : Int32)) hx hb dL_grain_23 (by decide) ?_
      exact rg_iret (pc := 24) hx hb hlocks hr hf hR dL_grain_24
    replace hf := it_f hf he1
    by_cases he2 : e3 = 2
    · replace hf := it_t hf he2
      exact nomatch hf
    replace hf := it_f hf he2
    exact nomatch hf
  · skip
    refine lv_i2l (pc := 12) hx hb dL_grain_12 rfl ?_
    refine rg_last (pc := 13) hx hb hK hR dL_grain_13 hf (fun M4 H locs hf hR => ?_)
    refine lv_goto (pc := 14) (tgt := 25) hx hb dL_grain_14 (by decide) ?_
    refine lv_iconst (pc := 25) (v := (0 : Int32)) hx hb dL_grain_25 (by decide) ?_
    exact rg_iret (pc := 26) hx hb hlocks hr hf hR dL_grain_26
-- L_moon
def f_L_moon (v0 : Nat) (v1 : Int32) (v2 : Int32) (v3 : Int32) (v4 : Nat) (M : Mem) : Option (Mem × Int32) := gd (M.1 v0 = 7) <| bc (f_X7_moon v0 v1 v2 v3 M) (fun M1 x2 => gd (M1.1 v4 = 15 ∧ vi_ (0 : Int32) (mm_N M1 v4)) <| lt_ (ms_l M1 v4 ((0 : Int32)).toNatClampNeg (x2).toInt64) fun M4 => some (M4, (0 : Int32))) (fun M1 e3 => if e3 = 0 then (some (M1, (1 : Int32))) else if e3 = 1 then (some (M1, (2 : Int32))) else if e3 = 2 then (none) else none)
abbrev rm_L_moon : Room := { frames := 10, cells := 4, slots := 24, locals := 178 }
theorem hd_L_moon : yL_moon.cls ≠ "java/lang/invoke/MethodHandle" ∧ yL_moon.cls ≠ "java/lang/invoke/VarHandle" ∧ (parseMethodDescriptor yL_moon.desc).map (fun d => d.parameters.length) = some 5 := by decide +kernel
set_option maxHeartbeats 8000000 in
set_option maxRecDepth 100000 in
theorem c_L_moon {l : Launch} (hlt : l.stackTraces = false) {D : va_G} {ca : Nat → ClassId} {b : Nat} {v0 : Nat} {v1 : Int32} {v2 : Int32} {v3 : Int32} {v4 : Nat} {M : Mem} {r : Mem × Int32} (hf : f_L_moon v0 v1 v2 v3 v4 M = some r) : CtW l yL_moon cL_moon 6 [(0, 12, 15, 13), (0, 12, 19, 15)] rm_L_moon D ca b [.ref v0, .int v1, .int v2, .int v3, .ref v4] M r 4 24 := by
  intro sz
  refine bodyh_start (Qc := fun A => cvI D ca false A r) (by decide +kernel) (Nat.le_of_ble_eq_true rfl) ?_
  intro p e s m args below meth c A hC htab hr hR ls hl
  obtain ⟨hx, hb, hml, hts, hown, hlocks, hXe, hA, hAb, hnm⟩ := id hC
  have hK := hXe.1
  have hl : lv_has ls 6 [(0, .ref v0), (1, .int v1), (2, .int v2), (3, .int v3), (4, .ref v4)] := hl
  unfold f_L_moon at hf
  refine lv_aload (pc := 0) hx hb dL_moon_0 (lv_at hl 4 rfl) ?_
  refine lv_iconst (pc := 2) (v := (0 : Int32)) hx hb dL_moon_2 (by decide) ?_
  refine lv_aload_n (pc := 3) hx hb dL_moon_3 rfl (lv_at hl 0 rfl) ?_
  refine lv_iload_n (pc := 4) hx hb dL_moon_4 rfl (lv_at hl 1 rfl) ?_
  refine lv_iload_n (pc := 5) hx hb dL_moon_5 rfl (lv_at hl 2 rfl) ?_
  refine lv_iload_n (pc := 6) hx hb dL_moon_6 rfl (lv_at hl 3 rfl) ?_
  obtain ⟨hq, hf⟩ := gd_e hf
  refine rg_wI (pc := 7) hf hR hA (fun z hz => xn_V (κ := 7) (As := [.int v1, .int v2, .int v3]) (rest := [.int (0 : Int32), .ref v4]) hC hR rfl (by decide) hq (c_X7_moon hlt hz _) m_401 m_402 m_403 m_1 m_404 hd_X7_moon ⟨rfl, rfl, Nat.le_of_ble_eq_true rfl, Nat.le_of_ble_eq_true rfl⟩ rfl hl.1 rfl (Nat.le_of_ble_eq_true rfl) dL_moon_7 ⟨Nat.le_of_ble_eq_true rfl, Nat.le_of_ble_eq_true rfl⟩) (fun e3 M1 q9 ce H locs hf hR hce hcv hcl => ?_) (fun x2 M1 H locs hf hR => ?_)
  · by_cases he0 : e3 = 0
    · replace hf := it_t hf he0
      subst he0
      refine rg_catch (pc := 7) 0 hC htab [] ⟨0, 12, 15, 13⟩ [⟨0, 12, 19, 15⟩] rfl (by intro z hz; simp at hz) (by decide) (by decide) m_290 (by decide +kernel) hce hcv hcl ?_
      refine lv_astore (pc := 15) (lv' := [(5, .ref q9), (0, .ref v0), (1, .int v1), (2, .int v2), (3, .int v3), (4, .ref v4)]) hx hb dL_moon_15 hl (by decide) rfl (fun ls hl => ?_)
      refine lv_iconst (pc := 17) (v := (1 : Int32)) hx hb dL_moon_17 (by decide) ?_
      exact rg_iret (pc := 18) hx hb hlocks hr hf hR dL_moon_18
    replace hf := it_f hf he0
    by_cases he1 : e3 = 1
    · replace hf := it_t hf he1
      subst he1
      refine rg_catch (pc := 7) 1 hC htab [⟨0, 12, 15, 13⟩] ⟨0, 12, 19, 15⟩ [] rfl (by intro z hz; simp at hz; rcases hz with rfl <;> first | exact Or.inr ⟨by decide, _, m_290, by decide +kernel⟩) (by decide) (by decide) m_291 (by decide +kernel) hce hcv hcl ?_
      refine lv_astore (pc := 19) (lv' := [(5, .ref q9), (0, .ref v0), (1, .int v1), (2, .int v2), (3, .int v3), (4, .ref v4)]) hx hb dL_moon_19 hl (by decide) rfl (fun ls hl => ?_)
      refine lv_iconst (pc := 21) (v := (2 : Int32)) hx hb dL_moon_21 (by decide) ?_
      exact rg_iret (pc := 22) hx hb hlocks hr hf hR dL_moon_22
    replace hf := it_f hf he1
    by_cases he2 : e3 = 2
    · replace hf := it_t hf he2
      exact nomatch hf
    replace hf := it_f hf he2
    exact nomatch hf
  · skip
    refine lv_i2l (pc := 10) hx hb dL_moon_10 rfl ?_
    refine rg_last (pc := 11) hx hb hK hR dL_moon_11 hf (fun M4 H locs hf hR => ?_)
    refine lv_goto (pc := 12) (tgt := 23) hx hb dL_moon_12 (by decide) ?_
    refine lv_iconst (pc := 23) (v := (0 : Int32)) hx hb dL_moon_23 (by decide) ?_
    exact rg_iret (pc := 24) hx hb hlocks hr hf hR dL_moon_24
-- L_flatness
def f_L_flatness (v0 : Nat) (v1 : Int32) (v2 : Nat) (M : Mem) : Option (Mem × Int32) := gd (M.1 v0 = 7) <| bc (f_X7_flatness v0 v1 M) (fun M1 x2 => gd (M1.1 v2 = 15 ∧ vi_ (0 : Int32) (mm_N M1 v2)) <| lt_ (ms_l M1 v2 ((0 : Int32)).toNatClampNeg (x2).toInt64) fun M4 => some (M4, (0 : Int32))) (fun M1 e3 => if e3 = 0 then (some (M1, (1 : Int32))) else if e3 = 1 then (none) else if e3 = 2 then (none) else none)
abbrev rm_L_flatness : Room := { frames := 8, cells := 1, slots := 6, locals := 134 }
theorem hd_L_flatness : yL_flatness.cls ≠ "java/lang/invoke/MethodHandle" ∧ yL_flatness.cls ≠ "java/lang/invoke/VarHandle" ∧ (parseMethodDescriptor yL_flatness.desc).map (fun d => d.parameters.length) = some 3 := by decide +kernel
set_option maxHeartbeats 8000000 in
set_option maxRecDepth 100000 in
theorem c_L_flatness {l : Launch} (hlt : l.stackTraces = false) {D : va_G} {ca : Nat → ClassId} {b : Nat} {v0 : Nat} {v1 : Int32} {v2 : Nat} {M : Mem} {r : Mem × Int32} (hf : f_L_flatness v0 v1 v2 M = some r) : CtW l yL_flatness cL_flatness 4 [(0, 9, 12, 13)] rm_L_flatness D ca b [.ref v0, .int v1, .ref v2] M r 1 6 := by
  intro sz
  refine bodyh_start (Qc := fun A => cvI D ca false A r) (by decide +kernel) (Nat.le_of_ble_eq_true rfl) ?_
  intro p e s m args below meth c A hC htab hr hR ls hl
  obtain ⟨hx, hb, hml, hts, hown, hlocks, hXe, hA, hAb, hnm⟩ := id hC
  have hK := hXe.1
  have hl : lv_has ls 4 [(0, .ref v0), (1, .int v1), (2, .ref v2)] := hl
  unfold f_L_flatness at hf
  refine lv_aload_n (pc := 0) hx hb dL_flatness_0 rfl (lv_at hl 2 rfl) ?_
  refine lv_iconst (pc := 1) (v := (0 : Int32)) hx hb dL_flatness_1 (by decide) ?_
  refine lv_aload_n (pc := 2) hx hb dL_flatness_2 rfl (lv_at hl 0 rfl) ?_
  refine lv_iload_n (pc := 3) hx hb dL_flatness_3 rfl (lv_at hl 1 rfl) ?_
  obtain ⟨hq, hf⟩ := gd_e hf
  refine rg_wI (pc := 4) hf hR hA (fun z hz => xn_V (κ := 7) (As := [.int v1]) (rest := [.int (0 : Int32), .ref v2]) hC hR rfl (by decide) hq (c_X7_flatness hlt hz _) m_412 m_413 m_414 m_1 m_415 hd_X7_flatness ⟨rfl, rfl, Nat.le_of_ble_eq_true rfl, Nat.le_of_ble_eq_true rfl⟩ rfl hl.1 rfl (Nat.le_of_ble_eq_true rfl) dL_flatness_4 ⟨Nat.le_of_ble_eq_true rfl, Nat.le_of_ble_eq_true rfl⟩) (fun e3 M1 q9 ce H locs hf hR hce hcv hcl => ?_) (fun x2 M1 H locs hf hR => ?_)
  · by_cases he0 : e3 = 0
    · replace hf := it_t hf he0
      subst he0
      refine rg_catch (pc := 4) 0 hC htab [] ⟨0, 9, 12, 13⟩ [] rfl (by intro z hz; simp at hz) (by decide) (by decide) m_290 (by decide +kernel) hce hcv hcl ?_
      refine lv_astore_n (pc := 12) (lv' := [(3, .ref q9), (0, .ref v0), (1, .int v1), (2, .ref v2)]) hx hb dL_flatness_12 rfl hl (by decide) rfl (fun ls hl => ?_)
      refine lv_iconst (pc := 13) (v := (1 : Int32)) hx hb dL_flatness_13 (by decide) ?_
      exact rg_iret (pc := 14) hx hb hlocks hr hf hR dL_flatness_14
    replace hf := it_f hf he0
    by_cases he1 : e3 = 1
    · replace hf := it_t hf he1
      exact nomatch hf
    replace hf := it_f hf he1
    by_cases he2 : e3 = 2
    · replace hf := it_t hf he2
      exact nomatch hf
    replace hf := it_f hf he2
    exact nomatch hf
  · skip
    refine lv_i2l (pc := 7) hx hb dL_flatness_7 rfl ?_
    refine rg_last (pc := 8) hx hb hK hR dL_flatness_8 hf (fun M4 H locs hf hR => ?_)
    refine lv_goto (pc := 9) (tgt := 15) hx hb dL_flatness_9 (by decide) ?_
    refine lv_iconst (pc := 15) (v := (0 : Int32)) hx hb dL_flatness_15 (by decide) ?_
    exact rg_iret (pc := 16) hx hb hlocks hr hf hR dL_flatness_16
-- L_bounds
def f_L_bounds (v0 : Nat) (v1 : Int32) (v2 : Int32) (v3 : Int32) (M : Mem) : Option (Mem × Int32) := gd (M.1 v0 = 7) <| bc (f_X7_bounds v0 v1 v2 v3 M) (fun M1 _ => some (M1, (0 : Int32))) (fun M1 e3 => if e3 = 0 then (some (M1, (1 : Int32))) else if e3 = 1 then (none) else if e3 = 2 then (none) else none)
abbrev rm_L_bounds : Room := { frames := 8, cells := 3, slots := 18, locals := 135 }
theorem hd_L_bounds : yL_bounds.cls ≠ "java/lang/invoke/MethodHandle" ∧ yL_bounds.cls ≠ "java/lang/invoke/VarHandle" ∧ (parseMethodDescriptor yL_bounds.desc).map (fun d => d.parameters.length) = some 4 := by decide +kernel
set_option maxHeartbeats 8000000 in
set_option maxRecDepth 100000 in
theorem c_L_bounds {l : Launch} (hlt : l.stackTraces = false) {D : va_G} {ca : Nat → ClassId} {b : Nat} {v0 : Nat} {v1 : Int32} {v2 : Int32} {v3 : Int32} {M : Mem} {r : Mem × Int32} (hf : f_L_bounds v0 v1 v2 v3 M = some r) : CtW l yL_bounds cL_bounds 5 [(0, 7, 10, 13)] rm_L_bounds D ca b [.ref v0, .int v1, .int v2, .int v3] M r 3 18 := by
  intro sz
  refine bodyh_start (Qc := fun A => cvI D ca false A r) (by decide +kernel) (Nat.le_of_ble_eq_true rfl) ?_
  intro p e s m args below meth c A hC htab hr hR ls hl
  obtain ⟨hx, hb, hml, hts, hown, hlocks, hXe, hA, hAb, hnm⟩ := id hC
  have hK := hXe.1
  have hl : lv_has ls 5 [(0, .ref v0), (1, .int v1), (2, .int v2), (3, .int v3)] := hl
  unfold f_L_bounds at hf
  refine lv_aload_n (pc := 0) hx hb dL_bounds_0 rfl (lv_at hl 0 rfl) ?_
  refine lv_iload_n (pc := 1) hx hb dL_bounds_1 rfl (lv_at hl 1 rfl) ?_
  refine lv_iload_n (pc := 2) hx hb dL_bounds_2 rfl (lv_at hl 2 rfl) ?_
  refine lv_iload_n (pc := 3) hx hb dL_bounds_3 rfl (lv_at hl 3 rfl) ?_
  obtain ⟨hq, hf⟩ := gd_e hf
  refine rg_wV (pc := 4) hf hR hA (fun z hz => xn_V (κ := 7) (As := [.int v1, .int v2, .int v3]) (rest := []) hC hR rfl (by decide) hq (c_X7_bounds hlt hz _) m_419 m_420 m_421 m_1 m_422 hd_X7_bounds ⟨rfl, rfl, Nat.le_of_ble_eq_true rfl, Nat.le_of_ble_eq_true rfl⟩ rfl hl.1 rfl (Nat.le_of_ble_eq_true rfl) dL_bounds_4 ⟨Nat.le_of_ble_eq_true rfl, Nat.le_of_ble_eq_true rfl⟩) (fun e3 M1 q9 ce H locs hf hR hce hcv hcl => ?_) (fun M1 H locs hf hR => ?_)
  · by_cases he0 : e3 = 0
    · replace hf := it_t hf he0
      subst he0
      refine rg_catch (pc := 4) 0 hC htab [] ⟨0, 7, 10, 13⟩ [] rfl (by intro z hz; simp at hz) (by decide) (by decide) m_290 (by decide +kernel) hce hcv hcl ?_
      refine lv_astore (pc := 10) (lv' := [(4, .ref q9), (0, .ref v0), (1, .int v1), (2, .int v2), (3, .int v3)]) hx hb dL_bounds_10 hl (by decide) rfl (fun ls hl => ?_)
      refine lv_iconst (pc := 12) (v := (1 : Int32)) hx hb dL_bounds_12 (by decide) ?_
      exact rg_iret (pc := 13) hx hb hlocks hr hf hR dL_bounds_13
    replace hf := it_f hf he0
    by_cases he1 : e3 = 1
    · replace hf := it_t hf he1
      exact nomatch hf
    replace hf := it_f hf he1
    by_cases he2 : e3 = 2
    · replace hf := it_t hf he2
      exact nomatch hf
    replace hf := it_f hf he2
    exact nomatch hf
  · skip
    refine lv_goto (pc := 7) (tgt := 14) hx hb dL_bounds_7 (by decide) ?_
    refine lv_iconst (pc := 14) (v := (0 : Int32)) hx hb dL_bounds_14 (by decide) ?_
    exact rg_iret (pc := 15) hx hb hlocks hr hf hR dL_bounds_15
-- L_tick
def f_L_tick (v0 : Nat) (v1 : Int32) (v2 : Nat) (M : Mem) : Option (Mem × Int32) := gd (M.1 v0 = 7) <| bc (f_X7_tick v0 v1 M) (fun M1 x2 => gd (M1.1 v2 = 15 ∧ vi_ (0 : Int32) (mm_N M1 v2)) <| lt_ (ms_l M1 v2 ((0 : Int32)).toNatClampNeg (x2).toInt64) fun M4 => some (M4, (0 : Int32))) (fun M1 e3 => if e3 = 0 then (some (M1, (1 : Int32))) else if e3 = 1 then (some (M1, (2 : Int32))) else if e3 = 2 then (none) else none)
abbrev rm_L_tick : Room := { frames := 8, cells := 2, slots := 12, locals := 162 }
theorem hd_L_tick : yL_tick.cls ≠ "java/lang/invoke/MethodHandle" ∧ yL_tick.cls ≠ "java/lang/invoke/VarHandle" ∧ (parseMethodDescriptor yL_tick.desc).map (fun d => d.parameters.length) = some 3 := by decide +kernel
set_option maxHeartbeats 8000000 in
set_option maxRecDepth 100000 in
theorem c_L_tick {l : Launch} (hlt : l.stackTraces = false) {D : va_G} {ca : Nat → ClassId} {b : Nat} {v0 : Nat} {v1 : Int32} {v2 : Nat} {M : Mem} {r : Mem × Int32} (hf : f_L_tick v0 v1 v2 M = some r) : CtW l yL_tick cL_tick 4 [(0, 9, 12, 13), (0, 9, 15, 15)] rm_L_tick D ca b [.ref v0, .int v1, .ref v2] M r 2 12 := by
  intro sz
  refine bodyh_start (Qc := fun A => cvI D ca false A r) (by decide +kernel) (Nat.le_of_ble_eq_true rfl) ?_
  intro p e s m args below meth c A hC htab hr hR ls hl
  obtain ⟨hx, hb, hml, hts, hown, hlocks, hXe, hA, hAb, hnm⟩ := id hC
  have hK := hXe.1
  have hl : lv_has ls 4 [(0, .ref v0), (1, .int v1), (2, .ref v2)] := hl
  unfold f_L_tick at hf
  refine lv_aload_n (pc := 0) hx hb dL_tick_0 rfl (lv_at hl 2 rfl) ?_
  refine lv_iconst (pc := 1) (v := (0 : Int32)) hx hb dL_tick_1 (by decide) ?_
  refine lv_aload_n (pc := 2) hx hb dL_tick_2 rfl (lv_at hl 0 rfl) ?_
  refine lv_iload_n (pc := 3) hx hb dL_tick_3 rfl (lv_at hl 1 rfl) ?_
  obtain ⟨hq, hf⟩ := gd_e hf
  refine rg_wI (pc := 4) hf hR hA (fun z hz => xn_V (κ := 7) (As := [.int v1]) (rest := [.int (0 : Int32), .ref v2]) hC hR rfl (by decide) hq (c_X7_tick hlt hz _) m_426 m_427 m_428 m_1 m_429 hd_X7_tick ⟨rfl, rfl, Nat.le_of_ble_eq_true rfl, Nat.le_of_ble_eq_true rfl⟩ rfl hl.1 rfl (Nat.le_of_ble_eq_true rfl) dL_tick_4 ⟨Nat.le_of_ble_eq_true rfl, Nat.le_of_ble_eq_true rfl⟩) (fun e3 M1 q9 ce H locs hf hR hce hcv hcl => ?_) (fun x2 M1 H locs hf hR => ?_)
  · by_cases he0 : e3 = 0
    · replace hf := it_t hf he0
      subst he0
      refine rg_catch (pc := 4) 0 hC htab [] ⟨0, 9, 12, 13⟩ [⟨0, 9, 15, 15⟩] rfl (by intro z hz; simp at hz) (by decide) (by decide) m_290 (by decide +kernel) hce hcv hcl ?_
      refine lv_astore_n (pc := 12) (lv' := [(3, .ref q9), (0, .ref v0), (1, .int v1), (2, .ref v2)]) hx hb dL_tick_12 rfl hl (by decide) rfl (fun ls hl => ?_)
      refine lv_iconst (pc := 13) (v := (1 : Int32)) hx hb dL_tick_13 (by decide) ?_
      exact rg_iret (pc := 14) hx hb hlocks hr hf hR dL_tick_14
    replace hf := it_f hf he0
    by_cases he1 : e3 = 1
    · replace hf := it_t hf he1
      subst he1
      refine rg_catch (pc := 4) 1 hC htab [⟨0, 9, 12, 13⟩] ⟨0, 9, 15, 15⟩ [] rfl (by intro z hz; simp at hz; rcases hz with rfl <;> first | exact Or.inr ⟨by decide, _, m_290, by decide +kernel⟩) (by decide) (by decide) m_291 (by decide +kernel) hce hcv hcl ?_
      refine lv_astore_n (pc := 15) (lv' := [(3, .ref q9), (0, .ref v0), (1, .int v1), (2, .ref v2)]) hx hb dL_tick_15 rfl hl (by decide) rfl (fun ls hl => ?_)
      refine lv_iconst (pc := 16) (v := (2 : Int32)) hx hb dL_tick_16 (by decide) ?_
      exact rg_iret (pc := 17) hx hb hlocks hr hf hR dL_tick_17
    replace hf := it_f hf he1
    by_cases he2 : e3 = 2
    · replace hf := it_t hf he2
      exact nomatch hf
    replace hf := it_f hf he2
    exact nomatch hf
  · skip
    refine lv_i2l (pc := 7) hx hb dL_tick_7 rfl ?_
    refine rg_last (pc := 8) hx hb hK hR dL_tick_8 hf (fun M4 H locs hf hR => ?_)
    refine lv_goto (pc := 9) (tgt := 18) hx hb dL_tick_9 (by decide) ?_
    refine lv_iconst (pc := 18) (v := (0 : Int32)) hx hb dL_tick_18 (by decide) ?_
    exact rg_iret (pc := 19) hx hb hlocks hr hf hR dL_tick_19
-- L_frame
def f_L_frame (v0 : Nat) (v1 : Nat) (M : Mem) : Option (Mem × Int32) := gd (M.1 v0 = 7) <| bc (f_X7_frame v0 M) (fun M1 x2 => gd (M1.1 v1 = 15 ∧ vi_ (0 : Int32) (mm_N M1 v1)) <| lt_ (ms_l M1 v1 ((0 : Int32)).toNatClampNeg (x2).toInt64) fun M4 => some (M4, (0 : Int32))) (fun M1 e3 => if e3 = 0 then (none) else if e3 = 1 then (some (M1, (1 : Int32))) else if e3 = 2 then (none) else none)
abbrev rm_L_frame : Room := { frames := 7, cells := 1, slots := 6, locals := 111 }
theorem hd_L_frame : yL_frame.cls ≠ "java/lang/invoke/MethodHandle" ∧ yL_frame.cls ≠ "java/lang/invoke/VarHandle" ∧ (parseMethodDescriptor yL_frame.desc).map (fun d => d.parameters.length) = some 2 := by decide +kernel
set_option maxHeartbeats 8000000 in
set_option maxRecDepth 100000 in
theorem c_L_frame {l : Launch} (hlt : l.stackTraces = false) {D : va_G} {ca : Nat → ClassId} {b : Nat} {v0 : Nat} {v1 : Nat} {M : Mem} {r : Mem × Int32} (hf : f_L_frame v0 v1 M = some r) : CtW l yL_frame cL_frame 3 [(0, 8, 11, 15)] rm_L_frame D ca b [.ref v0, .ref v1] M r 1 6 := by
  intro sz
  refine bodyh_start (Qc := fun A => cvI D ca false A r) (by decide +kernel) (Nat.le_of_ble_eq_true rfl) ?_
  intro p e s m args below meth c A hC htab hr hR ls hl
  obtain ⟨hx, hb, hml, hts, hown, hlocks, hXe, hA, hAb, hnm⟩ := id hC
  have hK := hXe.1
  have hl : lv_has ls 3 [(0, .ref v0), (1, .ref v1)] := hl
  unfold f_L_frame at hf
  refine lv_aload_n (pc := 0) hx hb dL_frame_0 rfl (lv_at hl 1 rfl) ?_
  refine lv_iconst (pc := 1) (v := (0 : Int32)) hx hb dL_frame_1 (by decide) ?_
  refine lv_aload_n (pc := 2) hx hb dL_frame_2 rfl (lv_at hl 0 rfl) ?_
  obtain ⟨hq, hf⟩ := gd_e hf
  refine rg_wI (pc := 3) hf hR hA (fun z hz => xn_V (κ := 7) (As := []) (rest := [.int (0 : Int32), .ref v1]) hC hR rfl (by decide) hq (c_X7_frame hlt hz _) m_513 m_514 m_515 m_1 m_516 hd_X7_frame ⟨rfl, rfl, Nat.le_of_ble_eq_true rfl, Nat.le_of_ble_eq_true rfl⟩ rfl hl.1 rfl (Nat.le_of_ble_eq_true rfl) dL_frame_3 ⟨Nat.le_of_ble_eq_true rfl, Nat.le_of_ble_eq_true rfl⟩) (fun e3 M1 q9 ce H locs hf hR hce hcv hcl => ?_) (fun x2 M1 H locs hf hR => ?_)
  · by_cases he0 : e3 = 0
    · replace hf := it_t hf he0
      exact nomatch hf
    replace hf := it_f hf he0
    by_cases he1 : e3 = 1
    · replace hf := it_t hf he1
      subst he1
      refine rg_catch (pc := 3) 1 hC htab [] ⟨0, 8, 11, 15⟩ [] rfl (by intro z hz; simp at hz) (by decide) (by decide) m_291 (by decide +kernel) hce hcv hcl ?_
      refine lv_astore_n (pc := 11) (lv' := [(2, .ref q9), (0, .ref v0), (1, .ref v1)]) hx hb dL_frame_11 rfl hl (by decide) rfl (fun ls hl => ?_)
      refine lv_iconst (pc := 12) (v := (1 : Int32)) hx hb dL_frame_12 (by decide) ?_
      exact rg_iret (pc := 13) hx hb hlocks hr hf hR dL_frame_13
    replace hf := it_f hf he1
    by_cases he2 : e3 = 2
    · replace hf := it_t hf he2
      exact nomatch hf
    replace hf := it_f hf he2
    exact nomatch hf
  · skip
    refine lv_i2l (pc := 6) hx hb dL_frame_6 rfl ?_
    refine rg_last (pc := 7) hx hb hK hR dL_frame_7 hf (fun M4 H locs hf hR => ?_)
    refine lv_goto (pc := 8) (tgt := 14) hx hb dL_frame_8 (by decide) ?_
    refine lv_iconst (pc := 14) (v := (0 : Int32)) hx hb dL_frame_14 (by decide) ?_
    exact rg_iret (pc := 15) hx hb hlocks hr hf hR dL_frame_15
-- L_claim
def f_L_claim (v0 : Nat) (v1 : Int32) (v2 : Int32) (v3 : Int32) (v4 : Int32) (v5 : Nat) (M : Mem) : Option (Mem × Int32) := gd (M.1 v0 = 7) <| bc (f_X7_claim v0 v1 v2 v3 v4 M) (fun M1 x2 => gd (M1.1 v5 = 15 ∧ vi_ (0 : Int32) (mm_N M1 v5)) <| lt_ (ms_l M1 v5 ((0 : Int32)).toNatClampNeg (x2).toInt64) fun M4 => some (M4, (0 : Int32))) (fun M1 e3 => if e3 = 0 then (some (M1, (2 : Int32))) else if e3 = 1 then (some (M1, (3 : Int32))) else if e3 = 2 then (some (M1, (1 : Int32))) else none)
abbrev rm_L_claim : Room := { frames := 9, cells := 5, slots := 30, locals := 157 }
theorem hd_L_claim : yL_claim.cls ≠ "java/lang/invoke/MethodHandle" ∧ yL_claim.cls ≠ "java/lang/invoke/VarHandle" ∧ (parseMethodDescriptor yL_claim.desc).map (fun d => d.parameters.length) = some 6 := by decide +kernel
set_option maxHeartbeats 8000000 in
set_option maxRecDepth 100000 in
theorem c_L_claim {l : Launch} (hlt : l.stackTraces = false) {D : va_G} {ca : Nat → ClassId} {b : Nat} {v0 : Nat} {v1 : Int32} {v2 : Int32} {v3 : Int32} {v4 : Int32} {v5 : Nat} {M : Mem} {r : Mem × Int32} (hf : f_L_claim v0 v1 v2 v3 v4 v5 M = some r) : CtW l yL_claim cL_claim 7 [(0, 14, 17, 39), (0, 14, 21, 13), (0, 14, 25, 15)] rm_L_claim D ca b [.ref v0, .int v1, .int v2, .int v3, .int v4, .ref v5] M r 5 30 := by
  intro sz
  refine bodyh_start (Qc := fun A => cvI D ca false A r) (by decide +kernel) (Nat.le_of_ble_eq_true rfl) ?_
  intro p e s m args below meth c A hC htab hr hR ls hl
  obtain ⟨hx, hb, hml, hts, hown, hlocks, hXe, hA, hAb, hnm⟩ := id hC
  have hK := hXe.1
  have hl : lv_has ls 7 [(0, .ref v0), (1, .int v1), (2, .int v2), (3, .int v3), (4, .int v4), (5, .ref v5)] := hl
  unfold f_L_claim at hf
  refine lv_aload (pc := 0) hx hb dL_claim_0 (lv_at hl 5 rfl) ?_
  refine lv_iconst (pc := 2) (v := (0 : Int32)) hx hb dL_claim_2 (by decide) ?_
  refine lv_aload_n (pc := 3) hx hb dL_claim_3 rfl (lv_at hl 0 rfl) ?_
  refine lv_iload_n (pc := 4) hx hb dL_claim_4 rfl (lv_at hl 1 rfl) ?_
  refine lv_iload_n (pc := 5) hx hb dL_claim_5 rfl (lv_at hl 2 rfl) ?_
  refine lv_iload_n (pc := 6) hx hb dL_claim_6 rfl (lv_at hl 3 rfl) ?_
  refine lv_iload (pc := 7) hx hb dL_claim_7 (lv_at hl 4 rfl) ?_
  obtain ⟨hq, hf⟩ := gd_e hf
  refine rg_wI (pc := 9) hf hR hA (fun z hz => xn_V (κ := 7) (As := [.int v1, .int v2, .int v3, .int v4]) (rest := [.int (0 : Int32), .ref v5]) hC hR rfl (by decide) hq (c_X7_claim hlt hz _) m_522 m_523 m_524 m_1 m_525 hd_X7_claim ⟨rfl, rfl, Nat.le_of_ble_eq_true rfl, Nat.le_of_ble_eq_true rfl⟩ rfl hl.1 rfl (Nat.le_of_ble_eq_true rfl) dL_claim_9 ⟨Nat.le_of_ble_eq_true rfl, Nat.le_of_ble_eq_true rfl⟩) (fun e3 M1 q9 ce H locs hf hR hce hcv hcl => ?_) (fun x2 M1 H locs hf hR => ?_)
  · by_cases he0 : e3 = 0
    · replace hf := it_t hf he0
      subst he0
      refine rg_catch (pc := 9) 0 hC htab [⟨0, 14, 17, 39⟩] ⟨0, 14, 21, 13⟩ [⟨0, 14, 25, 15⟩] rfl (by intro z hz; simp at hz; rcases hz with rfl <;> first | exact Or.inr ⟨by decide, _, m_521, by decide +kernel⟩) (by decide) (by decide) m_290 (by decide +kernel) hce hcv hcl ?_
      refine lv_astore (pc := 21) (lv' := [(6, .ref q9), (0, .ref v0), (1, .int v1), (2, .int v2), (3, .int v3), (4, .int v4), (5, .ref v5)]) hx hb dL_claim_21 hl (by decide) rfl (fun ls hl => ?_)
      refine lv_iconst (pc := 23) (v := (2 : Int32)) hx hb dL_claim_23 (by decide) ?_
      exact rg_iret (pc := 24) hx hb hlocks hr hf hR dL_claim_24
    replace hf := it_f hf he0
    by_cases he1 : e3 = 1
    · replace hf := it_t hf he1
      subst he1
      refine rg_catch (pc := 9) 1 hC htab [⟨0, 14, 17, 39⟩, ⟨0, 14, 21, 13⟩] ⟨0, 14, 25, 15⟩ [] rfl (by intro z hz; simp at hz; rcases hz with rfl | rfl <;> first | exact Or.inr ⟨by decide, _, m_521, by decide +kernel⟩ | exact Or.inr ⟨by decide, _, m_290, by decide +kernel⟩) (by decide) (by decide) m_291 (by decide +kernel) hce hcv hcl ?_
      refine lv_astore (pc := 25) (lv' := [(6, .ref q9), (0, .ref v0), (1, .int v1), (2, .int v2), (3, .int v3), (4, .int v4), (5, .ref v5)]) hx hb dL_claim_25 hl (by decide) rfl (fun ls hl => ?_)
      refine lv_iconst (pc := 27) (v := (3 : Int32)) hx hb dL_claim_27 (by decide) ?_
      exact rg_iret (pc := 28) hx hb hlocks hr hf hR dL_claim_28
    replace hf := it_f hf he1
    by_cases he2 : e3 = 2
    · replace hf := it_t hf he2
      subst he2
      refine rg_catch (pc := 9) 2 hC htab [] ⟨0, 14, 17, 39⟩ [⟨0, 14, 21, 13⟩, ⟨0, 14, 25, 15⟩] rfl (by intro z hz; simp at hz) (by decide) (by decide) m_521 (by decide +kernel) hce hcv hcl ?_
      refine lv_astore (pc := 17) (lv' := [(6, .ref q9), (0, .ref v0), (1, .int v1), (2, .int v2), (3, .int v3), (4, .int v4), (5, .ref v5)]) hx hb dL_claim_17 hl (by decide) rfl (fun ls hl => ?_)
      refine lv_iconst (pc := 19) (v := (1 : Int32)) hx hb dL_claim_19 (by decide) ?_
      exact rg_iret (pc := 20) hx hb hlocks hr hf hR dL_claim_20
    replace hf := it_f hf he2
    exact nomatch hf
  · skip
    refine lv_i2l (pc := 12) hx hb dL_claim_12 rfl ?_
    refine rg_last (pc := 13) hx hb hK hR dL_claim_13 hf (fun M4 H locs hf hR => ?_)
    refine lv_goto (pc := 14) (tgt := 29) hx hb dL_claim_14 (by decide) ?_
    refine lv_iconst (pc := 29) (v := (0 : Int32)) hx hb dL_claim_29 (by decide) ?_
    exact rg_iret (pc := 30) hx hb hlocks hr hf hR dL_claim_30
-- L_told
def f_L_told (v0 : Nat) (v1 : Int32) (v2 : Int32) (v3 : Nat) (M : Mem) : Option (Mem × Int32) := gd (M.1 v0 = 7) <| bc (f_X7_told v0 v1 v2 M) (fun M1 x2 => gd (M1.1 v3 = 15 ∧ vi_ (0 : Int32) (mm_N M1 v3)) <| lt_ (ms_l M1 v3 ((0 : Int32)).toNatClampNeg (x2).toInt64) fun M4 => some (M4, (0 : Int32))) (fun M1 e3 => if e3 = 0 then (some (M1, (2 : Int32))) else if e3 = 1 then (none) else if e3 = 2 then (some (M1, (1 : Int32))) else none)
abbrev rm_L_told : Room := { frames := 8, cells := 2, slots := 12, locals := 134 }
theorem hd_L_told : yL_told.cls ≠ "java/lang/invoke/MethodHandle" ∧ yL_told.cls ≠ "java/lang/invoke/VarHandle" ∧ (parseMethodDescriptor yL_told.desc).map (fun d => d.parameters.length) = some 4 := by decide +kernel
set_option maxHeartbeats 8000000 in
set_option maxRecDepth 100000 in
theorem c_L_told {l : Launch} (hlt : l.stackTraces = false) {D : va_G} {ca : Nat → ClassId} {b : Nat} {v0 : Nat} {v1 : Int32} {v2 : Int32} {v3 : Nat} {M : Mem} {r : Mem × Int32} (hf : f_L_told v0 v1 v2 v3 M = some r) : CtW l yL_told cL_told 5 [(0, 10, 13, 39), (0, 10, 17, 13)] rm_L_told D ca b [.ref v0, .int v1, .int v2, .ref v3] M r 2 12 := by
  intro sz
  refine bodyh_start (Qc := fun A => cvI D ca false A r) (by decide +kernel) (Nat.le_of_ble_eq_true rfl) ?_
  intro p e s m args below meth c A hC htab hr hR ls hl
  obtain ⟨hx, hb, hml, hts, hown, hlocks, hXe, hA, hAb, hnm⟩ := id hC
  have hK := hXe.1
  have hl : lv_has ls 5 [(0, .ref v0), (1, .int v1), (2, .int v2), (3, .ref v3)] := hl
  unfold f_L_told at hf
  refine lv_aload_n (pc := 0) hx hb dL_told_0 rfl (lv_at hl 3 rfl) ?_
  refine lv_iconst (pc := 1) (v := (0 : Int32)) hx hb dL_told_1 (by decide) ?_
  refine lv_aload_n (pc := 2) hx hb dL_told_2 rfl (lv_at hl 0 rfl) ?_
  refine lv_iload_n (pc := 3) hx hb dL_told_3 rfl (lv_at hl 1 rfl) ?_
  refine lv_iload_n (pc := 4) hx hb dL_told_4 rfl (lv_at hl 2 rfl) ?_
  obtain ⟨hq, hf⟩ := gd_e hf
  refine rg_wI (pc := 5) hf hR hA (fun z hz => xn_V (κ := 7) (As := [.int v1, .int v2]) (rest := [.int (0 : Int32), .ref v3]) hC hR rfl (by decide) hq (c_X7_told hlt hz _) m_550 m_551 m_552 m_1 m_553 hd_X7_told ⟨rfl, rfl, Nat.le_of_ble_eq_true rfl, Nat.le_of_ble_eq_true rfl⟩ rfl hl.1 rfl (Nat.le_of_ble_eq_true rfl) dL_told_5 ⟨Nat.le_of_ble_eq_true rfl, Nat.le_of_ble_eq_true rfl⟩) (fun e3 M1 q9 ce H locs hf hR hce hcv hcl => ?_) (fun x2 M1 H locs hf hR => ?_)
  · by_cases he0 : e3 = 0
    · replace hf := it_t hf he0
      subst he0
      refine rg_catch (pc := 5) 0 hC htab [⟨0, 10, 13, 39⟩] ⟨0, 10, 17, 13⟩ [] rfl (by intro z hz; simp at hz; rcases hz with rfl <;> first | exact Or.inr ⟨by decide, _, m_521, by decide +kernel⟩) (by decide) (by decide) m_290 (by decide +kernel) hce hcv hcl ?_
      refine lv_astore (pc := 17) (lv' := [(4, .ref q9), (0, .ref v0), (1, .int v1), (2, .int v2), (3, .ref v3)]) hx hb dL_told_17 hl (by decide) rfl (fun ls hl => ?_)
      refine lv_iconst (pc := 19) (v := (2 : Int32)) hx hb dL_told_19 (by decide) ?_
      exact rg_iret (pc := 20) hx hb hlocks hr hf hR dL_told_20
    replace hf := it_f hf he0
    by_cases he1 : e3 = 1
    · replace hf := it_t hf he1
      exact nomatch hf
    replace hf := it_f hf he1
    by_cases he2 : e3 = 2
    · replace hf := it_t hf he2
      subst he2
      refine rg_catch (pc := 5) 2 hC htab [] ⟨0, 10, 13, 39⟩ [⟨0, 10, 17, 13⟩] rfl (by intro z hz; simp at hz) (by decide) (by decide) m_521 (by decide +kernel) hce hcv hcl ?_
      refine lv_astore (pc := 13) (lv' := [(4, .ref q9), (0, .ref v0), (1, .int v1), (2, .int v2), (3, .ref v3)]) hx hb dL_told_13 hl (by decide) rfl (fun ls hl => ?_)
      refine lv_iconst (pc := 15) (v := (1 : Int32)) hx hb dL_told_15 (by decide) ?_
      exact rg_iret (pc := 16) hx hb hlocks hr hf hR dL_told_16
    replace hf := it_f hf he2
    exact nomatch hf
  · skip
    refine lv_i2l (pc := 8) hx hb dL_told_8 rfl ?_
    refine rg_last (pc := 9) hx hb hK hR dL_told_9 hf (fun M4 H locs hf hR => ?_)
    refine lv_goto (pc := 10) (tgt := 21) hx hb dL_told_10 (by decide) ?_
    refine lv_iconst (pc := 21) (v := (0 : Int32)) hx hb dL_told_21 (by decide) ?_
    exact rg_iret (pc := 22) hx hb hlocks hr hf hR dL_told_22
-- L_angle
def f_L_angle (v0 : Nat) (v1 : Int32) (v2 : Nat) (M : Mem) : Option (Mem × Int32) := gd (M.1 v0 = 7) <| bc (f_X7_angle v0 v1 M) (fun M1 x2 => gd (M1.1 v2 = 15 ∧ vi_ (0 : Int32) (mm_N M1 v2)) <| lt_ (ms_l M1 v2 ((0 : Int32)).toNatClampNeg (x2).toInt64) fun M4 => some (M4, (0 : Int32))) (fun M1 e3 => if e3 = 0 then (none) else if e3 = 1 then (none) else if e3 = 2 then (some (M1, (1 : Int32))) else none)
abbrev rm_L_angle : Room := { frames := 8, cells := 1, slots := 6, locals := 132 }
theorem hd_L_angle : yL_angle.cls ≠ "java/lang/invoke/MethodHandle" ∧ yL_angle.cls ≠ "java/lang/invoke/VarHandle" ∧ (parseMethodDescriptor yL_angle.desc).map (fun d => d.parameters.length) = some 3 := by decide +kernel
set_option maxHeartbeats 8000000 in
set_option maxRecDepth 100000 in
theorem c_L_angle {l : Launch} (hlt : l.stackTraces = false) {D : va_G} {ca : Nat → ClassId} {b : Nat} {v0 : Nat} {v1 : Int32} {v2 : Nat} {M : Mem} {r : Mem × Int32} (hf : f_L_angle v0 v1 v2 M = some r) : CtW l yL_angle cL_angle 4 [(0, 9, 12, 39)] rm_L_angle D ca b [.ref v0, .int v1, .ref v2] M r 1 6 := by
  intro sz
  refine bodyh_start (Qc := fun A => cvI D ca false A r) (by decide +kernel) (Nat.le_of_ble_eq_true rfl) ?_
  intro p e s m args below meth c A hC htab hr hR ls hl
  obtain ⟨hx, hb, hml, hts, hown, hlocks, hXe, hA, hAb, hnm⟩ := id hC
  have hK := hXe.1
  have hl : lv_has ls 4 [(0, .ref v0), (1, .int v1), (2, .ref v2)] := hl
  unfold f_L_angle at hf
  refine lv_aload_n (pc := 0) hx hb dL_angle_0 rfl (lv_at hl 2 rfl) ?_
  refine lv_iconst (pc := 1) (v := (0 : Int32)) hx hb dL_angle_1 (by decide) ?_
  refine lv_aload_n (pc := 2) hx hb dL_angle_2 rfl (lv_at hl 0 rfl) ?_
  refine lv_iload_n (pc := 3) hx hb dL_angle_3 rfl (lv_at hl 1 rfl) ?_
  obtain ⟨hq, hf⟩ := gd_e hf
  refine rg_wI (pc := 4) hf hR hA (fun z hz => xn_V (κ := 7) (As := [.int v1]) (rest := [.int (0 : Int32), .ref v2]) hC hR rfl (by decide) hq (c_X7_angle hlt hz _) m_558 m_559 m_560 m_1 m_561 hd_X7_angle ⟨rfl, rfl, Nat.le_of_ble_eq_true rfl, Nat.le_of_ble_eq_true rfl⟩ rfl hl.1 rfl (Nat.le_of_ble_eq_true rfl) dL_angle_4 ⟨Nat.le_of_ble_eq_true rfl, Nat.le_of_ble_eq_true rfl⟩) (fun e3 M1 q9 ce H locs hf hR hce hcv hcl => ?_) (fun x2 M1 H locs hf hR => ?_)
  · by_cases he0 : e3 = 0
    · replace hf := it_t hf he0
      exact nomatch hf
    replace hf := it_f hf he0
    by_cases he1 : e3 = 1
    · replace hf := it_t hf he1
      exact nomatch hf
    replace hf := it_f hf he1
    by_cases he2 : e3 = 2
    · replace hf := it_t hf he2
      subst he2
      refine rg_catch (pc := 4) 2 hC htab [] ⟨0, 9, 12, 39⟩ [] rfl (by intro z hz; simp at hz) (by decide) (by decide) m_521 (by decide +kernel) hce hcv hcl ?_
      refine lv_astore_n (pc := 12) (lv' := [(3, .ref q9), (0, .ref v0), (1, .int v1), (2, .ref v2)]) hx hb dL_angle_12 rfl hl (by decide) rfl (fun ls hl => ?_)
      refine lv_iconst (pc := 13) (v := (1 : Int32)) hx hb dL_angle_13 (by decide) ?_
      exact rg_iret (pc := 14) hx hb hlocks hr hf hR dL_angle_14
    replace hf := it_f hf he2
    exact nomatch hf
  · skip
    refine lv_i2l (pc := 7) hx hb dL_angle_7 rfl ?_
    refine rg_last (pc := 8) hx hb hK hR dL_angle_8 hf (fun M4 H locs hf hR => ?_)
    refine lv_goto (pc := 9) (tgt := 15) hx hb dL_angle_9 (by decide) ?_
    refine lv_iconst (pc := 15) (v := (0 : Int32)) hx hb dL_angle_15 (by decide) ?_
    exact rg_iret (pc := 16) hx hb hlocks hr hf hR dL_angle_16
-- L_speed
def f_L_speed (v0 : Nat) (v1 : Int32) (v2 : Nat) (M : Mem) : Option (Mem × Int32) := gd (M.1 v0 = 7) <| bc (f_X7_speed v0 v1 M) (fun M1 x2 => gd (M1.1 v2 = 15 ∧ vi_ (0 : Int32) (mm_N M1 v2)) <| lt_ (ms_l M1 v2 ((0 : Int32)).toNatClampNeg (x2).toInt64) fun M4 => some (M4, (0 : Int32))) (fun M1 e3 => if e3 = 0 then (some (M1, (1 : Int32))) else if e3 = 1 then (none) else if e3 = 2 then (none) else none)
abbrev rm_L_speed : Room := { frames := 9, cells := 1, slots := 6, locals := 153 }
theorem hd_L_speed : yL_speed.cls ≠ "java/lang/invoke/MethodHandle" ∧ yL_speed.cls ≠ "java/lang/invoke/VarHandle" ∧ (parseMethodDescriptor yL_speed.desc).map (fun d => d.parameters.length) = some 3 := by decide +kernel
set_option maxHeartbeats 8000000 in
set_option maxRecDepth 100000 in
theorem c_L_speed {l : Launch} (hlt : l.stackTraces = false) {D : va_G} {ca : Nat → ClassId} {b : Nat} {v0 : Nat} {v1 : Int32} {v2 : Nat} {M : Mem} {r : Mem × Int32} (hf : f_L_speed v0 v1 v2 M = some r) : CtW l yL_speed cL_speed 4 [(0, 9, 12, 13)] rm_L_speed D ca b [.ref v0, .int v1, .ref v2] M r 1 6 := by
  intro sz
  refine bodyh_start (Qc := fun A => cvI D ca false A r) (by decide +kernel) (Nat.le_of_ble_eq_true rfl) ?_
  intro p e s m args below meth c A hC htab hr hR ls hl
  obtain ⟨hx, hb, hml, hts, hown, hlocks, hXe, hA, hAb, hnm⟩ := id hC
  have hK := hXe.1
  have hl : lv_has ls 4 [(0, .ref v0), (1, .int v1), (2, .ref v2)] := hl
  unfold f_L_speed at hf
  refine lv_aload_n (pc := 0) hx hb dL_speed_0 rfl (lv_at hl 2 rfl) ?_
  refine lv_iconst (pc := 1) (v := (0 : Int32)) hx hb dL_speed_1 (by decide) ?_
  refine lv_aload_n (pc := 2) hx hb dL_speed_2 rfl (lv_at hl 0 rfl) ?_
  refine lv_iload_n (pc := 3) hx hb dL_speed_3 rfl (lv_at hl 1 rfl) ?_
  obtain ⟨hq, hf⟩ := gd_e hf
  refine rg_wI (pc := 4) hf hR hA (fun z hz => xn_V (κ := 7) (As := [.int v1]) (rest := [.int (0 : Int32), .ref v2]) hC hR rfl (by decide) hq (c_X7_speed hlt hz _) m_565 m_566 m_567 m_1 m_568 hd_X7_speed ⟨rfl, rfl, Nat.le_of_ble_eq_true rfl, Nat.le_of_ble_eq_true rfl⟩ rfl hl.1 rfl (Nat.le_of_ble_eq_true rfl) dL_speed_4 ⟨Nat.le_of_ble_eq_true rfl, Nat.le_of_ble_eq_true rfl⟩) (fun e3 M1 q9 ce H locs hf hR hce hcv hcl => ?_) (fun x2 M1 H locs hf hR => ?_)
  · by_cases he0 : e3 = 0
    · replace hf := it_t hf he0
      subst he0
      refine rg_catch (pc := 4) 0 hC htab [] ⟨0, 9, 12, 13⟩ [] rfl (by intro z hz; simp at hz) (by decide) (by decide) m_290 (by decide +kernel) hce hcv hcl ?_
      refine lv_astore_n (pc := 12) (lv' := [(3, .ref q9), (0, .ref v0), (1, .int v1), (2, .ref v2)]) hx hb dL_speed_12 rfl hl (by decide) rfl (fun ls hl => ?_)
      refine lv_iconst (pc := 13) (v := (1 : Int32)) hx hb dL_speed_13 (by decide) ?_
      exact rg_iret (pc := 14) hx hb hlocks hr hf hR dL_speed_14
    replace hf := it_f hf he0
    by_cases he1 : e3 = 1
    · replace hf := it_t hf he1
      exact nomatch hf
    replace hf := it_f hf he1
    by_cases he2 : e3 = 2
    · replace hf := it_t hf he2
      exact nomatch hf
    replace hf := it_f hf he2
    exact nomatch hf
  · skip
    refine lv_i2l (pc := 7) hx hb dL_speed_7 rfl ?_
    refine rg_last (pc := 8) hx hb hK hR dL_speed_8 hf (fun M4 H locs hf hR => ?_)
    refine lv_goto (pc := 9) (tgt := 15) hx hb dL_speed_9 (by decide) ?_
    refine lv_iconst (pc := 15) (v := (0 : Int32)) hx hb dL_speed_15 (by decide) ?_
    exact rg_iret (pc := 16) hx hb hlocks hr hf hR dL_speed_16
-- L_count
def f_L_count (v0 : Nat) (v1 : Int32) (v2 : Nat) (M : Mem) : Option (Mem × Int32) := gd (M.1 v0 = 7) <| bc (f_X7_count v0 v1 M) (fun M1 x2 => gd (M1.1 v2 = 15 ∧ vi_ (0 : Int32) (mm_N M1 v2)) <| lt_ (ms_l M1 v2 ((0 : Int32)).toNatClampNeg (x2).toInt64) fun M4 => some (M4, (0 : Int32))) (fun M1 e3 => if e3 = 0 then (some (M1, (1 : Int32))) else if e3 = 1 then (none) else if e3 = 2 then (none) else none)
abbrev rm_L_count : Room := { frames := 7, cells := 1, slots := 6, locals := 111 }
theorem hd_L_count : yL_count.cls ≠ "java/lang/invoke/MethodHandle" ∧ yL_count.cls ≠ "java/lang/invoke/VarHandle" ∧ (parseMethodDescriptor yL_count.desc).map (fun d => d.parameters.length) = some 3 := by decide +kernel
set_option maxHeartbeats 8000000 in
set_option maxRecDepth 100000 in
theorem c_L_count {l : Launch} (hlt : l.stackTraces = false) {D : va_G} {ca : Nat → ClassId} {b : Nat} {v0 : Nat} {v1 : Int32} {v2 : Nat} {M : Mem} {r : Mem × Int32} (hf : f_L_count v0 v1 v2 M = some r) : CtW l yL_count cL_count 4 [(0, 9, 12, 13)] rm_L_count D ca b [.ref v0, .int v1, .ref v2] M r 1 6 := by
  intro sz
  refine bodyh_start (Qc := fun A => cvI D ca false A r) (by decide +kernel) (Nat.le_of_ble_eq_true rfl) ?_
  intro p e s m args below meth c A hC htab hr hR ls hl
  obtain ⟨hx, hb, hml, hts, hown, hlocks, hXe, hA, hAb, hnm⟩ := id hC
  have hK := hXe.1
  have hl : lv_has ls 4 [(0, .ref v0), (1, .int v1), (2, .ref v2)] := hl
  unfold f_L_count at hf
  refine lv_aload_n (pc := 0) hx hb dL_count_0 rfl (lv_at hl 2 rfl) ?_
  refine lv_iconst (pc := 1) (v := (0 : Int32)) hx hb dL_count_1 (by decide) ?_
  refine lv_aload_n (pc := 2) hx hb dL_count_2 rfl (lv_at hl 0 rfl) ?_
  refine lv_iload_n (pc := 3) hx hb dL_count_3 rfl (lv_at hl 1 rfl) ?_
  obtain ⟨hq, hf⟩ := gd_e hf
  refine rg_wI (pc := 4) hf hR hA (fun z hz => xn_V (κ := 7) (As := [.int v1]) (rest := [.int (0 : Int32), .ref v2]) hC hR rfl (by decide) hq (c_X7_count hlt hz _) m_572 m_573 m_574 m_1 m_575 hd_X7_count ⟨rfl, rfl, Nat.le_of_ble_eq_true rfl, Nat.le_of_ble_eq_true rfl⟩ rfl hl.1 rfl (Nat.le_of_ble_eq_true rfl) dL_count_4 ⟨Nat.le_of_ble_eq_true rfl, Nat.le_of_ble_eq_true rfl⟩) (fun e3 M1 q9 ce H locs hf hR hce hcv hcl => ?_) (fun x2 M1 H locs hf hR => ?_)
  · by_cases he0 : e3 = 0
    · replace hf := it_t hf he0
      subst he0
      refine rg_catch (pc := 4) 0 hC htab [] ⟨0, 9, 12, 13⟩ [] rfl (by intro z hz; simp at hz) (by decide) (by decide) m_290 (by decide +kernel) hce hcv hcl ?_
      refine lv_astore_n (pc := 12) (lv' := [(3, .ref q9), (0, .ref v0), (1, .int v1), (2, .ref v2)]) hx hb dL_count_12 rfl hl (by decide) rfl (fun ls hl => ?_)
      refine lv_iconst (pc := 13) (v := (1 : Int32)) hx hb dL_count_13 (by decide) ?_
      exact rg_iret (pc := 14) hx hb hlocks hr hf hR dL_count_14
    replace hf := it_f hf he0
    by_cases he1 : e3 = 1
    · replace hf := it_t hf he1
      exact nomatch hf
    replace hf := it_f hf he1
    by_cases he2 : e3 = 2
    · replace hf := it_t hf he2
      exact nomatch hf
    replace hf := it_f hf he2
    exact nomatch hf
  · skip
    refine lv_i2l (pc := 7) hx hb dL_count_7 rfl ?_
    refine rg_last (pc := 8) hx hb hK hR dL_count_8 hf (fun M4 H locs hf hR => ?_)
    refine lv_goto (pc := 9) (tgt := 15) hx hb dL_count_9 (by decide) ?_
    refine lv_iconst (pc := 15) (v := (0 : Int32)) hx hb dL_count_15 (by decide) ?_
    exact rg_iret (pc := 16) hx hb hlocks hr hf hR dL_count_16
-- L_mass
def f_L_mass (v0 : Nat) (v1 : Int32) (v2 : Nat) (M : Mem) : Option (Mem × Int32) := gd (M.1 v0 = 7) <| bc (f_X7_mass v0 v1 M) (fun M1 x2 => gd (M1.1 v2 = 15 ∧ vi_ (0 : Int32) (mm_N M1 v2)) <| lt_ (ms_l M1 v2 ((0 : Int32)).toNatClampNeg (x2).toInt64) fun M4 => some (M4, (0 : Int32))) (fun M1 e3 => if e3 = 0 then (some (M1, (1 : Int32))) else if e3 = 1 then (none) else if e3 = 2 then (none) else none)
abbrev rm_L_mass : Room := { frames := 9, cells := 1, slots := 6, locals := 153 }
theorem hd_L_mass : yL_mass.cls ≠ "java/lang/invoke/MethodHandle" ∧ yL_mass.cls ≠ "java/lang/invoke/VarHandle" ∧ (parseMethodDescriptor yL_mass.desc).map (fun d => d.parameters.length) = some 3 := by decide +kernel
set_option maxHeartbeats 8000000 in
set_option maxRecDepth 100000 in
theorem c_L_mass {l : Launch} (hlt : l.stackTraces = false) {D : va_G} {ca : Nat → ClassId} {b : Nat} {v0 : Nat} {v1 : Int32} {v2 : Nat} {M : Mem} {r : Mem × Int32} (hf : f_L_mass v0 v1 v2 M = some r) : CtW l yL_mass cL_mass 4 [(0, 9, 12, 13)] rm_L_mass D ca b [.ref v0, .int v1, .ref v2] M r 1 6 := by
  intro sz
  refine bodyh_start (Qc := fun A => cvI D ca false A r) (by decide +kernel) (Nat.le_of_ble_eq_true rfl) ?_
  intro p e s m args below meth c A hC htab hr hR ls hl
  obtain ⟨hx, hb, hml, hts, hown, hlocks, hXe, hA, hAb, hnm⟩ := id hC
  have hK := hXe.1
  have hl : lv_has ls 4 [(0, .ref v0), (1, .int v1), (2, .ref v2)] := hl
  unfold f_L_mass at hf
  refine lv_aload_n (pc := 0) hx hb dL_mass_0 rfl (lv_at hl 2 rfl) ?_
  refine lv_iconst (pc := 1) (v := (0 : Int32)) hx hb dL_mass_1 (by decide) ?_
  refine lv_aload_n (pc := 2) hx hb dL_mass_2 rfl (lv_at hl 0 rfl) ?_
  refine lv_iload_n (pc := 3) hx hb dL_mass_3 rfl (lv_at hl 1 rfl) ?_
  obtain ⟨hq, hf⟩ := gd_e hf
  refine rg_wI (pc := 4) hf hR hA (fun z hz => xn_V (κ := 7) (As := [.int v1]) (rest := [.int (0 : Int32), .ref v2]) hC hR rfl (by decide) hq (c_X7_mass hlt hz _) m_584 m_585 m_586 m_1 m_587 hd_X7_mass ⟨rfl, rfl, Nat.le_of_ble_eq_true rfl, Nat.le_of_ble_eq_true rfl⟩ rfl hl.1 rfl (Nat.le_of_ble_eq_true rfl) dL_mass_4 ⟨Nat.le_of_ble_eq_true rfl, Nat.le_of_ble_eq_true rfl⟩) (fun e3 M1 q9 ce H locs hf hR hce hcv hcl => ?_) (fun x2 M1 H locs hf hR => ?_)
  · by_cases he0 : e3 = 0
    · replace hf := it_t hf he0
      subst he0
      refine rg_catch (pc := 4) 0 hC htab [] ⟨0, 9, 12, 13⟩ [] rfl (by intro z hz; simp at hz) (by decide) (by decide) m_290 (by decide +kernel) hce hcv hcl ?_
      refine lv_astore_n (pc := 12) (lv' := [(3, .ref q9), (0, .ref v0), (1, .int v1), (2, .ref v2)]) hx hb dL_mass_12 rfl hl (by decide) rfl (fun ls hl => ?_)
      refine lv_iconst (pc := 13) (v := (1 : Int32)) hx hb dL_mass_13 (by decide) ?_
      exact rg_iret (pc := 14) hx hb hlocks hr hf hR dL_mass_14
    replace hf := it_f hf he0
    by_cases he1 : e3 = 1
    · replace hf := it_t hf he1
      exact nomatch hf
    replace hf := it_f hf he1
    by_cases he2 : e3 = 2
    · replace hf := it_t hf he2
      exact nomatch hf
    replace hf := it_f hf he2
    exact nomatch hf
  · skip
    refine lv_i2l (pc := 7) hx hb dL_mass_7 rfl ?_
    refine rg_last (pc := 8) hx hb hK hR dL_mass_8 hf (fun M4 H locs hf hR => ?_)
    refine lv_goto (pc := 9) (tgt := 15) hx hb dL_mass_9 (by decide) ?_
    refine lv_iconst (pc := 15) (v := (0 : Int32)) hx hb dL_mass_15 (by decide) ?_
    exact rg_iret (pc := 16) hx hb hlocks hr hf hR dL_mass_16
-- L_sum
def f_L_sum (v0 : Nat) (v1 : Int32) (v2 : Nat) (M : Mem) : Option (Mem × Int32) := gd (M.1 v0 = 7) <| bc (f_X7_sum v0 v1 M) (fun M1 x2 => gd (M1.1 v2 = 15 ∧ vi_ (0 : Int32) (mm_N M1 v2)) <| lt_ (ms_l M1 v2 ((0 : Int32)).toNatClampNeg (x2).toInt64) fun M4 => some (M4, (0 : Int32))) (fun M1 e3 => if e3 = 0 then (some (M1, (1 : Int32))) else if e3 = 1 then (none) else if e3 = 2 then (none) else none)
abbrev rm_L_sum : Room := { frames := 7, cells := 1, slots := 6, locals := 111 }
theorem hd_L_sum : yL_sum.cls ≠ "java/lang/invoke/MethodHandle" ∧ yL_sum.cls ≠ "java/lang/invoke/VarHandle" ∧ (parseMethodDescriptor yL_sum.desc).map (fun d => d.parameters.length) = some 3 := by decide +kernel
set_option maxHeartbeats 8000000 in
set_option maxRecDepth 100000 in
theorem c_L_sum {l : Launch} (hlt : l.stackTraces = false) {D : va_G} {ca : Nat → ClassId} {b : Nat} {v0 : Nat} {v1 : Int32} {v2 : Nat} {M : Mem} {r : Mem × Int32} (hf : f_L_sum v0 v1 v2 M = some r) : CtW l yL_sum cL_sum 4 [(0, 9, 12, 13)] rm_L_sum D ca b [.ref v0, .int v1, .ref v2] M r 1 6 := by
  intro sz
  refine bodyh_start (Qc := fun A => cvI D ca false A r) (by decide +kernel) (Nat.le_of_ble_eq_true rfl) ?_
  intro p e s m args below meth c A hC htab hr hR ls hl
  obtain ⟨hx, hb, hml, hts, hown, hlocks, hXe, hA, hAb, hnm⟩ := id hC
  have hK := hXe.1
  have hl : lv_has ls 4 [(0, .ref v0), (1, .int v1), (2, .ref v2)] := hl
  unfold f_L_sum at hf
  refine lv_aload_n (pc := 0) hx hb dL_sum_0 rfl (lv_at hl 2 rfl) ?_
  refine lv_iconst (pc := 1) (v := (0 : Int32)) hx hb dL_sum_1 (by decide) ?_
  refine lv_aload_n (pc := 2) hx hb dL_sum_2 rfl (lv_at hl 0 rfl) ?_
  refine lv_iload_n (pc := 3) hx hb dL_sum_3 rfl (lv_at hl 1 rfl) ?_
  obtain ⟨hq, hf⟩ := gd_e hf
  refine rg_wI (pc := 4) hf hR hA (fun z hz => xn_V (κ := 7) (As := [.int v1]) (rest := [.int (0 : Int32), .ref v2]) hC hR rfl (by decide) hq (c_X7_sum hlt hz _) m_591 m_592 m_593 m_1 m_594 hd_X7_sum ⟨rfl, rfl, Nat.le_of_ble_eq_true rfl, Nat.le_of_ble_eq_true rfl⟩ rfl hl.1 rfl (Nat.le_of_ble_eq_true rfl) dL_sum_4 ⟨Nat.le_of_ble_eq_true rfl, Nat.le_of_ble_eq_true rfl⟩) (fun e3 M1 q9 ce H locs hf hR hce hcv hcl => ?_) (fun x2 M1 H locs hf hR => ?_)
  · by_cases he0 : e3 = 0
    · replace hf := it_t hf he0
      subst he0
      refine rg_catch (pc := 4) 0 hC htab [] ⟨0, 9, 12, 13⟩ [] rfl (by intro z hz; simp at hz) (by decide) (by decide) m_290 (by decide +kernel) hce hcv hcl ?_
      refine lv_astore_n (pc := 12) (lv' := [(3, .ref q9), (0, .ref v0), (1, .int v1), (2, .ref v2)]) hx hb dL_sum_12 rfl hl (by decide) rfl (fun ls hl => ?_)
      refine lv_iconst (pc := 13) (v := (1 : Int32)) hx hb dL_sum_13 (by decide) ?_
      exact rg_iret (pc := 14) hx hb hlocks hr hf hR dL_sum_14
    replace hf := it_f hf he0
    by_cases he1 : e3 = 1
    · replace hf := it_t hf he1
      exact nomatch hf
    replace hf := it_f hf he1
    by_cases he2 : e3 = 2
    · replace hf := it_t hf he2
      exact nomatch hf
    replace hf := it_f hf he2
    exact nomatch hf
  · skip
    refine lv_i2l (pc := 7) hx hb dL_sum_7 rfl ?_
    refine rg_last (pc := 8) hx hb hK hR dL_sum_8 hf (fun M4 H locs hf hR => ?_)
    refine lv_goto (pc := 9) (tgt := 15) hx hb dL_sum_9 (by decide) ?_
    refine lv_iconst (pc := 15) (v := (0 : Int32)) hx hb dL_sum_15 (by decide) ?_
    exact rg_iret (pc := 16) hx hb hlocks hr hf hR dL_sum_16
-- L_momentum
def f_L_momentum (v0 : Nat) (v1 : Int32) (v2 : Nat) (M : Mem) : Option (Mem × Int32) := gd (M.1 v0 = 7) <| bc (f_X7_momentum v0 v1 M) (fun M1 x2 => gd (M1.1 v2 = 15 ∧ vi_ (0 : Int32) (mm_N M1 v2)) <| lt_ (ms_l M1 v2 ((0 : Int32)).toNatClampNeg x2) fun M4 => some (M4, (0 : Int32))) (fun M1 e3 => if e3 = 0 then (some (M1, (1 : Int32))) else if e3 = 1 then (none) else if e3 = 2 then (none) else none)
abbrev rm_L_momentum : Room := { frames := 7, cells := 1, slots := 6, locals := 111 }
theorem hd_L_momentum : yL_momentum.cls ≠ "java/lang/invoke/MethodHandle" ∧ yL_momentum.cls ≠ "java/lang/invoke/VarHandle" ∧ (parseMethodDescriptor yL_momentum.desc).map (fun d => d.parameters.length) = some 3 := by decide +kernel
set_option maxHeartbeats 8000000 in
set_option maxRecDepth 100000 in
theorem c_L_momentum {l : Launch} (hlt : l.stackTraces = false) {D : va_G} {ca : Nat → ClassId} {b : Nat} {v0 : Nat} {v1 : Int32} {v2 : Nat} {M : Mem} {r : Mem × Int32} (hf : f_L_momentum v0 v1 v2 M = some r) : CtW l yL_momentum cL_momentum 4 [(0, 8, 11, 13)] rm_L_momentum D ca b [.ref v0, .int v1, .ref v2] M r 1 6 := by
  intro sz
  refine bodyh_start (Qc := fun A => cvI D ca false A r) (by decide +kernel) (Nat.le_of_ble_eq_true rfl) ?_
  intro p e s m args below meth c A hC htab hr hR ls hl
  obtain ⟨hx, hb, hml, hts, hown, hlocks, hXe, hA, hAb, hnm⟩ := id hC
  have hK := hXe.1
  have hl : lv_has ls 4 [(0, .ref v0), (1, .int v1), (2, .ref v2)] := hl
  unfold f_L_momentum at hf
  refine lv_aload_n (pc := 0) hx hb dL_momentum_0 rfl (lv_at hl 2 rfl) ?_
  refine lv_iconst (pc := 1) (v := (0 : Int32)) hx hb dL_momentum_1 (by decide) ?_
  refine lv_aload_n (pc := 2) hx hb dL_momentum_2 rfl (lv_at hl 0 rfl) ?_
  refine lv_iload_n (pc := 3) hx hb dL_momentum_3 rfl (lv_at hl 1 rfl) ?_
  obtain ⟨hq, hf⟩ := gd_e hf
  refine rg_wL (pc := 4) hf hR hA (fun z hz => xn_V (κ := 7) (As := [.int v1]) (rest := [.int (0 : Int32), .ref v2]) hC hR rfl (by decide) hq (c_X7_momentum hlt hz _) m_603 m_604 m_605 m_1 m_606 hd_X7_momentum ⟨rfl, rfl, Nat.le_of_ble_eq_true rfl, Nat.le_of_ble_eq_true rfl⟩ rfl hl.1 rfl (Nat.le_of_ble_eq_true rfl) dL_momentum_4 ⟨Nat.le_of_ble_eq_true rfl, Nat.le_of_ble_eq_true rfl⟩) (fun e3 M1 q9 ce H locs hf hR hce hcv hcl => ?_) (fun x2 M1 H locs hf hR => ?_)
  · by_cases he0 : e3 = 0
    · replace hf := it_t hf he0
      subst he0
      refine rg_catch (pc := 4) 0 hC htab [] ⟨0, 8, 11, 13⟩ [] rfl (by intro z hz; simp at hz) (by decide) (by decide) m_290 (by decide +kernel) hce hcv hcl ?_
      refine lv_astore_n (pc := 11) (lv' := [(3, .ref q9), (0, .ref v0), (1, .int v1), (2, .ref v2)]) hx hb dL_momentum_11 rfl hl (by decide) rfl (fun ls hl => ?_)
      refine lv_iconst (pc := 12) (v := (1 : Int32)) hx hb dL_momentum_12 (by decide) ?_
      exact rg_iret (pc := 13) hx hb hlocks hr hf hR dL_momentum_13
    replace hf := it_f hf he0
    by_cases he1 : e3 = 1
    · replace hf := it_t hf he1
      exact nomatch hf
    replace hf := it_f hf he1
    by_cases he2 : e3 = 2
    · replace hf := it_t hf he2
      exact nomatch hf
    replace hf := it_f hf he2
    exact nomatch hf
  · skip
    refine rg_last (pc := 7) hx hb hK hR dL_momentum_7 hf (fun M4 H locs hf hR => ?_)
    refine lv_goto (pc := 8) (tgt := 14) hx hb dL_momentum_8 (by decide) ?_
    refine lv_iconst (pc := 14) (v := (0 : Int32)) hx hb dL_momentum_14 (by decide) ?_
    exact rg_iret (pc := 15) hx hb hlocks hr hf hR dL_momentum_15
-- L_resonance
def f_L_resonance (v0 : Nat) (v1 : Int32) (v2 : Int32) (v3 : Nat) (M : Mem) : Option (Mem × Int32) := gd (M.1 v0 = 7) <| bc (f_X7_resonance v0 v1 v2 M) (fun M1 x2 => gd (M1.1 v3 = 15 ∧ vi_ (0 : Int32) (mm_N M1 v3)) <| lt_ (ms_l M1 v3 ((0 : Int32)).toNatClampNeg (x2).toInt64) fun M4 => some (M4, (0 : Int32))) (fun M1 e3 => if e3 = 0 then (some (M1, (2 : Int32))) else if e3 = 1 then (none) else if e3 = 2 then (some (M1, (1 : Int32))) else none)
abbrev rm_L_resonance : Room := { frames := 9, cells := 2, slots := 12, locals := 154 }
theorem hd_L_resonance : yL_resonance.cls ≠ "java/lang/invoke/MethodHandle" ∧ yL_resonance.cls ≠ "java/lang/invoke/VarHandle" ∧ (parseMethodDescriptor yL_resonance.desc).map (fun d => d.parameters.length) = some 4 := by decide +kernel
set_option maxHeartbeats 8000000 in
set_option maxRecDepth 100000 in
theorem c_L_resonance {l : Launch} (hlt : l.stackTraces = false) {D : va_G} {ca : Nat → ClassId} {b : Nat} {v0 : Nat} {v1 : Int32} {v2 : Int32} {v3 : Nat} {M : Mem} {r : Mem × Int32} (hf : f_L_resonance v0 v1 v2 v3 M = some r) : CtW l yL_resonance cL_resonance 5 [(0, 10, 13, 39), (0, 10, 17, 13)] rm_L_resonance D ca b [.ref v0, .int v1, .int v2, .ref v3] M r 2 12 := by
  intro sz
  refine bodyh_start (Qc := fun A => cvI D ca false A r) (by decide +kernel) (Nat.le_of_ble_eq_true rfl) ?_
  intro p e s m args below meth c A hC htab hr hR ls hl
  obtain ⟨hx, hb, hml, hts, hown, hlocks, hXe, hA, hAb, hnm⟩ := id hC
  have hK := hXe.1
  have hl : lv_has ls 5 [(0, .ref v0), (1, .int v1), (2, .int v2), (3, .ref v3)] := hl
  unfold f_L_resonance at hf
  refine lv_aload_n (pc := 0) hx hb dL_resonance_0 rfl (lv_at hl 3 rfl) ?_
  refine lv_iconst (pc := 1) (v := (0 : Int32)) hx hb dL_resonance_1 (by decide) ?_
  refine lv_aload_n (pc := 2) hx hb dL_resonance_2 rfl (lv_at hl 0 rfl) ?_
  refine lv_iload_n (pc := 3) hx hb dL_resonance_3 rfl (lv_at hl 1 rfl) ?_
  refine lv_iload_n (pc := 4) hx hb dL_resonance_4 rfl (lv_at hl 2 rfl) ?_
  obtain ⟨hq, hf⟩ := gd_e hf
  refine rg_wI (pc := 5) hf hR hA (fun z hz => xn_V (κ := 7) (As := [.int v1, .int v2]) (rest := [.int (0 : Int32), .ref v3]) hC hR rfl (by decide) hq (c_X7_resonance hlt hz _) m_614 m_615 m_616 m_1 m_617 hd_X7_resonance ⟨rfl, rfl, Nat.le_of_ble_eq_true rfl, Nat.le_of_ble_eq_true rfl⟩ rfl hl.1 rfl (Nat.le_of_ble_eq_true rfl) dL_resonance_5 ⟨Nat.le_of_ble_eq_true rfl, Nat.le_of_ble_eq_true rfl⟩) (fun e3 M1 q9 ce H locs hf hR hce hcv hcl => ?_) (fun x2 M1 H locs hf hR => ?_)
  · by_cases he0 : e3 = 0
    · replace hf := it_t hf he0
      subst he0
      refine rg_catch (pc := 5) 0 hC htab [⟨0, 10, 13, 39⟩] ⟨0, 10, 17, 13⟩ [] rfl (by intro z hz; simp at hz; rcases hz with rfl <;> first | exact Or.inr ⟨by decide, _, m_521, by decide +kernel⟩) (by decide) (by decide) m_290 (by decide +kernel) hce hcv hcl ?_
      refine lv_astore (pc := 17) (lv' := [(4, .ref q9), (0, .ref v0), (1, .int v1), (2, .int v2), (3, .ref v3)]) hx hb dL_resonance_17 hl (by decide) rfl (fun ls hl => ?_)
      refine lv_iconst (pc := 19) (v := (2 : Int32)) hx hb dL_resonance_19 (by decide) ?_
      exact rg_iret (pc := 20) hx hb hlocks hr hf hR dL_resonance_20
    replace hf := it_f hf he0
    by_cases he1 : e3 = 1
    · replace hf := it_t hf he1
      exact nomatch hf
    replace hf := it_f hf he1
    by_cases he2 : e3 = 2
    · replace hf := it_t hf he2
      subst he2
      refine rg_catch (pc := 5) 2 hC htab [] ⟨0, 10, 13, 39⟩ [⟨0, 10, 17, 13⟩] rfl (by intro z hz; simp at hz) (by decide) (by decide) m_521 (by decide +kernel) hce hcv hcl ?_
      refine lv_astore (pc := 13) (lv' := [(4, .ref q9), (0, .ref v0), (1, .int v1), (2, .int v2), (3, .ref v3)]) hx hb dL_resonance_13 hl (by decide) rfl (fun ls hl => ?_)
      refine lv_iconst (pc := 15) (v := (1 : Int32)) hx hb dL_resonance_15 (by decide) ?_
      exact rg_iret (pc := 16) hx hb hlocks hr hf hR dL_resonance_16
    replace hf := it_f hf he2
    exact nomatch hf
  · skip
    refine lv_i2l (pc := 8) hx hb dL_resonance_8 rfl ?_
    refine rg_last (pc := 9) hx hb hK hR dL_resonance_9 hf (fun M4 H locs hf hR => ?_)
    refine lv_goto (pc := 10) (tgt := 21) hx hb dL_resonance_10 (by decide) ?_
    refine lv_iconst (pc := 21) (v := (0 : Int32)) hx hb dL_resonance_21 (by decide) ?_
    exact rg_iret (pc := 22) hx hb hlocks hr hf hR dL_resonance_22
-- L_gap
def f_L_gap (v0 : Nat) (v1 : Int32) (v2 : Int32) (v3 : Nat) (M : Mem) : Option (Mem × Int32) := gd (M.1 v0 = 7) <| bc (f_X7_gap v0 v1 v2 M) (fun M1 x2 => gd (M1.1 v3 = 15 ∧ vi_ (0 : Int32) (mm_N M1 v3)) <| lt_ (ms_l M1 v3 ((0 : Int32)).toNatClampNeg (x2).toInt64) fun M4 => some (M4, (0 : Int32))) (fun M1 e3 => if e3 = 0 then (some (M1, (2 : Int32))) else if e3 = 1 then (none) else if e3 = 2 then (some (M1, (1 : Int32))) else none)
abbrev rm_L_gap : Room := { frames := 8, cells := 2, slots := 12, locals := 133 }
theorem hd_L_gap : yL_gap.cls ≠ "java/lang/invoke/MethodHandle" ∧ yL_gap.cls ≠ "java/lang/invoke/VarHandle" ∧ (parseMethodDescriptor yL_gap.desc).map (fun d => d.parameters.length) = some 4 := by decide +kernel
set_option maxHeartbeats 8000000 in
set_option maxRecDepth 100000 in
theorem c_L_gap {l : Launch} (hlt : l.stackTraces = false) {D : va_G} {ca : Nat → ClassId} {b : Nat} {v0 : Nat} {v1 : Int32} {v2 : Int32} {v3 : Nat} {M : Mem} {r : Mem × Int32} (hf : f_L_gap v0 v1 v2 v3 M = some r) : CtW l yL_gap cL_gap 5 [(0, 10, 13, 39), (0, 10, 17, 13)] rm_L_gap D ca b [.ref v0, .int v1, .int v2, .ref v3] M r 2 12 := by
  intro sz
  refine bodyh_start (Qc := fun A => cvI D ca false A r) (by decide +kernel) (Nat.le_of_ble_eq_true rfl) ?_
  intro p e s m args below meth c A hC htab hr hR ls hl
  obtain ⟨hx, hb, hml, hts, hown, hlocks, hXe, hA, hAb, hnm⟩ := id hC
  have hK := hXe.1
  have hl : lv_has ls 5 [(0, .ref v0), (1, .int v1), (2, .int v2), (3, .ref v3)] := hl
  unfold f_L_gap at hf
  refine lv_aload_n (pc := 0) hx hb dL_gap_0 rfl (lv_at hl 3 rfl) ?_
  refine lv_iconst (pc := 1) (v := (0 : Int32)) hx hb dL_gap_1 (by decide) ?_
  refine lv_aload_n (pc := 2) hx hb dL_gap_2 rfl (lv_at hl 0 rfl) ?_
  refine lv_iload_n (pc := 3) hx hb dL_gap_3 rfl (lv_at hl 1 rfl) ?_
  refine lv_iload_n (pc := 4) hx hb dL_gap_4 rfl (lv_at hl 2 rfl) ?_
  obtain ⟨hq, hf⟩ := gd_e hf
  refine rg_wI (pc := 5) hf hR hA (fun z hz => xn_V (κ := 7) (As := [.int v1, .int v2]) (rest := [.int (0 : Int32), .ref v3]) hC hR rfl (by decide) hq (c_X7_gap hlt hz _) m_628 m_629 m_630 m_1 m_631 hd_X7_gap ⟨rfl, rfl, Nat.le_of_ble_eq_true rfl, Nat.le_of_ble_eq_true rfl⟩ rfl hl.1 rfl (Nat.le_of_ble_eq_true rfl) dL_gap_5 ⟨Nat.le_of_ble_eq_true rfl, Nat.le_of_ble_eq_true rfl⟩) (fun e3 M1 q9 ce H locs hf hR hce hcv hcl => ?_) (fun x2 M1 H locs hf hR => ?_)
  · by_cases he0 : e3 = 0
    · replace hf := it_t hf he0
      subst he0
      refine rg_catch (pc := 5) 0 hC htab [⟨0, 10, 13, 39⟩] ⟨0, 10, 17, 13⟩ [] rfl (by intro z hz; simp at hz; rcases hz with rfl <;> first | exact Or.inr ⟨by decide, _, m_521, by decide +kernel⟩) (by decide) (by decide) m_290 (by decide +kernel) hce hcv hcl ?_
      refine lv_astore (pc := 17) (lv' := [(4, .ref q9), (0, .ref v0), (1, .int v1), (2, .int v2), (3, .ref v3)]) hx hb dL_gap_17 hl (by decide) rfl (fun ls hl => ?_)
      refine lv_iconst (pc := 19) (v := (2 : Int32)) hx hb dL_gap_19 (by decide) ?_
      exact rg_iret (pc := 20) hx hb hlocks hr hf hR dL_gap_20
    replace hf := it_f hf he0
    by_cases he1 : e3 = 1
    · replace hf := it_t hf he1
      exact nomatch hf
    replace hf := it_f hf he1
    by_cases he2 : e3 = 2
    · replace hf := it_t hf he2
      subst he2
      refine rg_catch (pc := 5) 2 hC htab [] ⟨0, 10, 13, 39⟩ [⟨0, 10, 17, 13⟩] rfl (by intro z hz; simp at hz) (by decide) (by decide) m_521 (by decide +kernel) hce hcv hcl ?_
      refine lv_astore (pc := 13) (lv' := [(4, .ref q9), (0, .ref v0), (1, .int v1), (2, .int v2), (3, .ref v3)]) hx hb dL_gap_13 hl (by decide) rfl (fun ls hl => ?_)
      refine lv_iconst (pc := 15) (v := (1 : Int32)) hx hb dL_gap_15 (by decide) ?_
      exact rg_iret (pc := 16) hx hb hlocks hr hf hR dL_gap_16
    replace hf := it_f hf he2
    exact nomatch hf
  · skip
    refine lv_i2l (pc := 8) hx hb dL_gap_8 rfl ?_
    refine rg_last (pc := 9) hx hb hK hR dL_gap_9 hf (fun M4 H locs hf hR => ?_)
    refine lv_goto (pc := 10) (tgt := 21) hx hb dL_gap_10 (by decide) ?_
    refine lv_iconst (pc := 21) (v := (0 : Int32)) hx hb dL_gap_21 (by decide) ?_
    exact rg_iret (pc := 22) hx hb hlocks hr hf hR dL_gap_22
-- L_framed
def f_L_framed (v0 : Nat) (v1 : Int32) (v2 : Int32) (v3 : Nat) (M : Mem) : Option (Mem × Int32) := gd (M.1 v0 = 7) <| bc (f_X7_framed v0 v1 v2 M) (fun M1 x2 => gd (M1.1 v3 = 15 ∧ vi_ (0 : Int32) (mm_N M1 v3)) <| lt_ (ms_l M1 v3 ((0 : Int32)).toNatClampNeg (x2).toInt64) fun M4 => some (M4, (0 : Int32))) (fun M1 e3 => if e3 = 0 then (some (M1, (2 : Int32))) else if e3 = 1 then (none) else if e3 = 2 then (some (M1, (1 : Int32))) else none)
abbrev rm_L_framed : Room := { frames := 9, cells := 2, slots := 12, locals := 154 }
theorem hd_L_framed : yL_framed.cls ≠ "java/lang/invoke/MethodHandle" ∧ yL_framed.cls ≠ "java/lang/invoke/VarHandle" ∧ (parseMethodDescriptor yL_framed.desc).map (fun d => d.parameters.length) = some 4 := by decide +kernel
set_option maxHeartbeats 8000000 in
set_option maxRecDepth 100000 in
theorem c_L_framed {l : Launch} (hlt : l.stackTraces = false) {D : va_G} {ca : Nat → ClassId} {b : Nat} {v0 : Nat} {v1 : Int32} {v2 : Int32} {v3 : Nat} {M : Mem} {r : Mem × Int32} (hf : f_L_framed v0 v1 v2 v3 M = some r) : CtW l yL_framed cL_framed 5 [(0, 10, 13, 39), (0, 10, 17, 13)] rm_L_framed D ca b [.ref v0, .int v1, .int v2, .ref v3] M r 2 12 := by
  intro sz
  refine bodyh_start (Qc := fun A => cvI D ca false A r) (by decide +kernel) (Nat.le_of_ble_eq_true rfl) ?_
  intro p e s m args below meth c A hC htab hr hR ls hl
  obtain ⟨hx, hb, hml, hts, hown, hlocks, hXe, hA, hAb, hnm⟩ := id hC
  have hK := hXe.1
  have hl : lv_has ls 5 [(0, .ref v0), (1, .int v1), (2, .int v2), (3, .ref v3)] := hl
  unfold f_L_framed at hf
  refine lv_aload_n (pc := 0) hx hb dL_framed_0 rfl (lv_at hl 3 rfl) ?_
  refine lv_iconst (pc := 1) (v := (0 : Int32)) hx hb dL_framed_1 (by decide) ?_
  refine lv_aload_n (pc := 2) hx hb dL_framed_2 rfl (lv_at hl 0 rfl) ?_
  refine lv_iload_n (pc := 3) hx hb dL_framed_3 rfl (lv_at hl 1 rfl) ?_
  refine lv_iload_n (pc := 4) hx hb dL_framed_4 rfl (lv_at hl 2 rfl) ?_
  obtain ⟨hq, hf⟩ := gd_e hf
  refine rg_wI (pc := 5) hf hR hA (fun z hz => xn_V (κ := 7) (As := [.int v1, .int v2]) (rest := [.int (0 : Int32), .ref v3]) hC hR rfl (by decide) hq (c_X7_framed hlt hz _) m_640 m_641 m_642 m_1 m_643 hd_X7_framed ⟨rfl, rfl, Nat.le_of_ble_eq_true rfl, Nat.le_of_ble_eq_true rfl⟩ rfl hl.1 rfl (Nat.le_of_ble_eq_true rfl) dL_framed_5 ⟨Nat.le_of_ble_eq_true rfl, Nat.le_of_ble_eq_true rfl⟩) (fun e3 M1 q9 ce H locs hf hR hce hcv hcl => ?_) (fun x2 M1 H locs hf hR => ?_)
  · by_cases he0 : e3 = 0
    · replace hf := it_t hf he0
      subst he0
      refine rg_catch (pc := 5) 0 hC htab [⟨0, 10, 13, 39⟩] ⟨0, 10, 17, 13⟩ [] rfl (by intro z hz; simp at hz; rcases hz with rfl <;> first | exact Or.inr ⟨by decide, _, m_521, by decide +kernel⟩) (by decide) (by decide) m_290 (by decide +kernel) hce hcv hcl ?_
      refine lv_astore (pc := 17) (lv' := [(4, .ref q9), (0, .ref v0), (1, .int v1), (2, .int v2), (3, .ref v3)]) hx hb dL_framed_17 hl (by decide) rfl (fun ls hl => ?_)
      refine lv_iconst (pc := 19) (v := (2 : Int32)) hx hb dL_framed_19 (by decide) ?_
      exact rg_iret (pc := 20) hx hb hlocks hr hf hR dL_framed_20
    replace hf := it_f hf he0
    by_cases he1 : e3 = 1
    · replace hf := it_t hf he1
      exact nomatch hf
    replace hf := it_f hf he1
    by_cases he2 : e3 = 2
    · replace hf := it_t hf he2
      subst he2
      refine rg_catch (pc := 5) 2 hC htab [] ⟨0, 10, 13, 39⟩ [⟨0, 10, 17, 13⟩] rfl (by intro z hz; simp at hz) (by decide) (by decide) m_521 (by decide +kernel) hce hcv hcl ?_
      refine lv_astore (pc := 13) (lv' := [(4, .ref q9), (0, .ref v0), (1, .int v1), (2, .int v2), (3, .ref v3)]) hx hb dL_framed_13 hl (by decide) rfl (fun ls hl => ?_)
      refine lv_iconst (pc := 15) (v := (1 : Int32)) hx hb dL_framed_15 (by decide) ?_
      exact rg_iret (pc := 16) hx hb hlocks hr hf hR dL_framed_16
    replace hf := it_f hf he2
    exact nomatch hf
  · skip
    refine lv_i2l (pc := 8) hx hb dL_framed_8 rfl ?_
    refine rg_last (pc := 9) hx hb hK hR dL_framed_9 hf (fun M4 H locs hf hR => ?_)
    refine lv_goto (pc := 10) (tgt := 21) hx hb dL_framed_10 (by decide) ?_
    refine lv_iconst (pc := 21) (v := (0 : Int32)) hx hb dL_framed_21 (by decide) ?_
    exact rg_iret (pc := 22) hx hb hlocks hr hf hR dL_framed_22
-- L_holds
def f_L_holds_b16  (s0 : Int64) (s1 : Int32) (s2 : Nat) (M : Mem) : Option (Mem × Int32) := gd (M.1 s2 = 15 ∧ vi_ s1 (mm_N M s2)) <| lt_ (ms_l M s2 (s1).toNatClampNeg s0) fun M1 => some (M1, (0 : Int32))
def f_L_holds (v0 : Nat) (v1 : Int32) (v2 : Int32) (v3 : Nat) (M : Mem) : Option (Mem × Int32) := gd (M.1 v0 = 7) <| bc (f_X7_holds v0 v1 v2 M) (fun M2 x3 => if x3 = 0 then (f_L_holds_b16 (0 : Int64) (0 : Int32) v3 M2) else (f_L_holds_b16 (1 : Int64) (0 : Int32) v3 M2)) (fun M2 e4 => if e4 = 0 then (none) else if e4 = 1 then (none) else if e4 = 2 then (some (M2, (1 : Int32))) else none)
abbrev rm_L_holds : Room := { frames := 8, cells := 2, slots := 12, locals := 135 }
theorem hd_L_holds : yL_holds.cls ≠ "java/lang/invoke/MethodHandle" ∧ yL_holds.cls ≠ "java/lang/invoke/VarHandle" ∧ (parseMethodDescriptor yL_holds.desc).map (fun d => d.parameters.length) = some 4 := by decide +kernel
set_option maxHeartbeats 8000000 in
set_option maxRecDepth 100000 in
theorem c_L_holds {l : Launch} (hlt : l.stackTraces = false) {D : va_G} {ca : Nat → ClassId} {b : Nat} {v0 : Nat} {v1 : Int32} {v2 : Int32} {v3 : Nat} {M : Mem} {r : Mem × Int32} (hf : f_L_holds v0 v1 v2 v3 M = some r) : CtW l yL_holds cL_holds 5 [(0, 17, 20, 39)] rm_L_holds D ca b [.ref v0, .int v1, .int v2, .ref v3] M r 2 12 := by
  intro sz
  refine bodyh_start (Qc := fun A => cvI D ca false A r) (by decide +kernel) (Nat.le_of_ble_eq_true rfl) ?_
  intro p e s m args below meth c A hC htab hr hR ls hl
  obtain ⟨hx, hb, hml, hts, hown, hlocks, hXe, hA, hAb, hnm⟩ := id hC
  have hK := hXe.1
  have hl : lv_has ls 5 [(0, .ref v0), (1, .int v1), (2, .int v2), (3, .ref v3)] := hl
  have hB16 : ∀  (s0 : Int64) (s1 : Int32) (s2 : Nat) (M : Mem) (H : Heap) (locs : List Loc) (ls : Array Slot), f_L_holds_b16  s0 s1 s2 M = some r → Hp D ca false A s M H locs → lv_has ls 5 [] → W p l e rm_L_holds s m args below meth c H locs 2 12 (MQ below (cvI D ca false A r) args s 2 12 A) (F0 m 16 ls [.long s0, .int s1, .ref s2]) := by
    intro  s0 s1 s2 M H locs ls hf hR hl
    unfold f_L_holds_b16 at hf
    refine rg_last (pc := 16) hx hb hK hR dL_holds_16 hf (fun M1 H locs hf hR => ?_)
    refine lv_goto (pc := 17) (tgt := 24) hx hb dL_holds_17 (by decide) ?_
    refine lv_iconst (pc := 24) (v := (0 : Int32)) hx hb dL_holds_24 (by decide) ?_
    exact rg_iret (pc := 25) hx hb hlocks hr hf hR dL_holds_25
  unfold f_L_holds at hf
  refine lv_aload_n (pc := 0) hx hb dL_holds_0 rfl (lv_at hl 3 rfl) ?_
  refine lv_iconst (pc := 1) (v := (0 : Int32)) hx hb dL_holds_1 (by decide) ?_
  refine lv_aload_n (pc := 2) hx hb dL_holds_2 rfl (lv_at hl 0 rfl) ?_
  refine lv_iload_n (pc := 3) hx hb dL_holds_3 rfl (lv_at hl 1 rfl) ?_
  refine lv_iload_n (pc := 4) hx hb dL_holds_4 rfl (lv_at hl 2 rfl) ?_
  obtain ⟨hq, hf⟩ := gd_e hf
  refine rg_wI (pc := 5) hf hR hA (fun z hz => xn_V (κ := 7) (As := [.int v1, .int v2]) (rest := [.int (0 : Int32), .ref v3]) hC hR rfl (by decide) hq (c_X7_holds hlt hz _) m_647 m_648 m_649 m_1 m_650 hd_X7_holds ⟨rfl, rfl, Nat.le_of_ble_eq_true rfl, Nat.le_of_ble_eq_true rfl⟩ rfl hl.1 rfl (Nat.le_of_ble_eq_true rfl) dL_holds_5 ⟨Nat.le_of_ble_eq_true rfl, Nat.le_of_ble_eq_true rfl⟩) (fun e4 M2 q9 ce H locs hf hR hce hcv hcl => ?_) (fun x3 M2 H locs hf hR => ?_)
  · by_cases he0 : e4 = 0
    · replace hf := it_t hf he0
      exact nomatch hf
    replace hf := it_f hf he0
    by_cases he1 : e4 = 1
    · replace hf := it_t hf he1
      exact nomatch hf
    replace hf := it_f hf he1
    by_cases he2 : e4 = 2
    · replace hf := it_t hf he2
      subst he2
      refine rg_catch (pc := 5) 2 hC htab [] ⟨0, 17, 20, 39⟩ [] rfl (by intro z hz; simp at hz) (by decide) (by decide) m_521 (by decide +kernel) hce hcv hcl ?_
      refine lv_astore (pc := 20) (lv' := [(4, .ref q9), (0, .ref v0), (1, .int v1), (2, .int v2), (3, .ref v3)]) hx hb dL_holds_20 hl (by decide) rfl (fun ls hl => ?_)
      refine lv_iconst (pc := 22) (v := (1 : Int32)) hx hb dL_holds_22 (by decide) ?_
      exact rg_iret (pc := 23) hx hb hlocks hr hf hR dL_holds_23
    replace hf := it_f hf he2
    exact nomatch hf
  · skip
    refine lv_if_eq (pc := 8) (tgt := 15) hx hb dL_holds_8 (by decide) (fun hc => ?_) (fun hc => ?_)
    · replace hf := it_t hf hc
      refine lv_lconst (pc := 15) (v := (0 : Int64)) hx hb dL_holds_15 (by decide) ?_
      exact hB16 (0 : Int64) (0 : Int32) v3 M2 _ _ _ hf hR (lv_sub hl [] rfl)
    · replace hf := it_f hf hc
      refine lv_lconst (pc := 11) (v := (1 : Int64)) hx hb dL_holds_11 (by decide) ?_
      refine lv_goto (pc := 12) (tgt := 16) hx hb dL_holds_12 (by decide) ?_
      exact hB16 (1 : Int64) (0 : Int32) v3 M2 _ _ _ hf hR (lv_sub hl [] rfl)
-- L_disputes
def f_L_disputes (v0 : Nat) (v1 : Int32) (v2 : Nat) (M : Mem) : Option (Mem × Int32) := gd (M.1 v0 = 7) <| bc (f_X7_disputes v0 v1 M) (fun M1 x2 => gd (M1.1 v2 = 15 ∧ vi_ (0 : Int32) (mm_N M1 v2)) <| lt_ (ms_l M1 v2 ((0 : Int32)).toNatClampNeg (x2).toInt64) fun M4 => some (M4, (0 : Int32))) (fun M1 e3 => if e3 = 0 then (none) else if e3 = 1 then (none) else if e3 = 2 then (some (M1, (1 : Int32))) else none)
abbrev rm_L_disputes : Room := { frames := 8, cells := 1, slots := 6, locals := 136 }
theorem hd_L_disputes : yL_disputes.cls ≠ "java/lang/invoke/MethodHandle" ∧ yL_disputes.cls ≠ "java/lang/invoke/VarHandle" ∧ (parseMethodDescriptor yL_disputes.desc).map (fun d => d.parameters.length) = some 3 := by decide +kernel
set_option maxHeartbeats 8000000 in
set_option maxRecDepth 100000 in
theorem c_L_disputes {l : Launch} (hlt : l.stackTraces = false) {D : va_G} {ca : Nat → ClassId} {b : Nat} {v0 : Nat} {v1 : Int32} {v2 : Nat} {M : Mem} {r : Mem × Int32} (hf : f_L_disputes v0 v1 v2 M = some r) : CtW l yL_disputes cL_disputes 4 [(0, 9, 12, 39)] rm_L_disputes D ca b [.ref v0, .int v1, .ref v2] M r 1 6 := by
  intro sz
  refine bodyh_start (Qc := fun A => cvI D ca false A r) (by decide +kernel) (Nat.le_of_ble_eq_true rfl) ?_
  intro p e s m args below meth c A hC htab hr hR ls hl
  obtain ⟨hx, hb, hml, hts, hown, hlocks, hXe, hA, hAb, hnm⟩ := id hC
  have hK := hXe.1
  have hl : lv_has ls 4 [(0, .ref v0), (1, .int v1), (2, .ref v2)] := hl
  unfold f_L_disputes at hf
  refine lv_aload_n (pc := 0) hx hb dL_disputes_0 rfl (lv_at hl 2 rfl) ?_
  refine lv_iconst (pc := 1) (v := (0 : Int32)) hx hb dL_disputes_1 (by decide) ?_
  refine lv_aload_n (pc := 2) hx hb dL_disputes_2 rfl (lv_at hl 0 rfl) ?_
  refine lv_iload_n (pc := 3) hx hb dL_disputes_3 rfl (lv_at hl 1 rfl) ?_
  obtain ⟨hq, hf⟩ := gd_e hf
  refine rg_wI (pc := 4) hf hR hA (fun z hz => xn_V (κ := 7) (As := [.int v1]) (rest := [.int (0 : Int32), .ref v2]) hC hR rfl (by decide) hq (c_X7_disputes hlt hz _) m_658 m_659 m_660 m_1 m_661 hd_X7_disputes ⟨rfl, rfl, Nat.le_of_ble_eq_true rfl, Nat.le_of_ble_eq_true rfl⟩ rfl hl.1 rfl (Nat.le_of_ble_eq_true rfl) dL_disputes_4 ⟨Nat.le_of_ble_eq_true rfl, Nat.le_of_ble_eq_true rfl⟩) (fun e3 M1 q9 ce H locs hf hR hce hcv hcl => ?_) (fun x2 M1 H locs hf hR => ?_)
  · by_cases he0 : e3 = 0
    · replace hf := it_t hf he0
      exact nomatch hf
    replace hf := it_f hf he0
    by_cases he1 : e3 = 1
    · replace hf := it_t hf he1
      exact nomatch hf
    replace hf := it_f hf he1
    by_cases he2 : e3 = 2
    · replace hf := it_t hf he2
      subst he2
      refine rg_catch (pc := 4) 2 hC htab [] ⟨0, 9, 12, 39⟩ [] rfl (by intro z hz; simp at hz) (by decide) (by decide) m_521 (by decide +kernel) hce hcv hcl ?_
      refine lv_astore_n (pc := 12) (lv' := [(3, .ref q9), (0, .ref v0), (1, .int v1), (2, .ref v2)]) hx hb dL_disputes_12 rfl hl (by decide) rfl (fun ls hl => ?_)
      refine lv_iconst (pc := 13) (v := (1 : Int32)) hx hb dL_disputes_13 (by decide) ?_
      exact rg_iret (pc := 14) hx hb hlocks hr hf hR dL_disputes_14
    replace hf := it_f hf he2
    exact nomatch hf
  · skip
    refine lv_i2l (pc := 7) hx hb dL_disputes_7 rfl ?_
    refine rg_last (pc := 8) hx hb hK hR dL_disputes_8 hf (fun M4 H locs hf hR => ?_)
    refine lv_goto (pc := 9) (tgt := 15) hx hb dL_disputes_9 (by decide) ?_
    refine lv_iconst (pc := 15) (v := (0 : Int32)) hx hb dL_disputes_15 (by decide) ?_
    exact rg_iret (pc := 16) hx hb hlocks hr hf hR dL_disputes_16
