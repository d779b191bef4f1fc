-- X3_darken
def f_X3_darken_b46 (k10 : Nat → Int32 → Int32 → Mem → Option (Mem)) (v1 : Nat) (v2 : Int32) (v3 : Int32) (M : Mem) : Option (Mem) := lt_ (v3 + (1 : Int32)) fun x1 => k10 v1 v2 x1 M
def f_X3_darken_b10 (k10 : Nat → Int32 → Int32 → Mem → Option (Mem)) (v1 : Nat) (v2 : Int32) (v3 : Int32) (M : Mem) : Option (Mem) := if v2 ≤ v3 then (some M) else (gd (M.1 v1 = 13 ∧ vi_ v3 (mm_N M v1)) <| rd (mm_r M v1 (v3).toNatClampNeg) fun a2 => gd (M.1 a2 = 2) <| if (mm_i M a2 5) = 0 then (f_X3_darken_b46 k10 v1 v2 v3 M) else (gd (M.1 a2 = 2) <| gd (M.1 a2 = 2) <| lt_ (ms_i M a2 4 (if (1000 : Int32) < ((mm_i M a2 4) + (1 : Int32)) then (1000 : Int32) else ((mm_i M a2 4) + (1 : Int32)))) fun M3 => f_X3_darken_b46 k10 v1 v2 v3 M3))
def f_X3_darken_L10  : Nat → Nat → Int32 → Int32 → Mem → Option (Mem)
  | 0 => fun _ _ _ _ => none
  | n + 1 => f_X3_darken_b10  (f_X3_darken_L10  n)
def f_X3_darken (v0 : Nat) (M : Mem) : Option (Mem) := gd (M.1 v0 = 3) <| rd (mm_r M v0 2) fun a4 => gd (M.1 a4 = 13) <| lt_ ((nI (mm_N M a4))) fun x5 => f_X3_darken_L10 200 a4 x5 (0 : Int32) M
abbrev rm_X3_darken : Room := { frames := 1, cells := 0, slots := 0, locals := 24 }
theorem hd_X3_darken : yX3_darken.cls ≠ "java/lang/invoke/MethodHandle" ∧ yX3_darken.cls ≠ "java/lang/invoke/VarHandle" ∧ (parseMethodDescriptor yX3_darken.desc).map (fun d => d.parameters.length) = some 0 := by decide +kernel
set_option maxHeartbeats 8000000 in
set_option maxRecDepth 100000 in
theorem c_X3_darken {l : Launch} {D : va_G} {ca : Nat → ClassId} {b : Nat} {nx : Bool} {v0 : Nat} {M : Mem} {r : Mem} (hf : f_X3_darken v0 M = some r) : CtV l yX3_darken cX3_darken 5 none rm_X3_darken D ca b nx [.ref v0] M r 0 0 := by
  intro sz
  refine body_start (Qc := fun A => cvV D ca nx A r) (by decide +kernel) (Nat.le_of_ble_eq_true rfl) ?_
  intro p e s m args below meth c A hC hr hR ls hl
  obtain ⟨hx, hb, hml, hts, hown, hlocks, hXe, hA, hAb, hnm⟩ := id hC
  have hK := hXe.1
  have hl : lv_has ls 5 [(0, .ref v0)] := hl
  have hB46 : ∀ (k10 : Nat → Int32 → Int32 → Mem → Option (Mem)) (hk10 : ∀ (v1 : Nat) (v2 : Int32) (v3 : Int32) (M : Mem) (H : Heap) (locs : List Loc) (ls : Array Slot), k10 v1 v2 v3 M = some r → Hp D ca nx A s M H locs → lv_has ls 5 [(1, .ref v1), (2, .int v2), (3, .int v3)] → W p l e rm_X3_darken s m args below meth c H locs 0 0 (MQ below (cvV D ca nx A r) args s 0 0 A) (F0 m 10 ls [])) (v1 : Nat) (v2 : Int32) (v3 : Int32) (M : Mem) (H : Heap) (locs : List Loc) (ls : Array Slot), f_X3_darken_b46 k10 v1 v2 v3 M = some r → Hp D ca nx A s M H locs → lv_has ls 5 [(1, .ref v1), (2, .int v2), (3, .int v3)] → W p l e rm_X3_darken s m args below meth c H locs 0 0 (MQ below (cvV D ca nx A r) args s 0 0 A) (F0 m 46 ls []) := by
    intro k10 hk10 v1 v2 v3 M H locs ls hf hR hl
    unfold f_X3_darken_b46 at hf
    refine rg_iinc (pc := 46) hx hb dX3_darken_46 hl (k := 2) rfl rfl (by decide) hf (fun x1 ls hf hl => ?_)
    have hl : lv_has ls 5 [(3, .int x1), (1, .ref v1), (2, .int v2)] := hl
    refine lv_goto (pc := 49) (tgt := 10) hx hb dX3_darken_49 (by decide) ?_
    exact hk10 v1 v2 x1 M _ _ _ hf hR (lv_sub hl [1, 2, 0] rfl)
  have hB10 : ∀ (k10 : Nat → Int32 → Int32 → Mem → Option (Mem)) (hk10 : ∀ (v1 : Nat) (v2 : Int32) (v3 : Int32) (M : Mem) (H : Heap) (locs : List Loc) (ls : Array Slot), k10 v1 v2 v3 M = some r → Hp D ca nx A s M H locs → lv_has ls 5 [(1, .ref v1), (2, .int v2), (3, .int v3)] → W p l e rm_X3_darken s m args below meth c H locs 0 0 (MQ below (cvV D ca nx A r) args s 0 0 A) (F0 m 10 ls [])) (v1 : Nat) (v2 : Int32) (v3 : Int32) (M : Mem) (H : Heap) (locs : List Loc) (ls : Array Slot), f_X3_darken_b10 k10 v1 v2 v3 M = some r → Hp D ca nx A s M H locs → lv_has ls 5 [(1, .ref v1), (2, .int v2), (3, .int v3)] → W p l e rm_X3_darken s m args below meth c H locs 0 0 (MQ below (cvV D ca nx A r) args s 0 0 A) (F0 m 10 ls []) := by
    intro k10 hk10 v1 v2 v3 M H locs ls hf hR hl
    unfold f_X3_darken_b10 at hf
    refine lv_iload_n (pc := 10) hx hb dX3_darken_10 rfl (lv_at hl 2 rfl) ?_
    refine lv_iload_n (pc := 11) hx hb dX3_darken_11 rfl (lv_at hl 1 rfl) ?_
    refine lv_icmp_ge (pc := 12) (tgt := 52) hx hb dX3_darken_12 (by decide) (fun hc => ?_) (fun hc => ?_)
    · replace hf := it_t hf hc
      exact rg_vret (pc := 52) hx hb hlocks hr hf hR dX3_darken_52
    · replace hf := it_f hf hc
      refine lv_aload_n (pc := 15) hx hb dX3_darken_15 rfl (lv_at hl 0 rfl) ?_
      refine lv_iload_n (pc := 16) hx hb dX3_darken_16 rfl (lv_at hl 2 rfl) ?_
      refine rg_aald (pc := 17) (κ := 13) hx hb hK hR 3 rfl (by decide) dX3_darken_17 hf (fun a2 hf => ?_)
      refine lv_astore (pc := 18) (lv' := [(4, .ref a2), (1, .ref v1), (2, .int v2), (3, .int v3)]) hx hb dX3_darken_18 hl (by decide) rfl (fun ls hl => ?_)
      refine lv_aload (pc := 20) hx hb dX3_darken_20 (lv_at hl 0 rfl) ?_
      refine rg_get (pc := 22) (C := RX2) (T := TX2) (N := 7) (κ := 2) (v := .int (mm_i M a2 5)) hx hb hts hK hR hown in_2 rfl (by decide) 5 (by decide) m_120 rfl dX3_darken_22 hf (fun hf => ?_)
      refine lv_if_eq (pc := 25) (tgt := 46) hx hb dX3_darken_25 (by decide) (fun hc => ?_) (fun hc => ?_)
      · replace hf := it_t hf hc
        exact hB46 k10 hk10 v1 v2 v3 M _ _ _ hf hR (lv_sub hl [1, 2, 3] rfl)
      · replace hf := it_f hf hc
        refine lv_aload (pc := 28) hx hb dX3_darken_28 (lv_at hl 0 rfl) ?_
        refine lv_aload (pc := 30) hx hb dX3_darken_30 (lv_at hl 0 rfl) ?_
        refine rg_get (pc := 32) (C := RX2) (T := TX2) (N := 7) (κ := 2) (v := .int (mm_i M a2 4)) hx hb hts hK hR hown in_2 rfl (by decide) 4 (by decide) m_118 rfl dX3_darken_32 hf (fun hf => ?_)
        refine lv_iconst (pc := 35) (v := (1 : Int32)) hx hb dX3_darken_35 (by decide) ?_
        refine lv_iadd (pc := 36) hx hb dX3_darken_36 ?_
        refine lv_sipush (pc := 37) (v := (1000 : Int32)) hx hb dX3_darken_37 (by decide) ?_
        refine va_mmin (pc := 40) hx hb (hml.trans hl.1.symm) hown (hts _ m_422) (hts _ m_416) (hts _ m_14) (hts _ m_417) (Nat.le_of_ble_eq_true rfl) (Nat.le_of_ble_eq_true rfl) (Nat.le_of_ble_eq_true rfl) (Nat.le_of_ble_eq_true rfl) dX3_darken_40 ?_
        refine rg_puti (pc := 43) (C := RX2) (T := TX2) (N := 7) (κ := 2) hx hb hts hK hR hown in_2 rfl (by decide) 4 (by decide) m_118 tyX2 tyX2_ok nmX2 rfl rfl rfl rfl dX3_darken_43 hf (fun M3 H locs hf hR => ?_)
        exact hB46 k10 hk10 v1 v2 v3 M3 _ _ _ hf hR (lv_sub hl [1, 2, 3] rfl)
  have hL10 : ∀  (n : Nat) (v1 : Nat) (v2 : Int32) (v3 : Int32) (M : Mem) (H : Heap) (locs : List Loc) (ls : Array Slot), f_X3_darken_L10  n v1 v2 v3 M = some r → Hp D ca nx A s M H locs → lv_has ls 5 [(1, .ref v1), (2, .int v2), (3, .int v3)] → W p l e rm_X3_darken s m args below meth c H locs 0 0 (MQ below (cvV D ca nx A r) args s 0 0 A) (F0 m 10 ls []) := by
    intro  n
    induction n with
    | zero => intro v1 v2 v3 M H locs ls hf; exact nomatch (show (none : Option (Mem)) = some r from hf)
    | succ n ih => intro v1 v2 v3 M H locs ls hf hR hl; exact hB10  (f_X3_darken_L10  n) ih v1 v2 v3 M H locs ls hf hR hl
  unfold f_X3_darken at hf
  refine lv_aload_n (pc := 0) hx hb dX3_darken_0 rfl (lv_at hl 0 rfl) ?_
  refine rg_getr (pc := 1) (C := RX3) (T := TX3) (N := 7) (κ := 3) hx hb hts hK hR hown in_3 rfl (by decide) 2 (by decide) m_144 rfl dX3_darken_1 hf (fun a4 hf => ?_)
  refine lv_astore_n (pc := 4) (lv' := [(1, .ref a4), (0, .ref v0)]) hx hb dX3_darken_4 rfl hl (by decide) rfl (fun ls hl => ?_)
  refine lv_aload_n (pc := 5) hx hb dX3_darken_5 rfl (lv_at hl 0 rfl) ?_
  refine rg_alen (pc := 6) (κ := 13) hx hb hK hR 3 rfl (by decide) dX3_darken_6 hf (fun hf => ?_)
  refine nm_i hf (fun x5 hf => ?_)
  refine lv_istore_n (pc := 7) (lv' := [(2, .int x5), (1, .ref a4), (0, .ref v0)]) hx hb dX3_darken_7 rfl hl (by decide) rfl (fun ls hl => ?_)
  refine lv_iconst (pc := 8) (v := (0 : Int32)) hx hb dX3_darken_8 (by decide) ?_
  refine lv_istore_n (pc := 9) (lv' := [(3, .int (0 : Int32)), (2, .int x5), (1, .ref a4), (0, .ref v0)]) hx hb dX3_darken_9 rfl hl (by decide) rfl (fun ls hl => ?_)
  exact hL10 200 a4 x5 (0 : Int32) M _ _ _ hf hR (lv_sub hl [2, 1, 0] rfl)
-- X7_requireRange
def f_X7_requireRange_b10   (M : Mem) : Option (Mem × (Unit ⊕ Nat)) := some (M, .inr 0)
def f_X7_requireRange (v0 : Int32) (v1 : Int32) (v2 : Int32) (M : Mem) : Option (Mem × (Unit ⊕ Nat)) := if v0 < v1 then (f_X7_requireRange_b10  M) else (if v0 ≤ v2 then (some (M, .inl ())) else (f_X7_requireRange_b10  M))
abbrev rm_X7_requireRange : Room := { frames := 6, cells := 1, slots := 6, locals := 90 }
theorem hd_X7_requireRange : yX7_requireRange.cls ≠ "java/lang/invoke/MethodHandle" ∧ yX7_requireRange.cls ≠ "java/lang/invoke/VarHandle" ∧ (parseMethodDescriptor yX7_requireRange.desc).map (fun d => d.parameters.length) = some 3 := by decide +kernel
set_option maxHeartbeats 8000000 in
set_option maxRecDepth 100000 in
theorem c_X7_requireRange {l : Launch} (hlt : l.stackTraces = false) {D : va_G} {ca : Nat → ClassId} {b : Nat} {v0 : Int32} {v1 : Int32} {v2 : Int32} {M : Mem} {r : Mem × (Unit ⊕ Nat)} (hf : f_X7_requireRange v0 v1 v2 M = some r) : CxV l yX7_requireRange cX7_requireRange 3 none rm_X7_requireRange D ca b [.int v0, .int v1, .int v2] M r 1 6 := by
  intro sz
  refine bodyx_start (nx := false) (Qc := fun A => cxV D ca A r) (XC := fun A => cxX D ca A r) (by decide +kernel) (Nat.le_of_ble_eq_true rfl) ?_
  intro p e s m args below meth c A hC htab hr hR ls hl
  obtain ⟨hx, hb, hml, hts, hown, hlocks, hXe, hA, hAb, hnm⟩ := id hC
  have hK := hXe.1
  have hl : lv_has ls 3 [(0, .int v0), (1, .int v1), (2, .int v2)] := hl
  have hB10 : ∀   (M : Mem) (H : Heap) (locs : List Loc) (ls : Array Slot), f_X7_requireRange_b10   M = some r → Hp D ca false A s M H locs → lv_has ls 3 [] → W p l e rm_X7_requireRange s m args below meth c H locs 0 0 (vx_MQ below (cxV D ca A r) (cxX D ca A r) args s 1 6 A) (F0 m 10 ls []) := by
    intro   M H locs ls hf hR hl
    unfold f_X7_requireRange_b10 at hf
    exact rg_thrW (pc := 10) 0 (by decide) hC htab hlt hl.1 rfl m_264 (is := 264) (text := "an argument is out of its range") (by decide +kernel) hf hR dX7_requireRange_10 dX7_requireRange_13 dX7_requireRange_14 dX7_requireRange_17 dX7_requireRange_20 (Nat.le_of_ble_eq_true rfl) (Nat.le_of_ble_eq_true rfl) (Nat.le_of_ble_eq_true rfl) (Nat.le_of_ble_eq_true rfl) (by show 1 ≤ 1; decide) (by show 6 ≤ 6; decide)
  unfold f_X7_requireRange at hf
  refine lv_iload_n (pc := 0) hx hb dX7_requireRange_0 rfl (lv_at hl 0 rfl) ?_
  refine lv_iload_n (pc := 1) hx hb dX7_requireRange_1 rfl (lv_at hl 1 rfl) ?_
  refine lv_icmp_lt (pc := 2) (tgt := 10) hx hb dX7_requireRange_2 (by decide) (fun hc => ?_) (fun hc => ?_)
  · replace hf := it_t hf hc
    exact hB10  M _ _ _ hf hR (lv_sub hl [] rfl)
  · replace hf := it_f hf hc
    refine lv_iload_n (pc := 5) hx hb dX7_requireRange_5 rfl (lv_at hl 0 rfl) ?_
    refine lv_iload_n (pc := 6) hx hb dX7_requireRange_6 rfl (lv_at hl 2 rfl) ?_
    refine lv_icmp_le (pc := 7) (tgt := 21) hx hb dX7_requireRange_7 (by decide) (fun hc => ?_) (fun hc => ?_)
    · replace hf := it_t hf hc
      exact rg_xvret (pc := 21) hx hb hlocks hr hf hR (by show 0 ≤ 1; decide) (by show 0 ≤ 6; decide) dX7_requireRange_21
    · replace hf := it_f hf hc
      exact hB10  M _ _ _ hf hR (lv_sub hl [] rfl)
-- X7_requireLane
def f_X7_requireLane (v0 : Int32) (M : Mem) : Option (Mem × (Unit ⊕ Nat)) := bx (f_X7_requireRange v0 (0 : Int32) (63 : Int32) M) fun M1 _ => some (M1, .inl ())
abbrev rm_X7_requireLane : Room := { frames := 7, cells := 1, slots := 6, locals := 112 }
theorem hd_X7_requireLane : yX7_requireLane.cls ≠ "java/lang/invoke/MethodHandle" ∧ yX7_requireLane.cls ≠ "java/lang/invoke/VarHandle" ∧ (parseMethodDescriptor yX7_requireLane.desc).map (fun d => d.parameters.length) = some 1 := by decide +kernel
set_option maxHeartbeats 8000000 in
set_option maxRecDepth 100000 in
theorem c_X7_requireLane {l : Launch} (hlt : l.stackTraces = false) {D : va_G} {ca : Nat → ClassId} {b : Nat} {v0 : Int32} {M : Mem} {r : Mem × (Unit ⊕ Nat)} (hf : f_X7_requireLane v0 M = some r) : CxV l yX7_requireLane cX7_requireLane 1 none rm_X7_requireLane D ca b [.int v0] M r 1 6 := by
  intro sz
  refine bodyx_start (nx := false) (Qc := fun A => cxV D ca A r) (XC := fun A => cxX D ca A r) (by decide +kernel) (Nat.le_of_ble_eq_true rfl) ?_
  intro p e s m args below meth c A hC htab hr hR ls hl
  obtain ⟨hx, hb, hml, hts, hown, hlocks, hXe, hA, hAb, hnm⟩ := id hC
  have hK := hXe.1
  have hl : lv_has ls 1 [(0, .int v0)] := hl
  unfold f_X7_requireLane at hf
  refine lv_iload_n (pc := 0) hx hb dX7_requireLane_0 rfl (lv_at hl 0 rfl) ?_
  refine lv_iconst (pc := 1) (v := (0 : Int32)) hx hb dX7_requireLane_1 (by decide) ?_
  refine lv_bipush (pc := 2) (v := (63 : Int32)) hx hb dX7_requireLane_2 (by decide) ?_
  refine rg_xV (pc := 4) hf hR hA htab hlocks (by show 1 ≤ 1; decide) (by show 6 ≤ 6; decide) (fun z hz => xn_S (As := [.int v0, .int (0 : Int32), .int (63 : Int32)]) (rest := []) hC hR (c_X7_requireRange hlt hz _) m_261 m_262 m_1 m_263 hd_X7_requireRange ⟨rfl, rfl, Nat.le_of_ble_eq_true rfl, Nat.le_of_ble_eq_true rfl⟩ rfl hl.1 rfl (Nat.le_of_ble_eq_true rfl) dX7_requireLane_4 ⟨Nat.le_of_ble_eq_true rfl, Nat.le_of_ble_eq_true rfl⟩) (fun M1 H locs hf hR => ?_)
  exact rg_xvret (pc := 7) hx hb hlocks hr hf hR (by show 1 ≤ 1; decide) (by show 6 ≤ 6; decide) dX7_requireLane_7
-- X7_requirePlace
def f_X7_requirePlace (v0 : Int32) (v1 : Int32) (v2 : Int32) (M : Mem) : Option (Mem × (Unit ⊕ Nat)) := bx (f_X7_requireLane v0 M) fun M1 _ => bx (f_X7_requireRange v1 (0 : Int32) (35999 : Int32) M1) fun M3 _ => bx (f_X7_requireRange v2 (1 : Int32) (10000 : Int32) M3) fun M5 _ => some (M5, .inl ())
abbrev rm_X7_requirePlace : Room := { frames := 8, cells := 3, slots := 18, locals := 132 }
theorem hd_X7_requirePlace : yX7_requirePlace.cls ≠ "java/lang/invoke/MethodHandle" ∧ yX7_requirePlace.cls ≠ "java/lang/invoke/VarHandle" ∧ (parseMethodDescriptor yX7_requirePlace.desc).map (fun d => d.parameters.length) = some 3 := by decide +kernel
set_option maxHeartbeats 8000000 in
set_option maxRecDepth 100000 in
theorem c_X7_requirePlace {l : Launch} (hlt : l.stackTraces = false) {D : va_G} {ca : Nat → ClassId} {b : Nat} {v0 : Int32} {v1 : Int32} {v2 : Int32} {M : Mem} {r : Mem × (Unit ⊕ Nat)} (hf : f_X7_requirePlace v0 v1 v2 M = some r) : CxV l yX7_requirePlace cX7_requirePlace 3 none rm_X7_requirePlace D ca b [.int v0, .int v1, .int v2] M r 3 18 := by
  intro sz
  refine bodyx_start (nx := false) (Qc := fun A => cxV D ca A r) (XC := fun A => cxX D ca A r) (by decide +kernel) (Nat.le_of_ble_eq_true rfl) ?_
  intro p e s m args below meth c A hC htab hr hR ls hl
  obtain ⟨hx, hb, hml, hts, hown, hlocks, hXe, hA, hAb, hnm⟩ := id hC
  have hK := hXe.1
  have hl : lv_has ls 3 [(0, .int v0), (1, .int v1), (2, .int v2)] := hl
  unfold f_X7_requirePlace at hf
  refine lv_iload_n (pc := 0) hx hb dX7_requirePlace_0 rfl (lv_at hl 0 rfl) ?_
  refine rg_xV (pc := 1) hf hR hA htab hlocks (by show 1 ≤ 3; decide) (by show 6 ≤ 18; decide) (fun z hz => xn_S (As := [.int v0]) (rest := []) hC hR (c_X7_requireLane hlt hz _) m_258 m_259 m_1 m_260 hd_X7_requireLane ⟨rfl, rfl, Nat.le_of_ble_eq_true rfl, Nat.le_of_ble_eq_true rfl⟩ rfl hl.1 rfl (Nat.le_of_ble_eq_true rfl) dX7_requirePlace_1 ⟨Nat.le_of_ble_eq_true rfl, Nat.le_of_ble_eq_true rfl⟩) (fun M1 H locs hf hR => ?_)
  refine lv_iload_n (pc := 4) hx hb dX7_requirePlace_4 rfl (lv_at hl 1 rfl) ?_
  refine lv_iconst (pc := 5) (v := (0 : Int32)) hx hb dX7_requirePlace_5 (by decide) ?_
  refine lv_ldcw (pc := 6) hx hb hown (hts _ m_332) dX7_requirePlace_6 ?_
  refine rg_xV (pc := 9) hf hR hA htab hlocks (by show 2 ≤ 3; decide) (by show 12 ≤ 18; decide) (fun z hz => xn_S (As := [.int v1, .int (0 : Int32), .int (35999 : Int32)]) (rest := []) hC hR (c_X7_requireRange hlt hz _) m_261 m_262 m_1 m_263 hd_X7_requireRange ⟨rfl, rfl, Nat.le_of_ble_eq_true rfl, Nat.le_of_ble_eq_true rfl⟩ rfl hl.1 rfl (Nat.le_of_ble_eq_true rfl) dX7_requirePlace_9 ⟨Nat.le_of_ble_eq_true rfl, Nat.le_of_ble_eq_true rfl⟩) (fun M3 H locs hf hR => ?_)
  refine lv_iload_n (pc := 12) hx hb dX7_requirePlace_12 rfl (lv_at hl 2 rfl) ?_
  refine lv_iconst (pc := 13) (v := (1 : Int32)) hx hb dX7_requirePlace_13 (by decide) ?_
  refine lv_sipush (pc := 14) (v := (10000 : Int32)) hx hb dX7_requirePlace_14 (by decide) ?_
  refine rg_xV (pc := 17) hf hR hA htab hlocks (by show 3 ≤ 3; decide) (by show 18 ≤ 18; decide) (fun z hz => xn_S (As := [.int v2, .int (1 : Int32), .int (10000 : Int32)]) (rest := []) hC hR (c_X7_requireRange hlt hz _) m_261 m_262 m_1 m_263 hd_X7_requireRange ⟨rfl, rfl, Nat.le_of_ble_eq_true rfl, Nat.le_of_ble_eq_true rfl⟩ rfl hl.1 rfl (Nat.le_of_ble_eq_true rfl) dX7_requirePlace_17 ⟨Nat.le_of_ble_eq_true rfl, Nat.le_of_ble_eq_true rfl⟩) (fun M5 H locs hf hR => ?_)
  exact rg_xvret (pc := 20) hx hb hlocks hr hf hR (by show 3 ≤ 3; decide) (by show 18 ≤ 18; decide) dX7_requirePlace_20
-- X7_grain
def f_X7_grain (v0 : Nat) (v1 : Int32) (v2 : Int32) (v3 : Int32) (v4 : Int32) (M : Mem) : Option (Mem × (Int32 ⊕ Nat)) := bx (f_X7_requirePlace v1 v2 v3 M) fun M1 _ => bx (f_X7_requireRange v4 (0 : Int32) (99 : Int32) M1) fun M3 _ => gd (M3.1 v0 = 7) <| rd (mm_r M3 v0 0) fun a5 => gd (M3.1 a5 = 3) <| if (mm_i M3 a5 3) < (80 : Int32) then (gd (M3.1 v0 = 7) <| rd (mm_r M3 v0 0) fun a6 => gd (M3.1 a6 = 3) <| bd (f_X3_put a6 v1 v2 v3 v4 M3) fun z7 => some (z7.1, .inl z7.2)) else (some (M3, .inr 1))
abbrev rm_X7_grain : Room := { frames := 9, cells := 5, slots := 30, locals := 154 }
theorem hd_X7_grain : yX7_grain.cls ≠ "java/lang/invoke/MethodHandle" ∧ yX7_grain.cls ≠ "java/lang/invoke/VarHandle" ∧ (parseMethodDescriptor yX7_grain.desc).map (fun d => d.parameters.length) = some 4 := by decide +kernel
set_option maxHeartbeats 8000000 in
set_option maxRecDepth 100000 in
theorem c_X7_grain {l : Launch} (hlt : l.stackTraces = false) {D : va_G} {ca : Nat → ClassId} {b : Nat} {v0 : Nat} {v1 : Int32} {v2 : Int32} {v3 : Int32} {v4 : Int32} {M : Mem} {r : Mem × (Int32 ⊕ Nat)} (hf : f_X7_grain v0 v1 v2 v3 v4 M = some r) : CxI l yX7_grain cX7_grain 5 (some .int) rm_X7_grain D ca b [.ref v0, .int v1, .int v2, .int v3, .int v4] M r 5 30 := by
  intro sz
  refine bodyx_start (nx := false) (Qc := fun A => cxI D ca A r) (XC := fun A => cxX D ca A r) (by decide +kernel) (Nat.le_of_ble_eq_true rfl) ?_
  intro p e s m args below meth c A hC htab hr hR ls hl
  obtain ⟨hx, hb, hml, hts, hown, hlocks, hXe, hA, hAb, hnm⟩ := id hC
  have hK := hXe.1
  have hl : lv_has ls 5 [(0, .ref v0), (1, .int v1), (2, .int v2), (3, .int v3), (4, .int v4)] := hl
  unfold f_X7_grain at hf
  refine lv_iload_n (pc := 0) hx hb dX7_grain_0 rfl (lv_at hl 1 rfl) ?_
  refine lv_iload_n (pc := 1) hx hb dX7_grain_1 rfl (lv_at hl 2 rfl) ?_
  refine lv_iload_n (pc := 2) hx hb dX7_grain_2 rfl (lv_at hl 3 rfl) ?_
  refine rg_xV (pc := 3) hf hR hA htab hlocks (by show 3 ≤ 5; decide) (by show 18 ≤ 30; decide) (fun z hz => xn_S (As := [.int v1, .int v2, .int v3]) (rest := []) hC hR (c_X7_requirePlace hlt hz _) m_255 m_256 m_1 m_257 hd_X7_requirePlace ⟨rfl, rfl, Nat.le_of_ble_eq_true rfl, Nat.le_of_ble_eq_true rfl⟩ rfl hl.1 rfl (Nat.le_of_ble_eq_true rfl) dX7_grain_3 ⟨Nat.le_of_ble_eq_true rfl, Nat.le_of_ble_eq_true rfl⟩) (fun M1 H locs hf hR => ?_)
  refine lv_iload (pc := 6) hx hb dX7_grain_6 (lv_at hl 4 rfl) ?_
  refine lv_iconst (pc := 8) (v := (0 : Int32)) hx hb dX7_grain_8 (by decide) ?_
  refine lv_bipush (pc := 9) (v := (99 : Int32)) hx hb dX7_grain_9 (by decide) ?_
  refine rg_xV (pc := 11) hf hR hA htab hlocks (by show 4 ≤ 5; decide) (by show 24 ≤ 30; decide) (fun z hz => xn_S (As := [.int v4, .int (0 : Int32), .int (99 : Int32)]) (rest := []) hC hR (c_X7_requireRange hlt hz _) m_261 m_262 m_1 m_263 hd_X7_requireRange ⟨rfl, rfl, Nat.le_of_ble_eq_true rfl, Nat.le_of_ble_eq_true rfl⟩ rfl hl.1 rfl (Nat.le_of_ble_eq_true rfl) dX7_grain_11 ⟨Nat.le_of_ble_eq_true rfl, Nat.le_of_ble_eq_true rfl⟩) (fun M3 H locs hf hR => ?_)
  refine lv_aload_n (pc := 14) hx hb dX7_grain_14 rfl (lv_at hl 0 rfl) ?_
  refine rg_getr (pc := 15) (C := RX7) (T := TX7) (N := 11) (κ := 7) hx hb hts hK hR hown in_7 rfl (by decide) 0 (by decide) m_219 rfl dX7_grain_15 hf (fun a5 hf => ?_)
  refine rg_get (pc := 18) (C := RX3) (T := TX3) (N := 7) (κ := 3) (v := .int (mm_i M3 a5 3)) hx hb hts hK hR hown in_3 rfl (by decide) 3 (by decide) m_147 rfl dX7_grain_18 hf (fun hf => ?_)
  refine lv_bipush (pc := 21) (v := (80 : Int32)) hx hb dX7_grain_21 (by decide) ?_
  refine lv_icmp_lt (pc := 23) (tgt := 36) hx hb dX7_grain_23 (by decide) (fun hc => ?_) (fun hc => ?_)
  · replace hf := it_t hf hc
    refine lv_aload_n (pc := 36) hx hb dX7_grain_36 rfl (lv_at hl 0 rfl) ?_
    refine rg_getr (pc := 37) (C := RX7) (T := TX7) (N := 11) (κ := 7) hx hb hts hK hR hown in_7 rfl (by decide) 0 (by decide) m_219 rfl dX7_grain_37 hf (fun a6 hf => ?_)
    refine lv_iload_n (pc := 40) hx hb dX7_grain_40 rfl (lv_at hl 1 rfl) ?_
    refine lv_iload_n (pc := 41) hx hb dX7_grain_41 rfl (lv_at hl 2 rfl) ?_
    refine lv_iload_n (pc := 42) hx hb dX7_grain_42 rfl (lv_at hl 3 rfl) ?_
    refine lv_iload (pc := 43) hx hb dX7_grain_43 (lv_at hl 4 rfl) ?_
    obtain ⟨hq, hf⟩ := gd_e hf
    refine rg_I (pc := 45) hf hR hA (fun z hz => rn_V (κ := 3) (As := [.int v1, .int v2, .int v3, .int v4]) (rest := []) hC hR rfl (by decide) hq (c_X3_put  hz _) m_349 m_350 m_351 m_2 m_352 hd_X3_put ⟨rfl, rfl, Nat.le_of_ble_eq_true rfl, Nat.le_of_ble_eq_true rfl⟩ rfl hl.1 rfl (Nat.le_of_ble_eq_true rfl) dX7_grain_45 ⟨Nat.le_of_ble_eq_true rfl, Nat.le_of_ble_eq_true rfl⟩) (fun z7 H locs hf hR => ?_)
    exact rg_xiret (pc := 48) hx hb hlocks hr hf hR (by show 4 ≤ 5; decide) (by show 24 ≤ 30; decide) dX7_grain_48
  · replace hf := it_f hf hc
    exact rg_thr (pc := 26) 1 (by decide) hC htab hlt hl.1 rfl m_333 (is := 60) (text := "there were 80 grains") (by decide +kernel) hf hR dX7_grain_26 dX7_grain_29 dX7_grain_30 dX7_grain_32 dX7_grain_35 (Nat.le_of_ble_eq_true rfl) (Nat.le_of_ble_eq_true rfl) (Nat.le_of_ble_eq_true rfl) (Nat.le_of_ble_eq_true rfl) (by show 5 ≤ 5; decide) (by show 30 ≤ 30; decide)
-- X7_widthOf
def f_X7_widthOf_b25  (v1 : Int32) (M : Mem) : Option (Mem × Int32) := some (M, (v1 / (20 : Int32)))
def f_X7_widthOf_b4 (k4 : Int32 → Int32 → Int32 → Mem → Option (Mem × Int32)) (v0 : Int32) (v1 : Int32) (v2 : Int32) (M : Mem) : Option (Mem × Int32) := if (100 : Int32) < v2 then (f_X7_widthOf_b25 v1 M) else (if v0 < (v2 * v2) then (f_X7_widthOf_b25 v1 M) else (lt_ (v2 + (1 : Int32)) fun x1 => k4 v0 v2 x1 M))
def f_X7_widthOf_L4  : Nat → Int32 → Int32 → Int32 → Mem → Option (Mem × Int32)
  | 0 => fun _ _ _ _ => none
  | n + 1 => f_X7_widthOf_b4  (f_X7_widthOf_L4  n)
def f_X7_widthOf (v0 : Int32) (M : Mem) : Option (Mem × Int32) := f_X7_widthOf_L4 200 v0 (0 : Int32) (1 : Int32) M
abbrev rm_X7_widthOf : Room := { frames := 0, cells := 0, slots := 0, locals := 0 }
theorem hd_X7_widthOf : yX7_widthOf.cls ≠ "java/lang/invoke/MethodHandle" ∧ yX7_widthOf.cls ≠ "java/lang/invoke/VarHandle" ∧ (parseMethodDescriptor yX7_widthOf.desc).map (fun d => d.parameters.length) = some 1 := by decide +kernel
set_option maxHeartbeats 8000000 in
set_option maxRecDepth 100000 in
theorem c_X7_widthOf {l : Launch} {D : va_G} {ca : Nat → ClassId} {b : Nat} {nx : Bool} {v0 : Int32} {M : Mem} {r : Mem × Int32} (hf : f_X7_widthOf v0 M = some r) : CtI l yX7_widthOf cX7_widthOf 3 (some .int) rm_X7_widthOf D ca b nx [.int v0] M r := by
  intro sz
  refine body_start (Qc := fun A => cvI D ca nx A r) (by decide +kernel) (Nat.le_of_ble_eq_true rfl) ?_
  intro p e s m args below meth c A hC hr hR ls hl
  obtain ⟨hx, hb, hml, hts, hown, hlocks, hXe, hA, hAb, hnm⟩ := id hC
  have hK := hXe.1
  have hl : lv_has ls 3 [(0, .int v0)] := hl
  have hB25 : ∀  (v1 : Int32) (M : Mem) (H : Heap) (locs : List Loc) (ls : Array Slot), f_X7_widthOf_b25  v1 M = some r → Hp D ca nx A s M H locs → lv_has ls 3 [(1, .int v1)] → W p l e rm_X7_widthOf s m args below meth c H locs 0 0 (MQ below (cvI D ca nx A r) args s 0 0 A) (F0 m 25 ls []) := by
    intro  v1 M H locs ls hf hR hl
    unfold f_X7_widthOf_b25 at hf
    refine lv_iload_n (pc := 25) hx hb dX7_widthOf_25 rfl (lv_at hl 0 rfl) ?_
    refine lv_bipush (pc := 26) (v := (20 : Int32)) hx hb dX7_widthOf_26 (by decide) ?_
    refine lv_idiv (pc := 28) hx hb dX7_widthOf_28 (by decide) ?_
    exact rg_iret (pc := 29) hx hb hlocks hr hf hR dX7_widthOf_29
  have hB4 : ∀ (k4 : Int32 → Int32 → Int32 → Mem → Option (Mem × Int32)) (hk4 : ∀ (v0 : Int32) (v1 : Int32) (v2 : Int32) (M : Mem) (H : Heap) (locs : List Loc) (ls : Array Slot), k4 v0 v1 v2 M = some r → Hp D ca nx A s M H locs → lv_has ls 3 [(0, .int v0), (1, .int v1), (2, .int v2)] → W p l e rm_X7_widthOf s m args below meth c H locs 0 0 (MQ below (cvI D ca nx A r) args s 0 0 A) (F0 m 4 ls [])) (v0 : Int32) (v1 : Int32) (v2 : Int32) (M : Mem) (H : Heap) (locs : List Loc) (ls : Array Slot), f_X7_widthOf_b4 k4 v0 v1 v2 M = some r → Hp D ca nx A s M H locs → lv_has ls 3 [(0, .int v0), (1, .int v1), (2, .int v2)] → W p l e rm_X7_widthOf s m args below meth c H locs 0 0 (MQ below (cvI D ca nx A r) args s 0 0 A) (F0 m 4 ls []) := by
    intro k4 hk4 v0 v1 v2 M H locs ls hf hR hl
    unfold f_X7_widthOf_b4 at hf
    refine lv_iload_n (pc := 4) hx hb dX7_widthOf_4 rfl (lv_at hl 2 rfl) ?_
    refine lv_bipush (pc := 5) (v := (100 : Int32)) hx hb dX7_widthOf_5 (by decide) ?_
    refine lv_icmp_gt (pc := 7) (tgt := 25) hx hb dX7_widthOf_7 (by decide) (fun hc => ?_) (fun hc => ?_)
    · replace hf := it_t hf hc
      exact hB25 v1 M _ _ _ hf hR (lv_sub hl [1] rfl)
    · replace hf := it_f hf hc
      refine lv_iload_n (pc := 10) hx hb dX7_widthOf_10 rfl (lv_at hl 2 rfl) ?_
      refine lv_iload_n (pc := 11) hx hb dX7_widthOf_11 rfl (lv_at hl 2 rfl) ?_
      refine lv_imul (pc := 12) hx hb dX7_widthOf_12 ?_
      refine lv_iload_n (pc := 13) hx hb dX7_widthOf_13 rfl (lv_at hl 0 rfl) ?_
      refine lv_icmp_gt (pc := 14) (tgt := 25) hx hb dX7_widthOf_14 (by decide) (fun hc => ?_) (fun hc => ?_)
      · replace hf := it_t hf hc
        exact hB25 v1 M _ _ _ hf hR (lv_sub hl [1] rfl)
      · replace hf := it_f hf hc
        refine lv_iload_n (pc := 17) hx hb dX7_widthOf_17 rfl (lv_at hl 2 rfl) ?_
        refine lv_istore_n (pc := 18) (lv' := [(1, .int v2), (0, .int v0), (2, .int v2)]) hx hb dX7_widthOf_18 rfl hl (by decide) rfl (fun ls hl => ?_)
        refine rg_iinc (pc := 19) hx hb dX7_widthOf_19 hl (k := 2) rfl rfl (by decide) hf (fun x1 ls hf hl => ?_)
        have hl : lv_has ls 3 [(2, .int x1), (1, .int v2), (0, .int v0)] := hl
        refine lv_goto (pc := 22) (tgt := 4) hx hb dX7_widthOf_22 (by decide) ?_
        exact hk4 v0 v2 x1 M _ _ _ hf hR (lv_sub hl [2, 1, 0] rfl)
  have hL4 : ∀  (n : Nat) (v0 : Int32) (v1 : Int32) (v2 : Int32) (M : Mem) (H : Heap) (locs : List Loc) (ls : Array Slot), f_X7_widthOf_L4  n v0 v1 v2 M = some r → Hp D ca nx A s M H locs → lv_has ls 3 [(0, .int v0), (1, .int v1), (2, .int v2)] → W p l e rm_X7_widthOf s m args below meth c H locs 0 0 (MQ below (cvI D ca nx A r) args s 0 0 A) (F0 m 4 ls []) := by
    intro  n
    induction n with
    | zero => intro v0 v1 v2 M H locs ls hf; exact nomatch (show (none : Option (Mem × Int32)) = some r from hf)
    | succ n ih => intro v0 v1 v2 M H locs ls hf hR hl; exact hB4  (f_X7_widthOf_L4  n) ih v0 v1 v2 M H locs ls hf hR hl
  unfold f_X7_widthOf at hf
  refine lv_iconst (pc := 0) (v := (0 : Int32)) hx hb dX7_widthOf_0 (by decide) ?_
  refine lv_istore_n (pc := 1) (lv' := [(1, .int (0 : Int32)), (0, .int v0)]) hx hb dX7_widthOf_1 rfl hl (by decide) rfl (fun ls hl => ?_)
  refine lv_iconst (pc := 2) (v := (1 : Int32)) hx hb dX7_widthOf_2 (by decide) ?_
  refine lv_istore_n (pc := 3) (lv' := [(2, .int (1 : Int32)), (1, .int (0 : Int32)), (0, .int v0)]) hx hb dX7_widthOf_3 rfl hl (by decide) rfl (fun ls hl => ?_)
  exact hL4 200 v0 (0 : Int32) (1 : Int32) M _ _ _ hf hR (lv_sub hl [2, 1, 0] rfl)
-- X7_moon
def f_X7_moon (v0 : Nat) (v1 : Int32) (v2 : Int32) (v3 : Int32) (M : Mem) : Option (Mem × (Int32 ⊕ Nat)) := bx (f_X7_requirePlace v1 v2 v3 M) fun M1 _ => gd (M1.1 v0 = 7) <| if (mm_i M1 v0 2) < (6 : Int32) then (gd (M1.1 v0 = 7) <| rd (mm_r M1 v0 1) fun a3 => gd (M1.1 v0 = 7) <| gd (M1.1 a3 = 14 ∧ vi_ (mm_i M1 v0 2) (mm_N M1 a3)) <| rd (mm_r M1 a3 ((mm_i M1 v0 2)).toNatClampNeg) fun a4 => gd (M1.1 a4 = 5) <| lt_ (ms_i M1 a4 0 v1) fun M5 => gd (M5.1 a4 = 5) <| lt_ (ms_i M5 a4 1 v2) fun M6 => bd (f_X7_widthOf v3 M6) fun z7 => gd (z7.1.1 a4 = 5) <| lt_ (ms_i z7.1 a4 2 z7.2) fun M8 => gd (M8.1 v0 = 7) <| gd (M8.1 v0 = 7) <| lt_ (ms_i M8 v0 2 ((mm_i M8 v0 2) + (1 : Int32))) fun M9 => gd (M9.1 v0 = 7) <| some (M9, .inl ((mm_i M9 v0 2) - (1 : Int32)))) else (some (M1, .inr 1))
abbrev rm_X7_moon : Room := { frames := 9, cells := 4, slots := 24, locals := 154 }
theorem hd_X7_moon : yX7_moon.cls ≠ "java/lang/invoke/MethodHandle" ∧ yX7_moon.cls ≠ "java/lang/invoke/VarHandle" ∧ (parseMethodDescriptor yX7_moon.desc).map (fun d => d.parameters.length) = some 3 := by decide +kernel
set_option maxHeartbeats 8000000 in
set_option maxRecDepth 100000 in
theorem c_X7_moon {l : Launch} (hlt : l.stackTraces = false) {D : va_G} {ca : Nat → ClassId} {b : Nat} {v0 : Nat} {v1 : Int32} {v2 : Int32} {v3 : Int32} {M : Mem} {r : Mem × (Int32 ⊕ Nat)} (hf : f_X7_moon v0 v1 v2 v3 M = some r) : CxI l yX7_moon cX7_moon 5 (some .int) rm_X7_moon D ca b [.ref v0, .int v1, .int v2, .int v3] M r 4 24 := by
  intro sz
  refine bodyx_start (nx := false) (Qc := fun A => cxI D ca A r) (XC := fun A => cxX D ca A r) (by decide +kernel) (Nat.le_of_ble_eq_true rfl) ?_
  intro p e s m args below meth c A hC htab hr hR ls hl
  obtain ⟨hx, hb, hml, hts, hown, hlocks, hXe, hA, hAb, hnm⟩ := id hC
  have hK := hXe.1
  have hl : lv_has ls 5 [(0, .ref v0), (1, .int v1), (2, .int v2), (3, .int v3)] := hl
  unfold f_X7_moon at hf
  refine lv_iload_n (pc := 0) hx hb dX7_moon_0 rfl (lv_at hl 1 rfl) ?_
  refine lv_iload_n (pc := 1) hx hb dX7_moon_1 rfl (lv_at hl 2 rfl) ?_
  refine lv_iload_n (pc := 2) hx hb dX7_moon_2 rfl (lv_at hl 3 rfl) ?_
  refine rg_xV (pc := 3) hf hR hA htab hlocks (by show 3 ≤ 4; decide) (by show 18 ≤ 24; decide) (fun z hz => xn_S (As := [.int v1, .int v2, .int v3]) (rest := []) hC hR (c_X7_requirePlace hlt hz _) m_255 m_256 m_1 m_257 hd_X7_requirePlace ⟨rfl, rfl, Nat.le_of_ble_eq_true rfl, Nat.le_of_ble_eq_true rfl⟩ rfl hl.1 rfl (Nat.le_of_ble_eq_true rfl) dX7_moon_3 ⟨Nat.le_of_ble_eq_true rfl, Nat.le_of_ble_eq_true rfl⟩) (fun M1 H locs hf hR => ?_)
  refine lv_aload_n (pc := 6) hx hb dX7_moon_6 rfl (lv_at hl 0 rfl) ?_
  refine rg_get (pc := 7) (C := RX7) (T := TX7) (N := 11) (κ := 7) (v := .int (mm_i M1 v0 2)) hx hb hts hK hR hown in_7 rfl (by decide) 2 (by decide) m_221 rfl dX7_moon_7 hf (fun hf => ?_)
  refine lv_bipush (pc := 10) (v := (6 : Int32)) hx hb dX7_moon_10 (by decide) ?_
  refine lv_icmp_lt (pc := 12) (tgt := 25) hx hb dX7_moon_12 (by decide) (fun hc => ?_) (fun hc => ?_)
  · replace hf := it_t hf hc
    refine lv_aload_n (pc := 25) hx hb dX7_moon_25 rfl (lv_at hl 0 rfl) ?_
    refine rg_getr (pc := 26) (C := RX7) (T := TX7) (N := 11) (κ := 7) hx hb hts hK hR hown in_7 rfl (by decide) 1 (by decide) m_220 rfl dX7_moon_26 hf (fun a3 hf => ?_)
    refine lv_aload_n (pc := 29) hx hb dX7_moon_29 rfl (lv_at hl 0 rfl) ?_
    refine rg_get (pc := 30) (C := RX7) (T := TX7) (N := 11) (κ := 7) (v := .int (mm_i M1 v0 2)) hx hb hts hK hR hown in_7 rfl (by decide) 2 (by decide) m_221 rfl dX7_moon_30 hf (fun hf => ?_)
    refine rg_aald (pc := 33) (κ := 14) hx hb hK hR 4 rfl (by decide) dX7_moon_33 hf (fun a4 hf => ?_)
    refine lv_astore (pc := 34) (lv' := [(4, .ref a4), (0, .ref v0), (1, .int v1), (2, .int v2), (3, .int v3)]) hx hb dX7_moon_34 hl (by decide) rfl (fun ls hl => ?_)
    refine lv_aload (pc := 36) hx hb dX7_moon_36 (lv_at hl 0 rfl) ?_
    refine lv_iload_n (pc := 38) hx hb dX7_moon_38 rfl (lv_at hl 2 rfl) ?_
    refine rg_puti (pc := 39) (C := RX5) (T := TX5) (N := 3) (κ := 5) hx hb hts hK hR hown in_5 rfl (by decide) 0 (by decide) m_176 tyX5 tyX5_ok nmX5 rfl rfl rfl rfl dX7_moon_39 hf (fun M5 H locs hf hR => ?_)
    refine lv_aload (pc := 42) hx hb dX7_moon_42 (lv_at hl 0 rfl) ?_
    refine lv_iload_n (pc := 44) hx hb dX7_moon_44 rfl (lv_at hl 3 rfl) ?_
    refine rg_puti (pc := 45) (C := RX5) (T := TX5) (N := 3) (κ := 5) hx hb hts hK hR hown in_5 rfl (by decide) 1 (by decide) m_178 tyX5 tyX5_ok nmX5 rfl rfl rfl rfl dX7_moon_45 hf (fun M6 H locs hf hR => ?_)
    refine lv_aload (pc := 48) hx hb dX7_moon_48 (lv_at hl 0 rfl) ?_
    refine lv_iload_n (pc := 50) hx hb dX7_moon_50 rfl (lv_at hl 4 rfl) ?_
    refine rg_I (pc := 51) hf hR hA (fun z hz => rn_S (As := [.int v3]) (rest := [.ref a4]) hC hR (c_X7_widthOf  hz _) m_362 m_363 m_1 m_364 hd_X7_widthOf ⟨rfl, rfl, Nat.le_of_ble_eq_true rfl, Nat.le_of_ble_eq_true rfl⟩ rfl hl.1 rfl (Nat.le_of_ble_eq_true rfl) dX7_moon_51 ⟨Nat.le_of_ble_eq_true rfl, Nat.le_of_ble_eq_true rfl⟩) (fun z7 H locs hf hR => ?_)
    refine rg_puti (pc := 54) (C := RX5) (T := TX5) (N := 3) (κ := 5) hx hb hts hK hR hown in_5 rfl (by decide) 2 (by decide) m_180 tyX5 tyX5_ok nmX5 rfl rfl rfl rfl dX7_moon_54 hf (fun M8 H locs hf hR => ?_)
    refine lv_aload_n (pc := 57) hx hb dX7_moon_57 rfl (lv_at hl 1 rfl) ?_
    refine lv_dup (pc := 58) hx hb dX7_moon_58 rfl ?_
    refine rg_get (pc := 59) (C := RX7) (T := TX7) (N := 11) (κ := 7) (v := .int (mm_i M8 v0 2)) hx hb hts hK hR hown in_7 rfl (by decide) 2 (by decide) m_221 rfl dX7_moon_59 hf (fun hf => ?_)
    refine lv_iconst (pc := 62) (v := (1 : Int32)) hx hb dX7_moon_62 (by decide) ?_
    refine lv_iadd (pc := 63) hx hb dX7_moon_63 ?_
    refine rg_puti (pc := 64) (C := RX7) (T := TX7) (N := 11) (κ := 7) hx hb hts hK hR hown in_7 rfl (by decide) 2 (by decide) m_221 tyX7 tyX7_ok nmX7 rfl rfl rfl rfl dX7_moon_64 hf (fun M9 H locs hf hR => ?_)
    refine lv_aload_n (pc := 67) hx hb dX7_moon_67 rfl (lv_at hl 1 rfl) ?_
    refine rg_get (pc := 68) (C := RX7) (T := TX7) (N := 11) (κ := 7) (v := .int (mm_i M9 v0 2)) hx hb hts hK hR hown in_7 rfl (by decide) 2 (by decide) m_221 rfl dX7_moon_68 hf (fun hf => ?_)
    refine lv_iconst (pc := 71) (v := (1 : Int32)) hx hb dX7_moon_71 (by decide) ?_
    refine lv_isub (pc := 72) hx hb dX7_moon_72 ?_
    exact rg_xiret (pc := 73) hx hb hlocks hr hf hR (by show 3 ≤ 4; decide) (by show 18 ≤ 24; decide) dX7_moon_73
  · replace hf := it_f hf hc
    exact rg_thr (pc := 15) 1 (by decide) hC htab hlt hl.1 rfl m_333 (is := 72) (text := "there are 6 moons") (by decide +kernel) hf hR dX7_moon_15 dX7_moon_18 dX7_moon_19 dX7_moon_21 dX7_moon_24 (Nat.le_of_ble_eq_true rfl) (Nat.le_of_ble_eq_true rfl) (Nat.le_of_ble_eq_true rfl) (Nat.le_of_ble_eq_true rfl) (by show 4 ≤ 4; decide) (by show 24 ≤ 24; decide)
-- X7_flatness
def f_X7_flatness (v0 : Nat) (v1 : Int32) (M : Mem) : Option (Mem × (Int32 ⊕ Nat)) := bx (f_X7_requireRange v1 (0 : Int32) (1000 : Int32) M) fun M1 _ => gd (M1.1 v0 = 7) <| rd (mm_r M1 v0 0) fun a3 => gd (M1.1 a3 = 3) <| rd (mm_r M1 a3 0) fun a4 => gd (M1.1 a4 = 6) <| lt_ ((mm_i M1 a4 0)) fun x5 => gd (M1.1 v0 = 7) <| rd (mm_r M1 v0 0) fun a6 => gd (M1.1 a6 = 3) <| rd (mm_r M1 a6 0) fun a7 => gd (M1.1 a7 = 6) <| lt_ (ms_i M1 a7 0 v1) fun M8 => some (M8, .inl x5)
abbrev rm_X7_flatness : Room := { frames := 7, cells := 1, slots := 6, locals := 112 }
theorem hd_X7_flatness : yX7_flatness.cls ≠ "java/lang/invoke/MethodHandle" ∧ yX7_flatness.cls ≠ "java/lang/invoke/VarHandle" ∧ (parseMethodDescriptor yX7_flatness.desc).map (fun d => d.parameters.length) = some 1 := by decide +kernel
set_option maxHeartbeats 8000000 in
set_option maxRecDepth 100000 in
theorem c_X7_flatness {l : Launch} (hlt : l.stackTraces = false) {D : va_G} {ca : Nat → ClassId} {b : Nat} {v0 : Nat} {v1 : Int32} {M : Mem} {r : Mem × (Int32 ⊕ Nat)} (hf : f_X7_flatness v0 v1 M = some r) : CxI l yX7_flatness cX7_flatness 3 (some .int) rm_X7_flatness D ca b [.ref v0, .int v1] M r 1 6 := by
  intro sz
  refine bodyx_start (nx := false) (Qc := fun A => cxI D ca A r) (XC := fun A => cxX D ca A r) (by decide +kernel) (Nat.le_of_ble_eq_true rfl) ?_
  intro p e s m args below meth c A hC htab hr hR ls hl
  obtain ⟨hx, hb, hml, hts, hown, hlocks, hXe, hA, hAb, hnm⟩ := id hC
  have hK := hXe.1
  have hl : lv_has ls 3 [(0, .ref v0), (1, .int v1)] := hl
  unfold f_X7_flatness at hf
  refine lv_iload_n (pc := 0) hx hb dX7_flatness_0 rfl (lv_at hl 1 rfl) ?_
  refine lv_iconst (pc := 1) (v := (0 : Int32)) hx hb dX7_flatness_1 (by decide) ?_
  refine lv_sipush (pc := 2) (v := (1000 : Int32)) hx hb dX7_flatness_2 (by decide) ?_
  refine rg_xV (pc := 5) hf hR hA htab hlocks (by show 1 ≤ 1; decide) (by show 6 ≤ 6; decide) (fun z hz => xn_S (As := [.int v1, .int (0 : Int32), .int (1000 : Int32)]) (rest := []) hC hR (c_X7_requireRange hlt hz _) m_261 m_262 m_1 m_263 hd_X7_requireRange ⟨rfl, rfl, Nat.le_of_ble_eq_true rfl, Nat.le_of_ble_eq_true rfl⟩ rfl hl.1 rfl (Nat.le_of_ble_eq_true rfl) dX7_flatness_5 ⟨Nat.le_of_ble_eq_true rfl, Nat.le_of_ble_eq_true rfl⟩) (fun M1 H locs hf hR => ?_)
  refine lv_aload_n (pc := 8) hx hb dX7_flatness_8 rfl (lv_at hl 0 rfl) ?_
  refine rg_getr (pc := 9) (C := RX7) (T := TX7) (N := 11) (κ := 7) hx hb hts hK hR hown in_7 rfl (by decide) 0 (by decide) m_219 rfl dX7_flatness_9 hf (fun a3 hf => ?_)
  refine rg_getr (pc := 12) (C := RX3) (T := TX3) (N := 7) (κ := 3) hx hb hts hK hR hown in_3 rfl (by decide) 0 (by decide) m_141 rfl dX7_flatness_12 hf (fun a4 hf => ?_)
  refine rg_get (pc := 15) (C := RX6) (T := TX6) (N := 1) (κ := 6) (v := .int (mm_i M1 a4 0)) hx hb hts hK hR hown in_6 rfl (by decide) 0 (by decide) m_37 rfl dX7_flatness_15 hf (fun hf => ?_)
  refine nm_i hf (fun x5 hf => ?_)
  refine lv_istore_n (pc := 18) (lv' := [(2, .int x5), (0, .ref v0), (1, .int v1)]) hx hb dX7_flatness_18 rfl hl (by decide) rfl (fun ls hl => ?_)
  refine lv_aload_n (pc := 19) hx hb dX7_flatness_19 rfl (lv_at hl 1 rfl) ?_
  refine rg_getr (pc := 20) (C := RX7) (T := TX7) (N := 11) (κ := 7) hx hb hts hK hR hown in_7 rfl (by decide) 0 (by decide) m_219 rfl dX7_flatness_20 hf (fun a6 hf => ?_)
  refine rg_getr (pc := 23) (C := RX3) (T := TX3) (N := 7) (κ := 3) hx hb hts hK hR hown in_3 rfl (by decide) 0 (by decide) m_141 rfl dX7_flatness_23 hf (fun a7 hf => ?_)
  refine lv_iload_n (pc := 26) hx hb dX7_flatness_26 rfl (lv_at hl 2 rfl) ?_
  refine rg_puti (pc := 27) (C := RX6) (T := TX6) (N := 1) (κ := 6) hx hb hts hK hR hown in_6 rfl (by decide) 0 (by decide) m_37 tyX6 tyX6_ok nmX6 rfl rfl rfl rfl dX7_flatness_27 hf (fun M8 H locs hf hR => ?_)
  refine lv_iload_n (pc := 30) hx hb dX7_flatness_30 rfl (lv_at hl 0 rfl) ?_
  exact rg_xiret (pc := 31) hx hb hlocks hr hf hR (by show 1 ≤ 1; decide) (by show 6 ≤ 6; decide) dX7_flatness_31
-- X7_bounds
def f_X7_bounds (v0 : Nat) (v1 : Int32) (v2 : Int32) (v3 : Int32) (M : Mem) : Option (Mem × (Unit ⊕ Nat)) := bx (f_X7_requireRange v1 (0 : Int32) (1000 : Int32) M) fun M1 _ => bx (f_X7_requireRange v2 v1 (5000 : Int32) M1) fun M3 _ => bx (f_X7_requireRange v3 (0 : Int32) (100 : Int32) M3) fun M5 _ => gd (M5.1 v0 = 7) <| rd (mm_r M5 v0 0) fun a7 => gd (M5.1 a7 = 3) <| lt_ (ms_i M5 a7 4 v1) fun M8 => gd (M8.1 v0 = 7) <| rd (mm_r M8 v0 0) fun a9 => gd (M8.1 a9 = 3) <| lt_ (ms_i M8 a9 5 v2) fun M10 => gd (M10.1 v0 = 7) <| rd (mm_r M10 v0 0) fun a11 => gd (M10.1 a11 = 3) <| lt_ (ms_i M10 a11 6 v3) fun M12 => some (M12, .inl ())
abbrev rm_X7_bounds : Room := { frames := 7, cells := 3, slots := 18, locals := 112 }
theorem hd_X7_bounds : yX7_bounds.cls ≠ "java/lang/invoke/MethodHandle" ∧ yX7_bounds.cls ≠ "java/lang/invoke/VarHandle" ∧ (parseMethodDescriptor yX7_bounds.desc).map (fun d => d.parameters.length) = some 3 := by decide +kernel
set_option maxHeartbeats 8000000 in
set_option maxRecDepth 100000 in
theorem c_X7_bounds {l : Launch} (hlt : l.stackTraces = false) {D : va_G} {ca : Nat → ClassId} {b : Nat} {v0 : Nat} {v1 : Int32} {v2 : Int32} {v3 : Int32} {M : Mem} {r : Mem × (Unit ⊕ Nat)} (hf : f_X7_bounds v0 v1 v2 v3 M = some r) : CxV l yX7_bounds cX7_bounds 4 none rm_X7_bounds D ca b [.ref v0, .int v1, .int v2, .int v3] M r 3 18 := by
  intro sz
  refine bodyx_start (nx := false) (Qc := fun A => cxV D ca A r) (XC := fun A => cxX D ca A r) (by decide +kernel) (Nat.le_of_ble_eq_true rfl) ?_
  intro p e s m args below meth c A hC htab hr hR ls hl
  obtain ⟨hx, hb, hml, hts, hown, hlocks, hXe, hA, hAb, hnm⟩ := id hC
  have hK := hXe.1
  have hl : lv_has ls 4 [(0, .ref v0), (1, .int v1), (2, .int v2), (3, .int v3)] := hl
  unfold f_X7_bounds at hf
  refine lv_iload_n (pc := 0) hx hb dX7_bounds_0 rfl (lv_at hl 1 rfl) ?_
  refine lv_iconst (pc := 1) (v := (0 : Int32)) hx hb dX7_bounds_1 (by decide) ?_
  refine lv_sipush (pc := 2) (v := (1000 : Int32)) hx hb dX7_bounds_2 (by decide) ?_
  refine rg_xV (pc := 5) hf hR hA htab hlocks (by show 1 ≤ 3; decide) (by show 6 ≤ 18; decide) (fun z hz => xn_S (As := [.int v1, .int (0 : Int32), .int (1000 : Int32)]) (rest := []) hC hR (c_X7_requireRange hlt hz _) m_261 m_262 m_1 m_263 hd_X7_requireRange ⟨rfl, rfl, Nat.le_of_ble_eq_true rfl, Nat.le_of_ble_eq_true rfl⟩ rfl hl.1 rfl (Nat.le_of_ble_eq_true rfl) dX7_bounds_5 ⟨Nat.le_of_ble_eq_true rfl, Nat.le_of_ble_eq_true rfl⟩) (fun M1 H locs hf hR => ?_)
  refine lv_iload_n (pc := 8) hx hb dX7_bounds_8 rfl (lv_at hl 2 rfl) ?_
  refine lv_iload_n (pc := 9) hx hb dX7_bounds_9 rfl (lv_at hl 1 rfl) ?_
  refine lv_sipush (pc := 10) (v := (5000 : Int32)) hx hb dX7_bounds_10 (by decide) ?_
  refine rg_xV (pc := 13) hf hR hA htab hlocks (by show 2 ≤ 3; decide) (by show 12 ≤ 18; decide) (fun z hz => xn_S (As := [.int v2, .int v1, .int (5000 : Int32)]) (rest := []) hC hR (c_X7_requireRange hlt hz _) m_261 m_262 m_1 m_263 hd_X7_requireRange ⟨rfl, rfl, Nat.le_of_ble_eq_true rfl, Nat.le_of_ble_eq_true rfl⟩ rfl hl.1 rfl (Nat.le_of_ble_eq_true rfl) dX7_bounds_13 ⟨Nat.le_of_ble_eq_true rfl, Nat.le_of_ble_eq_true rfl⟩) (fun M3 H locs hf hR => ?_)
  refine lv_iload_n (pc := 16) hx hb dX7_bounds_16 rfl (lv_at hl 3 rfl) ?_
  refine lv_iconst (pc := 17) (v := (0 : Int32)) hx hb dX7_bounds_17 (by decide) ?_
  refine lv_bipush (pc := 18) (v := (100 : Int32)) hx hb dX7_bounds_18 (by decide) ?_
  refine rg_xV (pc := 20) hf hR hA htab hlocks (by show 3 ≤ 3; decide) (by show 18 ≤ 18; decide) (fun z hz => xn_S (As := [.int v3, .int (0 : Int32), .int (100 : Int32)]) (rest := []) hC hR (c_X7_requireRange hlt hz _) m_261 m_262 m_1 m_263 hd_X7_requireRange ⟨rfl, rfl, Nat.le_of_ble_eq_true rfl, Nat.le_of_ble_eq_true rfl⟩ rfl hl.1 rfl (Nat.le_of_ble_eq_true rfl) dX7_bounds_20 ⟨Nat.le_of_ble_eq_true rfl, Nat.le_of_ble_eq_true rfl⟩) (fun M5 H locs hf hR => ?_)
  refine lv_aload_n (pc := 23) hx hb dX7_bounds_23 rfl (lv_at hl 0 rfl) ?_
  refine rg_getr (pc := 24) (C := RX7) (T := TX7) (N := 11) (κ := 7) hx hb hts hK hR hown in_7 rfl (by decide) 0 (by decide) m_219 rfl dX7_bounds_24 hf (fun a7 hf => ?_)
  refine lv_iload_n (pc := 27) hx hb dX7_bounds_27 rfl (lv_at hl 1 rfl) ?_
  refine rg_puti (pc := 28) (C := RX3) (T := TX3) (N := 7) (κ := 3) hx hb hts hK hR hown in_3 rfl (by decide) 4 (by decide) m_149 tyX3 tyX3_ok nmX3 rfl rfl rfl rfl dX7_bounds_28 hf (fun M8 H locs hf hR => ?_)
  refine lv_aload_n (pc := 31) hx hb dX7_bounds_31 rfl (lv_at hl 0 rfl) ?_
  refine rg_getr (pc := 32) (C := RX7) (T := TX7) (N := 11) (κ := 7) hx hb hts hK hR hown in_7 rfl (by decide) 0 (by decide) m_219 rfl dX7_bounds_32 hf (fun a9 hf => ?_)
  refine lv_iload_n (pc := 35) hx hb dX7_bounds_35 rfl (lv_at hl 2 rfl) ?_
  refine rg_puti (pc := 36) (C := RX3) (T := TX3) (N := 7) (κ := 3) hx hb hts hK hR hown in_3 rfl (by decide) 5 (by decide) m_151 tyX3 tyX3_ok nmX3 rfl rfl rfl rfl dX7_bounds_36 hf (fun M10 H locs hf hR => ?_)
  refine lv_aload_n (pc := 39) hx hb dX7_bounds_39 rfl (lv_at hl 0 rfl) ?_
  refine rg_getr (pc := 40) (C := RX7) (T := TX7) (N := 11) (κ := 7) hx hb hts hK hR hown in_7 rfl (by decide) 0 (by decide) m_219 rfl dX7_bounds_40 hf (fun a11 hf => ?_)
  refine lv_iload_n (pc := 43) hx hb dX7_bounds_43 rfl (lv_at hl 3 rfl) ?_
  refine rg_puti (pc := 44) (C := RX3) (T := TX3) (N := 7) (κ := 3) hx hb hts hK hR hown in_3 rfl (by decide) 6 (by decide) m_153 tyX3 tyX3_ok nmX3 rfl rfl rfl rfl dX7_bounds_44 hf (fun M12 H locs hf hR => ?_)
  exact rg_xvret (pc := 47) hx hb hlocks hr hf hR (by show 3 ≤ 3; decide) (by show 18 ≤ 18; decide) dX7_bounds_47
-- X7_passTick
def f_X7_passTick_b65 (k65 : Nat → Int32 → Mem → Option (Mem)) (v0 : Nat) (v1 : Int32) (M : Mem) : Option (Mem) := gd (M.1 v0 = 7) <| if (mm_i M v0 2) ≤ v1 then (gd (M.1 v0 = 7) <| rd (mm_r M v0 0) fun a1 => gd (M.1 a1 = 3) <| bd (f_X3_meetAll a1 M) fun z2 => gd (z2.1 v0 = 7) <| rd (mm_r z2 v0 0) fun a3 => gd (z2.1 a3 = 3) <| bd (f_X3_darken a3 z2) fun z4 => gd (z4.1 v0 = 7) <| gd (z4.1 v0 = 7) <| lt_ (ms_i z4 v0 7 ((mm_i z4 v0 7) + (1 : Int32))) fun M5 => some M5) else (gd (M.1 v0 = 7) <| rd (mm_r M v0 0) fun a6 => gd (M.1 v0 = 7) <| rd (mm_r M v0 1) fun a7 => gd (M.1 a7 = 14 ∧ vi_ v1 (mm_N M a7)) <| rd (mm_r M a7 (v1).toNatClampNeg) fun a8 => gd (M.1 a6 = 3) <| bd (f_X3_yieldTo a6 a8 M) fun z9 => lt_ (v1 + (1 : Int32)) fun x10 => k65 v0 x10 z9)
def f_X7_passTick_L65  : Nat → Nat → Int32 → Mem → Option (Mem)
  | 0 => fun _ _ _ => none
  | n + 1 => f_X7_passTick_b65  (f_X7_passTick_L65  n)
def f_X7_passTick_b2 (k2 : Nat → Int32 → Mem → Option (Mem)) (v0 : Nat) (v1 : Int32) (M : Mem) : Option (Mem) := gd (M.1 v0 = 7) <| if (mm_i M v0 2) ≤ v1 then (gd (M.1 v0 = 7) <| rd (mm_r M v0 0) fun a11 => gd (M.1 a11 = 3) <| bd (f_X3_goRound a11 M) fun z12 => f_X7_passTick_L65 200 v0 (0 : Int32) z12) else (gd (M.1 v0 = 7) <| rd (mm_r M v0 1) fun a13 => gd (M.1 a13 = 14 ∧ vi_ v1 (mm_N M a13)) <| rd (mm_r M a13 (v1).toNatClampNeg) fun a14 => gd (M.1 v0 = 7) <| rd (mm_r M v0 1) fun a15 => gd (M.1 a15 = 14 ∧ vi_ v1 (mm_N M a15)) <| rd (mm_r M a15 (v1).toNatClampNeg) fun a16 => gd (M.1 a16 = 5) <| gd (M.1 v0 = 7) <| rd (mm_r M v0 0) fun a17 => gd (M.1 a17 = 3) <| rd (mm_r M a17 0) fun a18 => gd (M.1 v0 = 7) <| rd (mm_r M v0 1) fun a19 => gd (M.1 a19 = 14 ∧ vi_ v1 (mm_N M a19)) <| rd (mm_r M a19 (v1).toNatClampNeg) fun a20 => gd (M.1 a20 = 5) <| gd (M.1 a18 = 6) <| bd (f_X6_speedIn a18 (mm_i M a20 0) M) fun z21 => bd (f_X7_turned (mm_i M a16 1) z21.2 z21.1) fun z22 => gd (z22.1.1 a14 = 5) <| lt_ (ms_i z22.1 a14 1 z22.2) fun M23 => lt_ (v1 + (1 : Int32)) fun x24 => k2 v0 x24 M23)
def f_X7_passTick_L2  : Nat → Nat → Int32 → Mem → Option (Mem)
  | 0 => fun _ _ _ => none
  | n + 1 => f_X7_passTick_b2  (f_X7_passTick_L2  n)
def f_X7_passTick (v0 : Nat) (M : Mem) : Option (Mem) := f_X7_passTick_L2 200 v0 (0 : Int32) M
abbrev rm_X7_passTick : Room := { frames := 5, cells := 0, slots := 0, locals := 119 }
theorem hd_X7_passTick : yX7_passTick.cls ≠ "java/lang/invoke/MethodHandle" ∧ yX7_passTick.cls ≠ "java/lang/invoke/VarHandle" ∧ (parseMethodDescriptor yX7_passTick.desc).map (fun d => d.parameters.length) = some 0 := by decide +kernel
set_option maxHeartbeats 8000000 in
set_option maxRecDepth 100000 in
theorem c_X7_passTick {l : Launch} {D : va_G} {ca : Nat → ClassId} {b : Nat} {nx : Bool} {v0 : Nat} {M : Mem} {r : Mem} (hf : f_X7_passTick v0 M = some r) : CtV l yX7_passTick cX7_passTick 2 none rm_X7_passTick D ca b nx [.ref v0] M r 0 0 := by
  intro sz
  refine body_start (Qc := fun A => cvV D ca nx A r) (by decide +kernel) (Nat.le_of_ble_eq_true rfl) ?_
  intro p e s m args below meth c A hC hr hR ls hl
  obtain ⟨hx, hb, hml, hts, hown, hlocks, hXe, hA, hAb, hnm⟩ := id hC
  have hK := hXe.1
  have hl : lv_has ls 2 [(0, .ref v0)] := hl
  have hB65 : ∀ (k65 : Nat → Int32 → Mem → Option (Mem)) (hk65 : ∀ (v0 : Nat) (v1 : Int32) (M : Mem) (H : Heap) (locs : List Loc) (ls : Array Slot), k65 v0 v1 M = some r → Hp D ca nx A s M H locs → lv_has ls 2 [(0, .ref v0), (1, .int v1)] → W p l e rm_X7_passTick s m args below meth c H locs 0 0 (MQ below (cvV D ca nx A r) args s 0 0 A) (F0 m 65 ls [])) (v0 : Nat) (v1 : Int32) (M : Mem) (H : Heap) (locs : List Loc) (ls : Array Slot), f_X7_passTick_b65 k65 v0 v1 M = some r → Hp D ca nx A s M H locs → lv_has ls 2 [(0, .ref v0), (1, .int v1)] → W p l e rm_X7_passTick s m args below meth c H locs 0 0 (MQ below (cvV D ca nx A r) args s 0 0 A) (F0 m 65 ls []) := by
    intro k65 hk65 v0 v1 M H locs ls hf hR hl
    unfold f_X7_passTick_b65 at hf
    refine lv_iload_n (pc := 65) hx hb dX7_passTick_65 rfl (lv_at hl 1 rfl) ?_
    refine lv_aload_n (pc := 66) hx hb dX7_passTick_66 rfl (lv_at hl 0 rfl) ?_
    refine rg_get (pc := 67) (C := RX7) (T := TX7) (N := 11) (κ := 7) (v := .int (mm_i M v0 2)) hx hb hts hK hR hown in_7 rfl (by decide) 2 (by decide) m_221 rfl dX7_passTick_67 hf (fun hf => ?_)
    refine lv_icmp_ge (pc := 70) (tgt := 92) hx hb dX7_passTick_70 (by decide) (fun hc => ?_) (fun hc => ?_)
    · replace hf := it_t hf hc
      refine lv_aload_n (pc := 92) hx hb dX7_passTick_92 rfl (lv_at hl 0 rfl) ?_
      refine rg_getr (pc := 93) (C := RX7) (T := TX7) (N := 11) (κ := 7) hx hb hts hK hR hown in_7 rfl (by decide) 0 (by decide) m_219 rfl dX7_passTick_93 hf (fun a1 hf => ?_)
      obtain ⟨hq, hf⟩ := gd_e hf
      refine rg_V (pc := 96) hf hR hA (fun z hz => rn_V (κ := 3) (As := []) (rest := []) hC hR rfl (by decide) hq (c_X3_meetAll  hz _) m_423 m_424 m_425 m_2 m_426 hd_X3_meetAll ⟨rfl, rfl, Nat.le_of_ble_eq_true rfl, Nat.le_of_ble_eq_true rfl⟩ rfl hl.1 rfl (Nat.le_of_ble_eq_true rfl) dX7_passTick_96 ⟨Nat.le_of_ble_eq_true rfl, Nat.le_of_ble_eq_true rfl⟩) (fun z2 H locs hf hR => ?_)
      refine lv_aload_n (pc := 99) hx hb dX7_passTick_99 rfl (lv_at hl 0 rfl) ?_
      refine rg_getr (pc := 100) (C := RX7) (T := TX7) (N := 11) (κ := 7) hx hb hts hK hR hown in_7 rfl (by decide) 0 (by decide) m_219 rfl dX7_passTick_100 hf (fun a3 hf => ?_)
      obtain ⟨hq, hf⟩ := gd_e hf
      refine rg_V (pc := 103) hf hR hA (fun z hz => rn_V (κ := 3) (As := []) (rest := []) hC hR rfl (by decide) hq (c_X3_darken  hz _) m_455 m_456 m_457 m_2 m_458 hd_X3_darken ⟨rfl, rfl, Nat.le_of_ble_eq_true rfl, Nat.le_of_ble_eq_true rfl⟩ rfl hl.1 rfl (Nat.le_of_ble_eq_true rfl) dX7_passTick_103 ⟨Nat.le_of_ble_eq_true rfl, Nat.le_of_ble_eq_true rfl⟩) (fun z4 H locs hf hR => ?_)
      refine lv_aload_n (pc := 106) hx hb dX7_passTick_106 rfl (lv_at hl 0 rfl) ?_
      refine lv_dup (pc := 107) hx hb dX7_passTick_107 rfl ?_
      refine rg_get (pc := 108) (C := RX7) (T := TX7) (N := 11) (κ := 7) (v := .int (mm_i z4 v0 7)) hx hb hts hK hR hown in_7 rfl (by decide) 7 (by decide) m_224 rfl dX7_passTick_108 hf (fun hf => ?_)
      refine lv_iconst (pc := 111) (v := (1 : Int32)) hx hb dX7_passTick_111 (by decide) ?_
      refine lv_iadd (pc := 112) hx hb dX7_passTick_112 ?_
      refine rg_puti (pc := 113) (C := RX7) (T := TX7) (N := 11) (κ := 7) hx hb hts hK hR hown in_7 rfl (by decide) 7 (by decide) m_224 tyX7 tyX7_ok nmX7 rfl rfl rfl rfl dX7_passTick_113 hf (fun M5 H locs hf hR => ?_)
      exact rg_vret (pc := 116) hx hb hlocks hr hf hR dX7_passTick_116
    · replace hf := it_f hf hc
      refine lv_aload_n (pc := 73) hx hb dX7_passTick_73 rfl (lv_at hl 0 rfl) ?_
      refine rg_getr (pc := 74) (C := RX7) (T := TX7) (N := 11) (κ := 7) hx hb hts hK hR hown in_7 rfl (by decide) 0 (by decide) m_219 rfl dX7_passTick_74 hf (fun a6 hf => ?_)
      refine lv_aload_n (pc := 77) hx hb dX7_passTick_77 rfl (lv_at hl 0 rfl) ?_
      refine rg_getr (pc := 78) (C := RX7) (T := TX7) (N := 11) (κ := 7) hx hb hts hK hR hown in_7 rfl (by decide) 1 (by decide) m_220 rfl dX7_passTick_78 hf (fun a7 hf => ?_)
      refine lv_iload_n (pc := 81) hx hb dX7_passTick_81 rfl (lv_at hl 1 rfl) ?_
      refine rg_aald (pc := 82) (κ := 14) hx hb hK hR 4 rfl (by decide) dX7_passTick_82 hf (fun a8 hf => ?_)
      obtain ⟨hq, hf⟩ := gd_e hf
      refine rg_V (pc := 83) hf hR hA (fun z hz => rn_V (κ := 3) (As := [.ref a8]) (rest := []) hC hR rfl (by decide) hq (c_X3_yieldTo  hz _) m_400 m_401 m_402 m_2 m_403 hd_X3_yieldTo ⟨rfl, rfl, Nat.le_of_ble_eq_true rfl, Nat.le_of_ble_eq_true rfl⟩ rfl hl.1 rfl (Nat.le_of_ble_eq_true rfl) dX7_passTick_83 ⟨Nat.le_of_ble_eq_true rfl, Nat.le_of_ble_eq_true rfl⟩) (fun z9 H locs hf hR => ?_)
      refine rg_iinc (pc := 86) hx hb dX7_passTick_86 hl (k := 1) rfl rfl (by decide) hf (fun x10 ls hf hl => ?_)
      have hl : lv_has ls 2 [(1, .int x10), (0, .ref v0)] := hl
      refine lv_goto (pc := 89) (tgt := 65) hx hb dX7_passTick_89 (by decide) ?_
      exact hk65 v0 x10 z9 _ _ _ hf hR (lv_sub hl [1, 0] rfl)
  have hL65 : ∀  (n : Nat) (v0 : Nat) (v1 : Int32) (M : Mem) (H : Heap) (locs : List Loc) (ls : Array Slot), f_X7_passTick_L65  n v0 v1 M = some r → Hp D ca nx A s M H locs → lv_has ls 2 [(0, .ref v0), (1, .int v1)] → W p l e rm_X7_passTick s m args below meth c H locs 0 0 (MQ below (cvV D ca nx A r) args s 0 0 A) (F0 m 65 ls []) := by
    intro  n
    induction n with
    | zero => intro v0 v1 M H locs ls hf; exact nomatch (show (none : Option (Mem)) = some r from hf)
    | succ n ih => intro v0 v1 M H locs ls hf hR hl; exact hB65  (f_X7_passTick_L65  n) ih v0 v1 M H locs ls hf hR hl
  have hB2 : ∀ (k2 : Nat → Int32 → Mem → Option (Mem)) (hk2 : ∀ (v0 : Nat) (v1 : Int32) (M : Mem) (H : Heap) (locs : List Loc) (ls : Array Slot), k2 v0 v1 M = some r → Hp D ca nx A s M H locs → lv_has ls 2 [(0, .ref v0), (1, .int v1)] → W p l e rm_X7_passTick s m args below meth c H locs 0 0 (MQ below (cvV D ca nx A r) args s 0 0 A) (F0 m 2 ls [])) (v0 : Nat) (v1 : Int32) (M : Mem) (H : Heap) (locs : List Loc) (ls : Array Slot), f_X7_passTick_b2 k2 v0 v1 M = some r → Hp D ca nx A s M H locs → lv_has ls 2 [(0, .ref v0), (1, .int v1)] → W p l e rm_X7_passTick s m args below meth c H locs 0 0 (MQ below (cvV D ca nx A r) args s 0 0 A) (F0 m 2 ls []) := by
    intro k2 hk2 v0 v1 M H locs ls hf hR hl
    unfold f_X7_passTick_b2 at hf
    refine lv_iload_n (pc := 2) hx hb dX7_passTick_2 rfl (lv_at hl 1 rfl) ?_
    refine lv_aload_n (pc := 3) hx hb dX7_passTick_3 rfl (lv_at hl 0 rfl) ?_
    refine rg_get (pc := 4) (C := RX7) (T := TX7) (N := 11) (κ := 7) (v := .int (mm_i M v0 2)) hx hb hts hK hR hown in_7 rfl (by decide) 2 (by decide) m_221 rfl dX7_passTick_4 hf (fun hf => ?_)
    refine lv_icmp_ge (pc := 7) (tgt := 56) hx hb dX7_passTick_7 (by decide) (fun hc => ?_) (fun hc => ?_)
    · replace hf := it_t hf hc
      refine lv_aload_n (pc := 56) hx hb dX7_passTick_56 rfl (lv_at hl 0 rfl) ?_
      refine rg_getr (pc := 57) (C := RX7) (T := TX7) (N := 11) (κ := 7) hx hb hts hK hR hown in_7 rfl (by decide) 0 (by decide) m_219 rfl dX7_passTick_57 hf (fun a11 hf => ?_)
      obtain ⟨hq, hf⟩ := gd_e hf
      refine rg_V (pc := 60) hf hR hA (fun z hz => rn_V (κ := 3) (As := []) (rest := []) hC hR rfl (by decide) hq (c_X3_goRound  hz _) m_394 m_395 m_396 m_2 m_397 hd_X3_goRound ⟨rfl, rfl, Nat.le_of_ble_eq_true rfl, Nat.le_of_ble_eq_true rfl⟩ rfl hl.1 rfl (Nat.le_of_ble_eq_true rfl) dX7_passTick_60 ⟨Nat.le_of_ble_eq_true rfl, Nat.le_of_ble_eq_true rfl⟩) (fun z12 H locs hf hR => ?_)
      refine lv_iconst (pc := 63) (v := (0 : Int32)) hx hb dX7_passTick_63 (by decide) ?_
      refine lv_istore_n (pc := 64) (lv' := [(1, .int (0 : Int32)), (0, .ref v0)]) hx hb dX7_passTick_64 rfl hl (by decide) rfl (fun ls hl => ?_)
      exact hL65 200 v0 (0 : Int32) z12 _ _ _ hf hR (lv_sub hl [1, 0] rfl)
    · replace hf := it_f hf hc
      refine lv_aload_n (pc := 10) hx hb dX7_passTick_10 rfl (lv_at hl 0 rfl) ?_
      refine rg_getr (pc := 11) (C := RX7) (T := TX7) (N := 11) (κ := 7) hx hb hts hK hR hown in_7 rfl (by decide) 1 (by decide) m_220 rfl dX7_passTick_11 hf (fun a13 hf => ?_)
      refine lv_iload_n (pc := 14) hx hb dX7_passTick_14 rfl (lv_at hl 1 rfl) ?_
      refine rg_aald (pc := 15) (κ := 14) hx hb hK hR 4 rfl (by decide) dX7_passTick_15 hf (fun a14 hf => ?_)
      refine lv_aload_n (pc := 16) hx hb dX7_passTick_16 rfl (lv_at hl 0 rfl) ?_
      refine rg_getr (pc := 17) (C := RX7) (T := TX7) (N := 11) (κ := 7) hx hb hts hK hR hown in_7 rfl (by decide) 1 (by decide) m_220 rfl dX7_passTick_17 hf (fun a15 hf => ?_)
      refine lv_iload_n (pc := 20) hx hb dX7_passTick_20 rfl (lv_at hl 1 rfl) ?_
      refine rg_aald (pc := 21) (κ := 14) hx hb hK hR 4 rfl (by decide) dX7_passTick_21 hf (fun a16 hf => ?_)
      refine rg_get (pc := 22) (C := RX5) (T := TX5) (N := 3) (κ := 5) (v := .int (mm_i M a16 1)) hx hb hts hK hR hown in_5 rfl (by decide) 1 (by decide) m_178 rfl dX7_passTick_22 hf (fun hf => ?_)
      refine lv_aload_n (pc := 25) hx hb dX7_passTick_25 rfl (lv_at hl 0 rfl) ?_
      refine rg_getr (pc := 26) (C := RX7) (T := TX7) (N := 11) (κ := 7) hx hb hts hK hR hown in_7 rfl (by decide) 0 (by decide) m_219 rfl dX7_passTick_26 hf (fun a17 hf => ?_)
      refine rg_getr (pc := 29) (C := RX3) (T := TX3) (N := 7) (κ := 3) hx hb hts hK hR hown in_3 rfl (by decide) 0 (by decide) m_141 rfl dX7_passTick_29 hf (fun a18 hf => ?_)
      refine lv_aload_n (pc := 32) hx hb dX7_passTick_32 rfl (lv_at hl 0 rfl) ?_
      refine rg_getr (pc := 33) (C := RX7) (T := TX7) (N := 11) (κ := 7) hx hb hts hK hR hown in_7 rfl (by decide) 1 (by decide) m_220 rfl dX7_passTick_33 hf (fun a19 hf => ?_)
      refine lv_iload_n (pc := 36) hx hb dX7_passTick_36 rfl (lv_at hl 1 rfl) ?_
      refine rg_aald (pc := 37) (κ := 14) hx hb hK hR 4 rfl (by decide) dX7_passTick_37 hf (fun a20 hf => ?_)
      refine rg_get (pc := 38) (C := RX5) (T := TX5) (N := 3) (κ := 5) (v := .int (mm_i M a20 0)) hx hb hts hK hR hown in_5 rfl (by decide) 0 (by decide) m_176 rfl dX7_passTick_38 hf (fun hf => ?_)
      obtain ⟨hq, hf⟩ := gd_e hf
      refine rg_I (pc := 41) hf hR hA (fun z hz => rn_V (κ := 6) (As := [.int (mm_i M a20 0)]) (rest := [.int (mm_i M a16 1), .ref a14]) hC hR rfl (by decide) hq (c_X6_speedIn  hz _) m_382 m_383 m_384 m_3 m_385 hd_X6_speedIn ⟨rfl, rfl, Nat.le_of_ble_eq_true rfl, Nat.le_of_ble_eq_true rfl⟩ rfl hl.1 rfl (Nat.le_of_ble_eq_true rfl) dX7_passTick_41 ⟨Nat.le_of_ble_eq_true rfl, Nat.le_of_ble_eq_true rfl⟩) (fun z21 H locs hf hR => ?_)
      refine rg_I (pc := 44) hf hR hA (fun z hz => rn_S (As := [.int (mm_i M a16 1), .int z21.2]) (rest := [.ref a14]) hC hR (c_X7_turned  hz _) m_390 m_391 m_1 m_392 hd_X7_turned ⟨rfl, rfl, Nat.le_of_ble_eq_true rfl, Nat.le_of_ble_eq_true rfl⟩ rfl hl.1 rfl (Nat.le_of_ble_eq_true rfl) dX7_passTick_44 ⟨Nat.le_of_ble_eq_true rfl, Nat.le_of_ble_eq_true rfl⟩) (fun z22 H locs hf hR => ?_)
      refine rg_puti (pc := 47) (C := RX5) (T := TX5) (N := 3) (κ := 5) hx hb hts hK hR hown in_5 rfl (by decide) 1 (by decide) m_178 tyX5 tyX5_ok nmX5 rfl rfl rfl rfl dX7_passTick_47 hf (fun M23 H locs hf hR => ?_)
      refine rg_iinc (pc := 50) hx hb dX7_passTick_50 hl (k := 1) rfl rfl (by decide) hf (fun x24 ls hf hl => ?_)
      have hl : lv_has ls 2 [(1, .int x24), (0, .ref v0)] := hl
      refine lv_goto (pc := 53) (tgt := 2) hx hb dX7_passTick_53 (by decide) ?_
      exact hk2 v0 x24 M23 _ _ _ hf hR (lv_sub hl [1, 0] rfl)
  have hL2 : ∀  (n : Nat) (v0 : Nat) (v1 : Int32) (M : Mem) (H : Heap) (locs : List Loc) (ls : Array Slot), f_X7_passTick_L2  n v0 v1 M = some r → Hp D ca nx A s M H locs → lv_has ls 2 [(0, .ref v0), (1, .int v1)] → W p l e rm_X7_passTick s m args below meth c H locs 0 0 (MQ below (cvV D ca nx A r) args s 0 0 A) (F0 m 2 ls []) := by
    intro  n
    induction n with
    | zero => intro v0 v1 M H locs ls hf; exact nomatch (show (none : Option (Mem)) = some r from hf)
    | succ n ih => intro v0 v1 M H locs ls hf hR hl; exact hB2  (f_X7_passTick_L2  n) ih v0 v1 M H locs ls hf hR hl
  unfold f_X7_passTick at hf
  refine lv_iconst (pc := 0) (v := (0 : Int32)) hx hb dX7_passTick_0 (by decide) ?_
  refine lv_istore_n (pc := 1) (lv' := [(1, .int (0 : Int32)), (0, .ref v0)]) hx hb dX7_passTick_1 rfl hl (by decide) rfl (fun ls hl => ?_)
  exact hL2 200 v0 (0 : Int32) M _ _ _ hf hR (lv_sub hl [1, 0] rfl)
-- X7_tick
def f_X7_tick_b31 (k31 : Nat → Int32 → Int32 → Mem → Option (Mem × (Int32 ⊕ Nat))) (v0 : Nat) (v1 : Int32) (v2 : Int32) (M : Mem) : Option (Mem × (Int32 ⊕ Nat)) := if v1 ≤ v2 then (gd (M.1 v0 = 7) <| some (M, .inl (mm_i M v0 7))) else (gd (M.1 v0 = 7) <| bd (f_X7_passTick v0 M) fun z1 => lt_ (v2 + (1 : Int32)) fun x2 => k31 v0 v1 x2 z1)
def f_X7_tick_L31  : Nat → Nat → Int32 → Int32 → Mem → Option (Mem × (Int32 ⊕ Nat))
  | 0 => fun _ _ _ _ => none
  | n + 1 => f_X7_tick_b31  (f_X7_tick_L31  n)
def f_X7_tick (v0 : Nat) (v1 : Int32) (M : Mem) : Option (Mem × (Int32 ⊕ Nat)) := bx (f_X7_requireRange v1 (1 : Int32) (50 : Int32) M) fun M3 _ => gd (M3.1 v0 = 7) <| if ((mm_i M3 v0 7) + v1) ≤ (2000 : Int32) then (f_X7_tick_L31 200 v0 v1 (0 : Int32) M3) else (some (M3, .inr 1))
abbrev rm_X7_tick : Room := { frames := 7, cells := 2, slots := 12, locals := 140 }
theorem hd_X7_tick : yX7_tick.cls ≠ "java/lang/invoke/MethodHandle" ∧ yX7_tick.cls ≠ "java/lang/invoke/VarHandle" ∧ (parseMethodDescriptor yX7_tick.desc).map (fun d => d.parameters.length) = some 1 := by decide +kernel
set_option maxHeartbeats 8000000 in
set_option maxRecDepth 100000 in
theorem c_X7_tick {l : Launch} (hlt : l.stackTraces = false) {D : va_G} {ca : Nat → ClassId} {b : Nat} {v0 : Nat} {v1 : Int32} {M : Mem} {r : Mem × (Int32 ⊕ Nat)} (hf : f_X7_tick v0 v1 M = some r) : CxI l yX7_tick cX7_tick 3 (some .int) rm_X7_tick D ca b [.ref v0, .int v1] M r 2 12 := by
  intro sz
  refine bodyx_start (nx := false) (Qc := fun A => cxI D ca A r) (XC := fun A => cxX D ca A r) (by decide +kernel) (Nat.le_of_ble_eq_true rfl) ?_
  intro p e s m args below meth c A hC htab hr hR ls hl
  obtain ⟨hx, hb, hml, hts, hown, hlocks, hXe, hA, hAb, hnm⟩ := id hC
  have hK := hXe.1
  have hl : lv_has ls 3 [(0, .ref v0), (1, .int v1)] := hl
  have hB31 : ∀ (k31 : Nat → Int32 → Int32 → Mem → Option (Mem × (Int32 ⊕ Nat))) (hk31 : ∀ (v0 : Nat) (v1 : Int32) (v2 : Int32) (M : Mem) (H : Heap) (locs : List Loc) (ls : Array Slot), k31 v0 v1 v2 M = some r → Hp D ca false A s M H locs → lv_has ls 3 [(0, .ref v0), (1, .int v1), (2, .int v2)] → W p l e rm_X7_tick s m args below meth c H locs 1 6 (vx_MQ below (cxI D ca A r) (cxX D ca A r) args s 2 12 A) (F0 m 31 ls [])) (v0 : Nat) (v1 : Int32) (v2 : Int32) (M : Mem) (H : Heap) (locs : List Loc) (ls : Array Slot), f_X7_tick_b31 k31 v0 v1 v2 M = some r → Hp D ca false A s M H locs → lv_has ls 3 [(0, .ref v0), (1, .int v1), (2, .int v2)] → W p l e rm_X7_tick s m args below meth c H locs 1 6 (vx_MQ below (cxI D ca A r) (cxX D ca A r) args s 2 12 A) (F0 m 31 ls []) := by
    intro k31 hk31 v0 v1 v2 M H locs ls hf hR hl
    unfold f_X7_tick_b31 at hf
    refine lv_iload_n (pc := 31) hx hb dX7_tick_31 rfl (lv_at hl 2 rfl) ?_
    refine lv_iload_n (pc := 32) hx hb dX7_tick_32 rfl (lv_at hl 1 rfl) ?_
    refine lv_icmp_ge (pc := 33) (tgt := 46) hx hb dX7_tick_33 (by decide) (fun hc => ?_) (fun hc => ?_)
    · replace hf := it_t hf hc
      refine lv_aload_n (pc := 46) hx hb dX7_tick_46 rfl (lv_at hl 0 rfl) ?_
      refine rg_get (pc := 47) (C := RX7) (T := TX7) (N := 11) (κ := 7) (v := .int (mm_i M v0 7)) hx hb hts hK hR hown in_7 rfl (by decide) 7 (by decide) m_224 rfl dX7_tick_47 hf (fun hf => ?_)
      exact rg_xiret (pc := 50) hx hb hlocks hr hf hR (by show 1 ≤ 2; decide) (by show 6 ≤ 12; decide) dX7_tick_50
    · replace hf := it_f hf hc
      refine lv_aload_n (pc := 36) hx hb dX7_tick_36 rfl (lv_at hl 0 rfl) ?_
      obtain ⟨hq, hf⟩ := gd_e hf
      refine rg_V (pc := 37) hf hR hA (fun z hz => rn_V (κ := 7) (As := []) (rest := []) hC hR rfl (by decide) hq (c_X7_passTick  hz _) m_378 m_380 ms_1 m_1 m_381 hd_X7_passTick ⟨rfl, rfl, Nat.le_of_ble_eq_true rfl, Nat.le_of_ble_eq_true rfl⟩ rfl hl.1 rfl (Nat.le_of_ble_eq_true rfl) dX7_tick_37 ⟨Nat.le_of_ble_eq_true rfl, Nat.le_of_ble_eq_true rfl⟩) (fun z1 H locs hf hR => ?_)
      refine rg_iinc (pc := 40) hx hb dX7_tick_40 hl (k := 2) rfl rfl (by decide) hf (fun x2 ls hf hl => ?_)
      have hl : lv_has ls 3 [(2, .int x2), (0, .ref v0), (1, .int v1)] := hl
      refine lv_goto (pc := 43) (tgt := 31) hx hb dX7_tick_43 (by decide) ?_
      exact hk31 v0 v1 x2 z1 _ _ _ hf hR (lv_sub hl [1, 2, 0] rfl)
  have hL31 : ∀  (n : Nat) (v0 : Nat) (v1 : Int32) (v2 : Int32) (M : Mem) (H : Heap) (locs : List Loc) (ls : Array Slot), f_X7_tick_L31  n v0 v1 v2 M = some r → Hp D ca false A s M H locs → lv_has ls 3 [(0, .ref v0), (1, .int v1), (2, .int v2)] → W p l e rm_X7_tick s m args below meth c H locs 1 6 (vx_MQ below (cxI D ca A r) (cxX D ca A r) args s 2 12 A) (F0 m 31 ls []) := by
    intro  n
    induction n with
    | zero => intro v0 v1 v2 M H locs ls hf; exact nomatch (show (none : Option (Mem × (Int32 ⊕ Nat))) = some r from hf)
    | succ n ih => intro v0 v1 v2 M H locs ls hf hR hl; exact hB31  (f_X7_tick_L31  n) ih v0 v1 v2 M H locs ls hf hR hl
  unfold f_X7_tick at hf
  refine lv_iload_n (pc := 0) hx hb dX7_tick_0 rfl (lv_at hl 1 rfl) ?_
  refine lv_iconst (pc := 1) (v := (1 : Int32)) hx hb dX7_tick_1 (by decide) ?_
  refine lv_bipush (pc := 2) (v := (50 : Int32)) hx hb dX7_tick_2 (by decide) ?_
  refine rg_xV (pc := 4) hf hR hA htab hlocks (by show 1 ≤ 2; decide) (by show 6 ≤ 12; decide) (fun z hz => xn_S (As := [.int v1, .int (1 : Int32), .int (50 : Int32)]) (rest := []) hC hR (c_X7_requireRange hlt hz _) m_261 m_262 m_1 m_263 hd_X7_requireRange ⟨rfl, rfl, Nat.le_of_ble_eq_true rfl, Nat.le_of_ble_eq_true rfl⟩ rfl hl.1 rfl (Nat.le_of_ble_eq_true rfl) dX7_tick_4 ⟨Nat.le_of_ble_eq_true rfl, Nat.le_of_ble_eq_true rfl⟩) (fun M3 H locs hf hR => ?_)
  refine lv_aload_n (pc := 7) hx hb dX7_tick_7 rfl (lv_at hl 0 rfl) ?_
  refine rg_get (pc := 8) (C := RX7) (T := TX7) (N := 11) (κ := 7) (v := .int (mm_i M3 v0 7)) hx hb hts hK hR hown in_7 rfl (by decide) 7 (by decide) m_224 rfl dX7_tick_8 hf (fun hf => ?_)
  refine lv_iload_n (pc := 11) hx hb dX7_tick_11 rfl (lv_at hl 1 rfl) ?_
  refine lv_iadd (pc := 12) hx hb dX7_tick_12 ?_
  refine lv_sipush (pc := 13) (v := (2000 : Int32)) hx hb dX7_tick_13 (by decide) ?_
  refine lv_icmp_le (pc := 16) (tgt := 29) hx hb dX7_tick_16 (by decide) (fun hc => ?_) (fun hc => ?_)
  · replace hf := it_t hf hc
    refine lv_iconst (pc := 29) (v := (0 : Int32)) hx hb dX7_tick_29 (by decide) ?_
    refine lv_istore_n (pc := 30) (lv' := [(2, .int (0 : Int32)), (0, .ref v0), (1, .int v1)]) hx hb dX7_tick_30 rfl hl (by decide) rfl (fun ls hl => ?_)
    exact hL31 200 v0 v1 (0 : Int32) M3 _ _ _ hf hR (lv_sub hl [1, 2, 0] rfl)
  · replace hf := it_f hf hc
    exact rg_thr (pc := 19) 1 (by decide) hC htab hlt hl.1 rfl m_333 (is := 108) (text := "the tick would be above 2000") (by decide +kernel) hf hR dX7_tick_19 dX7_tick_22 dX7_tick_23 dX7_tick_25 dX7_tick_28 (Nat.le_of_ble_eq_true rfl) (Nat.le_of_ble_eq_true rfl) (Nat.le_of_ble_eq_true rfl) (Nat.le_of_ble_eq_true rfl) (by show 2 ≤ 2; decide) (by show 12 ≤ 12; decide)
-- X7_requireNumber
def f_X7_requireNumber_b9   (M : Mem) : Option (Mem × (Unit ⊕ Nat)) := some (M, .inr 2)
def f_X7_requireNumber (v0 : Int32) (v1 : Int32) (M : Mem) : Option (Mem × (Unit ⊕ Nat)) := if v0 < 0 then (f_X7_requireNumber_b9  M) else (if v0 < v1 then (some (M, .inl ())) else (f_X7_requireNumber_b9  M))
abbrev rm_X7_requireNumber : Room := { frames := 6, cells := 1, slots := 6, locals := 90 }
theorem hd_X7_requireNumber : yX7_requireNumber.cls ≠ "java/lang/invoke/MethodHandle" ∧ yX7_requireNumber.cls ≠ "java/lang/invoke/VarHandle" ∧ (parseMethodDescriptor yX7_requireNumber.desc).map (fun d => d.parameters.length) = some 2 := by decide +kernel
set_option maxHeartbeats 8000000 in
set_option maxRecDepth 100000 in
theorem c_X7_requireNumber {l : Launch} (hlt : l.stackTraces = false) {D : va_G} {ca : Nat → ClassId} {b : Nat} {v0 : Int32} {v1 : Int32} {M : Mem} {r : Mem × (Unit ⊕ Nat)} (hf : f_X7_requireNumber v0 v1 M = some r) : CxV l yX7_requireNumber cX7_requireNumber 2 none rm_X7_requireNumber D ca b [.int v0, .int v1] M r 1 6 := by
  intro sz
  refine bodyx_start (nx := false) (Qc := fun A => cxV D ca A r) (XC := fun A => cxX D ca A r) (by decide +kernel) (Nat.le_of_ble_eq_true rfl) ?_
  intro p e s m args below meth c A hC htab hr hR ls hl
  obtain ⟨hx, hb, hml, hts, hown, hlocks, hXe, hA, hAb, hnm⟩ := id hC
  have hK := hXe.1
  have hl : lv_has ls 2 [(0, .int v0), (1, .int v1)] := hl
  have hB9 : ∀   (M : Mem) (H : Heap) (locs : List Loc) (ls : Array Slot), f_X7_requireNumber_b9   M = some r → Hp D ca false A s M H locs → lv_has ls 2 [] → W p l e rm_X7_requireNumber s m args below meth c H locs 0 0 (vx_MQ below (cxV D ca A r) (cxX D ca A r) args s 1 6 A) (F0 m 9 ls []) := by
    intro   M H locs ls hf hR hl
    unfold f_X7_requireNumber_b9 at hf
    exact rg_thrW (pc := 9) 2 (by decide) hC htab hlt hl.1 rfl m_466 (is := 269) (text := "there is none with this number") (by decide +kernel) hf hR dX7_requireNumber_9 dX7_requireNumber_12 dX7_requireNumber_13 dX7_requireNumber_16 dX7_requireNumber_19 (Nat.le_of_ble_eq_true rfl) (Nat.le_of_ble_eq_true rfl) (Nat.le_of_ble_eq_true rfl) (Nat.le_of_ble_eq_true rfl) (by show 1 ≤ 1; decide) (by show 6 ≤ 6; decide)
  unfold f_X7_requireNumber at hf
  refine lv_iload_n (pc := 0) hx hb dX7_requireNumber_0 rfl (lv_at hl 0 rfl) ?_
  refine lv_if_lt (pc := 1) (tgt := 9) hx hb dX7_requireNumber_1 (by decide) (fun hc => ?_) (fun hc => ?_)
  · replace hf := it_t hf hc
    exact hB9  M _ _ _ hf hR (lv_sub hl [] rfl)
  · replace hf := it_f hf hc
    refine lv_iload_n (pc := 4) hx hb dX7_requireNumber_4 rfl (lv_at hl 0 rfl) ?_
    refine lv_iload_n (pc := 5) hx hb dX7_requireNumber_5 rfl (lv_at hl 1 rfl) ?_
    refine lv_icmp_lt (pc := 6) (tgt := 20) hx hb dX7_requireNumber_6 (by decide) (fun hc => ?_) (fun hc => ?_)
    · replace hf := it_t hf hc
      exact rg_xvret (pc := 20) hx hb hlocks hr hf hR (by show 0 ≤ 1; decide) (by show 0 ≤ 6; decide) dX7_requireNumber_20
    · replace hf := it_f hf hc
      exact hB9  M _ _ _ hf hR (lv_sub hl [] rfl)
-- X7_told
def f_X7_told_b97  (s0 : Int32) (M : Mem) : Option (Mem × (Int32 ⊕ Nat)) := some (M, .inl s0)
def f_X7_told (v0 : Nat) (v1 : Int32) (v2 : Int32) (M : Mem) : Option (Mem × (Int32 ⊕ Nat)) := gd (M.1 v0 = 7) <| rd (mm_r M v0 0) fun a1 => gd (M.1 a1 = 3) <| bx (f_X7_requireNumber v1 (mm_i M a1 3) M) fun M2 _ => gd (M2.1 v0 = 7) <| rd (mm_r M2 v0 0) fun a4 => gd (M2.1 a4 = 3) <| rd (mm_r M2 a4 2) fun a5 => gd (M2.1 a5 = 13 ∧ vi_ v1 (mm_N M2 a5)) <| rd (mm_r M2 a5 (v1).toNatClampNeg) fun a6 => if v2 = (0 : Int32) then (gd (M2.1 a6 = 2) <| some (M2, .inl (mm_i M2 a6 0))) else if v2 = (1 : Int32) then (gd (M2.1 a6 = 2) <| some (M2, .inl (mm_i M2 a6 1))) else if v2 = (2 : Int32) then (gd (M2.1 a6 = 2) <| some (M2, .inl (mm_i M2 a6 2))) else if v2 = (3 : Int32) then (gd (M2.1 a6 = 2) <| some (M2, .inl (mm_i M2 a6 3))) else if v2 = (4 : Int32) then (gd (M2.1 a6 = 2) <| some (M2, .inl (mm_i M2 a6 4))) else if v2 = (5 : Int32) then (gd (M2.1 a6 = 2) <| if (mm_i M2 a6 5) = 0 then (f_X7_told_b97 (0 : Int32) M2) else (f_X7_told_b97 (1 : Int32) M2)) else (some (M2, .inr 0))
abbrev rm_X7_told : Room := { frames := 7, cells := 2, slots := 12, locals := 111 }
theorem hd_X7_told : yX7_told.cls ≠ "java/lang/invoke/MethodHandle" ∧ yX7_told.cls ≠ "java/lang/invoke/VarHandle" ∧ (parseMethodDescriptor yX7_told.desc).map (fun d => d.parameters.length) = some 2 := by decide +kernel
set_option maxHeartbeats 8000000 in
set_option maxRecDepth 100000 in
theorem c_X7_told {l : Launch} (hlt : l.stackTraces = false) {D : va_G} {ca : Nat → ClassId} {b : Nat} {v0 : Nat} {v1 : Int32} {v2 : Int32} {M : Mem} {r : Mem × (Int32 ⊕ Nat)} (hf : f_X7_told v0 v1 v2 M = some r) : CxI l yX7_told cX7_told 4 (some .int) rm_X7_told D ca b [.ref v0, .int v1, .int v2] M r 2 12 := by
  intro sz
  refine bodyx_start (nx := false) (Qc := fun A => cxI D ca A r) (XC := fun A => cxX D ca A r) (by decide +kernel) (Nat.le_of_ble_eq_true rfl) ?_
  intro p e s m args below meth c A hC htab hr hR ls hl
  obtain ⟨hx, hb, hml, hts, hown, hlocks, hXe, hA, hAb, hnm⟩ := id hC
  have hK := hXe.1
  have hl : lv_has ls 4 [(0, .ref v0), (1, .int v1), (2, .int v2)] := hl
  have hB97 : ∀  (s0 : Int32) (M : Mem) (H : Heap) (locs : List Loc) (ls : Array Slot), f_X7_told_b97  s0 M = some r → Hp D ca false A s M H locs → lv_has ls 4 [] → W p l e rm_X7_told s m args below meth c H locs 1 6 (vx_MQ below (cxI D ca A r) (cxX D ca A r) args s 2 12 A) (F0 m 97 ls [.int s0]) := by
    intro  s0 M H locs ls hf hR hl
    unfold f_X7_told_b97 at hf
    exact rg_xiret (pc := 97) hx hb hlocks hr hf hR (by show 1 ≤ 2; decide) (by show 6 ≤ 12; decide) dX7_told_97
  unfold f_X7_told at hf
  refine lv_iload_n (pc := 0) hx hb dX7_told_0 rfl (lv_at hl 1 rfl) ?_
  refine lv_aload_n (pc := 1) hx hb dX7_told_1 rfl (lv_at hl 0 rfl) ?_
  refine rg_getr (pc := 2) (C := RX7) (T := TX7) (N := 11) (κ := 7) hx hb hts hK hR hown in_7 rfl (by decide) 0 (by decide) m_219 rfl dX7_told_2 hf (fun a1 hf => ?_)
  refine rg_get (pc := 5) (C := RX3) (T := TX3) (N := 7) (κ := 3) (v := .int (mm_i M a1 3)) hx hb hts hK hR hown in_3 rfl (by decide) 3 (by decide) m_147 rfl dX7_told_5 hf (fun hf => ?_)
  refine rg_xV (pc := 8) hf hR hA htab hlocks (by show 1 ≤ 2; decide) (by show 6 ≤ 12; decide) (fun z hz => xn_S (As := [.int v1, .int (mm_i M a1 3)]) (rest := []) hC hR (c_X7_requireNumber hlt hz _) m_463 m_464 m_1 m_465 hd_X7_requireNumber ⟨rfl, rfl, Nat.le_of_ble_eq_true rfl, Nat.le_of_ble_eq_true rfl⟩ rfl hl.1 rfl (Nat.le_of_ble_eq_true rfl) dX7_told_8 ⟨Nat.le_of_ble_eq_true rfl, Nat.le_of_ble_eq_true rfl⟩) (fun M2 H locs hf hR => ?_)
  refine lv_aload_n (pc := 11) hx hb dX7_told_11 rfl (lv_at hl 0 rfl) ?_
  refine rg_getr (pc := 12) (C := RX7) (T := TX7) (N := 11) (κ := 7) hx hb hts hK hR hown in_7 rfl (by decide) 0 (by decide) m_219 rfl dX7_told_12 hf (fun a4 hf => ?_)
  refine rg_getr (pc := 15) (C := RX3) (T := TX3) (N := 7) (κ := 3) hx hb hts hK hR hown in_3 rfl (by decide) 2 (by decide) m_145 rfl dX7_told_15 hf (fun a5 hf => ?_)
  refine lv_iload_n (pc := 18) hx hb dX7_told_18 rfl (lv_at hl 1 rfl) ?_
  refine rg_aald (pc := 19) (κ := 13) hx hb hK hR 3 rfl (by decide) dX7_told_19 hf (fun a6 hf => ?_)
  refine lv_astore_n (pc := 20) (lv' := [(3, .ref a6), (0, .ref v0), (1, .int v1), (2, .int v2)]) hx hb dX7_told_20 rfl hl (by decide) rfl (fun ls hl => ?_)
  refine lv_iload_n (pc := 21) hx hb dX7_told_21 rfl (lv_at hl 3 rfl) ?_
  by_cases hw0 : v2 = (0 : Int32)
  · replace hf := it_t hf hw0
    refine lv_tableIn (pc := 22) (off := 38) (tgt := 60) hx hb dX7_told_22 (by rw [hw0]; decide) (by rw [hw0]; decide) (by rw [hw0]; decide) (by decide) ?_
    refine lv_aload_n (pc := 60) hx hb dX7_told_60 rfl (lv_at hl 0 rfl) ?_
    refine rg_get (pc := 61) (C := RX2) (T := TX2) (N := 7) (κ := 2) (v := .int (mm_i M2 a6 0)) hx hb hts hK hR hown in_2 rfl (by decide) 0 (by decide) m_109 rfl dX7_told_61 hf (fun hf => ?_)
    exact rg_xiret (pc := 64) hx hb hlocks hr hf hR (by show 1 ≤ 2; decide) (by show 6 ≤ 12; decide) dX7_told_64
  replace hf := it_f hf hw0
  by_cases hw1 : v2 = (1 : Int32)
  · replace hf := it_t hf hw1
    refine lv_tableIn (pc := 22) (off := 43) (tgt := 65) hx hb dX7_told_22 (by rw [hw1]; decide) (by rw [hw1]; decide) (by rw [hw1]; decide) (by decide) ?_
    refine lv_aload_n (pc := 65) hx hb dX7_told_65 rfl (lv_at hl 0 rfl) ?_
    refine rg_get (pc := 66) (C := RX2) (T := TX2) (N := 7) (κ := 2) (v := .int (mm_i M2 a6 1)) hx hb hts hK hR hown in_2 rfl (by decide) 1 (by decide) m_112 rfl dX7_told_66 hf (fun hf => ?_)
    exact rg_xiret (pc := 69) hx hb hlocks hr hf hR (by show 1 ≤ 2; decide) (by show 6 ≤ 12; decide) dX7_told_69
  replace hf := it_f hf hw1
  by_cases hw2 : v2 = (2 : Int32)
  · replace hf := it_t hf hw2
    refine lv_tableIn (pc := 22) (off := 48) (tgt := 70) hx hb dX7_told_22 (by rw [hw2]; decide) (by rw [hw2]; decide) (by rw [hw2]; decide) (by decide) ?_
    refine lv_aload_n (pc := 70) hx hb dX7_told_70 rfl (lv_at hl 0 rfl) ?_
    refine rg_get (pc := 71) (C := RX2) (T := TX2) (N := 7) (κ := 2) (v := .int (mm_i M2 a6 2)) hx hb hts hK hR hown in_2 rfl (by decide) 2 (by decide) m_115 rfl dX7_told_71 hf (fun hf => ?_)
    exact rg_xiret (pc := 74) hx hb hlocks hr hf hR (by show 1 ≤ 2; decide) (by show 6 ≤ 12; decide) dX7_told_74
  replace hf := it_f hf hw2
  by_cases hw3 : v2 = (3 : Int32)
  · replace hf := it_t hf hw3
    refine lv_tableIn (pc := 22) (off := 53) (tgt := 75) hx hb dX7_told_22 (by rw [hw3]; decide) (by rw [hw3]; decide) (by rw [hw3]; decide) (by decide) ?_
    refine lv_aload_n (pc := 75) hx hb dX7_told_75 rfl (lv_at hl 0 rfl) ?_
    refine rg_get (pc := 76) (C := RX2) (T := TX2) (N := 7) (κ := 2) (v := .int (mm_i M2 a6 3)) hx hb hts hK hR hown in_2 rfl (by decide) 3 (by decide) m_117 rfl dX7_told_76 hf (fun hf => ?_)
    exact rg_xiret (pc := 79) hx hb hlocks hr hf hR (by show 1 ≤ 2; decide) (by show 6 ≤ 12; decide) dX7_told_79
  replace hf := it_f hf hw3
  by_cases hw4 : v2 = (4 : Int32)
  · replace hf := it_t hf hw4
    refine lv_tableIn (pc := 22) (off := 58) (tgt := 80) hx hb dX7_told_22 (by rw [hw4]; decide) (by rw [hw4]; decide) (by rw [hw4]; decide) (by decide) ?_
    refine lv_aload_n (pc := 80) hx hb dX7_told_80 rfl (lv_at hl 0 rfl) ?_
    refine rg_get (pc := 81) (C := RX2) (T := TX2) (N := 7) (κ := 2) (v := .int (mm_i M2 a6 4)) hx hb hts hK hR hown in_2 rfl (by decide) 4 (by decide) m_119 rfl dX7_told_81 hf (fun hf => ?_)
    exact rg_xiret (pc := 84) hx hb hlocks hr hf hR (by show 1 ≤ 2; decide) (by show 6 ≤ 12; decide) dX7_told_84
  replace hf := it_f hf hw4
  by_cases hw5 : v2 = (5 : Int32)
  · replace hf := it_t hf hw5
    refine lv_tableIn (pc := 22) (off := 63) (tgt := 85) hx hb dX7_told_22 (by rw [hw5]; decide) (by rw [hw5]; decide) (by rw [hw5]; decide) (by decide) ?_
    refine lv_aload_n (pc := 85) hx hb dX7_told_85 rfl (lv_at hl 0 rfl) ?_
    refine rg_get (pc := 86) (C := RX2) (T := TX2) (N := 7) (κ := 2) (v := .int (mm_i M2 a6 5)) hx hb hts hK hR hown in_2 rfl (by decide) 5 (by decide) m_122 rfl dX7_told_86 hf (fun hf => ?_)
    refine lv_if_eq (pc := 89) (tgt := 96) hx hb dX7_told_89 (by decide) (fun hc => ?_) (fun hc => ?_)
    · replace hf := it_t hf hc
      refine lv_iconst (pc := 96) (v := (0 : Int32)) hx hb dX7_told_96 (by decide) ?_
      exact hB97 (0 : Int32) M2 _ _ _ hf hR (lv_sub hl [] rfl)
    · replace hf := it_f hf hc
      refine lv_iconst (pc := 92) (v := (1 : Int32)) hx hb dX7_told_92 (by decide) ?_
      refine lv_goto (pc := 93) (tgt := 97) hx hb dX7_told_93 (by decide) ?_
      exact hB97 (1 : Int32) M2 _ _ _ hf hR (lv_sub hl [] rfl)
  replace hf := it_f hf hw5
  refine lv_tableOut (pc := 22) (tgt := 98) hx hb dX7_told_22 (by have h0 := sw_ne (0 : Int32) (k := 0) (by decide) hw0; have h1 := sw_ne (1 : Int32) (k := 1) (by decide) hw1; have h2 := sw_ne (2 : Int32) (k := 2) (by decide) hw2; have h3 := sw_ne (3 : Int32) (k := 3) (by decide) hw3; have h4 := sw_ne (4 : Int32) (k := 4) (by decide) hw4; have h5 := sw_ne (5 : Int32) (k := 5) (by decide) hw5; omega) (by decide) ?_
  exact rg_thr (pc := 98) 0 (by decide) hC htab hlt hl.1 rfl m_264 (is := 177) (text := "what is 0 to 5") (by decide +kernel) hf hR dX7_told_98 dX7_told_101 dX7_told_102 dX7_told_104 dX7_told_107 (Nat.le_of_ble_eq_true rfl) (Nat.le_of_ble_eq_true rfl) (Nat.le_of_ble_eq_true rfl) (Nat.le_of_ble_eq_true rfl) (by show 2 ≤ 2; decide) (by show 12 ≤ 12; decide)
-- X7_angle
def f_X7_angle (v0 : Nat) (v1 : Int32) (M : Mem) : Option (Mem × (Int32 ⊕ Nat)) := gd (M.1 v0 = 7) <| bx (f_X7_requireNumber v1 (mm_i M v0 2) M) fun M1 _ => gd (M1.1 v0 = 7) <| rd (mm_r M1 v0 1) fun a3 => gd (M1.1 a3 = 14 ∧ vi_ v1 (mm_N M1 a3)) <| rd (mm_r M1 a3 (v1).toNatClampNeg) fun a4 => gd (M1.1 a4 = 5) <| some (M1, .inl (mm_i M1 a4 1))
abbrev rm_X7_angle : Room := { frames := 7, cells := 1, slots := 6, locals := 111 }
theorem hd_X7_angle : yX7_angle.cls ≠ "java/lang/invoke/MethodHandle" ∧ yX7_angle.cls ≠ "java/lang/invoke/VarHandle" ∧ (parseMethodDescriptor yX7_angle.desc).map (fun d => d.parameters.length) = some 1 := by decide +kernel
set_option maxHeartbeats 8000000 in
set_option maxRecDepth 100000 in
theorem c_X7_angle {l : Launch} (hlt : l.stackTraces = false) {D : va_G} {ca : Nat → ClassId} {b : Nat} {v0 : Nat} {v1 : Int32} {M : Mem} {r : Mem × (Int32 ⊕ Nat)} (hf : f_X7_angle v0 v1 M = some r) : CxI l yX7_angle cX7_angle 2 (some .int) rm_X7_angle D ca b [.ref v0, .int v1] M r 1 6 := by
  intro sz
  refine bodyx_start (nx := false) (Qc := fun A => cxI D ca A r) (XC := fun A => cxX D ca A r) (by decide +kernel) (Nat.le_of_ble_eq_true rfl) ?_
  intro p e s m args below meth c A hC htab hr hR ls hl
  obtain ⟨hx, hb, hml, hts, hown, hlocks, hXe, hA, hAb, hnm⟩ := id hC
  have hK := hXe.1
  have hl : lv_has ls 2 [(0, .ref v0), (1, .int v1)] := hl
  unfold f_X7_angle at hf
  refine lv_iload_n (pc := 0) hx hb dX7_angle_0 rfl (lv_at hl 1 rfl) ?_
  refine lv_aload_n (pc := 1) hx hb dX7_angle_1 rfl (lv_at hl 0 rfl) ?_
  refine rg_get (pc := 2) (C := RX7) (T := TX7) (N := 11) (κ := 7) (v := .int (mm_i M v0 2)) hx hb hts hK hR hown in_7 rfl (by decide) 2 (by decide) m_221 rfl dX7_angle_2 hf (fun hf => ?_)
  refine rg_xV (pc := 5) hf hR hA htab hlocks (by show 1 ≤ 1; decide) (by show 6 ≤ 6; decide) (fun z hz => xn_S (As := [.int v1, .int (mm_i M v0 2)]) (rest := []) hC hR (c_X7_requireNumber hlt hz _) m_463 m_464 m_1 m_465 hd_X7_requireNumber ⟨rfl, rfl, Nat.le_of_ble_eq_true rfl, Nat.le_of_ble_eq_true rfl⟩ rfl hl.1 rfl (Nat.le_of_ble_eq_true rfl) dX7_angle_5 ⟨Nat.le_of_ble_eq_true rfl, Nat.le_of_ble_eq_true rfl⟩) (fun M1 H locs hf hR => ?_)
  refine lv_aload_n (pc := 8) hx hb dX7_angle_8 rfl (lv_at hl 0 rfl) ?_
  refine rg_getr (pc := 9) (C := RX7) (T := TX7) (N := 11) (κ := 7) hx hb hts hK hR hown in_7 rfl (by decide) 1 (by decide) m_220 rfl dX7_angle_9 hf (fun a3 hf => ?_)
  refine lv_iload_n (pc := 12) hx hb dX7_angle_12 rfl (lv_at hl 1 rfl) ?_
  refine rg_aald (pc := 13) (κ := 14) hx hb hK hR 4 rfl (by decide) dX7_angle_13 hf (fun a4 hf => ?_)
  refine rg_get (pc := 14) (C := RX5) (T := TX5) (N := 3) (κ := 5) (v := .int (mm_i M1 a4 1)) hx hb hts hK hR hown in_5 rfl (by decide) 1 (by decide) m_178 rfl dX7_angle_14 hf (fun hf => ?_)
  exact rg_xiret (pc := 17) hx hb hlocks hr hf hR (by show 1 ≤ 1; decide) (by show 6 ≤ 6; decide) dX7_angle_17
-- X7_speed
def f_X7_speed (v0 : Nat) (v1 : Int32) (M : Mem) : Option (Mem × (Int32 ⊕ Nat)) := bx (f_X7_requireLane v1 M) fun M1 _ => gd (M1.1 v0 = 7) <| rd (mm_r M1 v0 0) fun a3 => gd (M1.1 a3 = 3) <| rd (mm_r M1 a3 0) fun a4 => gd (M1.1 a4 = 6) <| bd (f_X6_speedIn a4 v1 M1) fun z5 => some (z5.1, .inl z5.2)
abbrev rm_X7_speed : Room := { frames := 8, cells := 1, slots := 6, locals := 132 }
theorem hd_X7_speed : yX7_speed.cls ≠ "java/lang/invoke/MethodHandle" ∧ yX7_speed.cls ≠ "java/lang/invoke/VarHandle" ∧ (parseMethodDescriptor yX7_speed.desc).map (fun d => d.parameters.length) = some 1 := by decide +kernel
set_option maxHeartbeats 8000000 in
set_option maxRecDepth 100000 in
theorem c_X7_speed {l : Launch} (hlt : l.stackTraces = false) {D : va_G} {ca : Nat → ClassId} {b : Nat} {v0 : Nat} {v1 : Int32} {M : Mem} {r : Mem × (Int32 ⊕ Nat)} (hf : f_X7_speed v0 v1 M = some r) : CxI l yX7_speed cX7_speed 2 (some .int) rm_X7_speed D ca b [.ref v0, .int v1] M r 1 6 := by
  intro sz
  refine bodyx_start (nx := false) (Qc := fun A => cxI D ca A r) (XC := fun A => cxX D ca A r) (by decide +kernel) (Nat.le_of_ble_eq_true rfl) ?_
  intro p e s m args below meth c A hC htab hr hR ls hl
  obtain ⟨hx, hb, hml, hts, hown, hlocks, hXe, hA, hAb, hnm⟩ := id hC
  have hK := hXe.1
  have hl : lv_has ls 2 [(0, .ref v0), (1, .int v1)] := hl
  unfold f_X7_speed at hf
  refine lv_iload_n (pc := 0) hx hb dX7_speed_0 rfl (lv_at hl 1 rfl) ?_
  refine rg_xV (pc := 1) hf hR hA htab hlocks (by show 1 ≤ 1; decide) (by show 6 ≤ 6; decide) (fun z hz => xn_S (As := [.int v1]) (rest := []) hC hR (c_X7_requireLane hlt hz _) m_258 m_259 m_1 m_260 hd_X7_requireLane ⟨rfl, rfl, Nat.le_of_ble_eq_true rfl, Nat.le_of_ble_eq_true rfl⟩ rfl hl.1 rfl (Nat.le_of_ble_eq_true rfl) dX7_speed_1 ⟨Nat.le_of_ble_eq_true rfl, Nat.le_of_ble_eq_true rfl⟩) (fun M1 H locs hf hR => ?_)
  refine lv_aload_n (pc := 4) hx hb dX7_speed_4 rfl (lv_at hl 0 rfl) ?_
  refine rg_getr (pc := 5) (C := RX7) (T := TX7) (N := 11) (κ := 7) hx hb hts hK hR hown in_7 rfl (by decide) 0 (by decide) m_219 rfl dX7_speed_5 hf (fun a3 hf => ?_)
  refine rg_getr (pc := 8) (C := RX3) (T := TX3) (N := 7) (κ := 3) hx hb hts hK hR hown in_3 rfl (by decide) 0 (by decide) m_141 rfl dX7_speed_8 hf (fun a4 hf => ?_)
  refine lv_iload_n (pc := 11) hx hb dX7_speed_11 rfl (lv_at hl 1 rfl) ?_
  obtain ⟨hq, hf⟩ := gd_e hf
  refine rg_I (pc := 12) hf hR hA (fun z hz => rn_V (κ := 6) (As := [.int v1]) (rest := []) hC hR rfl (by decide) hq (c_X6_speedIn  hz _) m_382 m_383 m_384 m_3 m_385 hd_X6_speedIn ⟨rfl, rfl, Nat.le_of_ble_eq_true rfl, Nat.le_of_ble_eq_true rfl⟩ rfl hl.1 rfl (Nat.le_of_ble_eq_true rfl) dX7_speed_12 ⟨Nat.le_of_ble_eq_true rfl, Nat.le_of_ble_eq_true rfl⟩) (fun z5 H locs hf hR => ?_)
  exact rg_xiret (pc := 15) hx hb hlocks hr hf hR (by show 1 ≤ 1; decide) (by show 6 ≤ 6; decide) dX7_speed_15
-- X7_count
def f_X7_count (v0 : Nat) (v1 : Int32) (M : Mem) : Option (Mem × (Int32 ⊕ Nat)) := if v1 = (0 : Int32) then (gd (M.1 v0 = 7) <| rd (mm_r M v0 0) fun a1 => gd (M.1 a1 = 3) <| some (M, .inl (mm_i M a1 3))) else if v1 = (1 : Int32) then (gd (M.1 v0 = 7) <| rd (mm_r M v0 0) fun a2 => gd (M.1 a2 = 3) <| bd (f_X3_countThere a2 M) fun z3 => some (z3.1, .inl z3.2)) else if v1 = (2 : Int32) then (gd (M.1 v0 = 7) <| rd (mm_r M v0 0) fun a4 => gd (M.1 a4 = 3) <| rd (mm_r M a4 1) fun a5 => gd (M.1 a5 = 4) <| some (M, .inl (mm_i M a5 0))) else if v1 = (3 : Int32) then (gd (M.1 v0 = 7) <| rd (mm_r M v0 0) fun a6 => gd (M.1 a6 = 3) <| rd (mm_r M a6 1) fun a7 => gd (M.1 a7 = 4) <| some (M, .inl (mm_i M a7 1))) else if v1 = (4 : Int32) then (gd (M.1 v0 = 7) <| rd (mm_r M v0 0) fun a8 => gd (M.1 a8 = 3) <| rd (mm_r M a8 1) fun a9 => gd (M.1 a9 = 4) <| some (M, .inl (mm_i M a9 2))) else if v1 = (5 : Int32) then (gd (M.1 v0 = 7) <| rd (mm_r M v0 0) fun a10 => gd (M.1 a10 = 3) <| rd (mm_r M a10 1) fun a11 => gd (M.1 a11 = 4) <| some (M, .inl (mm_i M a11 3))) else if v1 = (6 : Int32) then (gd (M.1 v0 = 7) <| rd (mm_r M v0 0) fun a12 => gd (M.1 a12 = 3) <| rd (mm_r M a12 1) fun a13 => gd (M.1 a13 = 4) <| some (M, .inl (mm_i M a13 4))) else (some (M, .inr 0))
abbrev rm_X7_count : Room := { frames := 6, cells := 1, slots := 6, locals := 90 }
theorem hd_X7_count : yX7_count.cls ≠ "java/lang/invoke/MethodHandle" ∧ yX7_count.cls ≠ "java/lang/invoke/VarHandle" ∧ (parseMethodDescriptor yX7_count.desc).map (fun d => d.parameters.length) = some 1 := by decide +kernel
set_option maxHeartbeats 8000000 in
set_option maxRecDepth 100000 in
theorem c_X7_count {l : Launch} (hlt : l.stackTraces = false) {D : va_G} {ca : Nat → ClassId} {b : Nat} {v0 : Nat} {v1 : Int32} {M : Mem} {r : Mem × (Int32 ⊕ Nat)} (hf : f_X7_count v0 v1 M = some r) : CxI l yX7_count cX7_count 2 (some .int) rm_X7_count D ca b [.ref v0, .int v1] M r 1 6 := by
  intro sz
  refine bodyx_start (nx := false) (Qc := fun A => cxI D ca A r) (XC := fun A => cxX D ca A r) (by decide +kernel) (Nat.le_of_ble_eq_true rfl) ?_
  intro p e s m args below meth c A hC htab hr hR ls hl
  obtain ⟨hx, hb, hml, hts, hown, hlocks, hXe, hA, hAb, hnm⟩ := id hC
  have hK := hXe.1
  have hl : lv_has ls 2 [(0, .ref v0), (1, .int v1)] := hl
  unfold f_X7_count at hf
  refine lv_iload_n (pc := 0) hx hb dX7_count_0 rfl (lv_at hl 1 rfl) ?_
  by_cases hw0 : v1 = (0 : Int32)
  · replace hf := it_t hf hw0
    refine lv_tableIn (pc := 1) (off := 43) (tgt := 44) hx hb dX7_count_1 (by rw [hw0]; decide) (by rw [hw0]; decide) (by rw [hw0]; decide) (by decide) ?_
    refine lv_aload_n (pc := 44) hx hb dX7_count_44 rfl (lv_at hl 0 rfl) ?_
    refine rg_getr (pc := 45) (C := RX7) (T := TX7) (N := 11) (κ := 7) hx hb hts hK hR hown in_7 rfl (by decide) 0 (by decide) m_219 rfl dX7_count_45 hf (fun a1 hf => ?_)
    refine rg_get (pc := 48) (C := RX3) (T := TX3) (N := 7) (κ := 3) (v := .int (mm_i M a1 3)) hx hb hts hK hR hown in_3 rfl (by decide) 3 (by decide) m_147 rfl dX7_count_48 hf (fun hf => ?_)
    exact rg_xiret (pc := 51) hx hb hlocks hr hf hR (by show 0 ≤ 1; decide) (by show 0 ≤ 6; decide) dX7_count_51
  replace hf := it_f hf hw0
  by_cases hw1 : v1 = (1 : Int32)
  · replace hf := it_t hf hw1
    refine lv_tableIn (pc := 1) (off := 51) (tgt := 52) hx hb dX7_count_1 (by rw [hw1]; decide) (by rw [hw1]; decide) (by rw [hw1]; decide) (by decide) ?_
    refine lv_aload_n (pc := 52) hx hb dX7_count_52 rfl (lv_at hl 0 rfl) ?_
    refine rg_getr (pc := 53) (C := RX7) (T := TX7) (N := 11) (κ := 7) hx hb hts hK hR hown in_7 rfl (by decide) 0 (by decide) m_219 rfl dX7_count_53 hf (fun a2 hf => ?_)
    obtain ⟨hq, hf⟩ := gd_e hf
    refine rg_I (pc := 56) hf hR hA (fun z hz => rn_V (κ := 3) (As := []) (rest := []) hC hR rfl (by decide) hq (c_X3_countThere  hz _) m_495 m_496 m_497 m_2 m_498 hd_X3_countThere ⟨rfl, rfl, Nat.le_of_ble_eq_true rfl, Nat.le_of_ble_eq_true rfl⟩ rfl hl.1 rfl (Nat.le_of_ble_eq_true rfl) dX7_count_56 ⟨Nat.le_of_ble_eq_true rfl, Nat.le_of_ble_eq_true rfl⟩) (fun z3 H locs hf hR => ?_)
    exact rg_xiret (pc := 59) hx hb hlocks hr hf hR (by show 0 ≤ 1; decide) (by show 0 ≤ 6; decide) dX7_count_59
  replace hf := it_f hf hw1
  by_cases hw2 : v1 = (2 : Int32)
  · replace hf := it_t hf hw2
    refine lv_tableIn (pc := 1) (off := 59) (tgt := 60) hx hb dX7_count_1 (by rw [hw2]; decide) (by rw [hw2]; decide) (by rw [hw2]; decide) (by decide) ?_
    refine lv_aload_n (pc := 60) hx hb dX7_count_60 rfl (lv_at hl 0 rfl) ?_
    refine rg_getr (pc := 61) (C := RX7) (T := TX7) (N := 11) (κ := 7) hx hb hts hK hR hown in_7 rfl (by decide) 0 (by decide) m_219 rfl dX7_count_61 hf (fun a4 hf => ?_)
    refine rg_getr (pc := 64) (C := RX3) (T := TX3) (N := 7) (κ := 3) hx hb hts hK hR hown in_3 rfl (by decide) 1 (by decide) m_143 rfl dX7_count_64 hf (fun a5 hf => ?_)
    refine rg_get (pc := 67) (C := RX4) (T := TX4) (N := 13) (κ := 4) (v := .int (mm_i M a5 0)) hx hb hts hK hR hown in_4 rfl (by decide) 0 (by decide) m_47 rfl dX7_count_67 hf (fun hf => ?_)
    exact rg_xiret (pc := 70) hx hb hlocks hr hf hR (by show 0 ≤ 1; decide) (by show 0 ≤ 6; decide) dX7_count_70
  replace hf := it_f hf hw2
  by_cases hw3 : v1 = (3 : Int32)
  · replace hf := it_t hf hw3
    refine lv_tableIn (pc := 1) (off := 70) (tgt := 71) hx hb dX7_count_1 (by rw [hw3]; decide) (by rw [hw3]; decide) (by rw [hw3]; decide) (by decide) ?_
    refine lv_aload_n (pc := 71) hx hb dX7_count_71 rfl (lv_at hl 0 rfl) ?_
    refine rg_getr (pc := 72) (C := RX7) (T := TX7) (N := 11) (κ := 7) hx hb hts hK hR hown in_7 rfl (by decide) 0 (by decide) m_219 rfl dX7_count_72 hf (fun a6 hf => ?_)
    refine rg_getr (pc := 75) (C := RX3) (T := TX3) (N := 7) (κ := 3) hx hb hts hK hR hown in_3 rfl (by decide) 1 (by decide) m_143 rfl dX7_count_75 hf (fun a7 hf => ?_)
    refine rg_get (pc := 78) (C := RX4) (T := TX4) (N := 13) (κ := 4) (v := .int (mm_i M a7 1)) hx hb hts hK hR hown in_4 rfl (by decide) 1 (by decide) m_49 rfl dX7_count_78 hf (fun hf => ?_)
    exact rg_xiret (pc := 81) hx hb hlocks hr hf hR (by show 0 ≤ 1; decide) (by show 0 ≤ 6; decide) dX7_count_81
  replace hf := it_f hf hw3
  by_cases hw4 : v1 = (4 : Int32)
  · replace hf := it_t hf hw4
    refine lv_tableIn (pc := 1) (off := 81) (tgt := 82) hx hb dX7_count_1 (by rw [hw4]; decide) (by rw [hw4]; decide) (by rw [hw4]; decide) (by decide) ?_
    refine lv_aload_n (pc := 82) hx hb dX7_count_82 rfl (lv_at hl 0 rfl) ?_
    refine rg_getr (pc := 83) (C := RX7) (T := TX7) (N := 11) (κ := 7) hx hb hts hK hR hown in_7 rfl (by decide) 0 (by decide) m_219 rfl dX7_count_83 hf (fun a8 hf => ?_)
    refine rg_getr (pc := 86) (C := RX3) (T := TX3) (N := 7) (κ := 3) hx hb hts hK hR hown in_3 rfl (by decide) 1 (by decide) m_143 rfl dX7_count_86 hf (fun a9 hf => ?_)
    refine rg_get (pc := 89) (C := RX4) (T := TX4) (N := 13) (κ := 4) (v := .int (mm_i M a9 2)) hx hb hts hK hR hown in_4 rfl (by decide) 2 (by decide) m_51 rfl dX7_count_89 hf (fun hf => ?_)
    exact rg_xiret (pc := 92) hx hb hlocks hr hf hR (by show 0 ≤ 1; decide) (by show 0 ≤ 6; decide) dX7_count_92
  replace hf := it_f hf hw4
  by_cases hw5 : v1 = (5 : Int32)
  · replace hf := it_t hf hw5
    refine lv_tableIn (pc := 1) (off := 92) (tgt := 93) hx hb dX7_count_1 (by rw [hw5]; decide) (by rw [hw5]; decide) (by rw [hw5]; decide) (by decide) ?_
    refine lv_aload_n (pc := 93) hx hb dX7_count_93 rfl (lv_at hl 0 rfl) ?_
    refine rg_getr (pc := 94) (C := RX7) (T := TX7) (N := 11) (κ := 7) hx hb hts hK hR hown in_7 rfl (by decide) 0 (by decide) m_219 rfl dX7_count_94 hf (fun a10 hf => ?_)
    refine rg_getr (pc := 97) (C := RX3) (T := TX3) (N := 7) (κ := 3) hx hb hts hK hR hown in_3 rfl (by decide) 1 (by decide) m_143 rfl dX7_count_97 hf (fun a11 hf => ?_)
    refine rg_get (pc := 100) (C := RX4) (T := TX4) (N := 13) (κ := 4) (v := .int (mm_i M a11 3)) hx hb hts hK hR hown in_4 rfl (by decide) 3 (by decide) m_53 rfl dX7_count_100 hf (fun hf => ?_)
    exact rg_xiret (pc := 103) hx hb hlocks hr hf hR (by show 0 ≤ 1; decide) (by show 0 ≤ 6; decide) dX7_count_103
  replace hf := it_f hf hw5
  by_cases hw6 : v1 = (6 : Int32)
  · replace hf := it_t hf hw6
    refine lv_tableIn (pc := 1) (off := 103) (tgt := 104) hx hb dX7_count_1 (by rw [hw6]; decide) (by rw [hw6]; decide) (by rw [hw6]; decide) (by decide) ?_
    refine lv_aload_n (pc := 104) hx hb dX7_count_104 rfl (lv_at hl 0 rfl) ?_
    refine rg_getr (pc := 105) (C := RX7) (T := TX7) (N := 11) (κ := 7) hx hb hts hK hR hown in_7 rfl (by decide) 0 (by decide) m_219 rfl dX7_count_105 hf (fun a12 hf => ?_)
    refine rg_getr (pc := 108) (C := RX3) (T := TX3) (N := 7) (κ := 3) hx hb hts hK hR hown in_3 rfl (by decide) 1 (by decide) m_143 rfl dX7_count_108 hf (fun a13 hf => ?_)
    refine rg_get (pc := 111) (C := RX4) (T := TX4) (N := 13) (κ := 4) (v := .int (mm_i M a13 4)) hx hb hts hK hR hown in_4 rfl (by decide) 4 (by decide) m_55 rfl dX7_count_111 hf (fun hf => ?_)
    exact rg_xiret (pc := 114) hx hb hlocks hr hf hR (by show 0 ≤ 1; decide) (by show 0 ≤ 6; decide) dX7_count_114
  replace hf := it_f hf hw6
  refine lv_tableOut (pc := 1) (tgt := 115) hx hb dX7_count_1 (by have h0 := sw_ne (0 : Int32) (k := 0) (by decide) hw0; have h1 := sw_ne (1 : Int32) (k := 1) (by decide) hw1; have h2 := sw_ne (2 : Int32) (k := 2) (by decide) hw2; have h3 := sw_ne (3 : Int32) (k := 3) (by decide) hw3; have h4 := sw_ne (4 : Int32) (k := 4) (by decide) hw4; have h5 := sw_ne (5 : Int32) (k := 5) (by decide) hw5; have h6 := sw_ne (6 : Int32) (k := 6) (by decide) hw6; omega) (by decide) ?_
  exact rg_thr (pc := 115) 0 (by decide) hC htab hlt hl.1 rfl m_264 (is := 208) (text := "what is 0 to 6") (by decide +kernel) hf hR dX7_count_115 dX7_count_118 dX7_count_119 dX7_count_121 dX7_count_124 (Nat.le_of_ble_eq_true rfl) (Nat.le_of_ble_eq_true rfl) (Nat.le_of_ble_eq_true rfl) (Nat.le_of_ble_eq_true rfl) (by show 1 ≤ 1; decide) (by show 6 ≤ 6; decide)
-- X7_mass
def f_X7_mass (v0 : Nat) (v1 : Int32) (M : Mem) : Option (Mem × (Int32 ⊕ Nat)) := bx (f_X7_requireLane v1 M) fun M1 _ => gd (M1.1 v0 = 7) <| rd (mm_r M1 v0 0) fun a3 => gd (M1.1 v0 = 7) <| rd (mm_r M1 v0 8) fun a4 => gd (M1.1 a3 = 3) <| bd (f_X3_weighLanes a3 a4 M1) fun z5 => gd (z5.1 v0 = 7) <| rd (mm_r z5 v0 8) fun a6 => gd (z5.1 a6 = 9 ∧ vi_ v1 (mm_N z5 a6)) <| some (z5, .inl (mm_i z5 a6 (v1).toNatClampNeg))
abbrev rm_X7_mass : Room := { frames := 8, cells := 1, slots := 6, locals := 132 }
theorem hd_X7_mass : yX7_mass.cls ≠ "java/lang/invoke/MethodHandle" ∧ yX7_mass.cls ≠ "java/lang/invoke/VarHandle" ∧ (parseMethodDescriptor yX7_mass.desc).map (fun d => d.parameters.length) = some 1 := by decide +kernel
set_option maxHeartbeats 8000000 in
set_option maxRecDepth 100000 in
theorem c_X7_mass {l : Launch} (hlt : l.stackTraces = false) {D : va_G} {ca : Nat → ClassId} {b : Nat} {v0 : Nat} {v1 : Int32} {M : Mem} {r : Mem × (Int32 ⊕ Nat)} (hf : f_X7_mass v0 v1 M = some r) : CxI l yX7_mass cX7_mass 2 (some .int) rm_X7_mass D ca b [.ref v0, .int v1] M r 1 6 := by
  intro sz
  refine bodyx_start (nx := false) (Qc := fun A => cxI D ca A r) (XC := fun A => cxX D ca A r) (by decide +kernel) (Nat.le_of_ble_eq_true rfl) ?_
  intro p e s m args below meth c A hC htab hr hR ls hl
  obtain ⟨hx, hb, hml, hts, hown, hlocks, hXe, hA, hAb, hnm⟩ := id hC
  have hK := hXe.1
  have hl : lv_has ls 2 [(0, .ref v0), (1, .int v1)] := hl
  unfold f_X7_mass at hf
  refine lv_iload_n (pc := 0) hx hb dX7_mass_0 rfl (lv_at hl 1 rfl) ?_
  refine rg_xV (pc := 1) hf hR hA htab hlocks (by show 1 ≤ 1; decide) (by show 6 ≤ 6; decide) (fun z hz => xn_S (As := [.int v1]) (rest := []) hC hR (c_X7_requireLane hlt hz _) m_258 m_259 m_1 m_260 hd_X7_requireLane ⟨rfl, rfl, Nat.le_of_ble_eq_true rfl, Nat.le_of_ble_eq_true rfl⟩ rfl hl.1 rfl (Nat.le_of_ble_eq_true rfl) dX7_mass_1 ⟨Nat.le_of_ble_eq_true rfl, Nat.le_of_ble_eq_true rfl⟩) (fun M1 H locs hf hR => ?_)
  refine lv_aload_n (pc := 4) hx hb dX7_mass_4 rfl (lv_at hl 0 rfl) ?_
  refine rg_getr (pc := 5) (C := RX7) (T := TX7) (N := 11) (κ := 7) hx hb hts hK hR hown in_7 rfl (by decide) 0 (by decide) m_219 rfl dX7_mass_5 hf (fun a3 hf => ?_)
  refine lv_aload_n (pc := 8) hx hb dX7_mass_8 rfl (lv_at hl 0 rfl) ?_
  refine rg_getr (pc := 9) (C := RX7) (T := TX7) (N := 11) (κ := 7) hx hb hts hK hR hown in_7 rfl (by decide) 8 (by decide) m_225 rfl dX7_mass_9 hf (fun a4 hf => ?_)
  obtain ⟨hq, hf⟩ := gd_e hf
  refine rg_V (pc := 12) hf hR hA (fun z hz => rn_V (κ := 3) (As := [.ref a4]) (rest := []) hC hR rfl (by decide) hq (c_X3_weighLanes  hz _) m_504 m_505 m_506 m_2 m_507 hd_X3_weighLanes ⟨rfl, rfl, Nat.le_of_ble_eq_true rfl, Nat.le_of_ble_eq_true rfl⟩ rfl hl.1 rfl (Nat.le_of_ble_eq_true rfl) dX7_mass_12 ⟨Nat.le_of_ble_eq_true rfl, Nat.le_of_ble_eq_true rfl⟩) (fun z5 H locs hf hR => ?_)
  refine lv_aload_n (pc := 15) hx hb dX7_mass_15 rfl (lv_at hl 0 rfl) ?_
  refine rg_getr (pc := 16) (C := RX7) (T := TX7) (N := 11) (κ := 7) hx hb hts hK hR hown in_7 rfl (by decide) 8 (by decide) m_225 rfl dX7_mass_16 hf (fun a6 hf => ?_)
  refine lv_iload_n (pc := 19) hx hb dX7_mass_19 rfl (lv_at hl 1 rfl) ?_
  refine rg_iald (pc := 20) hx hb hK hR dX7_mass_20 hf (fun hf => ?_)
  exact rg_xiret (pc := 21) hx hb hlocks hr hf hR (by show 1 ≤ 1; decide) (by show 6 ≤ 6; decide) dX7_mass_21
-- X7_sum
def f_X7_sum (v0 : Nat) (v1 : Int32) (M : Mem) : Option (Mem × (Int32 ⊕ Nat)) := if v1 = (0 : Int32) then (gd (M.1 v0 = 7) <| rd (mm_r M v0 0) fun a1 => gd (M.1 a1 = 3) <| bd (f_X3_massThere a1 M) fun z2 => some (z2.1, .inl z2.2)) else if v1 = (1 : Int32) then (gd (M.1 v0 = 7) <| rd (mm_r M v0 0) fun a3 => gd (M.1 a3 = 3) <| rd (mm_r M a3 1) fun a4 => gd (M.1 a4 = 4) <| some (M, .inl (mm_i M a4 6))) else if v1 = (2 : Int32) then (gd (M.1 v0 = 7) <| rd (mm_r M v0 0) fun a5 => gd (M.1 a5 = 3) <| rd (mm_r M a5 1) fun a6 => gd (M.1 a6 = 4) <| some (M, .inl (mm_i M a6 7))) else if v1 = (3 : Int32) then (gd (M.1 v0 = 7) <| rd (mm_r M v0 0) fun a7 => gd (M.1 a7 = 3) <| rd (mm_r M a7 1) fun a8 => gd (M.1 a8 = 4) <| some (M, .inl (mm_i M a8 5))) else (some (M, .inr 0))
abbrev rm_X7_sum : Room := { frames := 6, cells := 1, slots := 6, locals := 90 }
theorem hd_X7_sum : yX7_sum.cls ≠ "java/lang/invoke/MethodHandle" ∧ yX7_sum.cls ≠ "java/lang/invoke/VarHandle" ∧ (parseMethodDescriptor yX7_sum.desc).map (fun d => d.parameters.length) = some 1 := by decide +kernel
set_option maxHeartbeats 8000000 in
set_option maxRecDepth 100000 in
theorem c_X7_sum {l : Launch} (hlt : l.stackTraces = false) {D : va_G} {ca : Nat → ClassId} {b : Nat} {v0 : Nat} {v1 : Int32} {M : Mem} {r : Mem × (Int32 ⊕ Nat)} (hf : f_X7_sum v0 v1 M = some r) : CxI l yX7_sum cX7_sum 2 (some .int) rm_X7_sum D ca b [.ref v0, .int v1] M r 1 6 := by
  intro sz
  refine bodyx_start (nx := false) (Qc := fun A => cxI D ca A r) (XC := fun A => cxX D ca A r) (by decide +kernel) (Nat.le_of_ble_eq_true rfl) ?_
  intro p e s m args below meth c A hC htab hr hR ls hl
  obtain ⟨hx, hb, hml, hts, hown, hlocks, hXe, hA, hAb, hnm⟩ := id hC
  have hK := hXe.1
  have hl : lv_has ls 2 [(0, .ref v0), (1, .int v1)] := hl
  unfold f_X7_sum at hf
  refine lv_iload_n (pc := 0) hx hb dX7_sum_0 rfl (lv_at hl 1 rfl) ?_
  by_cases hw0 : v1 = (0 : Int32)
  · replace hf := it_t hf hw0
    refine lv_tableIn (pc := 1) (off := 31) (tgt := 32) hx hb dX7_sum_1 (by rw [hw0]; decide) (by rw [hw0]; decide) (by rw [hw0]; decide) (by decide) ?_
    refine lv_aload_n (pc := 32) hx hb dX7_sum_32 rfl (lv_at hl 0 rfl) ?_
    refine rg_getr (pc := 33) (C := RX7) (T := TX7) (N := 11) (κ := 7) hx hb hts hK hR hown in_7 rfl (by decide) 0 (by decide) m_219 rfl dX7_sum_33 hf (fun a1 hf => ?_)
    obtain ⟨hq, hf⟩ := gd_e hf
    refine rg_I (pc := 36) hf hR hA (fun z hz => rn_V (κ := 3) (As := []) (rest := []) hC hR rfl (by decide) hq (c_X3_massThere  hz _) m_512 m_513 m_514 m_2 m_515 hd_X3_massThere ⟨rfl, rfl, Nat.le_of_ble_eq_true rfl, Nat.le_of_ble_eq_true rfl⟩ rfl hl.1 rfl (Nat.le_of_ble_eq_true rfl) dX7_sum_36 ⟨Nat.le_of_ble_eq_true rfl, Nat.le_of_ble_eq_true rfl⟩) (fun z2 H locs hf hR => ?_)
    exact rg_xiret (pc := 39) hx hb hlocks hr hf hR (by show 0 ≤ 1; decide) (by show 0 ≤ 6; decide) dX7_sum_39
  replace hf := it_f hf hw0
  by_cases hw1 : v1 = (1 : Int32)
  · replace hf := it_t hf hw1
    refine lv_tableIn (pc := 1) (off := 39) (tgt := 40) hx hb dX7_sum_1 (by rw [hw1]; decide) (by rw [hw1]; decide) (by rw [hw1]; decide) (by decide) ?_
    refine lv_aload_n (pc := 40) hx hb dX7_sum_40 rfl (lv_at hl 0 rfl) ?_
    refine rg_getr (pc := 41) (C := RX7) (T := TX7) (N := 11) (κ := 7) hx hb hts hK hR hown in_7 rfl (by decide) 0 (by decide) m_219 rfl dX7_sum_41 hf (fun a3 hf => ?_)
    refine rg_getr (pc := 44) (C := RX3) (T := TX3) (N := 7) (κ := 3) hx hb hts hK hR hown in_3 rfl (by decide) 1 (by decide) m_143 rfl dX7_sum_44 hf (fun a4 hf => ?_)
    refine rg_get (pc := 47) (C := RX4) (T := TX4) (N := 13) (κ := 4) (v := .int (mm_i M a4 6)) hx hb hts hK hR hown in_4 rfl (by decide) 6 (by decide) m_59 rfl dX7_sum_47 hf (fun hf => ?_)
    exact rg_xiret (pc := 50) hx hb hlocks hr hf hR (by show 0 ≤ 1; decide) (by show 0 ≤ 6; decide) dX7_sum_50
  replace hf := it_f hf hw1
  by_cases hw2 : v1 = (2 : Int32)
  · replace hf := it_t hf hw2
    refine lv_tableIn (pc := 1) (off := 50) (tgt := 51) hx hb dX7_sum_1 (by rw [hw2]; decide) (by rw [hw2]; decide) (by rw [hw2]; decide) (by decide) ?_
    refine lv_aload_n (pc := 51) hx hb dX7_sum_51 rfl (lv_at hl 0 rfl) ?_
    refine rg_getr (pc := 52) (C := RX7) (T := TX7) (N := 11) (κ := 7) hx hb hts hK hR hown in_7 rfl (by decide) 0 (by decide) m_219 rfl dX7_sum_52 hf (fun a5 hf => ?_)
    refine rg_getr (pc := 55) (C := RX3) (T := TX3) (N := 7) (κ := 3) hx hb hts hK hR hown in_3 rfl (by decide) 1 (by decide) m_143 rfl dX7_sum_55 hf (fun a6 hf => ?_)
    refine rg_get (pc := 58) (C := RX4) (T := TX4) (N := 13) (κ := 4) (v := .int (mm_i M a6 7)) hx hb hts hK hR hown in_4 rfl (by decide) 7 (by decide) m_61 rfl dX7_sum_58 hf (fun hf => ?_)
    exact rg_xiret (pc := 61) hx hb hlocks hr hf hR (by show 0 ≤ 1; decide) (by show 0 ≤ 6; decide) dX7_sum_61
  replace hf := it_f hf hw2
  by_cases hw3 : v1 = (3 : Int32)
  · replace hf := it_t hf hw3
    refine lv_tableIn (pc := 1) (off := 61) (tgt := 62) hx hb dX7_sum_1 (by rw [hw3]; decide) (by rw [hw3]; decide) (by rw [hw3]; decide) (by decide) ?_
    refine lv_aload_n (pc := 62) hx hb dX7_sum_62 rfl (lv_at hl 0 rfl) ?_
    refine rg_getr (pc := 63) (C := RX7) (T := TX7) (N := 11) (κ := 7) hx hb hts hK hR hown in_7 rfl (by decide) 0 (by decide) m_219 rfl dX7_sum_63 hf (fun a7 hf => ?_)
    refine rg_getr (pc := 66) (C := RX3) (T := TX3) (N := 7) (κ := 3) hx hb hts hK hR hown in_3 rfl (by decide) 1 (by decide) m_143 rfl dX7_sum_66 hf (fun a8 hf => ?_)
    refine rg_get (pc := 69) (C := RX4) (T := TX4) (N := 13) (κ := 4) (v := .int (mm_i M a8 5)) hx hb hts hK hR hown in_4 rfl (by decide) 5 (by decide) m_58 rfl dX7_sum_69 hf (fun hf => ?_)
    exact rg_xiret (pc := 72) hx hb hlocks hr hf hR (by show 0 ≤ 1; decide) (by show 0 ≤ 6; decide) dX7_sum_72
  replace hf := it_f hf hw3
  refine lv_tableOut (pc := 1) (tgt := 73) hx hb dX7_sum_1 (by have h0 := sw_ne (0 : Int32) (k := 0) (by decide) hw0; have h1 := sw_ne (1 : Int32) (k := 1) (by decide) hw1; have h2 := sw_ne (2 : Int32) (k := 2) (by decide) hw2; have h3 := sw_ne (3 : Int32) (k := 3) (by decide) hw3; omega) (by decide) ?_
  exact rg_thr (pc := 73) 0 (by decide) hC htab hlt hl.1 rfl m_264 (is := 222) (text := "what is 0 to 3") (by decide +kernel) hf hR dX7_sum_73 dX7_sum_76 dX7_sum_77 dX7_sum_79 dX7_sum_82 (Nat.le_of_ble_eq_true rfl) (Nat.le_of_ble_eq_true rfl) (Nat.le_of_ble_eq_true rfl) (Nat.le_of_ble_eq_true rfl) (by show 1 ≤ 1; decide) (by show 6 ≤ 6; decide)
