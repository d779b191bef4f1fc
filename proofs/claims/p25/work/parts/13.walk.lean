-- X7_momentum
def f_X7_momentum (v0 : Nat) (v1 : Int32) (M : Mem) : Option (Mem × (Int64 ⊕ Nat)) := if v1 = (0 : Int32) then (gd (M.1 v0 = 7) <| rd (mm_r M v0 0) fun a1 => gd (M.1 a1 = 3) <| bd (f_X3_momentumThere a1 M) fun z2 => some (z2.1, .inl z2.2)) else if v1 = (1 : Int32) then (gd (M.1 v0 = 7) <| rd (mm_r M v0 0) fun a3 => gd (M.1 a3 = 3) <| rd (mm_r M a3 1) fun a4 => gd (M.1 a4 = 4) <| some (M, .inl (mm_l M a4 9))) else if v1 = (2 : Int32) then (gd (M.1 v0 = 7) <| rd (mm_r M v0 0) fun a5 => gd (M.1 a5 = 3) <| rd (mm_r M a5 1) fun a6 => gd (M.1 a6 = 4) <| some (M, .inl (mm_l M a6 10))) else if v1 = (3 : Int32) then (gd (M.1 v0 = 7) <| rd (mm_r M v0 0) fun a7 => gd (M.1 a7 = 3) <| rd (mm_r M a7 1) fun a8 => gd (M.1 a8 = 4) <| some (M, .inl (mm_l M a8 8))) else if v1 = (4 : Int32) then (gd (M.1 v0 = 7) <| rd (mm_r M v0 0) fun a9 => gd (M.1 a9 = 3) <| rd (mm_r M a9 1) fun a10 => gd (M.1 a10 = 4) <| some (M, .inl (mm_l M a10 11))) else if v1 = (5 : Int32) then (gd (M.1 v0 = 7) <| rd (mm_r M v0 0) fun a11 => gd (M.1 a11 = 3) <| rd (mm_r M a11 1) fun a12 => gd (M.1 a12 = 4) <| some (M, .inl (mm_l M a12 12))) else (some (M, .inr 0))
abbrev rm_X7_momentum : Room := { frames := 6, cells := 1, slots := 6, locals := 90 }
theorem hd_X7_momentum : yX7_momentum.cls ≠ "java/lang/invoke/MethodHandle" ∧ yX7_momentum.cls ≠ "java/lang/invoke/VarHandle" ∧ (parseMethodDescriptor yX7_momentum.desc).map (fun d => d.parameters.length) = some 1 := by decide +kernel
set_option maxHeartbeats 8000000 in
set_option maxRecDepth 100000 in
theorem c_X7_momentum {l : Launch} (hlt : l.stackTraces = false) {D : va_G} {ca : Nat → ClassId} {b : Nat} {v0 : Nat} {v1 : Int32} {M : Mem} {r : Mem × (Int64 ⊕ Nat)} (hf : f_X7_momentum v0 v1 M = some r) : CxL l yX7_momentum cX7_momentum 2 (some .long) rm_X7_momentum D ca b [.ref v0, .int v1] M r 1 6 := by
  intro sz
  refine bodyx_start (nx := false) (Qc := fun A => cxL D ca A r) (XC := fun A => cxX D ca A r) (by decide +kernel) (Nat.le_of_ble_eq_true rfl) ?_
  intro p e s m args below meth c A hC htab hr hR ls hl
  obtain ⟨hx, hb, hml, hts, hown, hlocks, hXe, hA, hAb, hnm⟩ := id hC
  have hK := hXe.1
  have hl : lv_has ls 2 [(0, .ref v0), (1, .int v1)] := hl
  unfold f_X7_momentum at hf
  refine lv_iload_n (pc := 0) hx hb dX7_momentum_0 rfl (lv_at hl 1 rfl) ?_
  by_cases hw0 : v1 = (0 : Int32)
  · replace hf := it_t hf hw0
    refine lv_tableIn (pc := 1) (off := 39) (tgt := 40) hx hb dX7_momentum_1 (by rw [hw0]; decide) (by rw [hw0]; decide) (by rw [hw0]; decide) (by decide) ?_
    refine lv_aload_n (pc := 40) hx hb dX7_momentum_40 rfl (lv_at hl 0 rfl) ?_
    refine rg_getr (pc := 41) (C := RX7) (T := TX7) (N := 11) (κ := 7) hx hb hts hK hR hown in_7 rfl (by decide) 0 (by decide) m_219 rfl dX7_momentum_41 hf (fun a1 hf => ?_)
    obtain ⟨hq, hf⟩ := gd_e hf
    refine rg_L (pc := 44) hf hR hA (fun z hz => rn_V (κ := 3) (As := []) (rest := []) hC hR rfl (by decide) hq (c_X3_momentumThere  hz _) m_521 m_522 m_523 m_2 m_524 hd_X3_momentumThere ⟨rfl, rfl, Nat.le_of_ble_eq_true rfl, Nat.le_of_ble_eq_true rfl⟩ rfl hl.1 rfl (Nat.le_of_ble_eq_true rfl) dX7_momentum_44 ⟨Nat.le_of_ble_eq_true rfl, Nat.le_of_ble_eq_true rfl⟩) (fun z2 H locs hf hR => ?_)
    exact rg_xlret (pc := 47) hx hb hlocks hr hf hR (by show 0 ≤ 1; decide) (by show 0 ≤ 6; decide) dX7_momentum_47
  replace hf := it_f hf hw0
  by_cases hw1 : v1 = (1 : Int32)
  · replace hf := it_t hf hw1
    refine lv_tableIn (pc := 1) (off := 47) (tgt := 48) hx hb dX7_momentum_1 (by rw [hw1]; decide) (by rw [hw1]; decide) (by rw [hw1]; decide) (by decide) ?_
    refine lv_aload_n (pc := 48) hx hb dX7_momentum_48 rfl (lv_at hl 0 rfl) ?_
    refine rg_getr (pc := 49) (C := RX7) (T := TX7) (N := 11) (κ := 7) hx hb hts hK hR hown in_7 rfl (by decide) 0 (by decide) m_219 rfl dX7_momentum_49 hf (fun a3 hf => ?_)
    refine rg_getr (pc := 52) (C := RX3) (T := TX3) (N := 7) (κ := 3) hx hb hts hK hR hown in_3 rfl (by decide) 1 (by decide) m_143 rfl dX7_momentum_52 hf (fun a4 hf => ?_)
    refine rg_get (pc := 55) (C := RX4) (T := TX4) (N := 13) (κ := 4) (v := .long (mm_l M a4 9)) hx hb hts hK hR hown in_4 rfl (by decide) 9 (by decide) m_65 rfl dX7_momentum_55 hf (fun hf => ?_)
    exact rg_xlret (pc := 58) hx hb hlocks hr hf hR (by show 0 ≤ 1; decide) (by show 0 ≤ 6; decide) dX7_momentum_58
  replace hf := it_f hf hw1
  by_cases hw2 : v1 = (2 : Int32)
  · replace hf := it_t hf hw2
    refine lv_tableIn (pc := 1) (off := 58) (tgt := 59) hx hb dX7_momentum_1 (by rw [hw2]; decide) (by rw [hw2]; decide) (by rw [hw2]; decide) (by decide) ?_
    refine lv_aload_n (pc := 59) hx hb dX7_momentum_59 rfl (lv_at hl 0 rfl) ?_
    refine rg_getr (pc := 60) (C := RX7) (T := TX7) (N := 11) (κ := 7) hx hb hts hK hR hown in_7 rfl (by decide) 0 (by decide) m_219 rfl dX7_momentum_60 hf (fun a5 hf => ?_)
    refine rg_getr (pc := 63) (C := RX3) (T := TX3) (N := 7) (κ := 3) hx hb hts hK hR hown in_3 rfl (by decide) 1 (by decide) m_143 rfl dX7_momentum_63 hf (fun a6 hf => ?_)
    refine rg_get (pc := 66) (C := RX4) (T := TX4) (N := 13) (κ := 4) (v := .long (mm_l M a6 10)) hx hb hts hK hR hown in_4 rfl (by decide) 10 (by decide) m_67 rfl dX7_momentum_66 hf (fun hf => ?_)
    exact rg_xlret (pc := 69) hx hb hlocks hr hf hR (by show 0 ≤ 1; decide) (by show 0 ≤ 6; decide) dX7_momentum_69
  replace hf := it_f hf hw2
  by_cases hw3 : v1 = (3 : Int32)
  · replace hf := it_t hf hw3
    refine lv_tableIn (pc := 1) (off := 69) (tgt := 70) hx hb dX7_momentum_1 (by rw [hw3]; decide) (by rw [hw3]; decide) (by rw [hw3]; decide) (by decide) ?_
    refine lv_aload_n (pc := 70) hx hb dX7_momentum_70 rfl (lv_at hl 0 rfl) ?_
    refine rg_getr (pc := 71) (C := RX7) (T := TX7) (N := 11) (κ := 7) hx hb hts hK hR hown in_7 rfl (by decide) 0 (by decide) m_219 rfl dX7_momentum_71 hf (fun a7 hf => ?_)
    refine rg_getr (pc := 74) (C := RX3) (T := TX3) (N := 7) (κ := 3) hx hb hts hK hR hown in_3 rfl (by decide) 1 (by decide) m_143 rfl dX7_momentum_74 hf (fun a8 hf => ?_)
    refine rg_get (pc := 77) (C := RX4) (T := TX4) (N := 13) (κ := 4) (v := .long (mm_l M a8 8)) hx hb hts hK hR hown in_4 rfl (by decide) 8 (by decide) m_64 rfl dX7_momentum_77 hf (fun hf => ?_)
    exact rg_xlret (pc := 80) hx hb hlocks hr hf hR (by show 0 ≤ 1; decide) (by show 0 ≤ 6; decide) dX7_momentum_80
  replace hf := it_f hf hw3
  by_cases hw4 : v1 = (4 : Int32)
  · replace hf := it_t hf hw4
    refine lv_tableIn (pc := 1) (off := 80) (tgt := 81) hx hb dX7_momentum_1 (by rw [hw4]; decide) (by rw [hw4]; decide) (by rw [hw4]; decide) (by decide) ?_
    refine lv_aload_n (pc := 81) hx hb dX7_momentum_81 rfl (lv_at hl 0 rfl) ?_
    refine rg_getr (pc := 82) (C := RX7) (T := TX7) (N := 11) (κ := 7) hx hb hts hK hR hown in_7 rfl (by decide) 0 (by decide) m_219 rfl dX7_momentum_82 hf (fun a9 hf => ?_)
    refine rg_getr (pc := 85) (C := RX3) (T := TX3) (N := 7) (κ := 3) hx hb hts hK hR hown in_3 rfl (by decide) 1 (by decide) m_143 rfl dX7_momentum_85 hf (fun a10 hf => ?_)
    refine rg_get (pc := 88) (C := RX4) (T := TX4) (N := 13) (κ := 4) (v := .long (mm_l M a10 11)) hx hb hts hK hR hown in_4 rfl (by decide) 11 (by decide) m_70 rfl dX7_momentum_88 hf (fun hf => ?_)
    exact rg_xlret (pc := 91) hx hb hlocks hr hf hR (by show 0 ≤ 1; decide) (by show 0 ≤ 6; decide) dX7_momentum_91
  replace hf := it_f hf hw4
  by_cases hw5 : v1 = (5 : Int32)
  · replace hf := it_t hf hw5
    refine lv_tableIn (pc := 1) (off := 91) (tgt := 92) hx hb dX7_momentum_1 (by rw [hw5]; decide) (by rw [hw5]; decide) (by rw [hw5]; decide) (by decide) ?_
    refine lv_aload_n (pc := 92) hx hb dX7_momentum_92 rfl (lv_at hl 0 rfl) ?_
    refine rg_getr (pc := 93) (C := RX7) (T := TX7) (N := 11) (κ := 7) hx hb hts hK hR hown in_7 rfl (by decide) 0 (by decide) m_219 rfl dX7_momentum_93 hf (fun a11 hf => ?_)
    refine rg_getr (pc := 96) (C := RX3) (T := TX3) (N := 7) (κ := 3) hx hb hts hK hR hown in_3 rfl (by decide) 1 (by decide) m_143 rfl dX7_momentum_96 hf (fun a12 hf => ?_)
    refine rg_get (pc := 99) (C := RX4) (T := TX4) (N := 13) (κ := 4) (v := .long (mm_l M a12 12)) hx hb hts hK hR hown in_4 rfl (by decide) 12 (by decide) m_72 rfl dX7_momentum_99 hf (fun hf => ?_)
    exact rg_xlret (pc := 102) hx hb hlocks hr hf hR (by show 0 ≤ 1; decide) (by show 0 ≤ 6; decide) dX7_momentum_102
  replace hf := it_f hf hw5
  refine lv_tableOut (pc := 1) (tgt := 103) hx hb dX7_momentum_1 (by have h0 := sw_ne (0 : Int32) (k := 0) (by decide) hw0; have h1 := sw_ne (1 : Int32) (k := 1) (by decide) hw1; have h2 := sw_ne (2 : Int32) (k := 2) (by decide) hw2; have h3 := sw_ne (3 : Int32) (k := 3) (by decide) hw3; have h4 := sw_ne (4 : Int32) (k := 4) (by decide) hw4; have h5 := sw_ne (5 : Int32) (k := 5) (by decide) hw5; omega) (by decide) ?_
  exact rg_thr (pc := 103) 0 (by decide) hC htab hlt hl.1 rfl m_264 (is := 177) (text := "what is 0 to 5") (by decide +kernel) hf hR dX7_momentum_103 dX7_momentum_106 dX7_momentum_107 dX7_momentum_109 dX7_momentum_112 (Nat.le_of_ble_eq_true rfl) (Nat.le_of_ble_eq_true rfl) (Nat.le_of_ble_eq_true rfl) (Nat.le_of_ble_eq_true rfl) (by show 1 ≤ 1; decide) (by show 6 ≤ 6; decide)
-- X7_momentumByLanes
def f_X7_momentumByLanes_b15 (k15 : Nat → Int64 → Int32 → Mem → Option (Mem × Int64)) (v0 : Nat) (v1 : Int64) (v3 : Int32) (M : Mem) : Option (Mem × Int64) := if (64 : Int32) ≤ v3 then (some (M, v1)) else (gd (M.1 v0 = 7) <| rd (mm_r M v0 8) fun a1 => gd (M.1 a1 = 9 ∧ vi_ v3 (mm_N M a1)) <| bd (f_X7_radiusOf v3 M) fun z2 => lt_ ((v1 + (((mm_i M a1 (v3).toNatClampNeg)).toInt64 * (z2.2).toInt64))) fun x3 => lt_ (v3 + (1 : Int32)) fun x4 => k15 v0 x3 x4 z2.1)
def f_X7_momentumByLanes_L15  : Nat → Nat → Int64 → Int32 → Mem → Option (Mem × Int64)
  | 0 => fun _ _ _ _ => none
  | n + 1 => f_X7_momentumByLanes_b15  (f_X7_momentumByLanes_L15  n)
def f_X7_momentumByLanes (v0 : Nat) (M : Mem) : Option (Mem × Int64) := gd (M.1 v0 = 7) <| rd (mm_r M v0 0) fun a5 => gd (M.1 v0 = 7) <| rd (mm_r M v0 8) fun a6 => gd (M.1 a5 = 3) <| bd (f_X3_weighLanes a5 a6 M) fun z7 => f_X7_momentumByLanes_L15 200 v0 (0 : Int64) (0 : Int32) z7
abbrev rm_X7_momentumByLanes : Room := { frames := 1, cells := 0, slots := 0, locals := 25 }
theorem hd_X7_momentumByLanes : yX7_momentumByLanes.cls ≠ "java/lang/invoke/MethodHandle" ∧ yX7_momentumByLanes.cls ≠ "java/lang/invoke/VarHandle" ∧ (parseMethodDescriptor yX7_momentumByLanes.desc).map (fun d => d.parameters.length) = some 0 := by decide +kernel
set_option maxHeartbeats 8000000 in
set_option maxRecDepth 100000 in
theorem c_X7_momentumByLanes {l : Launch} {D : va_G} {ca : Nat → ClassId} {b : Nat} {nx : Bool} {v0 : Nat} {M : Mem} {r : Mem × Int64} (hf : f_X7_momentumByLanes v0 M = some r) : CtL l yX7_momentumByLanes cX7_momentumByLanes 4 (some .long) rm_X7_momentumByLanes D ca b nx [.ref v0] M r := by
  intro sz
  refine body_start (Qc := fun A => cvL D ca nx A r) (by decide +kernel) (Nat.le_of_ble_eq_true rfl) ?_
  intro p e s m args below meth c A hC hr hR ls hl
  obtain ⟨hx, hb, hml, hts, hown, hlocks, hXe, hA, hAb, hnm⟩ := id hC
  have hK := hXe.1
  have hl : lv_has ls 4 [(0, .ref v0)] := hl
  have hB15 : ∀ (k15 : Nat → Int64 → Int32 → Mem → Option (Mem × Int64)) (hk15 : ∀ (v0 : Nat) (v1 : Int64) (v3 : Int32) (M : Mem) (H : Heap) (locs : List Loc) (ls : Array Slot), k15 v0 v1 v3 M = some r → Hp D ca nx A s M H locs → lv_has ls 4 [(0, .ref v0), (1, .long v1), (3, .int v3)] → W p l e rm_X7_momentumByLanes s m args below meth c H locs 0 0 (MQ below (cvL D ca nx A r) args s 0 0 A) (F0 m 15 ls [])) (v0 : Nat) (v1 : Int64) (v3 : Int32) (M : Mem) (H : Heap) (locs : List Loc) (ls : Array Slot), f_X7_momentumByLanes_b15 k15 v0 v1 v3 M = some r → Hp D ca nx A s M H locs → lv_has ls 4 [(0, .ref v0), (1, .long v1), (3, .int v3)] → W p l e rm_X7_momentumByLanes s m args below meth c H locs 0 0 (MQ below (cvL D ca nx A r) args s 0 0 A) (F0 m 15 ls []) := by
    intro k15 hk15 v0 v1 v3 M H locs ls hf hR hl
    unfold f_X7_momentumByLanes_b15 at hf
    refine lv_iload_n (pc := 15) hx hb dX7_momentumByLanes_15 rfl (lv_at hl 2 rfl) ?_
    refine lv_bipush (pc := 16) (v := (64 : Int32)) hx hb dX7_momentumByLanes_16 (by decide) ?_
    refine lv_icmp_ge (pc := 18) (tgt := 43) hx hb dX7_momentumByLanes_18 (by decide) (fun hc => ?_) (fun hc => ?_)
    · replace hf := it_t hf hc
      refine lv_lload_n (pc := 43) hx hb dX7_momentumByLanes_43 rfl (lv_at hl 1 rfl) ?_
      exact rg_lret (pc := 44) hx hb hlocks hr hf hR dX7_momentumByLanes_44
    · replace hf := it_f hf hc
      refine lv_lload_n (pc := 21) hx hb dX7_momentumByLanes_21 rfl (lv_at hl 1 rfl) ?_
      refine lv_aload_n (pc := 22) hx hb dX7_momentumByLanes_22 rfl (lv_at hl 0 rfl) ?_
      refine rg_getr (pc := 23) (C := RX7) (T := TX7) (N := 11) (κ := 7) hx hb hts hK hR hown in_7 rfl (by decide) 8 (by decide) m_225 rfl dX7_momentumByLanes_23 hf (fun a1 hf => ?_)
      refine lv_iload_n (pc := 26) hx hb dX7_momentumByLanes_26 rfl (lv_at hl 2 rfl) ?_
      refine rg_iald (pc := 27) hx hb hK hR dX7_momentumByLanes_27 hf (fun hf => ?_)
      refine lv_i2l (pc := 28) hx hb dX7_momentumByLanes_28 rfl ?_
      refine lv_iload_n (pc := 29) hx hb dX7_momentumByLanes_29 rfl (lv_at hl 2 rfl) ?_
      refine rg_I (pc := 30) hf hR hA (fun z hz => rn_S (As := [.int v3]) (rest := [.long ((mm_i M a1 (v3).toNatClampNeg)).toInt64, .long v1]) hC hR (c_X7_radiusOf  hz _) m_529 m_387 m_1 m_388 hd_X7_radiusOf ⟨rfl, rfl, Nat.le_of_ble_eq_true rfl, Nat.le_of_ble_eq_true rfl⟩ rfl hl.1 rfl (Nat.le_of_ble_eq_true rfl) dX7_momentumByLanes_30 ⟨Nat.le_of_ble_eq_true rfl, Nat.le_of_ble_eq_true rfl⟩) (fun z2 H locs hf hR => ?_)
      refine lv_i2l (pc := 33) hx hb dX7_momentumByLanes_33 rfl ?_
      refine lv_lmul (pc := 34) hx hb dX7_momentumByLanes_34 ?_
      refine lv_ladd (pc := 35) hx hb dX7_momentumByLanes_35 ?_
      refine nm_l hf (fun x3 hf => ?_)
      refine lv_lstore_n (pc := 36) (lv' := [(1, .long x3), (0, .ref v0), (3, .int v3)]) hx hb dX7_momentumByLanes_36 rfl hl (by decide) rfl (fun ls hl => ?_)
      refine rg_iinc (pc := 37) hx hb dX7_momentumByLanes_37 hl (k := 2) rfl rfl (by decide) hf (fun x4 ls hf hl => ?_)
      have hl : lv_has ls 4 [(3, .int x4), (1, .long x3), (0, .ref v0)] := hl
      refine lv_goto (pc := 40) (tgt := 15) hx hb dX7_momentumByLanes_40 (by decide) ?_
      exact hk15 v0 x3 x4 z2.1 _ _ _ hf hR (lv_sub hl [2, 1, 0] rfl)
  have hL15 : ∀  (n : Nat) (v0 : Nat) (v1 : Int64) (v3 : Int32) (M : Mem) (H : Heap) (locs : List Loc) (ls : Array Slot), f_X7_momentumByLanes_L15  n v0 v1 v3 M = some r → Hp D ca nx A s M H locs → lv_has ls 4 [(0, .ref v0), (1, .long v1), (3, .int v3)] → W p l e rm_X7_momentumByLanes s m args below meth c H locs 0 0 (MQ below (cvL D ca nx A r) args s 0 0 A) (F0 m 15 ls []) := by
    intro  n
    induction n with
    | zero => intro v0 v1 v3 M H locs ls hf; exact nomatch (show (none : Option (Mem × Int64)) = some r from hf)
    | succ n ih => intro v0 v1 v3 M H locs ls hf hR hl; exact hB15  (f_X7_momentumByLanes_L15  n) ih v0 v1 v3 M H locs ls hf hR hl
  unfold f_X7_momentumByLanes at hf
  refine lv_aload_n (pc := 0) hx hb dX7_momentumByLanes_0 rfl (lv_at hl 0 rfl) ?_
  refine rg_getr (pc := 1) (C := RX7) (T := TX7) (N := 11) (κ := 7) hx hb hts hK hR hown in_7 rfl (by decide) 0 (by decide) m_219 rfl dX7_momentumByLanes_1 hf (fun a5 hf => ?_)
  refine lv_aload_n (pc := 4) hx hb dX7_momentumByLanes_4 rfl (lv_at hl 0 rfl) ?_
  refine rg_getr (pc := 5) (C := RX7) (T := TX7) (N := 11) (κ := 7) hx hb hts hK hR hown in_7 rfl (by decide) 8 (by decide) m_225 rfl dX7_momentumByLanes_5 hf (fun a6 hf => ?_)
  obtain ⟨hq, hf⟩ := gd_e hf
  refine rg_V (pc := 8) hf hR hA (fun z hz => rn_V (κ := 3) (As := [.ref a6]) (rest := []) hC hR rfl (by decide) hq (c_X3_weighLanes  hz _) m_504 m_505 m_506 m_2 m_507 hd_X3_weighLanes ⟨rfl, rfl, Nat.le_of_ble_eq_true rfl, Nat.le_of_ble_eq_true rfl⟩ rfl hl.1 rfl (Nat.le_of_ble_eq_true rfl) dX7_momentumByLanes_8 ⟨Nat.le_of_ble_eq_true rfl, Nat.le_of_ble_eq_true rfl⟩) (fun z7 H locs hf hR => ?_)
  refine lv_lconst (pc := 11) (v := (0 : Int64)) hx hb dX7_momentumByLanes_11 (by decide) ?_
  refine lv_lstore_n (pc := 12) (lv' := [(1, .long (0 : Int64)), (0, .ref v0)]) hx hb dX7_momentumByLanes_12 rfl hl (by decide) rfl (fun ls hl => ?_)
  refine lv_iconst (pc := 13) (v := (0 : Int32)) hx hb dX7_momentumByLanes_13 (by decide) ?_
  refine lv_istore_n (pc := 14) (lv' := [(3, .int (0 : Int32)), (1, .long (0 : Int64)), (0, .ref v0)]) hx hb dX7_momentumByLanes_14 rfl hl (by decide) rfl (fun ls hl => ?_)
  exact hL15 200 v0 (0 : Int64) (0 : Int32) z7 _ _ _ hf hR (lv_sub hl [2, 1, 0] rfl)
