-- X7_claim
def f_X7_claim (v0 : Nat) (v1 : Int32) (v2 : Int32) (v3 : Int32) (v4 : Int32) (M : Mem) : Option (Mem × (Int32 ⊕ Nat)) := gd (M.1 v0 = 7) <| bx (f_X7_requireNumber v1 (mm_i M v0 4) M) fun M1 _ => bx (f_X7_requireLane v2 M1) fun M3 _ => bx (f_X7_requireRange v3 v2 (63 : Int32) M3) fun M5 _ => bx (f_X7_requireRange v4 (0 : Int32) (1000000 : Int32) M5) fun M7 _ => gd (M7.1 v0 = 7) <| if (mm_i M7 v0 6) < (40 : Int32) then (gd (M7.1 v0 = 7) <| rd (mm_r M7 v0 5) fun a9 => gd (M7.1 v0 = 7) <| gd (M7.1 a9 = 11 ∧ vi_ (mm_i M7 v0 6) (mm_N M7 a9)) <| rd (mm_r M7 a9 ((mm_i M7 v0 6)).toNatClampNeg) fun a10 => gd (M7.1 a10 = 0) <| lt_ (ms_i M7 a10 0 v1) fun M11 => gd (M11.1 a10 = 0) <| lt_ (ms_i M11 a10 1 v2) fun M12 => gd (M12.1 a10 = 0) <| lt_ (ms_i M12 a10 2 v3) fun M13 => gd (M13.1 a10 = 0) <| lt_ (ms_i M13 a10 3 v4) fun M14 => gd (M14.1 v0 = 7) <| gd (M14.1 v0 = 7) <| lt_ (ms_i M14 v0 6 ((mm_i M14 v0 6) + (1 : Int32))) fun M15 => gd (M15.1 v0 = 7) <| some (M15, .inl ((mm_i M15 v0 6) - (1 : Int32)))) else (some (M7, .inr 1))
abbrev rm_X7_claim : Room := { frames := 8, cells := 5, slots := 30, locals := 132 }
theorem hd_X7_claim : yX7_claim.cls ≠ "java/lang/invoke/MethodHandle" ∧ yX7_claim.cls ≠ "java/lang/invoke/VarHandle" ∧ (parseMethodDescriptor yX7_claim.desc).map (fun d => d.parameters.length) = some 4 := by decide +kernel
set_option maxHeartbeats 8000000 in
set_option maxRecDepth 100000 in
theorem c_X7_claim {l : Launch} (hlt : l.stackTraces = false) {D : va_G} {ca : Nat → ClassId} {b : Nat} {v0 : Nat} {v1 : Int32} {v2 : Int32} {v3 : Int32} {v4 : Int32} {M : Mem} {r : Mem × (Int32 ⊕ Nat)} (hf : f_X7_claim v0 v1 v2 v3 v4 M = some r) : CxI l yX7_claim cX7_claim 6 (some .int) rm_X7_claim D ca b [.ref v0, .int v1, .int v2, .int v3, .int v4] M r 5 30 := by
  intro sz
  refine bodyx_start (nx := false) (Qc := fun A => cxI D ca A r) (XC := fun A => cxX D ca A r) (by decide +kernel) (Nat.le_of_ble_eq_true rfl) ?_
  intro p e s m args below meth c A hC htab hr hR ls hl
  obtain ⟨hx, hb, hml, hts, hown, hlocks, hXe, hA, hAb, hnm⟩ := id hC
  have hK := hXe.1
  have hl : lv_has ls 6 [(0, .ref v0), (1, .int v1), (2, .int v2), (3, .int v3), (4, .int v4)] := hl
  unfold f_X7_claim at hf
  refine lv_iload_n (pc := 0) hx hb dX7_claim_0 rfl (lv_at hl 1 rfl) ?_
  refine lv_aload_n (pc := 1) hx hb dX7_claim_1 rfl (lv_at hl 0 rfl) ?_
  refine rg_get (pc := 2) (C := RX7) (T := TX7) (N := 11) (κ := 7) (v := .int (mm_i M v0 4)) hx hb hts hK hR hown in_7 rfl (by decide) 4 (by decide) m_234 rfl dX7_claim_2 hf (fun hf => ?_)
  refine rg_xV (pc := 5) hf hR hA htab hlocks (by show 1 ≤ 5; decide) (by show 6 ≤ 30; decide) (fun z hz => xn_S (As := [.int v1, .int (mm_i M v0 4)]) (rest := []) hC hR (c_X7_requireNumber hlt hz _) m_526 m_527 m_1 m_528 hd_X7_requireNumber ⟨rfl, rfl, Nat.le_of_ble_eq_true rfl, Nat.le_of_ble_eq_true rfl⟩ rfl hl.1 rfl (Nat.le_of_ble_eq_true rfl) dX7_claim_5 ⟨Nat.le_of_ble_eq_true rfl, Nat.le_of_ble_eq_true rfl⟩) (fun M1 H locs hf hR => ?_)
  refine lv_iload_n (pc := 8) hx hb dX7_claim_8 rfl (lv_at hl 2 rfl) ?_
  refine rg_xV (pc := 9) hf hR hA htab hlocks (by show 2 ≤ 5; decide) (by show 12 ≤ 30; decide) (fun z hz => xn_S (As := [.int v2]) (rest := []) hC hR (c_X7_requireLane hlt hz _) m_299 m_300 m_1 m_301 hd_X7_requireLane ⟨rfl, rfl, Nat.le_of_ble_eq_true rfl, Nat.le_of_ble_eq_true rfl⟩ rfl hl.1 rfl (Nat.le_of_ble_eq_true rfl) dX7_claim_9 ⟨Nat.le_of_ble_eq_true rfl, Nat.le_of_ble_eq_true rfl⟩) (fun M3 H locs hf hR => ?_)
  refine lv_iload_n (pc := 12) hx hb dX7_claim_12 rfl (lv_at hl 3 rfl) ?_
  refine lv_iload_n (pc := 13) hx hb dX7_claim_13 rfl (lv_at hl 2 rfl) ?_
  refine lv_bipush (pc := 14) (v := (63 : Int32)) hx hb dX7_claim_14 (by decide) ?_
  refine rg_xV (pc := 16) hf hR hA htab hlocks (by show 3 ≤ 5; decide) (by show 18 ≤ 30; decide) (fun z hz => xn_S (As := [.int v3, .int v2, .int (63 : Int32)]) (rest := []) hC hR (c_X7_requireRange hlt hz _) m_302 m_303 m_1 m_304 hd_X7_requireRange ⟨rfl, rfl, Nat.le_of_ble_eq_true rfl, Nat.le_of_ble_eq_true rfl⟩ rfl hl.1 rfl (Nat.le_of_ble_eq_true rfl) dX7_claim_16 ⟨Nat.le_of_ble_eq_true rfl, Nat.le_of_ble_eq_true rfl⟩) (fun M5 H locs hf hR => ?_)
  refine lv_iload (pc := 19) hx hb dX7_claim_19 (lv_at hl 4 rfl) ?_
  refine lv_iconst (pc := 21) (v := (0 : Int32)) hx hb dX7_claim_21 (by decide) ?_
  refine lv_ldc (pc := 22) hx hb hown (hts _ m_545) dX7_claim_22 ?_
  refine rg_xV (pc := 24) hf hR hA htab hlocks (by show 4 ≤ 5; decide) (by show 24 ≤ 30; decide) (fun z hz => xn_S (As := [.int v4, .int (0 : Int32), .int (1000000 : Int32)]) (rest := []) hC hR (c_X7_requireRange hlt hz _) m_302 m_303 m_1 m_304 hd_X7_requireRange ⟨rfl, rfl, Nat.le_of_ble_eq_true rfl, Nat.le_of_ble_eq_true rfl⟩ rfl hl.1 rfl (Nat.le_of_ble_eq_true rfl) dX7_claim_24 ⟨Nat.le_of_ble_eq_true rfl, Nat.le_of_ble_eq_true rfl⟩) (fun M7 H locs hf hR => ?_)
  refine lv_aload_n (pc := 27) hx hb dX7_claim_27 rfl (lv_at hl 0 rfl) ?_
  refine rg_get (pc := 28) (C := RX7) (T := TX7) (N := 11) (κ := 7) (v := .int (mm_i M7 v0 6)) hx hb hts hK hR hown in_7 rfl (by decide) 6 (by decide) m_236 rfl dX7_claim_28 hf (fun hf => ?_)
  refine lv_bipush (pc := 31) (v := (40 : Int32)) hx hb dX7_claim_31 (by decide) ?_
  refine lv_icmp_lt (pc := 33) (tgt := 46) hx hb dX7_claim_33 (by decide) (fun hc => ?_) (fun hc => ?_)
  · replace hf := it_t hf hc
    refine lv_aload_n (pc := 46) hx hb dX7_claim_46 rfl (lv_at hl 0 rfl) ?_
    refine rg_getr (pc := 47) (C := RX7) (T := TX7) (N := 11) (κ := 7) hx hb hts hK hR hown in_7 rfl (by decide) 5 (by decide) m_235 rfl dX7_claim_47 hf (fun a9 hf => ?_)
    refine lv_aload_n (pc := 50) hx hb dX7_claim_50 rfl (lv_at hl 0 rfl) ?_
    refine rg_get (pc := 51) (C := RX7) (T := TX7) (N := 11) (κ := 7) (v := .int (mm_i M7 v0 6)) hx hb hts hK hR hown in_7 rfl (by decide) 6 (by decide) m_236 rfl dX7_claim_51 hf (fun hf => ?_)
    refine rg_aald (pc := 54) (κ := 11) hx hb hK hR 2 rfl (by decide) dX7_claim_54 hf (fun a10 hf => ?_)
    refine lv_astore (pc := 55) (lv' := [(5, .ref a10), (0, .ref v0), (1, .int v1), (2, .int v2), (3, .int v3), (4, .int v4)]) hx hb dX7_claim_55 hl (by decide) rfl (fun ls hl => ?_)
    refine lv_aload (pc := 57) hx hb dX7_claim_57 (lv_at hl 0 rfl) ?_
    refine lv_iload_n (pc := 59) hx hb dX7_claim_59 rfl (lv_at hl 2 rfl) ?_
    refine rg_puti (pc := 60) (C := RX0) (T := TX0) (N := 4) (κ := 0) hx hb hts hK hR hown in_0 rfl (by decide) 0 (by decide) m_214 tyX0 tyX0_ok nmX0 rfl rfl rfl rfl dX7_claim_60 hf (fun M11 H locs hf hR => ?_)
    refine lv_aload (pc := 63) hx hb dX7_claim_63 (lv_at hl 0 rfl) ?_
    refine lv_iload_n (pc := 65) hx hb dX7_claim_65 rfl (lv_at hl 3 rfl) ?_
    refine rg_puti (pc := 66) (C := RX0) (T := TX0) (N := 4) (κ := 0) hx hb hts hK hR hown in_0 rfl (by decide) 1 (by decide) m_216 tyX0 tyX0_ok nmX0 rfl rfl rfl rfl dX7_claim_66 hf (fun M12 H locs hf hR => ?_)
    refine lv_aload (pc := 69) hx hb dX7_claim_69 (lv_at hl 0 rfl) ?_
    refine lv_iload_n (pc := 71) hx hb dX7_claim_71 rfl (lv_at hl 4 rfl) ?_
    refine rg_puti (pc := 72) (C := RX0) (T := TX0) (N := 4) (κ := 0) hx hb hts hK hR hown in_0 rfl (by decide) 2 (by decide) m_218 tyX0 tyX0_ok nmX0 rfl rfl rfl rfl dX7_claim_72 hf (fun M13 H locs hf hR => ?_)
    refine lv_aload (pc := 75) hx hb dX7_claim_75 (lv_at hl 0 rfl) ?_
    refine lv_iload (pc := 77) hx hb dX7_claim_77 (lv_at hl 5 rfl) ?_
    refine rg_puti (pc := 79) (C := RX0) (T := TX0) (N := 4) (κ := 0) hx hb hts hK hR hown in_0 rfl (by decide) 3 (by decide) m_220 tyX0 tyX0_ok nmX0 rfl rfl rfl rfl dX7_claim_79 hf (fun M14 H locs hf hR => ?_)
    refine lv_aload_n (pc := 82) hx hb dX7_claim_82 rfl (lv_at hl 1 rfl) ?_
    refine lv_dup (pc := 83) hx hb dX7_claim_83 rfl ?_
    refine rg_get (pc := 84) (C := RX7) (T := TX7) (N := 11) (κ := 7) (v := .int (mm_i M14 v0 6)) hx hb hts hK hR hown in_7 rfl (by decide) 6 (by decide) m_236 rfl dX7_claim_84 hf (fun hf => ?_)
    refine lv_iconst (pc := 87) (v := (1 : Int32)) hx hb dX7_claim_87 (by decide) ?_
    refine lv_iadd (pc := 88) hx hb dX7_claim_88 ?_
    refine rg_puti (pc := 89) (C := RX7) (T := TX7) (N := 11) (κ := 7) hx hb hts hK hR hown in_7 rfl (by decide) 6 (by decide) m_236 tyX7 tyX7_ok nmX7 rfl rfl rfl rfl dX7_claim_89 hf (fun M15 H locs hf hR => ?_)
    refine lv_aload_n (pc := 92) hx hb dX7_claim_92 rfl (lv_at hl 1 rfl) ?_
    refine rg_get (pc := 93) (C := RX7) (T := TX7) (N := 11) (κ := 7) (v := .int (mm_i M15 v0 6)) hx hb hts hK hR hown in_7 rfl (by decide) 6 (by decide) m_236 rfl dX7_claim_93 hf (fun hf => ?_)
    refine lv_iconst (pc := 96) (v := (1 : Int32)) hx hb dX7_claim_96 (by decide) ?_
    refine lv_isub (pc := 97) hx hb dX7_claim_97 ?_
    exact rg_xiret (pc := 98) hx hb hlocks hr hf hR (by show 4 ≤ 5; decide) (by show 24 ≤ 30; decide) dX7_claim_98
  · replace hf := it_f hf hc
    exact rg_thr (pc := 36) 1 (by decide) hC htab hlt hl.1 rfl m_374 (is := 140) (text := "there are 40 claims") (by decide +kernel) hf hR dX7_claim_36 dX7_claim_39 dX7_claim_40 dX7_claim_42 dX7_claim_45 (Nat.le_of_ble_eq_true rfl) (Nat.le_of_ble_eq_true rfl) (Nat.le_of_ble_eq_true rfl) (Nat.le_of_ble_eq_true rfl) (by show 5 ≤ 5; decide) (by show 30 ≤ 30; decide)
-- X7_now
def f_X7_now (v0 : Nat) (M : Mem) : Option (Mem × Int32) := gd (M.1 v0 = 7) <| some (M, (mm_i M v0 7))
abbrev rm_X7_now : Room := { frames := 0, cells := 0, slots := 0, locals := 0 }
theorem hd_X7_now : yX7_now.cls ≠ "java/lang/invoke/MethodHandle" ∧ yX7_now.cls ≠ "java/lang/invoke/VarHandle" ∧ (parseMethodDescriptor yX7_now.desc).map (fun d => d.parameters.length) = some 0 := by decide +kernel
set_option maxHeartbeats 8000000 in
set_option maxRecDepth 100000 in
theorem c_X7_now {l : Launch} {D : va_G} {ca : Nat → ClassId} {b : Nat} {nx : Bool} {v0 : Nat} {M : Mem} {r : Mem × Int32} (hf : f_X7_now v0 M = some r) : CtI l yX7_now cX7_now 1 (some .int) rm_X7_now D ca b nx [.ref v0] M r := by
  intro sz
  refine body_start (Qc := fun A => cvI D ca nx A r) (by decide +kernel) (Nat.le_of_ble_eq_true rfl) ?_
  intro p e s m args below meth c A hC hr hR ls hl
  obtain ⟨hx, hb, hml, hts, hown, hlocks, hXe, hA, hAb, hnm⟩ := id hC
  have hK := hXe.1
  have hl : lv_has ls 1 [(0, .ref v0)] := hl
  unfold f_X7_now at hf
  refine lv_aload_n (pc := 0) hx hb dX7_now_0 rfl (lv_at hl 0 rfl) ?_
  refine rg_get (pc := 1) (C := RX7) (T := TX7) (N := 11) (κ := 7) (v := .int (mm_i M v0 7)) hx hb hts hK hR hown in_7 rfl (by decide) 7 (by decide) m_237 rfl dX7_now_1 hf (fun hf => ?_)
  exact rg_iret (pc := 4) hx hb hlocks hr hf hR dX7_now_4
-- X7_told
def f_X7_told_b97  (s0 : Int32) (M : Mem) : Option (Mem × (Int32 ⊕ Nat)) := some (M, .inl s0)
def f_X7_told (v0 : Nat) (v1 : Int32) (v2 : Int32) (M : Mem) : Option (Mem × (Int32 ⊕ Nat)) := gd (M.1 v0 = 7) <| rd (mm_r M v0 0) fun a1 => gd (M.1 a1 = 3) <| bx (f_X7_requireNumber v1 (mm_i M a1 3) M) fun M2 _ => gd (M2.1 v0 = 7) <| rd (mm_r M2 v0 0) fun a4 => gd (M2.1 a4 = 3) <| rd (mm_r M2 a4 2) fun a5 => gd (M2.1 a5 = 13 ∧ vi_ v1 (mm_N M2 a5)) <| rd (mm_r M2 a5 (v1).toNatClampNeg) fun a6 => if v2 = (0 : Int32) then (gd (M2.1 a6 = 2) <| some (M2, .inl (mm_i M2 a6 0))) else if v2 = (1 : Int32) then (gd (M2.1 a6 = 2) <| some (M2, .inl (mm_i M2 a6 1))) else if v2 = (2 : Int32) then (gd (M2.1 a6 = 2) <| some (M2, .inl (mm_i M2 a6 2))) else if v2 = (3 : Int32) then (gd (M2.1 a6 = 2) <| some (M2, .inl (mm_i M2 a6 3))) else if v2 = (4 : Int32) then (gd (M2.1 a6 = 2) <| some (M2, .inl (mm_i M2 a6 4))) else if v2 = (5 : Int32) then (gd (M2.1 a6 = 2) <| if (mm_i M2 a6 5) = 0 then (f_X7_told_b97 (0 : Int32) M2) else (f_X7_told_b97 (1 : Int32) M2)) else (some (M2, .inr 0))
abbrev rm_X7_told : Room := { frames := 7, cells := 2, slots := 12, locals := 111 }
theorem hd_X7_told : yX7_told.cls ≠ "java/lang/invoke/MethodHandle" ∧ yX7_told.cls ≠ "java/lang/invoke/VarHandle" ∧ (parseMethodDescriptor yX7_told.desc).map (fun d => d.parameters.length) = some 2 := by decide +kernel
set_option maxHeartbeats 8000000 in
set_option maxRecDepth 100000 in
theorem c_X7_told {l : Launch} (hlt : l.stackTraces = false) {D : va_G} {ca : Nat → ClassId} {b : Nat} {v0 : Nat} {v1 : Int32} {v2 : Int32} {M : Mem} {r : Mem × (Int32 ⊕ Nat)} (hf : f_X7_told v0 v1 v2 M = some r) : CxI l yX7_told cX7_told 4 (some .int) rm_X7_told D ca b [.ref v0, .int v1, .int v2] M r 2 12 := by
  intro sz
  refine bodyx_start (nx := false) (Qc := fun A => cxI D ca A r) (XC := fun A => cxX D ca A r) (by decide +kernel) (Nat.le_of_ble_eq_true rfl) ?_
  intro p e s m args below meth c A hC htab hr hR ls hl
  obtain ⟨hx, hb, hml, hts, hown, hlocks, hXe, hA, hAb, hnm⟩ := id hC
  have hK := hXe.1
  have hl : lv_has ls 4 [(0, .ref v0), (1, .int v1), (2, .int v2)] := hl
  have hB97 : ∀  (s0 : Int32) (M : Mem) (H : Heap) (locs : List Loc) (ls : Array Slot), f_X7_told_b97  s0 M = some r → Hp D ca false A s M H locs → lv_has ls 4 [] → W p l e rm_X7_told s m args below meth c H locs 1 6 (vx_MQ below (cxI D ca A r) (cxX D ca A r) args s 2 12 A) (F0 m 97 ls [.int s0]) := by
    intro  s0 M H locs ls hf hR hl
    unfold f_X7_told_b97 at hf
    exact rg_xiret (pc := 97) hx hb hlocks hr hf hR (by show 1 ≤ 2; decide) (by show 6 ≤ 12; decide) dX7_told_97
  unfold f_X7_told at hf
  refine lv_iload_n (pc := 0) hx hb dX7_told_0 rfl (lv_at hl 1 rfl) ?_
  refine lv_aload_n (pc := 1) hx hb dX7_told_1 rfl (lv_at hl 0 rfl) ?_
  refine rg_getr (pc := 2) (C := RX7) (T := TX7) (N := 11) (κ := 7) hx hb hts hK hR hown in_7 rfl (by decide) 0 (by decide) m_230 rfl dX7_told_2 hf (fun a1 hf => ?_)
  refine rg_get (pc := 5) (C := RX3) (T := TX3) (N := 7) (κ := 3) (v := .int (mm_i M a1 3)) hx hb hts hK hR hown in_3 rfl (by decide) 3 (by decide) m_148 rfl dX7_told_5 hf (fun hf => ?_)
  refine rg_xV (pc := 8) hf hR hA htab hlocks (by show 1 ≤ 2; decide) (by show 6 ≤ 12; decide) (fun z hz => xn_S (As := [.int v1, .int (mm_i M a1 3)]) (rest := []) hC hR (c_X7_requireNumber hlt hz _) m_526 m_527 m_1 m_528 hd_X7_requireNumber ⟨rfl, rfl, Nat.le_of_ble_eq_true rfl, Nat.le_of_ble_eq_true rfl⟩ rfl hl.1 rfl (Nat.le_of_ble_eq_true rfl) dX7_told_8 ⟨Nat.le_of_ble_eq_true rfl, Nat.le_of_ble_eq_true rfl⟩) (fun M2 H locs hf hR => ?_)
  refine lv_aload_n (pc := 11) hx hb dX7_told_11 rfl (lv_at hl 0 rfl) ?_
  refine rg_getr (pc := 12) (C := RX7) (T := TX7) (N := 11) (κ := 7) hx hb hts hK hR hown in_7 rfl (by decide) 0 (by decide) m_230 rfl dX7_told_12 hf (fun a4 hf => ?_)
  refine rg_getr (pc := 15) (C := RX3) (T := TX3) (N := 7) (κ := 3) hx hb hts hK hR hown in_3 rfl (by decide) 2 (by decide) m_146 rfl dX7_told_15 hf (fun a5 hf => ?_)
  refine lv_iload_n (pc := 18) hx hb dX7_told_18 rfl (lv_at hl 1 rfl) ?_
  refine rg_aald (pc := 19) (κ := 13) hx hb hK hR 4 rfl (by decide) dX7_told_19 hf (fun a6 hf => ?_)
  refine lv_astore_n (pc := 20) (lv' := [(3, .ref a6), (0, .ref v0), (1, .int v1), (2, .int v2)]) hx hb dX7_told_20 rfl hl (by decide) rfl (fun ls hl => ?_)
  refine lv_iload_n (pc := 21) hx hb dX7_told_21 rfl (lv_at hl 3 rfl) ?_
  by_cases hw0 : v2 = (0 : Int32)
  · replace hf := it_t hf hw0
    refine lv_tableIn (pc := 22) (off := 38) (tgt := 60) hx hb dX7_told_22 (by rw [hw0]; decide) (by rw [hw0]; decide) (by rw [hw0]; decide) (by decide) ?_
    refine lv_aload_n (pc := 60) hx hb dX7_told_60 rfl (lv_at hl 0 rfl) ?_
    refine rg_get (pc := 61) (C := RX2) (T := TX2) (N := 7) (κ := 2) (v := .int (mm_i M2 a6 0)) hx hb hts hK hR hown in_2 rfl (by decide) 0 (by decide) m_110 rfl dX7_told_61 hf (fun hf => ?_)
    exact rg_xiret (pc := 64) hx hb hlocks hr hf hR (by show 1 ≤ 2; decide) (by show 6 ≤ 12; decide) dX7_told_64
  replace hf := it_f hf hw0
  by_cases hw1 : v2 = (1 : Int32)
  · replace hf := it_t hf hw1
    refine lv_tableIn (pc := 22) (off := 43) (tgt := 65) hx hb dX7_told_22 (by rw [hw1]; decide) (by rw [hw1]; decide) (by rw [hw1]; decide) (by decide) ?_
    refine lv_aload_n (pc := 65) hx hb dX7_told_65 rfl (lv_at hl 0 rfl) ?_
    refine rg_get (pc := 66) (C := RX2) (T := TX2) (N := 7) (κ := 2) (v := .int (mm_i M2 a6 1)) hx hb hts hK hR hown in_2 rfl (by decide) 1 (by decide) m_113 rfl dX7_told_66 hf (fun hf => ?_)
    exact rg_xiret (pc := 69) hx hb hlocks hr hf hR (by show 1 ≤ 2; decide) (by show 6 ≤ 12; decide) dX7_told_69
  replace hf := it_f hf hw1
  by_cases hw2 : v2 = (2 : Int32)
  · replace hf := it_t hf hw2
    refine lv_tableIn (pc := 22) (off := 48) (tgt := 70) hx hb dX7_told_22 (by rw [hw2]; decide) (by rw [hw2]; decide) (by rw [hw2]; decide) (by decide) ?_
    refine lv_aload_n (pc := 70) hx hb dX7_told_70 rfl (lv_at hl 0 rfl) ?_
    refine rg_get (pc := 71) (C := RX2) (T := TX2) (N := 7) (κ := 2) (v := .int (mm_i M2 a6 2)) hx hb hts hK hR hown in_2 rfl (by decide) 2 (by decide) m_116 rfl dX7_told_71 hf (fun hf => ?_)
    exact rg_xiret (pc := 74) hx hb hlocks hr hf hR (by show 1 ≤ 2; decide) (by show 6 ≤ 12; decide) dX7_told_74
  replace hf := it_f hf hw2
  by_cases hw3 : v2 = (3 : Int32)
  · replace hf := it_t hf hw3
    refine lv_tableIn (pc := 22) (off := 53) (tgt := 75) hx hb dX7_told_22 (by rw [hw3]; decide) (by rw [hw3]; decide) (by rw [hw3]; decide) (by decide) ?_
    refine lv_aload_n (pc := 75) hx hb dX7_told_75 rfl (lv_at hl 0 rfl) ?_
    refine rg_get (pc := 76) (C := RX2) (T := TX2) (N := 7) (κ := 2) (v := .int (mm_i M2 a6 3)) hx hb hts hK hR hown in_2 rfl (by decide) 3 (by decide) m_118 rfl dX7_told_76 hf (fun hf => ?_)
    exact rg_xiret (pc := 79) hx hb hlocks hr hf hR (by show 1 ≤ 2; decide) (by show 6 ≤ 12; decide) dX7_told_79
  replace hf := it_f hf hw3
  by_cases hw4 : v2 = (4 : Int32)
  · replace hf := it_t hf hw4
    refine lv_tableIn (pc := 22) (off := 58) (tgt := 80) hx hb dX7_told_22 (by rw [hw4]; decide) (by rw [hw4]; decide) (by rw [hw4]; decide) (by decide) ?_
    refine lv_aload_n (pc := 80) hx hb dX7_told_80 rfl (lv_at hl 0 rfl) ?_
    refine rg_get (pc := 81) (C := RX2) (T := TX2) (N := 7) (κ := 2) (v := .int (mm_i M2 a6 4)) hx hb hts hK hR hown in_2 rfl (by decide) 4 (by decide) m_120 rfl dX7_told_81 hf (fun hf => ?_)
    exact rg_xiret (pc := 84) hx hb hlocks hr hf hR (by show 1 ≤ 2; decide) (by show 6 ≤ 12; decide) dX7_told_84
  replace hf := it_f hf hw4
  by_cases hw5 : v2 = (5 : Int32)
  · replace hf := it_t hf hw5
    refine lv_tableIn (pc := 22) (off := 63) (tgt := 85) hx hb dX7_told_22 (by rw [hw5]; decide) (by rw [hw5]; decide) (by rw [hw5]; decide) (by decide) ?_
    refine lv_aload_n (pc := 85) hx hb dX7_told_85 rfl (lv_at hl 0 rfl) ?_
    refine rg_get (pc := 86) (C := RX2) (T := TX2) (N := 7) (κ := 2) (v := .int (mm_i M2 a6 5)) hx hb hts hK hR hown in_2 rfl (by decide) 5 (by decide) m_123 rfl dX7_told_86 hf (fun hf => ?_)
    refine lv_if_eq (pc := 89) (tgt := 96) hx hb dX7_told_89 (by decide) (fun hc => ?_) (fun hc => ?_)
    · replace hf := it_t hf hc
      refine lv_iconst (pc := 96) (v := (0 : Int32)) hx hb dX7_told_96 (by decide) ?_
      exact hB97 (0 : Int32) M2 _ _ _ hf hR (lv_sub hl [] rfl)
    · replace hf := it_f hf hc
      refine lv_iconst (pc := 92) (v := (1 : Int32)) hx hb dX7_told_92 (by decide) ?_
      refine lv_goto (pc := 93) (tgt := 97) hx hb dX7_told_93 (by decide) ?_
      exact hB97 (1 : Int32) M2 _ _ _ hf hR (lv_sub hl [] rfl)
  replace hf := it_f hf hw5
  refine lv_tableOut (pc := 22) (tgt := 98) hx hb dX7_told_22 (by have h0 := sw_ne (0 : Int32) (k := 0) (by decide) hw0; have h1 := sw_ne (1 : Int32) (k := 1) (by decide) hw1; have h2 := sw_ne (2 : Int32) (k := 2) (by decide) hw2; have h3 := sw_ne (3 : Int32) (k := 3) (by decide) hw3; have h4 := sw_ne (4 : Int32) (k := 4) (by decide) hw4; have h5 := sw_ne (5 : Int32) (k := 5) (by decide) hw5; omega) (by decide) ?_
  exact rg_thr (pc := 98) 0 (by decide) hC htab hlt hl.1 rfl m_305 (is := 177) (text := "what is 0 to 5") (by decide +kernel) hf hR dX7_told_98 dX7_told_101 dX7_told_102 dX7_told_104 dX7_told_107 (Nat.le_of_ble_eq_true rfl) (Nat.le_of_ble_eq_true rfl) (Nat.le_of_ble_eq_true rfl) (Nat.le_of_ble_eq_true rfl) (by show 2 ≤ 2; decide) (by show 12 ≤ 12; decide)
-- X7_angle
def f_X7_angle (v0 : Nat) (v1 : Int32) (M : Mem) : Option (Mem × (Int32 ⊕ Nat)) := gd (M.1 v0 = 7) <| bx (f_X7_requireNumber v1 (mm_i M v0 2) M) fun M1 _ => gd (M1.1 v0 = 7) <| rd (mm_r M1 v0 1) fun a3 => gd (M1.1 a3 = 14 ∧ vi_ v1 (mm_N M1 a3)) <| rd (mm_r M1 a3 (v1).toNatClampNeg) fun a4 => gd (M1.1 a4 = 5) <| some (M1, .inl (mm_i M1 a4 1))
abbrev rm_X7_angle : Room := { frames := 7, cells := 1, slots := 6, locals := 111 }
theorem hd_X7_angle : yX7_angle.cls ≠ "java/lang/invoke/MethodHandle" ∧ yX7_angle.cls ≠ "java/lang/invoke/VarHandle" ∧ (parseMethodDescriptor yX7_angle.desc).map (fun d => d.parameters.length) = some 1 := by decide +kernel
set_option maxHeartbeats 8000000 in
set_option maxRecDepth 100000 in
theorem c_X7_angle {l : Launch} (hlt : l.stackTraces = false) {D : va_G} {ca : Nat → ClassId} {b : Nat} {v0 : Nat} {v1 : Int32} {M : Mem} {r : Mem × (Int32 ⊕ Nat)} (hf : f_X7_angle v0 v1 M = some r) : CxI l yX7_angle cX7_angle 2 (some .int) rm_X7_angle D ca b [.ref v0, .int v1] M r 1 6 := by
  intro sz
  refine bodyx_start (nx := false) (Qc := fun A => cxI D ca A r) (XC := fun A => cxX D ca A r) (by decide +kernel) (Nat.le_of_ble_eq_true rfl) ?_
  intro p e s m args below meth c A hC htab hr hR ls hl
  obtain ⟨hx, hb, hml, hts, hown, hlocks, hXe, hA, hAb, hnm⟩ := id hC
  have hK := hXe.1
  have hl : lv_has ls 2 [(0, .ref v0), (1, .int v1)] := hl
  unfold f_X7_angle at hf
  refine lv_iload_n (pc := 0) hx hb dX7_angle_0 rfl (lv_at hl 1 rfl) ?_
  refine lv_aload_n (pc := 1) hx hb dX7_angle_1 rfl (lv_at hl 0 rfl) ?_
  refine rg_get (pc := 2) (C := RX7) (T := TX7) (N := 11) (κ := 7) (v := .int (mm_i M v0 2)) hx hb hts hK hR hown in_7 rfl (by decide) 2 (by decide) m_232 rfl dX7_angle_2 hf (fun hf => ?_)
  refine rg_xV (pc := 5) hf hR hA htab hlocks (by show 1 ≤ 1; decide) (by show 6 ≤ 6; decide) (fun z hz => xn_S (As := [.int v1, .int (mm_i M v0 2)]) (rest := []) hC hR (c_X7_requireNumber hlt hz _) m_526 m_527 m_1 m_528 hd_X7_requireNumber ⟨rfl, rfl, Nat.le_of_ble_eq_true rfl, Nat.le_of_ble_eq_true rfl⟩ rfl hl.1 rfl (Nat.le_of_ble_eq_true rfl) dX7_angle_5 ⟨Nat.le_of_ble_eq_true rfl, Nat.le_of_ble_eq_true rfl⟩) (fun M1 H locs hf hR => ?_)
  refine lv_aload_n (pc := 8) hx hb dX7_angle_8 rfl (lv_at hl 0 rfl) ?_
  refine rg_getr (pc := 9) (C := RX7) (T := TX7) (N := 11) (κ := 7) hx hb hts hK hR hown in_7 rfl (by decide) 1 (by decide) m_231 rfl dX7_angle_9 hf (fun a3 hf => ?_)
  refine lv_iload_n (pc := 12) hx hb dX7_angle_12 rfl (lv_at hl 1 rfl) ?_
  refine rg_aald (pc := 13) (κ := 14) hx hb hK hR 5 rfl (by decide) dX7_angle_13 hf (fun a4 hf => ?_)
  refine rg_get (pc := 14) (C := RX5) (T := TX5) (N := 3) (κ := 5) (v := .int (mm_i M1 a4 1)) hx hb hts hK hR hown in_5 rfl (by decide) 1 (by decide) m_179 rfl dX7_angle_14 hf (fun hf => ?_)
  exact rg_xiret (pc := 17) hx hb hlocks hr hf hR (by show 1 ≤ 1; decide) (by show 6 ≤ 6; decide) dX7_angle_17
-- X7_speed
def f_X7_speed (v0 : Nat) (v1 : Int32) (M : Mem) : Option (Mem × (Int32 ⊕ Nat)) := bx (f_X7_requireLane v1 M) fun M1 _ => gd (M1.1 v0 = 7) <| rd (mm_r M1 v0 0) fun a3 => gd (M1.1 a3 = 3) <| rd (mm_r M1 a3 0) fun a4 => gd (M1.1 a4 = 6) <| bd (f_X6_speedIn a4 v1 M1) fun z5 => some (z5.1, .inl z5.2)
abbrev rm_X7_speed : Room := { frames := 8, cells := 1, slots := 6, locals := 132 }
theorem hd_X7_speed : yX7_speed.cls ≠ "java/lang/invoke/MethodHandle" ∧ yX7_speed.cls ≠ "java/lang/invoke/VarHandle" ∧ (parseMethodDescriptor yX7_speed.desc).map (fun d => d.parameters.length) = some 1 := by decide +kernel
set_option maxHeartbeats 8000000 in
set_option maxRecDepth 100000 in
theorem c_X7_speed {l : Launch} (hlt : l.stackTraces = false) {D : va_G} {ca : Nat → ClassId} {b : Nat} {v0 : Nat} {v1 : Int32} {M : Mem} {r : Mem × (Int32 ⊕ Nat)} (hf : f_X7_speed v0 v1 M = some r) : CxI l yX7_speed cX7_speed 2 (some .int) rm_X7_speed D ca b [.ref v0, .int v1] M r 1 6 := by
  intro sz
  refine bodyx_start (nx := false) (Qc := fun A => cxI D ca A r) (XC := fun A => cxX D ca A r) (by decide +kernel) (Nat.le_of_ble_eq_true rfl) ?_
  intro p e s m args below meth c A hC htab hr hR ls hl
  obtain ⟨hx, hb, hml, hts, hown, hlocks, hXe, hA, hAb, hnm⟩ := id hC
  have hK := hXe.1
  have hl : lv_has ls 2 [(0, .ref v0), (1, .int v1)] := hl
  unfold f_X7_speed at hf
  refine lv_iload_n (pc := 0) hx hb dX7_speed_0 rfl (lv_at hl 1 rfl) ?_
  refine rg_xV (pc := 1) hf hR hA htab hlocks (by show 1 ≤ 1; decide) (by show 6 ≤ 6; decide) (fun z hz => xn_S (As := [.int v1]) (rest := []) hC hR (c_X7_requireLane hlt hz _) m_299 m_300 m_1 m_301 hd_X7_requireLane ⟨rfl, rfl, Nat.le_of_ble_eq_true rfl, Nat.le_of_ble_eq_true rfl⟩ rfl hl.1 rfl (Nat.le_of_ble_eq_true rfl) dX7_speed_1 ⟨Nat.le_of_ble_eq_true rfl, Nat.le_of_ble_eq_true rfl⟩) (fun M1 H locs hf hR => ?_)
  refine lv_aload_n (pc := 4) hx hb dX7_speed_4 rfl (lv_at hl 0 rfl) ?_
  refine rg_getr (pc := 5) (C := RX7) (T := TX7) (N := 11) (κ := 7) hx hb hts hK hR hown in_7 rfl (by decide) 0 (by decide) m_230 rfl dX7_speed_5 hf (fun a3 hf => ?_)
  refine rg_getr (pc := 8) (C := RX3) (T := TX3) (N := 7) (κ := 3) hx hb hts hK hR hown in_3 rfl (by decide) 0 (by decide) m_142 rfl dX7_speed_8 hf (fun a4 hf => ?_)
  refine lv_iload_n (pc := 11) hx hb dX7_speed_11 rfl (lv_at hl 1 rfl) ?_
  obtain ⟨hq, hf⟩ := gd_e hf
  refine rg_I (pc := 12) hf hR hA (fun z hz => rn_V (κ := 6) (As := [.int v1]) (rest := []) hC hR rfl (by decide) hq (c_X6_speedIn  hz _) m_435 m_436 m_437 m_3 m_438 hd_X6_speedIn ⟨rfl, rfl, Nat.le_of_ble_eq_true rfl, Nat.le_of_ble_eq_true rfl⟩ rfl hl.1 rfl (Nat.le_of_ble_eq_true rfl) dX7_speed_12 ⟨Nat.le_of_ble_eq_true rfl, Nat.le_of_ble_eq_true rfl⟩) (fun z5 H locs hf hR => ?_)
  exact rg_xiret (pc := 15) hx hb hlocks hr hf hR (by show 1 ≤ 1; decide) (by show 6 ≤ 6; decide) dX7_speed_15
-- X7_count
def f_X7_count (v0 : Nat) (v1 : Int32) (M : Mem) : Option (Mem × (Int32 ⊕ Nat)) := if v1 = (0 : Int32) then (gd (M.1 v0 = 7) <| rd (mm_r M v0 0) fun a1 => gd (M.1 a1 = 3) <| some (M, .inl (mm_i M a1 3))) else if v1 = (1 : Int32) then (gd (M.1 v0 = 7) <| rd (mm_r M v0 0) fun a2 => gd (M.1 a2 = 3) <| bd (f_X3_countThere a2 M) fun z3 => some (z3.1, .inl z3.2)) else if v1 = (2 : Int32) then (gd (M.1 v0 = 7) <| rd (mm_r M v0 0) fun a4 => gd (M.1 a4 = 3) <| rd (mm_r M a4 1) fun a5 => gd (M.1 a5 = 4) <| some (M, .inl (mm_i M a5 0))) else if v1 = (3 : Int32) then (gd (M.1 v0 = 7) <| rd (mm_r M v0 0) fun a6 => gd (M.1 a6 = 3) <| rd (mm_r M a6 1) fun a7 => gd (M.1 a7 = 4) <| some (M, .inl (mm_i M a7 1))) else if v1 = (4 : Int32) then (gd (M.1 v0 = 7) <| rd (mm_r M v0 0) fun a8 => gd (M.1 a8 = 3) <| rd (mm_r M a8 1) fun a9 => gd (M.1 a9 = 4) <| some (M, .inl (mm_i M a9 2))) else if v1 = (5 : Int32) then (gd (M.1 v0 = 7) <| rd (mm_r M v0 0) fun a10 => gd (M.1 a10 = 3) <| rd (mm_r M a10 1) fun a11 => gd (M.1 a11 = 4) <| some (M, .inl (mm_i M a11 3))) else if v1 = (6 : Int32) then (gd (M.1 v0 = 7) <| rd (mm_r M v0 0) fun a12 => gd (M.1 a12 = 3) <| rd (mm_r M a12 1) fun a13 => gd (M.1 a13 = 4) <| some (M, .inl (mm_i M a13 4))) else (some (M, .inr 0))
abbrev rm_X7_count : Room := { frames := 6, cells := 1, slots := 6, locals := 90 }
theorem hd_X7_count : yX7_count.cls ≠ "java/lang/invoke/MethodHandle" ∧ yX7_count.cls ≠ "java/lang/invoke/VarHandle" ∧ (parseMethodDescriptor yX7_count.desc).map (fun d => d.parameters.length) = some 1 := by decide +kernel
set_option maxHeartbeats 8000000 in
set_option maxRecDepth 100000 in
theorem c_X7_count {l : Launch} (hlt : l.stackTraces = false) {D : va_G} {ca : Nat → ClassId} {b : Nat} {v0 : Nat} {v1 : Int32} {M : Mem} {r : Mem × (Int32 ⊕ Nat)} (hf : f_X7_count v0 v1 M = some r) : CxI l yX7_count cX7_count 2 (some .int) rm_X7_count D ca b [.ref v0, .int v1] M r 1 6 := by
  intro sz
  refine bodyx_start (nx := false) (Qc := fun A => cxI D ca A r) (XC := fun A => cxX D ca A r) (by decide +kernel) (Nat.le_of_ble_eq_true rfl) ?_
  intro p e s m args below meth c A hC htab hr hR ls hl
  obtain ⟨hx, hb, hml, hts, hown, hlocks, hXe, hA, hAb, hnm⟩ := id hC
  have hK := hXe.1
  have hl : lv_has ls 2 [(0, .ref v0), (1, .int v1)] := hl
  unfold f_X7_count at hf
  refine lv_iload_n (pc := 0) hx hb dX7_count_0 rfl (lv_at hl 1 rfl) ?_
  by_cases hw0 : v1 = (0 : Int32)
  · replace hf := it_t hf hw0
    refine lv_tableIn (pc := 1) (off := 43) (tgt := 44) hx hb dX7_count_1 (by rw [hw0]; decide) (by rw [hw0]; decide) (by rw [hw0]; decide) (by decide) ?_
    refine lv_aload_n (pc := 44) hx hb dX7_count_44 rfl (lv_at hl 0 rfl) ?_
    refine rg_getr (pc := 45) (C := RX7) (T := TX7) (N := 11) (κ := 7) hx hb hts hK hR hown in_7 rfl (by decide) 0 (by decide) m_230 rfl dX7_count_45 hf (fun a1 hf => ?_)
    refine rg_get (pc := 48) (C := RX3) (T := TX3) (N := 7) (κ := 3) (v := .int (mm_i M a1 3)) hx hb hts hK hR hown in_3 rfl (by decide) 3 (by decide) m_148 rfl dX7_count_48 hf (fun hf => ?_)
    exact rg_xiret (pc := 51) hx hb hlocks hr hf hR (by show 0 ≤ 1; decide) (by show 0 ≤ 6; decide) dX7_count_51
  replace hf := it_f hf hw0
  by_cases hw1 : v1 = (1 : Int32)
  · replace hf := it_t hf hw1
    refine lv_tableIn (pc := 1) (off := 51) (tgt := 52) hx hb dX7_count_1 (by rw [hw1]; decide) (by rw [hw1]; decide) (by rw [hw1]; decide) (by decide) ?_
    refine lv_aload_n (pc := 52) hx hb dX7_count_52 rfl (lv_at hl 0 rfl) ?_
    refine rg_getr (pc := 53) (C := RX7) (T := TX7) (N := 11) (κ := 7) hx hb hts hK hR hown in_7 rfl (by decide) 0 (by decide) m_230 rfl dX7_count_53 hf (fun a2 hf => ?_)
    obtain ⟨hq, hf⟩ := gd_e hf
    refine rg_I (pc := 56) hf hR hA (fun z hz => rn_V (κ := 3) (As := []) (rest := []) hC hR rfl (by decide) hq (c_X3_countThere  hz _) m_576 m_577 m_578 m_2 m_579 hd_X3_countThere ⟨rfl, rfl, Nat.le_of_ble_eq_true rfl, Nat.le_of_ble_eq_true rfl⟩ rfl hl.1 rfl (Nat.le_of_ble_eq_true rfl) dX7_count_56 ⟨Nat.le_of_ble_eq_true rfl, Nat.le_of_ble_eq_true rfl⟩) (fun z3 H locs hf hR => ?_)
    exact rg_xiret (pc := 59) hx hb hlocks hr hf hR (by show 0 ≤ 1; decide) (by show 0 ≤ 6; decide) dX7_count_59
  replace hf := it_f hf hw1
  by_cases hw2 : v1 = (2 : Int32)
  · replace hf := it_t hf hw2
    refine lv_tableIn (pc := 1) (off := 59) (tgt := 60) hx hb dX7_count_1 (by rw [hw2]; decide) (by rw [hw2]; decide) (by rw [hw2]; decide) (by decide) ?_
    refine lv_aload_n (pc := 60) hx hb dX7_count_60 rfl (lv_at hl 0 rfl) ?_
    refine rg_getr (pc := 61) (C := RX7) (T := TX7) (N := 11) (κ := 7) hx hb hts hK hR hown in_7 rfl (by decide) 0 (by decide) m_230 rfl dX7_count_61 hf (fun a4 hf => ?_)
    refine rg_getr (pc := 64) (C := RX3) (T := TX3) (N := 7) (κ := 3) hx hb hts hK hR hown in_3 rfl (by decide) 1 (by decide) m_144 rfl dX7_count_64 hf (fun a5 hf => ?_)
    refine rg_get (pc := 67) (C := RX4) (T := TX4) (N := 13) (κ := 4) (v := .int (mm_i M a5 0)) hx hb hts hK hR hown in_4 rfl (by decide) 0 (by decide) m_48 rfl dX7_count_67 hf (fun hf => ?_)
    exact rg_xiret (pc := 70) hx hb hlocks hr hf hR (by show 0 ≤ 1; decide) (by show 0 ≤ 6; decide) dX7_count_70
  replace hf := it_f hf hw2
  by_cases hw3 : v1 = (3 : Int32)
  · replace hf := it_t hf hw3
    refine lv_tableIn (pc := 1) (off := 70) (tgt := 71) hx hb dX7_count_1 (by rw [hw3]; decide) (by rw [hw3]; decide) (by rw [hw3]; decide) (by decide) ?_
    refine lv_aload_n (pc := 71) hx hb dX7_count_71 rfl (lv_at hl 0 rfl) ?_
    refine rg_getr (pc := 72) (C := RX7) (T := TX7) (N := 11) (κ := 7) hx hb hts hK hR hown in_7 rfl (by decide) 0 (by decide) m_230 rfl dX7_count_72 hf (fun a6 hf => ?_)
    refine rg_getr (pc := 75) (C := RX3) (T := TX3) (N := 7) (κ := 3) hx hb hts hK hR hown in_3 rfl (by decide) 1 (by decide) m_144 rfl dX7_count_75 hf (fun a7 hf => ?_)
    refine rg_get (pc := 78) (C := RX4) (T := TX4) (N := 13) (κ := 4) (v := .int (mm_i M a7 1)) hx hb hts hK hR hown in_4 rfl (by decide) 1 (by decide) m_50 rfl dX7_count_78 hf (fun hf => ?_)
    exact rg_xiret (pc := 81) hx hb hlocks hr hf hR (by show 0 ≤ 1; decide) (by show 0 ≤ 6; decide) dX7_count_81
  replace hf := it_f hf hw3
  by_cases hw4 : v1 = (4 : Int32)
  · replace hf := it_t hf hw4
    refine lv_tableIn (pc := 1) (off := 81) (tgt := 82) hx hb dX7_count_1 (by rw [hw4]; decide) (by rw [hw4]; decide) (by rw [hw4]; decide) (by decide) ?_
    refine lv_aload_n (pc := 82) hx hb dX7_count_82 rfl (lv_at hl 0 rfl) ?_
    refine rg_getr (pc := 83) (C := RX7) (T := TX7) (N := 11) (κ := 7) hx hb hts hK hR hown in_7 rfl (by decide) 0 (by decide) m_230 rfl dX7_count_83 hf (fun a8 hf => ?_)
    refine rg_getr (pc := 86) (C := RX3) (T := TX3) (N := 7) (κ := 3) hx hb hts hK hR hown in_3 rfl (by decide) 1 (by decide) m_144 rfl dX7_count_86 hf (fun a9 hf => ?_)
    refine rg_get (pc := 89) (C := RX4) (T := TX4) (N := 13) (κ := 4) (v := .int (mm_i M a9 2)) hx hb hts hK hR hown in_4 rfl (by decide) 2 (by decide) m_52 rfl dX7_count_89 hf (fun hf => ?_)
    exact rg_xiret (pc := 92) hx hb hlocks hr hf hR (by show 0 ≤ 1; decide) (by show 0 ≤ 6; decide) dX7_count_92
  replace hf := it_f hf hw4
  by_cases hw5 : v1 = (5 : Int32)
  · replace hf := it_t hf hw5
    refine lv_tableIn (pc := 1) (off := 92) (tgt := 93) hx hb dX7_count_1 (by rw [hw5]; decide) (by rw [hw5]; decide) (by rw [hw5]; decide) (by decide) ?_
    refine lv_aload_n (pc := 93) hx hb dX7_count_93 rfl (lv_at hl 0 rfl) ?_
    refine rg_getr (pc := 94) (C := RX7) (T := TX7) (N := 11) (κ := 7) hx hb hts hK hR hown in_7 rfl (by decide) 0 (by decide) m_230 rfl dX7_count_94 hf (fun a10 hf => ?_)
    refine rg_getr (pc := 97) (C := RX3) (T := TX3) (N := 7) (κ := 3) hx hb hts hK hR hown in_3 rfl (by decide) 1 (by decide) m_144 rfl dX7_count_97 hf (fun a11 hf => ?_)
    refine rg_get (pc := 100) (C := RX4) (T := TX4) (N := 13) (κ := 4) (v := .int (mm_i M a11 3)) hx hb hts hK hR hown in_4 rfl (by decide) 3 (by decide) m_54 rfl dX7_count_100 hf (fun hf => ?_)
    exact rg_xiret (pc := 103) hx hb hlocks hr hf hR (by show 0 ≤ 1; decide) (by show 0 ≤ 6; decide) dX7_count_103
  replace hf := it_f hf hw5
  by_cases hw6 : v1 = (6 : Int32)
  · replace hf := it_t hf hw6
    refine lv_tableIn (pc := 1) (off := 103) (tgt := 104) hx hb dX7_count_1 (by rw [hw6]; decide) (by rw [hw6]; decide) (by rw [hw6]; decide) (by decide) ?_
    refine lv_aload_n (pc := 104) hx hb dX7_count_104 rfl (lv_at hl 0 rfl) ?_
    refine rg_getr (pc := 105) (C := RX7) (T := TX7) (N := 11) (κ := 7) hx hb hts hK hR hown in_7 rfl (by decide) 0 (by decide) m_230 rfl dX7_count_105 hf (fun a12 hf => ?_)
    refine rg_getr (pc := 108) (C := RX3) (T := TX3) (N := 7) (κ := 3) hx hb hts hK hR hown in_3 rfl (by decide) 1 (by decide) m_144 rfl dX7_count_108 hf (fun a13 hf => ?_)
    refine rg_get (pc := 111) (C := RX4) (T := TX4) (N := 13) (κ := 4) (v := .int (mm_i M a13 4)) hx hb hts hK hR hown in_4 rfl (by decide) 4 (by decide) m_56 rfl dX7_count_111 hf (fun hf => ?_)
    exact rg_xiret (pc := 114) hx hb hlocks hr hf hR (by show 0 ≤ 1; decide) (by show 0 ≤ 6; decide) dX7_count_114
  replace hf := it_f hf hw6
  refine lv_tableOut (pc := 1) (tgt := 115) hx hb dX7_count_1 (by have h0 := sw_ne (0 : Int32) (k := 0) (by decide) hw0; have h1 := sw_ne (1 : Int32) (k := 1) (by decide) hw1; have h2 := sw_ne (2 : Int32) (k := 2) (by decide) hw2; have h3 := sw_ne (3 : Int32) (k := 3) (by decide) hw3; have h4 := sw_ne (4 : Int32) (k := 4) (by decide) hw4; have h5 := sw_ne (5 : Int32) (k := 5) (by decide) hw5; have h6 := sw_ne (6 : Int32) (k := 6) (by decide) hw6; omega) (by decide) ?_
  exact rg_thr (pc := 115) 0 (by decide) hC htab hlt hl.1 rfl m_305 (is := 208) (text := "what is 0 to 6") (by decide +kernel) hf hR dX7_count_115 dX7_count_118 dX7_count_119 dX7_count_121 dX7_count_124 (Nat.le_of_ble_eq_true rfl) (Nat.le_of_ble_eq_true rfl) (Nat.le_of_ble_eq_true rfl) (Nat.le_of_ble_eq_true rfl) (by show 1 ≤ 1; decide) (by show 6 ≤ 6; decide)
-- X7_mass
def f_X7_mass (v0 : Nat) (v1 : Int32) (M : Mem) : Option (Mem × (Int32 ⊕ Nat)) := bx (f_X7_requireLane v1 M) fun M1 _ => gd (M1.1 v0 = 7) <| rd (mm_r M1 v0 0) fun a3 => gd (M1.1 v0 = 7) <| rd (mm_r M1 v0 8) fun a4 => gd (M1.1 a3 = 3) <| bd (f_X3_weighLanes a3 a4 M1) fun z5 => gd (z5.1 v0 = 7) <| rd (mm_r z5 v0 8) fun a6 => gd (z5.1 a6 = 9 ∧ vi_ v1 (mm_N z5 a6)) <| some (z5, .inl (mm_i z5 a6 (v1).toNatClampNeg))
abbrev rm_X7_mass : Room := { frames := 8, cells := 1, slots := 6, locals := 132 }
theorem hd_X7_mass : yX7_mass.cls ≠ "java/lang/invoke/MethodHandle" ∧ yX7_mass.cls ≠ "java/lang/invoke/VarHandle" ∧ (parseMethodDescriptor yX7_mass.desc).map (fun d => d.parameters.length) = some 1 := by decide +kernel
set_option maxHeartbeats 8000000 in
set_option maxRecDepth 100000 in
theorem c_X7_mass {l : Launch} (hlt : l.stackTraces = false) {D : va_G} {ca : Nat → ClassId} {b : Nat} {v0 : Nat} {v1 : Int32} {M : Mem} {r : Mem × (Int32 ⊕ Nat)} (hf : f_X7_mass v0 v1 M = some r) : CxI l yX7_mass cX7_mass 2 (some .int) rm_X7_mass D ca b [.ref v0, .int v1] M r 1 6 := by
  intro sz
  refine bodyx_start (nx := false) (Qc := fun A => cxI D ca A r) (XC := fun A => cxX D ca A r) (by decide +kernel) (Nat.le_of_ble_eq_true rfl) ?_
  intro p e s m args below meth c A hC htab hr hR ls hl
  obtain ⟨hx, hb, hml, hts, hown, hlocks, hXe, hA, hAb, hnm⟩ := id hC
  have hK := hXe.1
  have hl : lv_has ls 2 [(0, .ref v0), (1, .int v1)] := hl
  unfold f_X7_mass at hf
  refine lv_iload_n (pc := 0) hx hb dX7_mass_0 rfl (lv_at hl 1 rfl) ?_
  refine rg_xV (pc := 1) hf hR hA htab hlocks (by show 1 ≤ 1; decide) (by show 6 ≤ 6; decide) (fun z hz => xn_S (As := [.int v1]) (rest := []) hC hR (c_X7_requireLane hlt hz _) m_299 m_300 m_1 m_301 hd_X7_requireLane ⟨rfl, rfl, Nat.le_of_ble_eq_true rfl, Nat.le_of_ble_eq_true rfl⟩ rfl hl.1 rfl (Nat.le_of_ble_eq_true rfl) dX7_mass_1 ⟨Nat.le_of_ble_eq_true rfl, Nat.le_of_ble_eq_true rfl⟩) (fun M1 H locs hf hR => ?_)
  refine lv_aload_n (pc := 4) hx hb dX7_mass_4 rfl (lv_at hl 0 rfl) ?_
  refine rg_getr (pc := 5) (C := RX7) (T := TX7) (N := 11) (κ := 7) hx hb hts hK hR hown in_7 rfl (by decide) 0 (by decide) m_230 rfl dX7_mass_5 hf (fun a3 hf => ?_)
  refine lv_aload_n (pc := 8) hx hb dX7_mass_8 rfl (lv_at hl 0 rfl) ?_
  refine rg_getr (pc := 9) (C := RX7) (T := TX7) (N := 11) (κ := 7) hx hb hts hK hR hown in_7 rfl (by decide) 8 (by decide) m_238 rfl dX7_mass_9 hf (fun a4 hf => ?_)
  obtain ⟨hq, hf⟩ := gd_e hf
  refine rg_V (pc := 12) hf hR hA (fun z hz => rn_V (κ := 3) (As := [.ref a4]) (rest := []) hC hR rfl (by decide) hq (c_X3_weighLanes  hz _) m_272 m_273 m_274 m_2 m_275 hd_X3_weighLanes ⟨rfl, rfl, Nat.le_of_ble_eq_true rfl, Nat.le_of_ble_eq_true rfl⟩ rfl hl.1 rfl (Nat.le_of_ble_eq_true rfl) dX7_mass_12 ⟨Nat.le_of_ble_eq_true rfl, Nat.le_of_ble_eq_true rfl⟩) (fun z5 H locs hf hR => ?_)
  refine lv_aload_n (pc := 15) hx hb dX7_mass_15 rfl (lv_at hl 0 rfl) ?_
  refine rg_getr (pc := 16) (C := RX7) (T := TX7) (N := 11) (κ := 7) hx hb hts hK hR hown in_7 rfl (by decide) 8 (by decide) m_238 rfl dX7_mass_16 hf (fun a6 hf => ?_)
  refine lv_iload_n (pc := 19) hx hb dX7_mass_19 rfl (lv_at hl 1 rfl) ?_
  refine rg_iald (pc := 20) hx hb hK hR dX7_mass_20 hf (fun hf => ?_)
  exact rg_xiret (pc := 21) hx hb hlocks hr hf hR (by show 1 ≤ 1; decide) (by show 6 ≤ 6; decide) dX7_mass_21
-- X7_sum
def f_X7_sum (v0 : Nat) (v1 : Int32) (M : Mem) : Option (Mem × (Int32 ⊕ Nat)) := if v1 = (0 : Int32) then (gd (M.1 v0 = 7) <| rd (mm_r M v0 0) fun a1 => gd (M.1 a1 = 3) <| bd (f_X3_massThere a1 M) fun z2 => some (z2.1, .inl z2.2)) else if v1 = (1 : Int32) then (gd (M.1 v0 = 7) <| rd (mm_r M v0 0) fun a3 => gd (M.1 a3 = 3) <| rd (mm_r M a3 1) fun a4 => gd (M.1 a4 = 4) <| some (M, .inl (mm_i M a4 6))) else if v1 = (2 : Int32) then (gd (M.1 v0 = 7) <| rd (mm_r M v0 0) fun a5 => gd (M.1 a5 = 3) <| rd (mm_r M a5 1) fun a6 => gd (M.1 a6 = 4) <| some (M, .inl (mm_i M a6 7))) else if v1 = (3 : Int32) then (gd (M.1 v0 = 7) <| rd (mm_r M v0 0) fun a7 => gd (M.1 a7 = 3) <| rd (mm_r M a7 1) fun a8 => gd (M.1 a8 = 4) <| some (M, .inl (mm_i M a8 5))) else (some (M, .inr 0))
abbrev rm_X7_sum : Room := { frames := 6, cells := 1, slots := 6, locals := 90 }
theorem hd_X7_sum : yX7_sum.cls ≠ "java/lang/invoke/MethodHandle" ∧ yX7_sum.cls ≠ "java/lang/invoke/VarHandle" ∧ (parseMethodDescriptor yX7_sum.desc).map (fun d => d.parameters.length) = some 1 := by decide +kernel
set_option maxHeartbeats 8000000 in
set_option maxRecDepth 100000 in
theorem c_X7_sum {l : Launch} (hlt : l.stackTraces = false) {D : va_G} {ca : Nat → ClassId} {b : Nat} {v0 : Nat} {v1 : Int32} {M : Mem} {r : Mem × (Int32 ⊕ Nat)} (hf : f_X7_sum v0 v1 M = some r) : CxI l yX7_sum cX7_sum 2 (some .int) rm_X7_sum D ca b [.ref v0, .int v1] M r 1 6 := by
  intro sz
  refine bodyx_start (nx := false) (Qc := fun A => cxI D ca A r) (XC := fun A => cxX D ca A r) (by decide +kernel) (Nat.le_of_ble_eq_true rfl) ?_
  intro p e s m args below meth c A hC htab hr hR ls hl
  obtain ⟨hx, hb, hml, hts, hown, hlocks, hXe, hA, hAb, hnm⟩ := id hC
  have hK := hXe.1
  have hl : lv_has ls 2 [(0, .ref v0), (1, .int v1)] := hl
  unfold f_X7_sum at hf
  refine lv_iload_n (pc := 0) hx hb dX7_sum_0 rfl (lv_at hl 1 rfl) ?_
  by_cases hw0 : v1 = (0 : Int32)
  · replace hf := it_t hf hw0
    refine lv_tableIn (pc := 1) (off := 31) (tgt := 32) hx hb dX7_sum_1 (by rw [hw0]; decide) (by rw [hw0]; decide) (by rw [hw0]; decide) (by decide) ?_
    refine lv_aload_n (pc := 32) hx hb dX7_sum_32 rfl (lv_at hl 0 rfl) ?_
    refine rg_getr (pc := 33) (C := RX7) (T := TX7) (N := 11) (κ := 7) hx hb hts hK hR hown in_7 rfl (by decide) 0 (by decide) m_230 rfl dX7_sum_33 hf (fun a1 hf => ?_)
    obtain ⟨hq, hf⟩ := gd_e hf
    refine rg_I (pc := 36) hf hR hA (fun z hz => rn_V (κ := 3) (As := []) (rest := []) hC hR rfl (by decide) hq (c_X3_massThere  hz _) m_595 m_596 m_597 m_2 m_598 hd_X3_massThere ⟨rfl, rfl, Nat.le_of_ble_eq_true rfl, Nat.le_of_ble_eq_true rfl⟩ rfl hl.1 rfl (Nat.le_of_ble_eq_true rfl) dX7_sum_36 ⟨Nat.le_of_ble_eq_true rfl, Nat.le_of_ble_eq_true rfl⟩) (fun z2 H locs hf hR => ?_)
    exact rg_xiret (pc := 39) hx hb hlocks hr hf hR (by show 0 ≤ 1; decide) (by show 0 ≤ 6; decide) dX7_sum_39
  replace hf := it_f hf hw0
  by_cases hw1 : v1 = (1 : Int32)
  · replace hf := it_t hf hw1
    refine lv_tableIn (pc := 1) (off := 39) (tgt := 40) hx hb dX7_sum_1 (by rw [hw1]; decide) (by rw [hw1]; decide) (by rw [hw1]; decide) (by decide) ?_
    refine lv_aload_n (pc := 40) hx hb dX7_sum_40 rfl (lv_at hl 0 rfl) ?_
    refine rg_getr (pc := 41) (C := RX7) (T := TX7) (N := 11) (κ := 7) hx hb hts hK hR hown in_7 rfl (by decide) 0 (by decide) m_230 rfl dX7_sum_41 hf (fun a3 hf => ?_)
    refine rg_getr (pc := 44) (C := RX3) (T := TX3) (N := 7) (κ := 3) hx hb hts hK hR hown in_3 rfl (by decide) 1 (by decide) m_144 rfl dX7_sum_44 hf (fun a4 hf => ?_)
    refine rg_get (pc := 47) (C := RX4) (T := TX4) (N := 13) (κ := 4) (v := .int (mm_i M a4 6)) hx hb hts hK hR hown in_4 rfl (by decide) 6 (by decide) m_60 rfl dX7_sum_47 hf (fun hf => ?_)
    exact rg_xiret (pc := 50) hx hb hlocks hr hf hR (by show 0 ≤ 1; decide) (by show 0 ≤ 6; decide) dX7_sum_50
  replace hf := it_f hf hw1
  by_cases hw2 : v1 = (2 : Int32)
  · replace hf := it_t hf hw2
    refine lv_tableIn (pc := 1) (off := 50) (tgt := 51) hx hb dX7_sum_1 (by rw [hw2]; decide) (by rw [hw2]; decide) (by rw [hw2]; decide) (by decide) ?_
    refine lv_aload_n (pc := 51) hx hb dX7_sum_51 rfl (lv_at hl 0 rfl) ?_
    refine rg_getr (pc := 52) (C := RX7) (T := TX7) (N := 11) (κ := 7) hx hb hts hK hR hown in_7 rfl (by decide) 0 (by decide) m_230 rfl dX7_sum_52 hf (fun a5 hf => ?_)
    refine rg_getr (pc := 55) (C := RX3) (T := TX3) (N := 7) (κ := 3) hx hb hts hK hR hown in_3 rfl (by decide) 1 (by decide) m_144 rfl dX7_sum_55 hf (fun a6 hf => ?_)
    refine rg_get (pc := 58) (C := RX4) (T := TX4) (N := 13) (κ := 4) (v := .int (mm_i M a6 7)) hx hb hts hK hR hown in_4 rfl (by decide) 7 (by decide) m_62 rfl dX7_sum_58 hf (fun hf => ?_)
    exact rg_xiret (pc := 61) hx hb hlocks hr hf hR (by show 0 ≤ 1; decide) (by show 0 ≤ 6; decide) dX7_sum_61
  replace hf := it_f hf hw2
  by_cases hw3 : v1 = (3 : Int32)
  · replace hf := it_t hf hw3
    refine lv_tableIn (pc := 1) (off := 61) (tgt := 62) hx hb dX7_sum_1 (by rw [hw3]; decide) (by rw [hw3]; decide) (by rw [hw3]; decide) (by decide) ?_
    refine lv_aload_n (pc := 62) hx hb dX7_sum_62 rfl (lv_at hl 0 rfl) ?_
    refine rg_getr (pc := 63) (C := RX7) (T := TX7) (N := 11) (κ := 7) hx hb hts hK hR hown in_7 rfl (by decide) 0 (by decide) m_230 rfl dX7_sum_63 hf (fun a7 hf => ?_)
    refine rg_getr (pc := 66) (C := RX3) (T := TX3) (N := 7) (κ := 3) hx hb hts hK hR hown in_3 rfl (by decide) 1 (by decide) m_144 rfl dX7_sum_66 hf (fun a8 hf => ?_)
    refine rg_get (pc := 69) (C := RX4) (T := TX4) (N := 13) (κ := 4) (v := .int (mm_i M a8 5)) hx hb hts hK hR hown in_4 rfl (by decide) 5 (by decide) m_59 rfl dX7_sum_69 hf (fun hf => ?_)
    exact rg_xiret (pc := 72) hx hb hlocks hr hf hR (by show 0 ≤ 1; decide) (by show 0 ≤ 6; decide) dX7_sum_72
  replace hf := it_f hf hw3
  refine lv_tableOut (pc := 1) (tgt := 73) hx hb dX7_sum_1 (by have h0 := sw_ne (0 : Int32) (k := 0) (by decide) hw0; have h1 := sw_ne (1 : Int32) (k := 1) (by decide) hw1; have h2 := sw_ne (2 : Int32) (k := 2) (by decide) hw2; have h3 := sw_ne (3 : Int32) (k := 3) (by decide) hw3; omega) (by decide) ?_
  exact rg_thr (pc := 73) 0 (by decide) hC htab hlt hl.1 rfl m_305 (is := 222) (text := "what is 0 to 3") (by decide +kernel) hf hR dX7_sum_73 dX7_sum_76 dX7_sum_77 dX7_sum_79 dX7_sum_82 (Nat.le_of_ble_eq_true rfl) (Nat.le_of_ble_eq_true rfl) (Nat.le_of_ble_eq_true rfl) (Nat.le_of_ble_eq_true rfl) (by show 1 ≤ 1; decide) (by show 6 ≤ 6; decide)
-- X7_momentum
def f_X7_momentum (v0 : Nat) (v1 : Int32) (M : Mem) : Option (Mem × (Int64 ⊕ Nat)) := if v1 = (0 : Int32) then (gd (M.1 v0 = 7) <| rd (mm_r M v0 0) fun a1 => gd (M.1 a1 = 3) <| bd (f_X3_momentumThere a1 M) fun z2 => some (z2.1, .inl z2.2)) else if v1 = (1 : Int32) then (gd (M.1 v0 = 7) <| rd (mm_r M v0 0) fun a3 => gd (M.1 a3 = 3) <| rd (mm_r M a3 1) fun a4 => gd (M.1 a4 = 4) <| some (M, .inl (mm_l M a4 9))) else if v1 = (2 : Int32) then (gd (M.1 v0 = 7) <| rd (mm_r M v0 0) fun a5 => gd (M.1 a5 = 3) <| rd (mm_r M a5 1) fun a6 => gd (M.1 a6 = 4) <| some (M, .inl (mm_l M a6 10))) else if v1 = (3 : Int32) then (gd (M.1 v0 = 7) <| rd (mm_r M v0 0) fun a7 => gd (M.1 a7 = 3) <| rd (mm_r M a7 1) fun a8 => gd (M.1 a8 = 4) <| some (M, .inl (mm_l M a8 8))) else if v1 = (4 : Int32) then (gd (M.1 v0 = 7) <| rd (mm_r M v0 0) fun a9 => gd (M.1 a9 = 3) <| rd (mm_r M a9 1) fun a10 => gd (M.1 a10 = 4) <| some (M, .inl (mm_l M a10 11))) else if v1 = (5 : Int32) then (gd (M.1 v0 = 7) <| rd (mm_r M v0 0) fun a11 => gd (M.1 a11 = 3) <| rd (mm_r M a11 1) fun a12 => gd (M.1 a12 = 4) <| some (M, .inl (mm_l M a12 12))) else (some (M, .inr 0))
abbrev rm_X7_momentum : Room := { frames := 6, cells := 1, slots := 6, locals := 90 }
theorem hd_X7_momentum : yX7_momentum.cls ≠ "java/lang/invoke/MethodHandle" ∧ yX7_momentum.cls ≠ "java/lang/invoke/VarHandle" ∧ (parseMethodDescriptor yX7_momentum.desc).map (fun d => d.parameters.length) = some 1 := by decide +kernel
set_option maxHeartbeats 8000000 in
set_option maxRecDepth 100000 in
theorem c_X7_momentum {l : Launch} (hlt : l.stackTraces = false) {D : va_G} {ca : Nat → ClassId} {b : Nat} {v0 : Nat} {v1 : Int32} {M : Mem} {r : Mem × (Int64 ⊕ Nat)} (hf : f_X7_momentum v0 v1 M = some r) : CxL l yX7_momentum cX7_momentum 2 (some .long) rm_X7_momentum D ca b [.ref v0, .int v1] M r 1 6 := by
  intro sz
  refine bodyx_start (nx := false) (Qc := fun A => cxL D ca A r) (XC := fun A => cxX D ca A r) (by decide +kernel) (Nat.le_of_ble_eq_true rfl) ?_
  intro p e s m args below meth c A hC htab hr hR ls hl
  obtain ⟨hx, hb, hml, hts, hown, hlocks, hXe, hA, hAb, hnm⟩ := id hC
  have hK := hXe.1
  have hl : lv_has ls 2 [(0, .ref v0), (1, .int v1)] := hl
  unfold f_X7_momentum at hf
  refine lv_iload_n (pc := 0) hx hb dX7_momentum_0 rfl (lv_at hl 1 rfl) ?_
  by_cases hw0 : v1 = (0 : Int32)
  · replace hf := it_t hf hw0
    refine lv_tableIn (pc := 1) (off := 39) (tgt := 40) hx hb dX7_momentum_1 (by rw [hw0]; decide) (by rw [hw0]; decide) (by rw [hw0]; decide) (by decide) ?_
    refine lv_aload_n (pc := 40) hx hb dX7_momentum_40 rfl (lv_at hl 0 rfl) ?_
    refine rg_getr (pc := 41) (C := RX7) (T := TX7) (N := 11) (κ := 7) hx hb hts hK hR hown in_7 rfl (by decide) 0 (by decide) m_230 rfl dX7_momentum_41 hf (fun a1 hf => ?_)
    obtain ⟨hq, hf⟩ := gd_e hf
    refine rg_L (pc := 44) hf hR hA (fun z hz => rn_V (κ := 3) (As := []) (rest := []) hC hR rfl (by decide) hq (c_X3_momentumThere  hz _) m_607 m_608 m_609 m_2 m_610 hd_X3_momentumThere ⟨rfl, rfl, Nat.le_of_ble_eq_true rfl, Nat.le_of_ble_eq_true rfl⟩ rfl hl.1 rfl (Nat.le_of_ble_eq_true rfl) dX7_momentum_44 ⟨Nat.le_of_ble_eq_true rfl, Nat.le_of_ble_eq_true rfl⟩) (fun z2 H locs hf hR => ?_)
    exact rg_xlret (pc := 47) hx hb hlocks hr hf hR (by show 0 ≤ 1; decide) (by show 0 ≤ 6; decide) dX7_momentum_47
  replace hf := it_f hf hw0
  by_cases hw1 : v1 = (1 : Int32)
  · replace hf := it_t hf hw1
    refine lv_tableIn (pc := 1) (off := 47) (tgt := 48) hx hb dX7_momentum_1 (by rw [hw1]; decide) (by rw [hw1]; decide) (by rw [hw1]; decide) (by decide) ?_
    refine lv_aload_n (pc := 48) hx hb dX7_momentum_48 rfl (lv_at hl 0 rfl) ?_
    refine rg_getr (pc := 49) (C := RX7) (T := TX7) (N := 11) (κ := 7) hx hb hts hK hR hown in_7 rfl (by decide) 0 (by decide) m_230 rfl dX7_momentum_49 hf (fun a3 hf => ?_)
    refine rg_getr (pc := 52) (C := RX3) (T := TX3) (N := 7) (κ := 3) hx hb hts hK hR hown in_3 rfl (by decide) 1 (by decide) m_144 rfl dX7_momentum_52 hf (fun a4 hf => ?_)
    refine rg_get (pc := 55) (C := RX4) (T := TX4) (N := 13) (κ := 4) (v := .long (mm_l M a4 9)) hx hb hts hK hR hown in_4 rfl (by decide) 9 (by decide) m_66 rfl dX7_momentum_55 hf (fun hf => ?_)
    exact rg_xlret (pc := 58) hx hb hlocks hr hf hR (by show 0 ≤ 1; decide) (by show 0 ≤ 6; decide) dX7_momentum_58
  replace hf := it_f hf hw1
  by_cases hw2 : v1 = (2 : Int32)
  · replace hf := it_t hf hw2
    refine lv_tableIn (pc := 1) (off := 58) (tgt := 59) hx hb dX7_momentum_1 (by rw [hw2]; decide) (by rw [hw2]; decide) (by rw [hw2]; decide) (by decide) ?_
    refine lv_aload_n (pc := 59) hx hb dX7_momentum_59 rfl (lv_at hl 0 rfl) ?_
    refine rg_getr (pc := 60) (C := RX7) (T := TX7) (N := 11) (κ := 7) hx hb hts hK hR hown in_7 rfl (by decide) 0 (by decide) m_230 rfl dX7_momentum_60 hf (fun a5 hf => ?_)
    refine rg_getr (pc := 63) (C := RX3) (T := TX3) (N := 7) (κ := 3) hx hb hts hK hR hown in_3 rfl (by decide) 1 (by decide) m_144 rfl dX7_momentum_63 hf (fun a6 hf => ?_)
    refine rg_get (pc := 66) (C := RX4) (T := TX4) (N := 13) (κ := 4) (v := .long (mm_l M a6 10)) hx hb hts hK hR hown in_4 rfl (by decide) 10 (by decide) m_68 rfl dX7_momentum_66 hf (fun hf => ?_)
    exact rg_xlret (pc := 69) hx hb hlocks hr hf hR (by show 0 ≤ 1; decide) (by show 0 ≤ 6; decide) dX7_momentum_69
  replace hf := it_f hf hw2
  by_cases hw3 : v1 = (3 : Int32)
  · replace hf := it_t hf hw3
    refine lv_tableIn (pc := 1) (off := 69) (tgt := 70) hx hb dX7_momentum_1 (by rw [hw3]; decide) (by rw [hw3]; decide) (by rw [hw3]; decide) (by decide) ?_
    refine lv_aload_n (pc := 70) hx hb dX7_momentum_70 rfl (lv_at hl 0 rfl) ?_
    refine rg_getr (pc := 71) (C := RX7) (T := TX7) (N := 11) (κ := 7) hx hb hts hK hR hown in_7 rfl (by decide) 0 (by decide) m_230 rfl dX7_momentum_71 hf (fun a7 hf => ?_)
    refine rg_getr (pc := 74) (C := RX3) (T := TX3) (N := 7) (κ := 3) hx hb hts hK hR hown in_3 rfl (by decide) 1 (by decide) m_144 rfl dX7_momentum_74 hf (fun a8 hf => ?_)
    refine rg_get (pc := 77) (C := RX4) (T := TX4) (N := 13) (κ := 4) (v := .long (mm_l M a8 8)) hx hb hts hK hR hown in_4 rfl (by decide) 8 (by decide) m_65 rfl dX7_momentum_77 hf (fun hf => ?_)
    exact rg_xlret (pc := 80) hx hb hlocks hr hf hR (by show 0 ≤ 1; decide) (by show 0 ≤ 6; decide) dX7_momentum_80
  replace hf := it_f hf hw3
  by_cases hw4 : v1 = (4 : Int32)
  · replace hf := it_t hf hw4
    refine lv_tableIn (pc := 1) (off := 80) (tgt := 81) hx hb dX7_momentum_1 (by rw [hw4]; decide) (by rw [hw4]; decide) (by rw [hw4]; decide) (by decide) ?_
    refine lv_aload_n (pc := 81) hx hb dX7_momentum_81 rfl (lv_at hl 0 rfl) ?_
    refine rg_getr (pc := 82) (C := RX7) (T := TX7) (N := 11) (κ := 7) hx hb hts hK hR hown in_7 rfl (by decide) 0 (by decide) m_230 rfl dX7_momentum_82 hf (fun a9 hf => ?_)
    refine rg_getr (pc := 85) (C := RX3) (T := TX3) (N := 7) (κ := 3) hx hb hts hK hR hown in_3 rfl (by decide) 1 (by decide) m_144 rfl dX7_momentum_85 hf (fun a10 hf => ?_)
    refine rg_get (pc := 88) (C := RX4) (T := TX4) (N := 13) (κ := 4) (v := .long (mm_l M a10 11)) hx hb hts hK hR hown in_4 rfl (by decide) 11 (by decide) m_71 rfl dX7_momentum_88 hf (fun hf => ?_)
    exact rg_xlret (pc := 91) hx hb hlocks hr hf hR (by show 0 ≤ 1; decide) (by show 0 ≤ 6; decide) dX7_momentum_91
  replace hf := it_f hf hw4
  by_cases hw5 : v1 = (5 : Int32)
  · replace hf := it_t hf hw5
    refine lv_tableIn (pc := 1) (off := 91) (tgt := 92) hx hb dX7_momentum_1 (by rw [hw5]; decide) (by rw [hw5]; decide) (by rw [hw5]; decide) (by decide) ?_
    refine lv_aload_n (pc := 92) hx hb dX7_momentum_92 rfl (lv_at hl 0 rfl) ?_
    refine rg_getr (pc := 93) (C := RX7) (T := TX7) (N := 11) (κ := 7) hx hb hts hK hR hown in_7 rfl (by decide) 0 (by decide) m_230 rfl dX7_momentum_93 hf (fun a11 hf => ?_)
    refine rg_getr (pc := 96) (C := RX3) (T := TX3) (N := 7) (κ := 3) hx hb hts hK hR hown in_3 rfl (by decide) 1 (by decide) m_144 rfl dX7_momentum_96 hf (fun a12 hf => ?_)
    refine rg_get (pc := 99) (C := RX4) (T := TX4) (N := 13) (κ := 4) (v := .long (mm_l M a12 12)) hx hb hts hK hR hown in_4 rfl (by decide) 12 (by decide) m_73 rfl dX7_momentum_99 hf (fun hf => ?_)
    exact rg_xlret (pc := 102) hx hb hlocks hr hf hR (by show 0 ≤ 1; decide) (by show 0 ≤ 6; decide) dX7_momentum_102
  replace hf := it_f hf hw5
  refine lv_tableOut (pc := 1) (tgt := 103) hx hb dX7_momentum_1 (by have h0 := sw_ne (0 : Int32) (k := 0) (by decide) hw0; have h1 := sw_ne (1 : Int32) (k := 1) (by decide) hw1; have h2 := sw_ne (2 : Int32) (k := 2) (by decide) hw2; have h3 := sw_ne (3 : Int32) (k := 3) (by decide) hw3; have h4 := sw_ne (4 : Int32) (k := 4) (by decide) hw4; have h5 := sw_ne (5 : Int32) (k := 5) (by decide) hw5; omega) (by decide) ?_
  exact rg_thr (pc := 103) 0 (by decide) hC htab hlt hl.1 rfl m_305 (is := 177) (text := "what is 0 to 5") (by decide +kernel) hf hR dX7_momentum_103 dX7_momentum_106 dX7_momentum_107 dX7_momentum_109 dX7_momentum_112 (Nat.le_of_ble_eq_true rfl) (Nat.le_of_ble_eq_true rfl) (Nat.le_of_ble_eq_true rfl) (Nat.le_of_ble_eq_true rfl) (by show 1 ≤ 1; decide) (by show 6 ≤ 6; decide)
-- X7_momentumByLanes
def f_X7_momentumByLanes_b15 (k15 : Nat → Int64 → Int32 → Mem → Option (Mem × Int64)) (v0 : Nat) (v1 : Int64) (v3 : Int32) (M : Mem) : Option (Mem × Int64) := if (64 : Int32) ≤ v3 then (some (M, v1)) else (gd (M.1 v0 = 7) <| rd (mm_r M v0 8) fun a1 => gd (M.1 a1 = 9 ∧ vi_ v3 (mm_N M a1)) <| bd (f_X7_radiusOf v3 M) fun z2 => lt_ ((v1 + (((mm_i M a1 (v3).toNatClampNeg)).toInt64 * (z2.2).toInt64))) fun x3 => lt_ (v3 + (1 : Int32)) fun x4 => k15 v0 x3 x4 z2.1)
def f_X7_momentumByLanes_L15  : Nat → Nat → Int64 → Int32 → Mem → Option (Mem × Int64)
  | 0 => fun _ _ _ _ => none
  | n + 1 => f_X7_momentumByLanes_b15  (f_X7_momentumByLanes_L15  n)
def f_X7_momentumByLanes (v0 : Nat) (M : Mem) : Option (Mem × Int64) := gd (M.1 v0 = 7) <| rd (mm_r M v0 0) fun a5 => gd (M.1 v0 = 7) <| rd (mm_r M v0 8) fun a6 => gd (M.1 a5 = 3) <| bd (f_X3_weighLanes a5 a6 M) fun z7 => f_X7_momentumByLanes_L15 200 v0 (0 : Int64) (0 : Int32) z7
abbrev rm_X7_momentumByLanes : Room := { frames := 1, cells := 0, slots := 0, locals := 25 }
theorem hd_X7_momentumByLanes : yX7_momentumByLanes.cls ≠ "java/lang/invoke/MethodHandle" ∧ yX7_momentumByLanes.cls ≠ "java/lang/invoke/VarHandle" ∧ (parseMethodDescriptor yX7_momentumByLanes.desc).map (fun d => d.parameters.length) = some 0 := by decide +kernel
set_option maxHeartbeats 8000000 in
set_option maxRecDepth 100000 in
theorem c_X7_momentumByLanes {l : Launch} {D : va_G} {ca : Nat → ClassId} {b : Nat} {nx : Bool} {v0 : Nat} {M : Mem} {r : Mem × Int64} (hf : f_X7_momentumByLanes v0 M = some r) : CtL l yX7_momentumByLanes cX7_momentumByLanes 4 (some .long) rm_X7_momentumByLanes D ca b nx [.ref v0] M r := by
  intro sz
  refine body_start (Qc := fun A => cvL D ca nx A r) (by decide +kernel) (Nat.le_of_ble_eq_true rfl) ?_
  intro p e s m args below meth c A hC hr hR ls hl
  obtain ⟨hx, hb, hml, hts, hown, hlocks, hXe, hA, hAb, hnm⟩ := id hC
  have hK := hXe.1
  have hl : lv_has ls 4 [(0, .ref v0)] := hl
  have hB15 : ∀ (k15 : Nat → Int64 → Int32 → Mem → Option (Mem × Int64)) (hk15 : ∀ (v0 : Nat) (v1 : Int64) (v3 : Int32) (M : Mem) (H : Heap) (locs : List Loc) (ls : Array Slot), k15 v0 v1 v3 M = some r → Hp D ca nx A s M H locs → lv_has ls 4 [(0, .ref v0), (1, .long v1), (3, .int v3)] → W p l e rm_X7_momentumByLanes s m args below meth c H locs 0 0 (MQ below (cvL D ca nx A r) args s 0 0 A) (F0 m 15 ls [])) (v0 : Nat) (v1 : Int64) (v3 : Int32) (M : Mem) (H : Heap) (locs : List Loc) (ls : Array Slot), f_X7_momentumByLanes_b15 k15 v0 v1 v3 M = some r → Hp D ca nx A s M H locs → lv_has ls 4 [(0, .ref v0), (1, .long v1), (3, .int v3)] → W p l e rm_X7_momentumByLanes s m args below meth c H locs 0 0 (MQ below (cvL D ca nx A r) args s 0 0 A) (F0 m 15 ls []) := by
    intro k15 hk15 v0 v1 v3 M H locs ls hf hR hl
    unfold f_X7_momentumByLanes_b15 at hf
    refine lv_iload_n (pc := 15) hx hb dX7_momentumByLanes_15 rfl (lv_at hl 2 rfl) ?_
    refine lv_bipush (pc := 16) (v := (64 : Int32)) hx hb dX7_momentumByLanes_16 (by decide) ?_
    refine lv_icmp_ge (pc := 18) (tgt := 43) hx hb dX7_momentumByLanes_18 (by decide) (fun hc => ?_) (fun hc => ?_)
    · replace hf := it_t hf hc
      refine lv_lload_n (pc := 43) hx hb dX7_momentumByLanes_43 rfl (lv_at hl 1 rfl) ?_
      exact rg_lret (pc := 44) hx hb hlocks hr hf hR dX7_momentumByLanes_44
    · replace hf := it_f hf hc
      refine lv_lload_n (pc := 21) hx hb dX7_momentumByLanes_21 rfl (lv_at hl 1 rfl) ?_
      refine lv_aload_n (pc := 22) hx hb dX7_momentumByLanes_22 rfl (lv_at hl 0 rfl) ?_
      refine rg_getr (pc := 23) (C := RX7) (T := TX7) (N := 11) (κ := 7) hx hb hts hK hR hown in_7 rfl (by decide) 8 (by decide) m_238 rfl dX7_momentumByLanes_23 hf (fun a1 hf => ?_)
      refine lv_iload_n (pc := 26) hx hb dX7_momentumByLanes_26 rfl (lv_at hl 2 rfl) ?_
      refine rg_iald (pc := 27) hx hb hK hR dX7_momentumByLanes_27 hf (fun hf => ?_)
      refine lv_i2l (pc := 28) hx hb dX7_momentumByLanes_28 rfl ?_
      refine lv_iload_n (pc := 29) hx hb dX7_momentumByLanes_29 rfl (lv_at hl 2 rfl) ?_
      refine rg_I (pc := 30) hf hR hA (fun z hz => rn_S (As := [.int v3]) (rest := [.long ((mm_i M a1 (v3).toNatClampNeg)).toInt64, .long v1]) hC hR (c_X7_radiusOf  hz _) m_276 m_277 m_1 m_278 hd_X7_radiusOf ⟨rfl, rfl, Nat.le_of_ble_eq_true rfl, Nat.le_of_ble_eq_true rfl⟩ rfl hl.1 rfl (Nat.le_of_ble_eq_true rfl) dX7_momentumByLanes_30 ⟨Nat.le_of_ble_eq_true rfl, Nat.le_of_ble_eq_true rfl⟩) (fun z2 H locs hf hR => ?_)
      refine lv_i2l (pc := 33) hx hb dX7_momentumByLanes_33 rfl ?_
      refine lv_lmul (pc := 34) hx hb dX7_momentumByLanes_34 ?_
      refine lv_ladd (pc := 35) hx hb dX7_momentumByLanes_35 ?_
      refine nm_l hf (fun x3 hf => ?_)
      refine lv_lstore_n (pc := 36) (lv' := [(1, .long x3), (0, .ref v0), (3, .int v3)]) hx hb dX7_momentumByLanes_36 rfl hl (by decide) rfl (fun ls hl => ?_)
      refine rg_iinc (pc := 37) hx hb dX7_momentumByLanes_37 hl (k := 2) rfl rfl (by decide) hf (fun x4 ls hf hl => ?_)
      have hl : lv_has ls 4 [(3, .int x4), (1, .long x3), (0, .ref v0)] := hl
      refine lv_goto (pc := 40) (tgt := 15) hx hb dX7_momentumByLanes_40 (by decide) ?_
      exact hk15 v0 x3 x4 z2.1 _ _ _ hf hR (lv_sub hl [2, 1, 0] rfl)
  have hL15 : ∀  (n : Nat) (v0 : Nat) (v1 : Int64) (v3 : Int32) (M : Mem) (H : Heap) (locs : List Loc) (ls : Array Slot), f_X7_momentumByLanes_L15  n v0 v1 v3 M = some r → Hp D ca nx A s M H locs → lv_has ls 4 [(0, .ref v0), (1, .long v1), (3, .int v3)] → W p l e rm_X7_momentumByLanes s m args below meth c H locs 0 0 (MQ below (cvL D ca nx A r) args s 0 0 A) (F0 m 15 ls []) := by
    intro  n
    induction n with
    | zero => intro v0 v1 v3 M H locs ls hf; exact nomatch (show (none : Option (Mem × Int64)) = some r from hf)
    | succ n ih => intro v0 v1 v3 M H locs ls hf hR hl; exact hB15  (f_X7_momentumByLanes_L15  n) ih v0 v1 v3 M H locs ls hf hR hl
  unfold f_X7_momentumByLanes at hf
  refine lv_aload_n (pc := 0) hx hb dX7_momentumByLanes_0 rfl (lv_at hl 0 rfl) ?_
  refine rg_getr (pc := 1) (C := RX7) (T := TX7) (N := 11) (κ := 7) hx hb hts hK hR hown in_7 rfl (by decide) 0 (by decide) m_230 rfl dX7_momentumByLanes_1 hf (fun a5 hf => ?_)
  refine lv_aload_n (pc := 4) hx hb dX7_momentumByLanes_4 rfl (lv_at hl 0 rfl) ?_
  refine rg_getr (pc := 5) (C := RX7) (T := TX7) (N := 11) (κ := 7) hx hb hts hK hR hown in_7 rfl (by decide) 8 (by decide) m_238 rfl dX7_momentumByLanes_5 hf (fun a6 hf => ?_)
  obtain ⟨hq, hf⟩ := gd_e hf
  refine rg_V (pc := 8) hf hR hA (fun z hz => rn_V (κ := 3) (As := [.ref a6]) (rest := []) hC hR rfl (by decide) hq (c_X3_weighLanes  hz _) m_272 m_273 m_274 m_2 m_275 hd_X3_weighLanes ⟨rfl, rfl, Nat.le_of_ble_eq_true rfl, Nat.le_of_ble_eq_true rfl⟩ rfl hl.1 rfl (Nat.le_of_ble_eq_true rfl) dX7_momentumByLanes_8 ⟨Nat.le_of_ble_eq_true rfl, Nat.le_of_ble_eq_true rfl⟩) (fun z7 H locs hf hR => ?_)
  refine lv_lconst (pc := 11) (v := (0 : Int64)) hx hb dX7_momentumByLanes_11 (by decide) ?_
  refine lv_lstore_n (pc := 12) (lv' := [(1, .long (0 : Int64)), (0, .ref v0)]) hx hb dX7_momentumByLanes_12 rfl hl (by decide) rfl (fun ls hl => ?_)
  refine lv_iconst (pc := 13) (v := (0 : Int32)) hx hb dX7_momentumByLanes_13 (by decide) ?_
  refine lv_istore_n (pc := 14) (lv' := [(3, .int (0 : Int32)), (1, .long (0 : Int64)), (0, .ref v0)]) hx hb dX7_momentumByLanes_14 rfl hl (by decide) rfl (fun ls hl => ?_)
  exact hL15 200 v0 (0 : Int64) (0 : Int32) z7 _ _ _ hf hR (lv_sub hl [2, 1, 0] rfl)
-- X7_inTune
def f_X7_inTune_b16  (s0 : Int32) (M : Mem) : Option (Mem × Int32) := gd (s0 = 0 ∨ s0 = 1) <| some (M, s0)
def f_X7_inTune (v0 : Int32) (v1 : Int32) (M : Mem) : Option (Mem × Int32) := if (20 : Int32) < (if 0 ≤ (v0 - v1) then (v0 - v1) else 0 - (v0 - v1)) then (f_X7_inTune_b16 (0 : Int32) M) else (f_X7_inTune_b16 (1 : Int32) M)
abbrev rm_X7_inTune : Room := { frames := 1, cells := 0, slots := 0, locals := 24 }
theorem hd_X7_inTune : yX7_inTune.cls ≠ "java/lang/invoke/MethodHandle" ∧ yX7_inTune.cls ≠ "java/lang/invoke/VarHandle" ∧ (parseMethodDescriptor yX7_inTune.desc).map (fun d => d.parameters.length) = some 2 := by decide +kernel
set_option maxHeartbeats 8000000 in
set_option maxRecDepth 100000 in
theorem c_X7_inTune {l : Launch} {D : va_G} {ca : Nat → ClassId} {b : Nat} {nx : Bool} {v0 : Int32} {v1 : Int32} {M : Mem} {r : Mem × Int32} (hf : f_X7_inTune v0 v1 M = some r) : CtI l yX7_inTune cX7_inTune 2 (some .boolean) rm_X7_inTune D ca b nx [.int v0, .int v1] M r := by
  intro sz
  refine body_start (Qc := fun A => cvI D ca nx A r) (by decide +kernel) (Nat.le_of_ble_eq_true rfl) ?_
  intro p e s m args below meth c A hC hr hR ls hl
  obtain ⟨hx, hb, hml, hts, hown, hlocks, hXe, hA, hAb, hnm⟩ := id hC
  have hK := hXe.1
  have hl : lv_has ls 2 [(0, .int v0), (1, .int v1)] := hl
  have hB16 : ∀  (s0 : Int32) (M : Mem) (H : Heap) (locs : List Loc) (ls : Array Slot), f_X7_inTune_b16  s0 M = some r → Hp D ca nx A s M H locs → lv_has ls 2 [] → W p l e rm_X7_inTune s m args below meth c H locs 0 0 (MQ below (cvI D ca nx A r) args s 0 0 A) (F0 m 16 ls [.int s0]) := by
    intro  s0 M H locs ls hf hR hl
    unfold f_X7_inTune_b16 at hf
    exact rg_zret (pc := 16) hx hb hlocks hr hf hR dX7_inTune_16
  unfold f_X7_inTune at hf
  refine lv_iload_n (pc := 0) hx hb dX7_inTune_0 rfl (lv_at hl 0 rfl) ?_
  refine lv_iload_n (pc := 1) hx hb dX7_inTune_1 rfl (lv_at hl 1 rfl) ?_
  refine lv_isub (pc := 2) hx hb dX7_inTune_2 ?_
  refine va_mabs (pc := 3) hx hb (hml.trans hl.1.symm) hown (hts _ m_465) (hts _ m_460) (hts _ m_15) (hts _ m_461) (Nat.le_of_ble_eq_true rfl) (Nat.le_of_ble_eq_true rfl) (Nat.le_of_ble_eq_true rfl) (Nat.le_of_ble_eq_true rfl) dX7_inTune_3 ?_
  refine lv_bipush (pc := 6) (v := (20 : Int32)) hx hb dX7_inTune_6 (by decide) ?_
  refine lv_icmp_gt (pc := 8) (tgt := 15) hx hb dX7_inTune_8 (by decide) (fun hc => ?_) (fun hc => ?_)
  · replace hf := it_t hf hc
    refine lv_iconst (pc := 15) (v := (0 : Int32)) hx hb dX7_inTune_15 (by decide) ?_
    exact hB16 (0 : Int32) M _ _ _ hf hR (lv_sub hl [] rfl)
  · replace hf := it_f hf hc
    refine lv_iconst (pc := 11) (v := (1 : Int32)) hx hb dX7_inTune_11 (by decide) ?_
    refine lv_goto (pc := 12) (tgt := 16) hx hb dX7_inTune_12 (by decide) ?_
    exact hB16 (1 : Int32) M _ _ _ hf hR (lv_sub hl [] rfl)
-- X7_ratioOf
def f_X7_ratioOf_b125 (k32 : Int32 → Int32 → Int32 → Int32 → Mem → Option (Mem × Int32)) (k41 : Int32 → Int32 → Int32 → Int32 → Int32 → Mem → Option (Mem × Int32)) (v3 : Int32) (v4 : Int32) (v5 : Int32) (v6 : Int32) (v7 : Int32) (M : Mem) : Option (Mem × Int32) := lt_ (v7 + (1 : Int32)) fun x1 => k41 v3 v4 v5 v6 x1 M
def f_X7_ratioOf_b86 (k32 : Int32 → Int32 → Int32 → Int32 → Mem → Option (Mem × Int32)) (k41 : Int32 → Int32 → Int32 → Int32 → Int32 → Mem → Option (Mem × Int32)) (v3 : Int32) (v4 : Int32) (v5 : Int32) (v6 : Int32) (v7 : Int32) (M : Mem) : Option (Mem × Int32) := lt_ ((v7 + v6)) fun x2 => if (9 : Int32) < x2 then (f_X7_ratioOf_b125 k32 k41 v3 v4 v5 v6 v7 M) else (bd (f_X7_inTune (v7 * v4) (x2 * v5) M) fun z3 => if z3.2 = 0 then (f_X7_ratioOf_b125 k32 k41 v3 v4 v5 v6 v7 z3.1) else (some (z3.1, (((10 : Int32) * v7) + x2))))
def f_X7_ratioOf_b41 (k32 : Int32 → Int32 → Int32 → Int32 → Mem → Option (Mem × Int32)) (k41 : Int32 → Int32 → Int32 → Int32 → Int32 → Mem → Option (Mem × Int32)) (v3 : Int32) (v4 : Int32) (v5 : Int32) (v6 : Int32) (v7 : Int32) (M : Mem) : Option (Mem × Int32) := if (9 : Int32) < v7 then (lt_ (v6 + (1 : Int32)) fun x4 => k32 v3 v4 v5 x4 M) else (lt_ ((v7 - v6)) fun x5 => if x5 < (1 : Int32) then (f_X7_ratioOf_b86 k32 k41 v3 v4 v5 v6 v7 M) else (bd (f_X7_inTune (v7 * v4) (x5 * v5) M) fun z6 => if z6.2 = 0 then (f_X7_ratioOf_b86 k32 k41 v3 v4 v5 v6 v7 z6.1) else (some (z6.1, (((10 : Int32) * v7) + x5)))))
def f_X7_ratioOf_L41 (k32 : Int32 → Int32 → Int32 → Int32 → Mem → Option (Mem × Int32)) : Nat → Int32 → Int32 → Int32 → Int32 → Int32 → Mem → Option (Mem × Int32)
  | 0 => fun _ _ _ _ _ _ => none
  | n + 1 => f_X7_ratioOf_b41 k32 (f_X7_ratioOf_L41 k32 n)
def f_X7_ratioOf_b32 (k32 : Int32 → Int32 → Int32 → Int32 → Mem → Option (Mem × Int32)) (v3 : Int32) (v4 : Int32) (v5 : Int32) (v6 : Int32) (M : Mem) : Option (Mem × Int32) := if v3 < v6 then (some (M, (-1 : Int32))) else (f_X7_ratioOf_L41 k32 200 v3 v4 v5 v6 (1 : Int32) M)
def f_X7_ratioOf_L32  : Nat → Int32 → Int32 → Int32 → Int32 → Mem → Option (Mem × Int32)
  | 0 => fun _ _ _ _ _ => none
  | n + 1 => f_X7_ratioOf_b32  (f_X7_ratioOf_L32  n)
def f_X7_ratioOf (v0 : Nat) (v1 : Nat) (v2 : Int32) (v3 : Int32) (M : Mem) : Option (Mem × Int32) := gd (M.1 v0 = 7) <| rd (mm_r M v0 0) fun a7 => gd (M.1 a7 = 3) <| rd (mm_r M a7 0) fun a8 => gd (M.1 v1 = 5) <| gd (M.1 a8 = 6) <| bd (f_X6_speedIn a8 (mm_i M v1 0) M) fun z9 => gd (z9.1.1 v0 = 7) <| rd (mm_r z9.1 v0 0) fun a10 => gd (z9.1.1 a10 = 3) <| rd (mm_r z9.1 a10 0) fun a11 => gd (z9.1.1 a11 = 6) <| bd (f_X6_speedIn a11 v2 z9.1) fun z12 => f_X7_ratioOf_L32 200 v3 z9.2 z12.2 (1 : Int32) z12.1
abbrev rm_X7_ratioOf : Room := { frames := 2, cells := 0, slots := 0, locals := 45 }
theorem hd_X7_ratioOf : yX7_ratioOf.cls ≠ "java/lang/invoke/MethodHandle" ∧ yX7_ratioOf.cls ≠ "java/lang/invoke/VarHandle" ∧ (parseMethodDescriptor yX7_ratioOf.desc).map (fun d => d.parameters.length) = some 3 := by decide +kernel
set_option maxHeartbeats 8000000 in
set_option maxRecDepth 100000 in
theorem c_X7_ratioOf {l : Launch} {D : va_G} {ca : Nat → ClassId} {b : Nat} {nx : Bool} {v0 : Nat} {v1 : Nat} {v2 : Int32} {v3 : Int32} {M : Mem} {r : Mem × Int32} (hf : f_X7_ratioOf v0 v1 v2 v3 M = some r) : CtI l yX7_ratioOf cX7_ratioOf 10 (some .int) rm_X7_ratioOf D ca b nx [.ref v0, .ref v1, .int v2, .int v3] M r := by
  intro sz
  refine body_start (Qc := fun A => cvI D ca nx A r) (by decide +kernel) (Nat.le_of_ble_eq_true rfl) ?_
  intro p e s m args below meth c A hC hr hR ls hl
  obtain ⟨hx, hb, hml, hts, hown, hlocks, hXe, hA, hAb, hnm⟩ := id hC
  have hK := hXe.1
  have hl : lv_has ls 10 [(0, .ref v0), (1, .ref v1), (2, .int v2), (3, .int v3)] := hl
  have hB125 : ∀ (k32 : Int32 → Int32 → Int32 → Int32 → Mem → Option (Mem × Int32)) (hk32 : ∀ (v3 : Int32) (v4 : Int32) (v5 : Int32) (v6 : Int32) (M : Mem) (H : Heap) (locs : List Loc) (ls : Array Slot), k32 v3 v4 v5 v6 M = some r → Hp D ca nx A s M H locs → lv_has ls 10 [(3, .int v3), (4, .int v4), (5, .int v5), (6, .int v6)] → W p l e rm_X7_ratioOf s m args below meth c H locs 0 0 (MQ below (cvI D ca nx A r) args s 0 0 A) (F0 m 32 ls [])) (k41 : Int32 → Int32 → Int32 → Int32 → Int32 → Mem → Option (Mem × Int32)) (hk41 : ∀ (v3 : Int32) (v4 : Int32) (v5 : Int32) (v6 : Int32) (v7 : Int32) (M : Mem) (H : Heap) (locs : List Loc) (ls : Array Slot), k41 v3 v4 v5 v6 v7 M = some r → Hp D ca nx A s M H locs → lv_has ls 10 [(3, .int v3), (4, .int v4), (5, .int v5), (6, .int v6), (7, .int v7)] → W p l e rm_X7_ratioOf s m args below meth c H locs 0 0 (MQ below (cvI D ca nx A r) args s 0 0 A) (F0 m 41 ls [])) (v3 : Int32) (v4 : Int32) (v5 : Int32) (v6 : Int32) (v7 : Int32) (M : Mem) (H : Heap) (locs : List Loc) (ls : Array Slot), f_X7_ratioOf_b125 k32 k41 v3 v4 v5 v6 v7 M = some r → Hp D ca nx A s M H locs → lv_has ls 10 [(3, .int v3), (4, .int v4), (5, .int v5), (6, .int v6), (7, .int v7)] → W p l e rm_X7_ratioOf s m args below meth c H locs 0 0 (MQ below (cvI D ca nx A r) args s 0 0 A) (F0 m 125 ls []) := by
    intro k32 hk32 k41 hk41 v3 v4 v5 v6 v7 M H locs ls hf hR hl
    unfold f_X7_ratioOf_b125 at hf
    refine rg_iinc (pc := 125) hx hb dX7_ratioOf_125 hl (k := 4) rfl rfl (by decide) hf (fun x1 ls hf hl => ?_)
    have hl : lv_has ls 10 [(7, .int x1), (3, .int v3), (4, .int v4), (5, .int v5), (6, .int v6)] := hl
    refine lv_goto (pc := 128) (tgt := 41) hx hb dX7_ratioOf_128 (by decide) ?_
    exact hk41 v3 v4 v5 v6 x1 M _ _ _ hf hR (lv_sub hl [1, 2, 3, 4, 0] rfl)
  have hB86 : ∀ (k32 : Int32 → Int32 → Int32 → Int32 → Mem → Option (Mem × Int32)) (hk32 : ∀ (v3 : Int32) (v4 : Int32) (v5 : Int32) (v6 : Int32) (M : Mem) (H : Heap) (locs : List Loc) (ls : Array Slot), k32 v3 v4 v5 v6 M = some r → Hp D ca nx A s M H locs → lv_has ls 10 [(3, .int v3), (4, .int v4), (5, .int v5), (6, .int v6)] → W p l e rm_X7_ratioOf s m args below meth c H locs 0 0 (MQ below (cvI D ca nx A r) args s 0 0 A) (F0 m 32 ls [])) (k41 : Int32 → Int32 → Int32 → Int32 → Int32 → Mem → Option (Mem × Int32)) (hk41 : ∀ (v3 : Int32) (v4 : Int32) (v5 : Int32) (v6 : Int32) (v7 : Int32) (M : Mem) (H : Heap) (locs : List Loc) (ls : Array Slot), k41 v3 v4 v5 v6 v7 M = some r → Hp D ca nx A s M H locs → lv_has ls 10 [(3, .int v3), (4, .int v4), (5, .int v5), (6, .int v6), (7, .int v7)] → W p l e rm_X7_ratioOf s m args below meth c H locs 0 0 (MQ below (cvI D ca nx A r) args s 0 0 A) (F0 m 41 ls [])) (v3 : Int32) (v4 : Int32) (v5 : Int32) (v6 : Int32) (v7 : Int32) (M : Mem) (H : Heap) (locs : List Loc) (ls : Array Slot), f_X7_ratioOf_b86 k32 k41 v3 v4 v5 v6 v7 M = some r → Hp D ca nx A s M H locs → lv_has ls 10 [(3, .int v3), (4, .int v4), (5, .int v5), (6, .int v6), (7, .int v7)] → W p l e rm_X7_ratioOf s m args below meth c H locs 0 0 (MQ below (cvI D ca nx A r) args s 0 0 A) (F0 m 86 ls []) := by
    intro k32 hk32 k41 hk41 v3 v4 v5 v6 v7 M H locs ls hf hR hl
    unfold f_X7_ratioOf_b86 at hf
    refine lv_iload (pc := 86) hx hb dX7_ratioOf_86 (lv_at hl 4 rfl) ?_
    refine lv_iload (pc := 88) hx hb dX7_ratioOf_88 (lv_at hl 3 rfl) ?_
    refine lv_iadd (pc := 90) hx hb dX7_ratioOf_90 ?_
    refine nm_i hf (fun x2 hf => ?_)
    refine lv_istore (pc := 91) (lv' := [(9, .int x2), (3, .int v3), (4, .int v4), (5, .int v5), (6, .int v6), (7, .int v7)]) hx hb dX7_ratioOf_91 hl (by decide) rfl (fun ls hl => ?_)
    refine lv_iload (pc := 93) hx hb dX7_ratioOf_93 (lv_at hl 0 rfl) ?_
    refine lv_bipush (pc := 95) (v := (9 : Int32)) hx hb dX7_ratioOf_95 (by decide) ?_
    refine lv_icmp_gt (pc := 97) (tgt := 125) hx hb dX7_ratioOf_97 (by decide) (fun hc => ?_) (fun hc => ?_)
    · replace hf := it_t hf hc
      exact hB125 k32 hk32 k41 hk41 v3 v4 v5 v6 v7 M _ _ _ hf hR (lv_sub hl [1, 2, 3, 4, 5] rfl)
    · replace hf := it_f hf hc
      refine lv_iload (pc := 100) hx hb dX7_ratioOf_100 (lv_at hl 5 rfl) ?_
      refine lv_iload (pc := 102) hx hb dX7_ratioOf_102 (lv_at hl 2 rfl) ?_
      refine lv_imul (pc := 104) hx hb dX7_ratioOf_104 ?_
      refine lv_iload (pc := 105) hx hb dX7_ratioOf_105 (lv_at hl 0 rfl) ?_
      refine lv_iload (pc := 107) hx hb dX7_ratioOf_107 (lv_at hl 3 rfl) ?_
      refine lv_imul (pc := 109) hx hb dX7_ratioOf_109 ?_
      refine rg_I (pc := 110) hf hR hA (fun z hz => rn_S (As := [.int (v7 * v4), .int (x2 * v5)]) (rest := []) hC hR (c_X7_inTune  hz _) m_622 m_623 m_1 m_624 hd_X7_inTune ⟨rfl, rfl, Nat.le_of_ble_eq_true rfl, Nat.le_of_ble_eq_true rfl⟩ rfl hl.1 rfl (Nat.le_of_ble_eq_true rfl) dX7_ratioOf_110 ⟨Nat.le_of_ble_eq_true rfl, Nat.le_of_ble_eq_true rfl⟩) (fun z3 H locs hf hR => ?_)
      refine lv_if_eq (pc := 113) (tgt := 125) hx hb dX7_ratioOf_113 (by decide) (fun hc => ?_) (fun hc => ?_)
      · replace hf := it_t hf hc
        exact hB125 k32 hk32 k41 hk41 v3 v4 v5 v6 v7 z3.1 _ _ _ hf hR (lv_sub hl [1, 2, 3, 4, 5] rfl)
      · replace hf := it_f hf hc
        refine lv_bipush (pc := 116) (v := (10 : Int32)) hx hb dX7_ratioOf_116 (by decide) ?_
        refine lv_iload (pc := 118) hx hb dX7_ratioOf_118 (lv_at hl 5 rfl) ?_
        refine lv_imul (pc := 120) hx hb dX7_ratioOf_120 ?_
        refine lv_iload (pc := 121) hx hb dX7_ratioOf_121 (lv_at hl 0 rfl) ?_
        refine lv_iadd (pc := 123) hx hb dX7_ratioOf_123 ?_
        exact rg_iret (pc := 124) hx hb hlocks hr hf hR dX7_ratioOf_124
  have hB41 : ∀ (k32 : Int32 → Int32 → Int32 → Int32 → Mem → Option (Mem × Int32)) (hk32 : ∀ (v3 : Int32) (v4 : Int32) (v5 : Int32) (v6 : Int32) (M : Mem) (H : Heap) (locs : List Loc) (ls : Array Slot), k32 v3 v4 v5 v6 M = some r → Hp D ca nx A s M H locs → lv_has ls 10 [(3, .int v3), (4, .int v4), (5, .int v5), (6, .int v6)] → W p l e rm_X7_ratioOf s m args below meth c H locs 0 0 (MQ below (cvI D ca nx A r) args s 0 0 A) (F0 m 32 ls [])) (k41 : Int32 → Int32 → Int32 → Int32 → Int32 → Mem → Option (Mem × Int32)) (hk41 : ∀ (v3 : Int32) (v4 : Int32) (v5 : Int32) (v6 : Int32) (v7 : Int32) (M : Mem) (H : Heap) (locs : List Loc) (ls : Array Slot), k41 v3 v4 v5 v6 v7 M = some r → Hp D ca nx A s M H locs → lv_has ls 10 [(3, .int v3), (4, .int v4), (5, .int v5), (6, .int v6), (7, .int v7)] → W p l e rm_X7_ratioOf s m args below meth c H locs 0 0 (MQ below (cvI D ca nx A r) args s 0 0 A) (F0 m 41 ls [])) (v3 : Int32) (v4 : Int32) (v5 : Int32) (v6 : Int32) (v7 : Int32) (M : Mem) (H : Heap) (locs : List Loc) (ls : Array Slot), f_X7_ratioOf_b41 k32 k41 v3 v4 v5 v6 v7 M = some r → Hp D ca nx A s M H locs → lv_has ls 10 [(3, .int v3), (4, .int v4), (5, .int v5), (6, .int v6), (7, .int v7)] → W p l e rm_X7_ratioOf s m args below meth c H locs 0 0 (MQ below (cvI D ca nx A r) args s 0 0 A) (F0 m 41 ls []) := by
    intro k32 hk32 k41 hk41 v3 v4 v5 v6 v7 M H locs ls hf hR hl
    unfold f_X7_ratioOf_b41 at hf
    refine lv_iload (pc := 41) hx hb dX7_ratioOf_41 (lv_at hl 4 rfl) ?_
    refine lv_bipush (pc := 43) (v := (9 : Int32)) hx hb dX7_ratioOf_43 (by decide) ?_
    refine lv_icmp_gt (pc := 45) (tgt := 131) hx hb dX7_ratioOf_45 (by decide) (fun hc => ?_) (fun hc => ?_)
    · replace hf := it_t hf hc
      refine rg_iinc (pc := 131) hx hb dX7_ratioOf_131 hl (k := 3) rfl rfl (by decide) hf (fun x4 ls hf hl => ?_)
      have hl : lv_has ls 10 [(6, .int x4), (3, .int v3), (4, .int v4), (5, .int v5), (7, .int v7)] := hl
      refine lv_goto (pc := 134) (tgt := 32) hx hb dX7_ratioOf_134 (by decide) ?_
      exact hk32 v3 v4 v5 x4 M _ _ _ hf hR (lv_sub hl [1, 2, 3, 0] rfl)
    · replace hf := it_f hf hc
      refine lv_iload (pc := 48) hx hb dX7_ratioOf_48 (lv_at hl 4 rfl) ?_
      refine lv_iload (pc := 50) hx hb dX7_ratioOf_50 (lv_at hl 3 rfl) ?_
      refine lv_isub (pc := 52) hx hb dX7_ratioOf_52 ?_
      refine nm_i hf (fun x5 hf => ?_)
      refine lv_istore (pc := 53) (lv' := [(8, .int x5), (3, .int v3), (4, .int v4), (5, .int v5), (6, .int v6), (7, .int v7)]) hx hb dX7_ratioOf_53 hl (by decide) rfl (fun ls hl => ?_)
      refine lv_iload (pc := 55) hx hb dX7_ratioOf_55 (lv_at hl 0 rfl) ?_
      refine lv_iconst (pc := 57) (v := (1 : Int32)) hx hb dX7_ratioOf_57 (by decide) ?_
      refine lv_icmp_lt (pc := 58) (tgt := 86) hx hb dX7_ratioOf_58 (by decide) (fun hc => ?_) (fun hc => ?_)
      · replace hf := it_t hf hc
        exact hB86 k32 hk32 k41 hk41 v3 v4 v5 v6 v7 M _ _ _ hf hR (lv_sub hl [1, 2, 3, 4, 5] rfl)
      · replace hf := it_f hf hc
        refine lv_iload (pc := 61) hx hb dX7_ratioOf_61 (lv_at hl 5 rfl) ?_
        refine lv_iload (pc := 63) hx hb dX7_ratioOf_63 (lv_at hl 2 rfl) ?_
        refine lv_imul (pc := 65) hx hb dX7_ratioOf_65 ?_
        refine lv_iload (pc := 66) hx hb dX7_ratioOf_66 (lv_at hl 0 rfl) ?_
        refine lv_iload (pc := 68) hx hb dX7_ratioOf_68 (lv_at hl 3 rfl) ?_
        refine lv_imul (pc := 70) hx hb dX7_ratioOf_70 ?_
        refine rg_I (pc := 71) hf hR hA (fun z hz => rn_S (As := [.int (v7 * v4), .int (x5 * v5)]) (rest := []) hC hR (c_X7_inTune  hz _) m_622 m_623 m_1 m_624 hd_X7_inTune ⟨rfl, rfl, Nat.le_of_ble_eq_true rfl, Nat.le_of_ble_eq_true rfl⟩ rfl hl.1 rfl (Nat.le_of_ble_eq_true rfl) dX7_ratioOf_71 ⟨Nat.le_of_ble_eq_true rfl, Nat.le_of_ble_eq_true rfl⟩) (fun z6 H locs hf hR => ?_)
        refine lv_if_eq (pc := 74) (tgt := 86) hx hb dX7_ratioOf_74 (by decide) (fun hc => ?_) (fun hc => ?_)
        · replace hf := it_t hf hc
          exact hB86 k32 hk32 k41 hk41 v3 v4 v5 v6 v7 z6.1 _ _ _ hf hR (lv_sub hl [1, 2, 3, 4, 5] rfl)
        · replace hf := it_f hf hc
          refine lv_bipush (pc := 77) (v := (10 : Int32)) hx hb dX7_ratioOf_77 (by decide) ?_
          refine lv_iload (pc := 79) hx hb dX7_ratioOf_79 (lv_at hl 5 rfl) ?_
          refine lv_imul (pc := 81) hx hb dX7_ratioOf_81 ?_
          refine lv_iload (pc := 82) hx hb dX7_ratioOf_82 (lv_at hl 0 rfl) ?_
          refine lv_iadd (pc := 84) hx hb dX7_ratioOf_84 ?_
          exact rg_iret (pc := 85) hx hb hlocks hr hf hR dX7_ratioOf_85
  have hL41 : ∀ (k32 : Int32 → Int32 → Int32 → Int32 → Mem → Option (Mem × Int32)) (hk32 : ∀ (v3 : Int32) (v4 : Int32) (v5 : Int32) (v6 : Int32) (M : Mem) (H : Heap) (locs : List Loc) (ls : Array Slot), k32 v3 v4 v5 v6 M = some r → Hp D ca nx A s M H locs → lv_has ls 10 [(3, .int v3), (4, .int v4), (5, .int v5), (6, .int v6)] → W p l e rm_X7_ratioOf s m args below meth c H locs 0 0 (MQ below (cvI D ca nx A r) args s 0 0 A) (F0 m 32 ls [])) (n : Nat) (v3 : Int32) (v4 : Int32) (v5 : Int32) (v6 : Int32) (v7 : Int32) (M : Mem) (H : Heap) (locs : List Loc) (ls : Array Slot), f_X7_ratioOf_L41 k32 n v3 v4 v5 v6 v7 M = some r → Hp D ca nx A s M H locs → lv_has ls 10 [(3, .int v3), (4, .int v4), (5, .int v5), (6, .int v6), (7, .int v7)] → W p l e rm_X7_ratioOf s m args below meth c H locs 0 0 (MQ below (cvI D ca nx A r) args s 0 0 A) (F0 m 41 ls []) := by
    intro k32 hk32 n
    induction n with
    | zero => intro v3 v4 v5 v6 v7 M H locs ls hf; exact nomatch (show (none : Option (Mem × Int32)) = some r from hf)
    | succ n ih => intro v3 v4 v5 v6 v7 M H locs ls hf hR hl; exact hB41 k32 hk32 (f_X7_ratioOf_L41 k32 n) ih v3 v4 v5 v6 v7 M H locs ls hf hR hl
  have hB32 : ∀ (k32 : Int32 → Int32 → Int32 → Int32 → Mem → Option (Mem × Int32)) (hk32 : ∀ (v3 : Int32) (v4 : Int32) (v5 : Int32) (v6 : Int32) (M : Mem) (H : Heap) (locs : List Loc) (ls : Array Slot), k32 v3 v4 v5 v6 M = some r → Hp D ca nx A s M H locs → lv_has ls 10 [(3, .int v3), (4, .int v4), (5, .int v5), (6, .int v6)] → W p l e rm_X7_ratioOf s m args below meth c H locs 0 0 (MQ below (cvI D ca nx A r) args s 0 0 A) (F0 m 32 ls [])) (v3 : Int32) (v4 : Int32) (v5 : Int32) (v6 : Int32) (M : Mem) (H : Heap) (locs : List Loc) (ls : Array Slot), f_X7_ratioOf_b32 k32 v3 v4 v5 v6 M = some r → Hp D ca nx A s M H locs → lv_has ls 10 [(3, .int v3), (4, .int v4), (5, .int v5), (6, .int v6)] → W p l e rm_X7_ratioOf s m args below meth c H locs 0 0 (MQ below (cvI D ca nx A r) args s 0 0 A) (F0 m 32 ls []) := by
    intro k32 hk32 v3 v4 v5 v6 M H locs ls hf hR hl
    unfold f_X7_ratioOf_b32 at hf
    refine lv_iload (pc := 32) hx hb dX7_ratioOf_32 (lv_at hl 3 rfl) ?_
    refine lv_iload_n (pc := 34) hx hb dX7_ratioOf_34 rfl (lv_at hl 0 rfl) ?_
    refine lv_icmp_gt (pc := 35) (tgt := 137) hx hb dX7_ratioOf_35 (by decide) (fun hc => ?_) (fun hc => ?_)
    · replace hf := it_t hf hc
      refine lv_iconst (pc := 137) (v := (-1 : Int32)) hx hb dX7_ratioOf_137 (by decide) ?_
      exact rg_iret (pc := 138) hx hb hlocks hr hf hR dX7_ratioOf_138
    · replace hf := it_f hf hc
      refine lv_iconst (pc := 38) (v := (1 : Int32)) hx hb dX7_ratioOf_38 (by decide) ?_
      refine lv_istore (pc := 39) (lv' := [(7, .int (1 : Int32)), (3, .int v3), (4, .int v4), (5, .int v5), (6, .int v6)]) hx hb dX7_ratioOf_39 hl (by decide) rfl (fun ls hl => ?_)
      exact hL41 k32 hk32 200 v3 v4 v5 v6 (1 : Int32) M _ _ _ hf hR (lv_sub hl [1, 2, 3, 4, 0] rfl)
  have hL32 : ∀  (n : Nat) (v3 : Int32) (v4 : Int32) (v5 : Int32) (v6 : Int32) (M : Mem) (H : Heap) (locs : List Loc) (ls : Array Slot), f_X7_ratioOf_L32  n v3 v4 v5 v6 M = some r → Hp D ca nx A s M H locs → lv_has ls 10 [(3, .int v3), (4, .int v4), (5, .int v5), (6, .int v6)] → W p l e rm_X7_ratioOf s m args below meth c H locs 0 0 (MQ below (cvI D ca nx A r) args s 0 0 A) (F0 m 32 ls []) := by
    intro  n
    induction n with
    | zero => intro v3 v4 v5 v6 M H locs ls hf; exact nomatch (show (none : Option (Mem × Int32)) = some r from hf)
    | succ n ih => intro v3 v4 v5 v6 M H locs ls hf hR hl; exact hB32  (f_X7_ratioOf_L32  n) ih v3 v4 v5 v6 M H locs ls hf hR hl
  unfold f_X7_ratioOf at hf
  refine lv_aload_n (pc := 0) hx hb dX7_ratioOf_0 rfl (lv_at hl 0 rfl) ?_
  refine rg_getr (pc := 1) (C := RX7) (T := TX7) (N := 11) (κ := 7) hx hb hts hK hR hown in_7 rfl (by decide) 0 (by decide) m_230 rfl dX7_ratioOf_1 hf (fun a7 hf => ?_)
  refine rg_getr (pc := 4) (C := RX3) (T := TX3) (N := 7) (κ := 3) hx hb hts hK hR hown in_3 rfl (by decide) 0 (by decide) m_142 rfl dX7_ratioOf_4 hf (fun a8 hf => ?_)
  refine lv_aload_n (pc := 7) hx hb dX7_ratioOf_7 rfl (lv_at hl 1 rfl) ?_
  refine rg_get (pc := 8) (C := RX5) (T := TX5) (N := 3) (κ := 5) (v := .int (mm_i M v1 0)) hx hb hts hK hR hown in_5 rfl (by decide) 0 (by decide) m_177 rfl dX7_ratioOf_8 hf (fun hf => ?_)
  obtain ⟨hq, hf⟩ := gd_e hf
  refine rg_I (pc := 11) hf hR hA (fun z hz => rn_V (κ := 6) (As := [.int (mm_i M v1 0)]) (rest := []) hC hR rfl (by decide) hq (c_X6_speedIn  hz _) m_435 m_436 m_437 m_3 m_438 hd_X6_speedIn ⟨rfl, rfl, Nat.le_of_ble_eq_true rfl, Nat.le_of_ble_eq_true rfl⟩ rfl hl.1 rfl (Nat.le_of_ble_eq_true rfl) dX7_ratioOf_11 ⟨Nat.le_of_ble_eq_true rfl, Nat.le_of_ble_eq_true rfl⟩) (fun z9 H locs hf hR => ?_)
  refine lv_istore (pc := 14) (lv' := [(4, .int z9.2), (0, .ref v0), (1, .ref v1), (2, .int v2), (3, .int v3)]) hx hb dX7_ratioOf_14 hl (by decide) rfl (fun ls hl => ?_)
  refine lv_aload_n (pc := 16) hx hb dX7_ratioOf_16 rfl (lv_at hl 1 rfl) ?_
  refine rg_getr (pc := 17) (C := RX7) (T := TX7) (N := 11) (κ := 7) hx hb hts hK hR hown in_7 rfl (by decide) 0 (by decide) m_230 rfl dX7_ratioOf_17 hf (fun a10 hf => ?_)
  refine rg_getr (pc := 20) (C := RX3) (T := TX3) (N := 7) (κ := 3) hx hb hts hK hR hown in_3 rfl (by decide) 0 (by decide) m_142 rfl dX7_ratioOf_20 hf (fun a11 hf => ?_)
  refine lv_iload_n (pc := 23) hx hb dX7_ratioOf_23 rfl (lv_at hl 3 rfl) ?_
  obtain ⟨hq, hf⟩ := gd_e hf
  refine rg_I (pc := 24) hf hR hA (fun z hz => rn_V (κ := 6) (As := [.int v2]) (rest := []) hC hR rfl (by decide) hq (c_X6_speedIn  hz _) m_435 m_436 m_437 m_3 m_438 hd_X6_speedIn ⟨rfl, rfl, Nat.le_of_ble_eq_true rfl, Nat.le_of_ble_eq_true rfl⟩ rfl hl.1 rfl (Nat.le_of_ble_eq_true rfl) dX7_ratioOf_24 ⟨Nat.le_of_ble_eq_true rfl, Nat.le_of_ble_eq_true rfl⟩) (fun z12 H locs hf hR => ?_)
  refine lv_istore (pc := 27) (lv' := [(5, .int z12.2), (4, .int z9.2), (0, .ref v0), (1, .ref v1), (2, .int v2), (3, .int v3)]) hx hb dX7_ratioOf_27 hl (by decide) rfl (fun ls hl => ?_)
  refine lv_iconst (pc := 29) (v := (1 : Int32)) hx hb dX7_ratioOf_29 (by decide) ?_
  refine lv_istore (pc := 30) (lv' := [(6, .int (1 : Int32)), (5, .int z12.2), (4, .int z9.2), (0, .ref v0), (1, .ref v1), (2, .int v2), (3, .int v3)]) hx hb dX7_ratioOf_30 hl (by decide) rfl (fun ls hl => ?_)
  exact hL32 200 v3 z9.2 z12.2 (1 : Int32) z12.1 _ _ _ hf hR (lv_sub hl [6, 2, 1, 0] rfl)
-- X7_resonance
def f_X7_resonance (v0 : Nat) (v1 : Int32) (v2 : Int32) (M : Mem) : Option (Mem × (Int32 ⊕ Nat)) := gd (M.1 v0 = 7) <| bx (f_X7_requireNumber v1 (mm_i M v0 2) M) fun M1 _ => bx (f_X7_requireLane v2 M1) fun M3 _ => gd (M3.1 v0 = 7) <| rd (mm_r M3 v0 1) fun a5 => gd (M3.1 a5 = 14 ∧ vi_ v1 (mm_N M3 a5)) <| rd (mm_r M3 a5 (v1).toNatClampNeg) fun a6 => gd (M3.1 v0 = 7) <| bd (f_X7_ratioOf v0 a6 v2 (8 : Int32) M3) fun z7 => some (z7.1, .inl z7.2)
abbrev rm_X7_resonance : Room := { frames := 8, cells := 2, slots := 12, locals := 132 }
theorem hd_X7_resonance : yX7_resonance.cls ≠ "java/lang/invoke/MethodHandle" ∧ yX7_resonance.cls ≠ "java/lang/invoke/VarHandle" ∧ (parseMethodDescriptor yX7_resonance.desc).map (fun d => d.parameters.length) = some 2 := by decide +kernel
set_option maxHeartbeats 8000000 in
set_option maxRecDepth 100000 in
theorem c_X7_resonance {l : Launch} (hlt : l.stackTraces = false) {D : va_G} {ca : Nat → ClassId} {b : Nat} {v0 : Nat} {v1 : Int32} {v2 : Int32} {M : Mem} {r : Mem × (Int32 ⊕ Nat)} (hf : f_X7_resonance v0 v1 v2 M = some r) : CxI l yX7_resonance cX7_resonance 3 (some .int) rm_X7_resonance D ca b [.ref v0, .int v1, .int v2] M r 2 12 := by
  intro sz
  refine bodyx_start (nx := false) (Qc := fun A => cxI D ca A r) (XC := fun A => cxX D ca A r) (by decide +kernel) (Nat.le_of_ble_eq_true rfl) ?_
  intro p e s m args below meth c A hC htab hr hR ls hl
  obtain ⟨hx, hb, hml, hts, hown, hlocks, hXe, hA, hAb, hnm⟩ := id hC
  have hK := hXe.1
  have hl : lv_has ls 3 [(0, .ref v0), (1, .int v1), (2, .int v2)] := hl
  unfold f_X7_resonance at hf
  refine lv_iload_n (pc := 0) hx hb dX7_resonance_0 rfl (lv_at hl 1 rfl) ?_
  refine lv_aload_n (pc := 1) hx hb dX7_resonance_1 rfl (lv_at hl 0 rfl) ?_
  refine rg_get (pc := 2) (C := RX7) (T := TX7) (N := 11) (κ := 7) (v := .int (mm_i M v0 2)) hx hb hts hK hR hown in_7 rfl (by decide) 2 (by decide) m_232 rfl dX7_resonance_2 hf (fun hf => ?_)
  refine rg_xV (pc := 5) hf hR hA htab hlocks (by show 1 ≤ 2; decide) (by show 6 ≤ 12; decide) (fun z hz => xn_S (As := [.int v1, .int (mm_i M v0 2)]) (rest := []) hC hR (c_X7_requireNumber hlt hz _) m_526 m_527 m_1 m_528 hd_X7_requireNumber ⟨rfl, rfl, Nat.le_of_ble_eq_true rfl, Nat.le_of_ble_eq_true rfl⟩ rfl hl.1 rfl (Nat.le_of_ble_eq_true rfl) dX7_resonance_5 ⟨Nat.le_of_ble_eq_true rfl, Nat.le_of_ble_eq_true rfl⟩) (fun M1 H locs hf hR => ?_)
  refine lv_iload_n (pc := 8) hx hb dX7_resonance_8 rfl (lv_at hl 2 rfl) ?_
  refine rg_xV (pc := 9) hf hR hA htab hlocks (by show 2 ≤ 2; decide) (by show 12 ≤ 12; decide) (fun z hz => xn_S (As := [.int v2]) (rest := []) hC hR (c_X7_requireLane hlt hz _) m_299 m_300 m_1 m_301 hd_X7_requireLane ⟨rfl, rfl, Nat.le_of_ble_eq_true rfl, Nat.le_of_ble_eq_true rfl⟩ rfl hl.1 rfl (Nat.le_of_ble_eq_true rfl) dX7_resonance_9 ⟨Nat.le_of_ble_eq_true rfl, Nat.le_of_ble_eq_true rfl⟩) (fun M3 H locs hf hR => ?_)
  refine lv_aload_n (pc := 12) hx hb dX7_resonance_12 rfl (lv_at hl 0 rfl) ?_
  refine lv_aload_n (pc := 13) hx hb dX7_resonance_13 rfl (lv_at hl 0 rfl) ?_
  refine rg_getr (pc := 14) (C := RX7) (T := TX7) (N := 11) (κ := 7) hx hb hts hK hR hown in_7 rfl (by decide) 1 (by decide) m_231 rfl dX7_resonance_14 hf (fun a5 hf => ?_)
  refine lv_iload_n (pc := 17) hx hb dX7_resonance_17 rfl (lv_at hl 1 rfl) ?_
  refine rg_aald (pc := 18) (κ := 14) hx hb hK hR 5 rfl (by decide) dX7_resonance_18 hf (fun a6 hf => ?_)
  refine lv_iload_n (pc := 19) hx hb dX7_resonance_19 rfl (lv_at hl 2 rfl) ?_
  refine lv_bipush (pc := 20) (v := (8 : Int32)) hx hb dX7_resonance_20 (by decide) ?_
  obtain ⟨hq, hf⟩ := gd_e hf
  refine rg_I (pc := 22) hf hR hA (fun z hz => rn_V (κ := 7) (As := [.ref a6, .int v2, .int (8 : Int32)]) (rest := []) hC hR rfl (by decide) hq (c_X7_ratioOf  hz _) m_618 m_620 ms_9 m_1 m_621 hd_X7_ratioOf ⟨rfl, rfl, Nat.le_of_ble_eq_true rfl, Nat.le_of_ble_eq_true rfl⟩ rfl hl.1 rfl (Nat.le_of_ble_eq_true rfl) dX7_resonance_22 ⟨Nat.le_of_ble_eq_true rfl, Nat.le_of_ble_eq_true rfl⟩) (fun z7 H locs hf hR => ?_)
  exact rg_xiret (pc := 25) hx hb hlocks hr hf hR (by show 2 ≤ 2; decide) (by show 12 ≤ 12; decide) dX7_resonance_25
-- X7_surveyGaps
def f_X7_surveyGaps_b73 (k17 : Nat → Int32 → Int32 → Int32 → Mem → Option (Mem × Int32)) (v0 : Nat) (v1 : Int32) (v2 : Int32) (v3 : Int32) (M : Mem) : Option (Mem × Int32) := lt_ (v3 + (1 : Int32)) fun x1 => k17 v0 v1 v2 x1 M
def f_X7_surveyGaps_b71 (k17 : Nat → Int32 → Int32 → Int32 → Mem → Option (Mem × Int32)) (v0 : Nat) (v1 : Int32) (v3 : Int32) (M : Mem) : Option (Mem × Int32) := f_X7_surveyGaps_b73 k17 v0 v1 v3 v3 M
def f_X7_surveyGaps_b17 (k17 : Nat → Int32 → Int32 → Int32 → Mem → Option (Mem × Int32)) (v0 : Nat) (v1 : Int32) (v2 : Int32) (v3 : Int32) (M : Mem) : Option (Mem × Int32) := if (64 : Int32) ≤ v3 then (some (M, v1)) else (gd (M.1 v0 = 7) <| rd (mm_r M v0 8) fun a2 => gd (M.1 a2 = 9 ∧ vi_ v3 (mm_N M a2)) <| if (mm_i M a2 (v3).toNatClampNeg) ≤ 0 then (f_X7_surveyGaps_b73 k17 v0 v1 v2 v3 M) else (if v2 = (-1 : Int32) then (f_X7_surveyGaps_b71 k17 v0 v1 v3 M) else (if (v3 - v2) ≤ (2 : Int32) then (f_X7_surveyGaps_b71 k17 v0 v1 v3 M) else (if (21 : Int32) ≤ v1 then (f_X7_surveyGaps_b71 k17 v0 v1 v3 M) else (gd (M.1 v0 = 7) <| rd (mm_r M v0 9) fun a3 => gd (M.1 a3 = 9 ∧ vi_ v1 (mm_N M a3)) <| lt_ (ms_i M a3 (v1).toNatClampNeg (v2 + (1 : Int32))) fun M4 => gd (M4.1 v0 = 7) <| rd (mm_r M4 v0 10) fun a5 => gd (M4.1 a5 = 9 ∧ vi_ v1 (mm_N M4 a5)) <| lt_ (ms_i M4 a5 (v1).toNatClampNeg (v3 - (1 : Int32))) fun M6 => lt_ (v1 + (1 : Int32)) fun x7 => f_X7_surveyGaps_b71 k17 v0 x7 v3 M6)))))
def f_X7_surveyGaps_L17  : Nat → Nat → Int32 → Int32 → Int32 → Mem → Option (Mem × Int32)
  | 0 => fun _ _ _ _ _ => none
  | n + 1 => f_X7_surveyGaps_b17  (f_X7_surveyGaps_L17  n)
def f_X7_surveyGaps (v0 : Nat) (M : Mem) : Option (Mem × Int32) := gd (M.1 v0 = 7) <| rd (mm_r M v0 0) fun a8 => gd (M.1 v0 = 7) <| rd (mm_r M v0 8) fun a9 => gd (M.1 a8 = 3) <| bd (f_X3_weighLanes a8 a9 M) fun z10 => f_X7_surveyGaps_L17 200 v0 (0 : Int32) (-1 : Int32) (0 : Int32) z10
abbrev rm_X7_surveyGaps : Room := { frames := 1, cells := 0, slots := 0, locals := 25 }
theorem hd_X7_surveyGaps : yX7_surveyGaps.cls ≠ "java/lang/invoke/MethodHandle" ∧ yX7_surveyGaps.cls ≠ "java/lang/invoke/VarHandle" ∧ (parseMethodDescriptor yX7_surveyGaps.desc).map (fun d => d.parameters.length) = some 0 := by decide +kernel
set_option maxHeartbeats 8000000 in
set_option maxRecDepth 100000 in
theorem c_X7_surveyGaps {l : Launch} {D : va_G} {ca : Nat → ClassId} {b : Nat} {nx : Bool} {v0 : Nat} {M : Mem} {r : Mem × Int32} (hf : f_X7_surveyGaps v0 M = some r) : CtI l yX7_surveyGaps cX7_surveyGaps 4 (some .int) rm_X7_surveyGaps D ca b nx [.ref v0] M r := by
  intro sz
  refine body_start (Qc := fun A => cvI D ca nx A r) (by decide +kernel) (Nat.le_of_ble_eq_true rfl) ?_
  intro p e s m args below meth c A hC hr hR ls hl
  obtain ⟨hx, hb, hml, hts, hown, hlocks, hXe, hA, hAb, hnm⟩ := id hC
  have hK := hXe.1
  have hl : lv_has ls 4 [(0, .ref v0)] := hl
  have hB73 : ∀ (k17 : Nat → Int32 → Int32 → Int32 → Mem → Option (Mem × Int32)) (hk17 : ∀ (v0 : Nat) (v1 : Int32) (v2 : Int32) (v3 : Int32) (M : Mem) (H : Heap) (locs : List Loc) (ls : Array Slot), k17 v0 v1 v2 v3 M = some r → Hp D ca nx A s M H locs → lv_has ls 4 [(0, .ref v0), (1, .int v1), (2, .int v2), (3, .int v3)] → W p l e rm_X7_surveyGaps s m args below meth c H locs 0 0 (MQ below (cvI D ca nx A r) args s 0 0 A) (F0 m 17 ls [])) (v0 : Nat) (v1 : Int32) (v2 : Int32) (v3 : Int32) (M : Mem) (H : Heap) (locs : List Loc) (ls : Array Slot), f_X7_surveyGaps_b73 k17 v0 v1 v2 v3 M = some r → Hp D ca nx A s M H locs → lv_has ls 4 [(0, .ref v0), (1, .int v1), (2, .int v2), (3, .int v3)] → W p l e rm_X7_surveyGaps s m args below meth c H locs 0 0 (MQ below (cvI D ca nx A r) args s 0 0 A) (F0 m 73 ls []) := by
    intro k17 hk17 v0 v1 v2 v3 M H locs ls hf hR hl
    unfold f_X7_surveyGaps_b73 at hf
    refine rg_iinc (pc := 73) hx hb dX7_surveyGaps_73 hl (k := 3) rfl rfl (by decide) hf (fun x1 ls hf hl => ?_)
    have hl : lv_has ls 4 [(3, .int x1), (0, .ref v0), (1, .int v1), (2, .int v2)] := hl
    refine lv_goto (pc := 76) (tgt := 17) hx hb dX7_surveyGaps_76 (by decide) ?_
    exact hk17 v0 v1 v2 x1 M _ _ _ hf hR (lv_sub hl [1, 2, 3, 0] rfl)
  have hB71 : ∀ (k17 : Nat → Int32 → Int32 → Int32 → Mem → Option (Mem × Int32)) (hk17 : ∀ (v0 : Nat) (v1 : Int32) (v2 : Int32) (v3 : Int32) (M : Mem) (H : Heap) (locs : List Loc) (ls : Array Slot), k17 v0 v1 v2 v3 M = some r → Hp D ca nx A s M H locs → lv_has ls 4 [(0, .ref v0), (1, .int v1), (2, .int v2), (3, .int v3)] → W p l e rm_X7_surveyGaps s m args below meth c H locs 0 0 (MQ below (cvI D ca nx A r) args s 0 0 A) (F0 m 17 ls [])) (v0 : Nat) (v1 : Int32) (v3 : Int32) (M : Mem) (H : Heap) (locs : List Loc) (ls : Array Slot), f_X7_surveyGaps_b71 k17 v0 v1 v3 M = some r → Hp D ca nx A s M H locs → lv_has ls 4 [(0, .ref v0), (1, .int v1), (3, .int v3)] → W p l e rm_X7_surveyGaps s m args below meth c H locs 0 0 (MQ below (cvI D ca nx A r) args s 0 0 A) (F0 m 71 ls []) := by
    intro k17 hk17 v0 v1 v3 M H locs ls hf hR hl
    unfold f_X7_surveyGaps_b71 at hf
    refine lv_iload_n (pc := 71) hx hb dX7_surveyGaps_71 rfl (lv_at hl 2 rfl) ?_
    refine lv_istore_n (pc := 72) (lv' := [(2, .int v3), (0, .ref v0), (1, .int v1), (3, .int v3)]) hx hb dX7_surveyGaps_72 rfl hl (by decide) rfl (fun ls hl => ?_)
    exact hB73 k17 hk17 v0 v1 v3 v3 M _ _ _ hf hR (lv_sub hl [1, 2, 0, 3] rfl)
  have hB17 : ∀ (k17 : Nat → Int32 → Int32 → Int32 → Mem → Option (Mem × Int32)) (hk17 : ∀ (v0 : Nat) (v1 : Int32) (v2 : Int32) (v3 : Int32) (M : Mem) (H : Heap) (locs : List Loc) (ls : Array Slot), k17 v0 v1 v2 v3 M = some r → Hp D ca nx A s M H locs → lv_has ls 4 [(0, .ref v0), (1, .int v1), (2, .int v2), (3, .int v3)] → W p l e rm_X7_surveyGaps s m args below meth c H locs 0 0 (MQ below (cvI D ca nx A r) args s 0 0 A) (F0 m 17 ls [])) (v0 : Nat) (v1 : Int32) (v2 : Int32) (v3 : Int32) (M : Mem) (H : Heap) (locs : List Loc) (ls : Array Slot), f_X7_surveyGaps_b17 k17 v0 v1 v2 v3 M = some r → Hp D ca nx A s M H locs → lv_has ls 4 [(0, .ref v0), (1, .int v1), (2, .int v2), (3, .int v3)] → W p l e rm_X7_surveyGaps s m args below meth c H locs 0 0 (MQ below (cvI D ca nx A r) args s 0 0 A) (F0 m 17 ls []) := by
    intro k17 hk17 v0 v1 v2 v3 M H locs ls hf hR hl
    unfold f_X7_surveyGaps_b17 at hf
    refine lv_iload_n (pc := 17) hx hb dX7_surveyGaps_17 rfl (lv_at hl 3 rfl) ?_
    refine lv_bipush (pc := 18) (v := (64 : Int32)) hx hb dX7_surveyGaps_18 (by decide) ?_
    refine lv_icmp_ge (pc := 20) (tgt := 79) hx hb dX7_surveyGaps_20 (by decide) (fun hc => ?_) (fun hc => ?_)
    · replace hf := it_t hf hc
      refine lv_iload_n (pc := 79) hx hb dX7_surveyGaps_79 rfl (lv_at hl 1 rfl) ?_
      exact rg_iret (pc := 80) hx hb hlocks hr hf hR dX7_surveyGaps_80
    · replace hf := it_f hf hc
      refine lv_aload_n (pc := 23) hx hb dX7_surveyGaps_23 rfl (lv_at hl 0 rfl) ?_
      refine rg_getr (pc := 24) (C := RX7) (T := TX7) (N := 11) (κ := 7) hx hb hts hK hR hown in_7 rfl (by decide) 8 (by decide) m_238 rfl dX7_surveyGaps_24 hf (fun a2 hf => ?_)
      refine lv_iload_n (pc := 27) hx hb dX7_surveyGaps_27 rfl (lv_at hl 3 rfl) ?_
      refine rg_iald (pc := 28) hx hb hK hR dX7_surveyGaps_28 hf (fun hf => ?_)
      refine lv_if_le (pc := 29) (tgt := 73) hx hb dX7_surveyGaps_29 (by decide) (fun hc => ?_) (fun hc => ?_)
      · replace hf := it_t hf hc
        exact hB73 k17 hk17 v0 v1 v2 v3 M _ _ _ hf hR (lv_sub hl [0, 1, 2, 3] rfl)
      · replace hf := it_f hf hc
        refine lv_iload_n (pc := 32) hx hb dX7_surveyGaps_32 rfl (lv_at hl 2 rfl) ?_
        refine lv_iconst (pc := 33) (v := (-1 : Int32)) hx hb dX7_surveyGaps_33 (by decide) ?_
        refine lv_icmp_eq (pc := 34) (tgt := 71) hx hb dX7_surveyGaps_34 (by decide) (fun hc => ?_) (fun hc => ?_)
        · replace hf := it_t hf hc
          exact hB71 k17 hk17 v0 v1 v3 M _ _ _ hf hR (lv_sub hl [0, 1, 3] rfl)
        · replace hf := it_f hf hc
          refine lv_iload_n (pc := 37) hx hb dX7_surveyGaps_37 rfl (lv_at hl 3 rfl) ?_
          refine lv_iload_n (pc := 38) hx hb dX7_surveyGaps_38 rfl (lv_at hl 2 rfl) ?_
          refine lv_isub (pc := 39) hx hb dX7_surveyGaps_39 ?_
          refine lv_iconst (pc := 40) (v := (2 : Int32)) hx hb dX7_surveyGaps_40 (by decide) ?_
          refine lv_icmp_le (pc := 41) (tgt := 71) hx hb dX7_surveyGaps_41 (by decide) (fun hc => ?_) (fun hc => ?_)
          · replace hf := it_t hf hc
            exact hB71 k17 hk17 v0 v1 v3 M _ _ _ hf hR (lv_sub hl [0, 1, 3] rfl)
          · replace hf := it_f hf hc
            refine lv_iload_n (pc := 44) hx hb dX7_surveyGaps_44 rfl (lv_at hl 1 rfl) ?_
            refine lv_bipush (pc := 45) (v := (21 : Int32)) hx hb dX7_surveyGaps_45 (by decide) ?_
            refine lv_icmp_ge (pc := 47) (tgt := 71) hx hb dX7_surveyGaps_47 (by decide) (fun hc => ?_) (fun hc => ?_)
            · replace hf := it_t hf hc
              exact hB71 k17 hk17 v0 v1 v3 M _ _ _ hf hR (lv_sub hl [0, 1, 3] rfl)
            · replace hf := it_f hf hc
              refine lv_aload_n (pc := 50) hx hb dX7_surveyGaps_50 rfl (lv_at hl 0 rfl) ?_
              refine rg_getr (pc := 51) (C := RX7) (T := TX7) (N := 11) (κ := 7) hx hb hts hK hR hown in_7 rfl (by decide) 9 (by decide) m_239 rfl dX7_surveyGaps_51 hf (fun a3 hf => ?_)
              refine lv_iload_n (pc := 54) hx hb dX7_surveyGaps_54 rfl (lv_at hl 1 rfl) ?_
              refine lv_iload_n (pc := 55) hx hb dX7_surveyGaps_55 rfl (lv_at hl 2 rfl) ?_
              refine lv_iconst (pc := 56) (v := (1 : Int32)) hx hb dX7_surveyGaps_56 (by decide) ?_
              refine lv_iadd (pc := 57) hx hb dX7_surveyGaps_57 ?_
              refine rg_iast (pc := 58) hx hb hK hR dX7_surveyGaps_58 hf (fun M4 H locs hf hR => ?_)
              refine lv_aload_n (pc := 59) hx hb dX7_surveyGaps_59 rfl (lv_at hl 0 rfl) ?_
              refine rg_getr (pc := 60) (C := RX7) (T := TX7) (N := 11) (κ := 7) hx hb hts hK hR hown in_7 rfl (by decide) 10 (by decide) m_240 rfl dX7_surveyGaps_60 hf (fun a5 hf => ?_)
              refine lv_iload_n (pc := 63) hx hb dX7_surveyGaps_63 rfl (lv_at hl 1 rfl) ?_
              refine lv_iload_n (pc := 64) hx hb dX7_surveyGaps_64 rfl (lv_at hl 3 rfl) ?_
              refine lv_iconst (pc := 65) (v := (1 : Int32)) hx hb dX7_surveyGaps_65 (by decide) ?_
              refine lv_isub (pc := 66) hx hb dX7_surveyGaps_66 ?_
              refine rg_iast (pc := 67) hx hb hK hR dX7_surveyGaps_67 hf (fun M6 H locs hf hR => ?_)
              refine rg_iinc (pc := 68) hx hb dX7_surveyGaps_68 hl (k := 1) rfl rfl (by decide) hf (fun x7 ls hf hl => ?_)
              have hl : lv_has ls 4 [(1, .int x7), (0, .ref v0), (2, .int v2), (3, .int v3)] := hl
              exact hB71 k17 hk17 v0 x7 v3 M6 _ _ _ hf hR (lv_sub hl [1, 0, 3] rfl)
  have hL17 : ∀  (n : Nat) (v0 : Nat) (v1 : Int32) (v2 : Int32) (v3 : Int32) (M : Mem) (H : Heap) (locs : List Loc) (ls : Array Slot), f_X7_surveyGaps_L17  n v0 v1 v2 v3 M = some r → Hp D ca nx A s M H locs → lv_has ls 4 [(0, .ref v0), (1, .int v1), (2, .int v2), (3, .int v3)] → W p l e rm_X7_surveyGaps s m args below meth c H locs 0 0 (MQ below (cvI D ca nx A r) args s 0 0 A) (F0 m 17 ls []) := by
    intro  n
    induction n with
    | zero => intro v0 v1 v2 v3 M H locs ls hf; exact nomatch (show (none : Option (Mem × Int32)) = some r from hf)
    | succ n ih => intro v0 v1 v2 v3 M H locs ls hf hR hl; exact hB17  (f_X7_surveyGaps_L17  n) ih v0 v1 v2 v3 M H locs ls hf hR hl
  unfold f_X7_surveyGaps at hf
  refine lv_aload_n (pc := 0) hx hb dX7_surveyGaps_0 rfl (lv_at hl 0 rfl) ?_
  refine rg_getr (pc := 1) (C := RX7) (T := TX7) (N := 11) (κ := 7) hx hb hts hK hR hown in_7 rfl (by decide) 0 (by decide) m_230 rfl dX7_surveyGaps_1 hf (fun a8 hf => ?_)
  refine lv_aload_n (pc := 4) hx hb dX7_surveyGaps_4 rfl (lv_at hl 0 rfl) ?_
  refine rg_getr (pc := 5) (C := RX7) (T := TX7) (N := 11) (κ := 7) hx hb hts hK hR hown in_7 rfl (by decide) 8 (by decide) m_238 rfl dX7_surveyGaps_5 hf (fun a9 hf => ?_)
  obtain ⟨hq, hf⟩ := gd_e hf
  refine rg_V (pc := 8) hf hR hA (fun z hz => rn_V (κ := 3) (As := [.ref a9]) (rest := []) hC hR rfl (by decide) hq (c_X3_weighLanes  hz _) m_272 m_273 m_274 m_2 m_275 hd_X3_weighLanes ⟨rfl, rfl, Nat.le_of_ble_eq_true rfl, Nat.le_of_ble_eq_true rfl⟩ rfl hl.1 rfl (Nat.le_of_ble_eq_true rfl) dX7_surveyGaps_8 ⟨Nat.le_of_ble_eq_true rfl, Nat.le_of_ble_eq_true rfl⟩) (fun z10 H locs hf hR => ?_)
  refine lv_iconst (pc := 11) (v := (0 : Int32)) hx hb dX7_surveyGaps_11 (by decide) ?_
  refine lv_istore_n (pc := 12) (lv' := [(1, .int (0 : Int32)), (0, .ref v0)]) hx hb dX7_surveyGaps_12 rfl hl (by decide) rfl (fun ls hl => ?_)
  refine lv_iconst (pc := 13) (v := (-1 : Int32)) hx hb dX7_surveyGaps_13 (by decide) ?_
  refine lv_istore_n (pc := 14) (lv' := [(2, .int (-1 : Int32)), (1, .int (0 : Int32)), (0, .ref v0)]) hx hb dX7_surveyGaps_14 rfl hl (by decide) rfl (fun ls hl => ?_)
  refine lv_iconst (pc := 15) (v := (0 : Int32)) hx hb dX7_surveyGaps_15 (by decide) ?_
  refine lv_istore_n (pc := 16) (lv' := [(3, .int (0 : Int32)), (2, .int (-1 : Int32)), (1, .int (0 : Int32)), (0, .ref v0)]) hx hb dX7_surveyGaps_16 rfl hl (by decide) rfl (fun ls hl => ?_)
  exact hL17 200 v0 (0 : Int32) (-1 : Int32) (0 : Int32) z10 _ _ _ hf hR (lv_sub hl [3, 2, 1, 0] rfl)
