-- X8_breaks
def f_X8_breaks (v0 : Nat) (v1 : Int32) (M : Mem) : Option (Mem) := gd (M.1 v0 = 8) <| rd (mm_r M v0 7) fun a1 => gd (M.1 a1 = 9 ∧ vi_ v1 (mm_N M a1)) <| lt_ ((mm_i M a1 (v1).toNatClampNeg)) fun x2 => gd (M.1 v0 = 8) <| rd (mm_r M v0 9) fun a3 => gd (M.1 a3 = 9 ∧ vi_ v1 (mm_N M a3)) <| gd (M.1 v0 = 8) <| rd (mm_r M v0 9) fun a4 => gd (M.1 a4 = 9 ∧ vi_ v1 (mm_N M a4)) <| lt_ (((mm_i M a3 (v1).toNatClampNeg) - ((mm_i M a4 (v1).toNatClampNeg) / (2 : Int32)))) fun x5 => gd (M.1 v0 = 8) <| rd (mm_r M v0 9) fun a6 => gd (M.1 a6 = 9 ∧ vi_ v1 (mm_N M a6)) <| gd (M.1 a6 = 9 ∧ vi_ v1 (mm_N M a6)) <| lt_ (ms_i M a6 (v1).toNatClampNeg ((mm_i M a6 (v1).toNatClampNeg) / (2 : Int32))) fun M7 => gd (M7.1 v0 = 8) <| rd (mm_r M7 v0 10) fun a8 => gd (M7.1 a8 = 9 ∧ vi_ v1 (mm_N M7 a8)) <| lt_ (ms_i M7 a8 (v1).toNatClampNeg (0 : Int32)) fun M9 => gd (M9.1 v0 = 8) <| bd (f_X8_goes v0 v1 (x2 - (1 : Int32)) M9) fun z10 => gd (z10.1 v0 = 8) <| rd (mm_r z10 v0 8) fun a11 => gd (z10.1 a11 = 9 ∧ vi_ v1 (mm_N z10 a11)) <| gd (z10.1 v0 = 8) <| rd (mm_r z10 v0 11) fun a12 => gd (z10.1 a12 = 9 ∧ vi_ v1 (mm_N z10 a12)) <| gd (z10.1 v0 = 8) <| bd (f_X8_adds v0 x2 (mm_i z10 a11 (v1).toNatClampNeg) x5 (0 : Int32) (mm_i z10 a12 (v1).toNatClampNeg) z10) fun z13 => gd (z13.1.1 v0 = 8) <| rd (mm_r z13.1 v0 13) fun a14 => gd (z13.1.1 a14 = 10 ∧ vi_ z13.2 (mm_N z13.1 a14)) <| lt_ (ms_i z13.1 a14 (z13.2).toNatClampNeg (1 : Int32)) fun M15 => gd (M15.1 v0 = 8) <| bd (f_X8_goes v0 z13.2 (x2 + (1 : Int32)) M15) fun z16 => gd (z16.1 v0 = 8) <| gd (z16.1 v0 = 8) <| lt_ (ms_i z16 v0 19 ((mm_i z16 v0 19) + (1 : Int32))) fun M17 => some M17
abbrev rm_X8_breaks : Room := { frames := 1, cells := 0, slots := 0, locals := 25 }
theorem hd_X8_breaks : yX8_breaks.cls ≠ "java/lang/invoke/MethodHandle" ∧ yX8_breaks.cls ≠ "java/lang/invoke/VarHandle" ∧ (parseMethodDescriptor yX8_breaks.desc).map (fun d => d.parameters.length) = some 1 := by decide +kernel
set_option maxHeartbeats 8000000 in
set_option maxRecDepth 100000 in
theorem c_X8_breaks {l : Launch} {D : va_G} {ca : Nat → ClassId} {b : Nat} {nx : Bool} {v0 : Nat} {v1 : Int32} {M : Mem} {r : Mem} (hf : f_X8_breaks v0 v1 M = some r) : CtV l yX8_breaks cX8_breaks 5 none rm_X8_breaks D ca b nx [.ref v0, .int v1] M r 0 0 := by
  intro sz
  refine body_start (Qc := fun A => cvV D ca nx A r) (by decide +kernel) (Nat.le_of_ble_eq_true rfl) ?_
  intro p e s m args below meth c A hC hr hR ls hl
  obtain ⟨hx, hb, hml, hts, hown, hlocks, hXe, hA, hAb, hnm⟩ := id hC
  have hK := hXe.1
  have hl : lv_has ls 5 [(0, .ref v0), (1, .int v1)] := hl
  unfold f_X8_breaks at hf
  refine lv_aload_n (pc := 0) hx hb dX8_breaks_0 rfl (lv_at hl 0 rfl) ?_
  refine rg_getr (pc := 1) (C := RX8) (T := TX8) (N := 37) (κ := 8) hx hb hts hK hR hown in_8 rfl (by decide) 7 (by decide) m_675 rfl dX8_breaks_1 hf (fun a1 hf => ?_)
  refine lv_iload_n (pc := 4) hx hb dX8_breaks_4 rfl (lv_at hl 1 rfl) ?_
  refine rg_iald (pc := 5) hx hb hK hR dX8_breaks_5 hf (fun hf => ?_)
  refine nm_i hf (fun x2 hf => ?_)
  refine lv_istore_n (pc := 6) (lv' := [(2, .int x2), (0, .ref v0), (1, .int v1)]) hx hb dX8_breaks_6 rfl hl (by decide) rfl (fun ls hl => ?_)
  refine lv_aload_n (pc := 7) hx hb dX8_breaks_7 rfl (lv_at hl 1 rfl) ?_
  refine rg_getr (pc := 8) (C := RX8) (T := TX8) (N := 37) (κ := 8) hx hb hts hK hR hown in_8 rfl (by decide) 9 (by decide) m_677 rfl dX8_breaks_8 hf (fun a3 hf => ?_)
  refine lv_iload_n (pc := 11) hx hb dX8_breaks_11 rfl (lv_at hl 2 rfl) ?_
  refine rg_iald (pc := 12) hx hb hK hR dX8_breaks_12 hf (fun hf => ?_)
  refine lv_aload_n (pc := 13) hx hb dX8_breaks_13 rfl (lv_at hl 1 rfl) ?_
  refine rg_getr (pc := 14) (C := RX8) (T := TX8) (N := 37) (κ := 8) hx hb hts hK hR hown in_8 rfl (by decide) 9 (by decide) m_677 rfl dX8_breaks_14 hf (fun a4 hf => ?_)
  refine lv_iload_n (pc := 17) hx hb dX8_breaks_17 rfl (lv_at hl 2 rfl) ?_
  refine rg_iald (pc := 18) hx hb hK hR dX8_breaks_18 hf (fun hf => ?_)
  refine lv_iconst (pc := 19) (v := (2 : Int32)) hx hb dX8_breaks_19 (by decide) ?_
  refine lv_idiv (pc := 20) hx hb dX8_breaks_20 (by decide) ?_
  refine lv_isub (pc := 21) hx hb dX8_breaks_21 ?_
  refine nm_i hf (fun x5 hf => ?_)
  refine lv_istore_n (pc := 22) (lv' := [(3, .int x5), (2, .int x2), (0, .ref v0), (1, .int v1)]) hx hb dX8_breaks_22 rfl hl (by decide) rfl (fun ls hl => ?_)
  refine lv_aload_n (pc := 23) hx hb dX8_breaks_23 rfl (lv_at hl 2 rfl) ?_
  refine rg_getr (pc := 24) (C := RX8) (T := TX8) (N := 37) (κ := 8) hx hb hts hK hR hown in_8 rfl (by decide) 9 (by decide) m_677 rfl dX8_breaks_24 hf (fun a6 hf => ?_)
  refine lv_iload_n (pc := 27) hx hb dX8_breaks_27 rfl (lv_at hl 3 rfl) ?_
  refine lv_dup2_11 (pc := 28) hx hb dX8_breaks_28 rfl rfl ?_
  refine rg_iald (pc := 29) hx hb hK hR dX8_breaks_29 hf (fun hf => ?_)
  refine lv_iconst (pc := 30) (v := (2 : Int32)) hx hb dX8_breaks_30 (by decide) ?_
  refine lv_idiv (pc := 31) hx hb dX8_breaks_31 (by decide) ?_
  refine rg_iast (pc := 32) hx hb hK hR dX8_breaks_32 hf (fun M7 H locs hf hR => ?_)
  refine lv_aload_n (pc := 33) hx hb dX8_breaks_33 rfl (lv_at hl 2 rfl) ?_
  refine rg_getr (pc := 34) (C := RX8) (T := TX8) (N := 37) (κ := 8) hx hb hts hK hR hown in_8 rfl (by decide) 10 (by decide) m_678 rfl dX8_breaks_34 hf (fun a8 hf => ?_)
  refine lv_iload_n (pc := 37) hx hb dX8_breaks_37 rfl (lv_at hl 3 rfl) ?_
  refine lv_iconst (pc := 38) (v := (0 : Int32)) hx hb dX8_breaks_38 (by decide) ?_
  refine rg_iast (pc := 39) hx hb hK hR dX8_breaks_39 hf (fun M9 H locs hf hR => ?_)
  refine lv_aload_n (pc := 40) hx hb dX8_breaks_40 rfl (lv_at hl 2 rfl) ?_
  refine lv_iload_n (pc := 41) hx hb dX8_breaks_41 rfl (lv_at hl 3 rfl) ?_
  refine lv_iload_n (pc := 42) hx hb dX8_breaks_42 rfl (lv_at hl 1 rfl) ?_
  refine lv_iconst (pc := 43) (v := (1 : Int32)) hx hb dX8_breaks_43 (by decide) ?_
  refine lv_isub (pc := 44) hx hb dX8_breaks_44 ?_
  obtain ⟨hq, hf⟩ := gd_e hf
  refine rg_V (pc := 45) hf hR hA (fun z hz => rn_V (κ := 8) (As := [.int v1, .int (x2 - (1 : Int32))]) (rest := []) hC hR rfl (by decide) hq (c_X8_goes  hz _) m_842 m_844 ms_16 m_9 m_845 hd_X8_goes ⟨rfl, rfl, Nat.le_of_ble_eq_true rfl, Nat.le_of_ble_eq_true rfl⟩ rfl hl.1 rfl (Nat.le_of_ble_eq_true rfl) dX8_breaks_45 ⟨Nat.le_of_ble_eq_true rfl, Nat.le_of_ble_eq_true rfl⟩) (fun z10 H locs hf hR => ?_)
  refine lv_aload_n (pc := 48) hx hb dX8_breaks_48 rfl (lv_at hl 2 rfl) ?_
  refine lv_iload_n (pc := 49) hx hb dX8_breaks_49 rfl (lv_at hl 1 rfl) ?_
  refine lv_aload_n (pc := 50) hx hb dX8_breaks_50 rfl (lv_at hl 2 rfl) ?_
  refine rg_getr (pc := 51) (C := RX8) (T := TX8) (N := 37) (κ := 8) hx hb hts hK hR hown in_8 rfl (by decide) 8 (by decide) m_676 rfl dX8_breaks_51 hf (fun a11 hf => ?_)
  refine lv_iload_n (pc := 54) hx hb dX8_breaks_54 rfl (lv_at hl 3 rfl) ?_
  refine rg_iald (pc := 55) hx hb hK hR dX8_breaks_55 hf (fun hf => ?_)
  refine lv_iload_n (pc := 56) hx hb dX8_breaks_56 rfl (lv_at hl 0 rfl) ?_
  refine lv_iconst (pc := 57) (v := (0 : Int32)) hx hb dX8_breaks_57 (by decide) ?_
  refine lv_aload_n (pc := 58) hx hb dX8_breaks_58 rfl (lv_at hl 2 rfl) ?_
  refine rg_getr (pc := 59) (C := RX8) (T := TX8) (N := 37) (κ := 8) hx hb hts hK hR hown in_8 rfl (by decide) 11 (by decide) m_679 rfl dX8_breaks_59 hf (fun a12 hf => ?_)
  refine lv_iload_n (pc := 62) hx hb dX8_breaks_62 rfl (lv_at hl 3 rfl) ?_
  refine rg_iald (pc := 63) hx hb hK hR dX8_breaks_63 hf (fun hf => ?_)
  obtain ⟨hq, hf⟩ := gd_e hf
  refine rg_I (pc := 64) hf hR hA (fun z hz => rn_V (κ := 8) (As := [.int x2, .int (mm_i z10 a11 (v1).toNatClampNeg), .int x5, .int (0 : Int32), .int (mm_i z10 a12 (v1).toNatClampNeg)]) (rest := []) hC hR rfl (by decide) hq (c_X8_adds  hz _) m_796 m_798 ms_11 m_9 m_799 hd_X8_adds ⟨rfl, rfl, Nat.le_of_ble_eq_true rfl, Nat.le_of_ble_eq_true rfl⟩ rfl hl.1 rfl (Nat.le_of_ble_eq_true rfl) dX8_breaks_64 ⟨Nat.le_of_ble_eq_true rfl, Nat.le_of_ble_eq_true rfl⟩) (fun z13 H locs hf hR => ?_)
  refine lv_istore (pc := 67) (lv' := [(4, .int z13.2), (3, .int x5), (2, .int x2), (0, .ref v0), (1, .int v1)]) hx hb dX8_breaks_67 hl (by decide) rfl (fun ls hl => ?_)
  refine lv_aload_n (pc := 69) hx hb dX8_breaks_69 rfl (lv_at hl 3 rfl) ?_
  refine rg_getr (pc := 70) (C := RX8) (T := TX8) (N := 37) (κ := 8) hx hb hts hK hR hown in_8 rfl (by decide) 13 (by decide) m_681 rfl dX8_breaks_70 hf (fun a14 hf => ?_)
  refine lv_iload (pc := 73) hx hb dX8_breaks_73 (lv_at hl 0 rfl) ?_
  refine lv_iconst (pc := 75) (v := (1 : Int32)) hx hb dX8_breaks_75 (by decide) ?_
  refine rg_zast (pc := 76) hx hb hK hR rfl dX8_breaks_76 hf (fun M15 H locs hf hR => ?_)
  refine lv_aload_n (pc := 77) hx hb dX8_breaks_77 rfl (lv_at hl 3 rfl) ?_
  refine lv_iload (pc := 78) hx hb dX8_breaks_78 (lv_at hl 0 rfl) ?_
  refine lv_iload_n (pc := 80) hx hb dX8_breaks_80 rfl (lv_at hl 2 rfl) ?_
  refine lv_iconst (pc := 81) (v := (1 : Int32)) hx hb dX8_breaks_81 (by decide) ?_
  refine lv_iadd (pc := 82) hx hb dX8_breaks_82 ?_
  obtain ⟨hq, hf⟩ := gd_e hf
  refine rg_V (pc := 83) hf hR hA (fun z hz => rn_V (κ := 8) (As := [.int z13.2, .int (x2 + (1 : Int32))]) (rest := []) hC hR rfl (by decide) hq (c_X8_goes  hz _) m_842 m_844 ms_16 m_9 m_845 hd_X8_goes ⟨rfl, rfl, Nat.le_of_ble_eq_true rfl, Nat.le_of_ble_eq_true rfl⟩ rfl hl.1 rfl (Nat.le_of_ble_eq_true rfl) dX8_breaks_83 ⟨Nat.le_of_ble_eq_true rfl, Nat.le_of_ble_eq_true rfl⟩) (fun z16 H locs hf hR => ?_)
  refine lv_aload_n (pc := 86) hx hb dX8_breaks_86 rfl (lv_at hl 3 rfl) ?_
  refine lv_dup (pc := 87) hx hb dX8_breaks_87 rfl ?_
  refine rg_get (pc := 88) (C := RX8) (T := TX8) (N := 37) (κ := 8) (v := .int (mm_i z16 v0 19)) hx hb hts hK hR hown in_8 rfl (by decide) 19 (by decide) m_687 rfl dX8_breaks_88 hf (fun hf => ?_)
  refine lv_iconst (pc := 91) (v := (1 : Int32)) hx hb dX8_breaks_91 (by decide) ?_
  refine lv_iadd (pc := 92) hx hb dX8_breaks_92 ?_
  refine rg_puti (pc := 93) (C := RX8) (T := TX8) (N := 37) (κ := 8) hx hb hts hK hR hown in_8 rfl (by decide) 19 (by decide) m_687 tyX8 tyX8_ok nmX8 rfl rfl rfl rfl dX8_breaks_93 hf (fun M17 H locs hf hR => ?_)
  exact rg_vret (pc := 96) hx hb hlocks hr hf hR dX8_breaks_96
-- X8_parts
def f_X8_parts_b31  (s0 : Int32) (v0 : Nat) (v1 : Int32) (v2 : Int32) (v3 : Int32) (M : Mem) : Option (Mem) := gd (M.1 v0 = 8) <| rd (mm_r M v0 10) fun a1 => gd (M.1 v0 = 8) <| rd (mm_r M v0 10) fun a2 => gd (M.1 a2 = 9 ∧ vi_ v1 (mm_N M a2)) <| gd (M.1 v0 = 8) <| gd (M.1 a1 = 9 ∧ vi_ v1 (mm_N M a1)) <| lt_ (ms_i M a1 (v1).toNatClampNeg (((mm_i M a2 (v1).toNatClampNeg) * (mm_i M v0 5)) / (100 : Int32))) fun M3 => gd (M3.1 v0 = 8) <| rd (mm_r M3 v0 10) fun a4 => gd (M3.1 v0 = 8) <| rd (mm_r M3 v0 10) fun a5 => gd (M3.1 a5 = 9 ∧ vi_ v2 (mm_N M3 a5)) <| gd (M3.1 v0 = 8) <| gd (M3.1 a4 = 9 ∧ vi_ v2 (mm_N M3 a4)) <| lt_ (ms_i M3 a4 (v2).toNatClampNeg (((mm_i M3 a5 (v2).toNatClampNeg) * (mm_i M3 v0 5)) / (100 : Int32))) fun M6 => gd (M6.1 v0 = 8) <| rd (mm_r M6 v0 7) fun a7 => gd (M6.1 a7 = 9 ∧ vi_ v3 (mm_N M6 a7)) <| gd (M6.1 v0 = 8) <| bd (f_X8_goes v0 v3 ((mm_i M6 a7 (v3).toNatClampNeg) - (1 : Int32)) M6) fun z8 => gd (z8.1 v0 = 8) <| rd (mm_r z8 v0 7) fun a9 => gd (z8.1 a9 = 9 ∧ vi_ s0 (mm_N z8 a9)) <| gd (z8.1 v0 = 8) <| bd (f_X8_goes v0 s0 ((mm_i z8 a9 (s0).toNatClampNeg) + (1 : Int32)) z8) fun z10 => gd (z10.1 v0 = 8) <| gd (z10.1 v0 = 8) <| lt_ (ms_i z10 v0 20 ((mm_i z10 v0 20) + (1 : Int32))) fun M11 => some M11
def f_X8_parts_b20  (s0 : Int32) (v0 : Nat) (v1 : Int32) (v2 : Int32) (M : Mem) : Option (Mem) := if s0 = v1 then (f_X8_parts_b31 v2 v0 v1 v2 s0 M) else (f_X8_parts_b31 v1 v0 v1 v2 s0 M)
def f_X8_parts (v0 : Nat) (v1 : Int32) (v2 : Int32) (M : Mem) : Option (Mem) := gd (M.1 v0 = 8) <| rd (mm_r M v0 7) fun a12 => gd (M.1 a12 = 9 ∧ vi_ v2 (mm_N M a12)) <| gd (M.1 v0 = 8) <| rd (mm_r M v0 7) fun a13 => gd (M.1 a13 = 9 ∧ vi_ v1 (mm_N M a13)) <| if (mm_i M a13 (v1).toNatClampNeg) ≤ (mm_i M a12 (v2).toNatClampNeg) then (f_X8_parts_b20 v1 v0 v1 v2 M) else (f_X8_parts_b20 v2 v0 v1 v2 M)
abbrev rm_X8_parts : Room := { frames := 1, cells := 0, slots := 0, locals := 22 }
theorem hd_X8_parts : yX8_parts.cls ≠ "java/lang/invoke/MethodHandle" ∧ yX8_parts.cls ≠ "java/lang/invoke/VarHandle" ∧ (parseMethodDescriptor yX8_parts.desc).map (fun d => d.parameters.length) = some 2 := by decide +kernel
set_option maxHeartbeats 8000000 in
set_option maxRecDepth 100000 in
theorem c_X8_parts {l : Launch} {D : va_G} {ca : Nat → ClassId} {b : Nat} {nx : Bool} {v0 : Nat} {v1 : Int32} {v2 : Int32} {M : Mem} {r : Mem} (hf : f_X8_parts v0 v1 v2 M = some r) : CtV l yX8_parts cX8_parts 5 none rm_X8_parts D ca b nx [.ref v0, .int v1, .int v2] M r 0 0 := by
  intro sz
  refine body_start (Qc := fun A => cvV D ca nx A r) (by decide +kernel) (Nat.le_of_ble_eq_true rfl) ?_
  intro p e s m args below meth c A hC hr hR ls hl
  obtain ⟨hx, hb, hml, hts, hown, hlocks, hXe, hA, hAb, hnm⟩ := id hC
  have hK := hXe.1
  have hl : lv_has ls 5 [(0, .ref v0), (1, .int v1), (2, .int v2)] := hl
  have hB31 : ∀  (s0 : Int32) (v0 : Nat) (v1 : Int32) (v2 : Int32) (v3 : Int32) (M : Mem) (H : Heap) (locs : List Loc) (ls : Array Slot), f_X8_parts_b31  s0 v0 v1 v2 v3 M = some r → Hp D ca nx A s M H locs → lv_has ls 5 [(0, .ref v0), (1, .int v1), (2, .int v2), (3, .int v3)] → W p l e rm_X8_parts s m args below meth c H locs 0 0 (MQ below (cvV D ca nx A r) args s 0 0 A) (F0 m 31 ls [.int s0]) := by
    intro  s0 v0 v1 v2 v3 M H locs ls hf hR hl
    unfold f_X8_parts_b31 at hf
    refine lv_istore (pc := 31) (lv' := [(4, .int s0), (0, .ref v0), (1, .int v1), (2, .int v2), (3, .int v3)]) hx hb dX8_parts_31 hl (by decide) rfl (fun ls hl => ?_)
    refine lv_aload_n (pc := 33) hx hb dX8_parts_33 rfl (lv_at hl 1 rfl) ?_
    refine rg_getr (pc := 34) (C := RX8) (T := TX8) (N := 37) (κ := 8) hx hb hts hK hR hown in_8 rfl (by decide) 10 (by decide) m_678 rfl dX8_parts_34 hf (fun a1 hf => ?_)
    refine lv_iload_n (pc := 37) hx hb dX8_parts_37 rfl (lv_at hl 2 rfl) ?_
    refine lv_aload_n (pc := 38) hx hb dX8_parts_38 rfl (lv_at hl 1 rfl) ?_
    refine rg_getr (pc := 39) (C := RX8) (T := TX8) (N := 37) (κ := 8) hx hb hts hK hR hown in_8 rfl (by decide) 10 (by decide) m_678 rfl dX8_parts_39 hf (fun a2 hf => ?_)
    refine lv_iload_n (pc := 42) hx hb dX8_parts_42 rfl (lv_at hl 2 rfl) ?_
    refine rg_iald (pc := 43) hx hb hK hR dX8_parts_43 hf (fun hf => ?_)
    refine lv_aload_n (pc := 44) hx hb dX8_parts_44 rfl (lv_at hl 1 rfl) ?_
    refine rg_get (pc := 45) (C := RX8) (T := TX8) (N := 37) (κ := 8) (v := .int (mm_i M v0 5)) hx hb hts hK hR hown in_8 rfl (by decide) 5 (by decide) m_673 rfl dX8_parts_45 hf (fun hf => ?_)
    refine lv_imul (pc := 48) hx hb dX8_parts_48 ?_
    refine lv_bipush (pc := 49) (v := (100 : Int32)) hx hb dX8_parts_49 (by decide) ?_
    refine lv_idiv (pc := 51) hx hb dX8_parts_51 (by decide) ?_
    refine rg_iast (pc := 52) hx hb hK hR dX8_parts_52 hf (fun M3 H locs hf hR => ?_)
    refine lv_aload_n (pc := 53) hx hb dX8_parts_53 rfl (lv_at hl 1 rfl) ?_
    refine rg_getr (pc := 54) (C := RX8) (T := TX8) (N := 37) (κ := 8) hx hb hts hK hR hown in_8 rfl (by decide) 10 (by decide) m_678 rfl dX8_parts_54 hf (fun a4 hf => ?_)
    refine lv_iload_n (pc := 57) hx hb dX8_parts_57 rfl (lv_at hl 3 rfl) ?_
    refine lv_aload_n (pc := 58) hx hb dX8_parts_58 rfl (lv_at hl 1 rfl) ?_
    refine rg_getr (pc := 59) (C := RX8) (T := TX8) (N := 37) (κ := 8) hx hb hts hK hR hown in_8 rfl (by decide) 10 (by decide) m_678 rfl dX8_parts_59 hf (fun a5 hf => ?_)
    refine lv_iload_n (pc := 62) hx hb dX8_parts_62 rfl (lv_at hl 3 rfl) ?_
    refine rg_iald (pc := 63) hx hb hK hR dX8_parts_63 hf (fun hf => ?_)
    refine lv_aload_n (pc := 64) hx hb dX8_parts_64 rfl (lv_at hl 1 rfl) ?_
    refine rg_get (pc := 65) (C := RX8) (T := TX8) (N := 37) (κ := 8) (v := .int (mm_i M3 v0 5)) hx hb hts hK hR hown in_8 rfl (by decide) 5 (by decide) m_673 rfl dX8_parts_65 hf (fun hf => ?_)
    refine lv_imul (pc := 68) hx hb dX8_parts_68 ?_
    refine lv_bipush (pc := 69) (v := (100 : Int32)) hx hb dX8_parts_69 (by decide) ?_
    refine lv_idiv (pc := 71) hx hb dX8_parts_71 (by decide) ?_
    refine rg_iast (pc := 72) hx hb hK hR dX8_parts_72 hf (fun M6 H locs hf hR => ?_)
    refine lv_aload_n (pc := 73) hx hb dX8_parts_73 rfl (lv_at hl 1 rfl) ?_
    refine lv_iload_n (pc := 74) hx hb dX8_parts_74 rfl (lv_at hl 4 rfl) ?_
    refine lv_aload_n (pc := 75) hx hb dX8_parts_75 rfl (lv_at hl 1 rfl) ?_
    refine rg_getr (pc := 76) (C := RX8) (T := TX8) (N := 37) (κ := 8) hx hb hts hK hR hown in_8 rfl (by decide) 7 (by decide) m_675 rfl dX8_parts_76 hf (fun a7 hf => ?_)
    refine lv_iload_n (pc := 79) hx hb dX8_parts_79 rfl (lv_at hl 4 rfl) ?_
    refine rg_iald (pc := 80) hx hb hK hR dX8_parts_80 hf (fun hf => ?_)
    refine lv_iconst (pc := 81) (v := (1 : Int32)) hx hb dX8_parts_81 (by decide) ?_
    refine lv_isub (pc := 82) hx hb dX8_parts_82 ?_
    obtain ⟨hq, hf⟩ := gd_e hf
    refine rg_V (pc := 83) hf hR hA (fun z hz => rn_V (κ := 8) (As := [.int v3, .int ((mm_i M6 a7 (v3).toNatClampNeg) - (1 : Int32))]) (rest := []) hC hR rfl (by decide) hq (c_X8_goes  hz _) m_842 m_844 ms_16 m_9 m_845 hd_X8_goes ⟨rfl, rfl, Nat.le_of_ble_eq_true rfl, Nat.le_of_ble_eq_true rfl⟩ rfl hl.1 rfl (Nat.le_of_ble_eq_true rfl) dX8_parts_83 ⟨Nat.le_of_ble_eq_true rfl, Nat.le_of_ble_eq_true rfl⟩) (fun z8 H locs hf hR => ?_)
    refine lv_aload_n (pc := 86) hx hb dX8_parts_86 rfl (lv_at hl 1 rfl) ?_
    refine lv_iload (pc := 87) hx hb dX8_parts_87 (lv_at hl 0 rfl) ?_
    refine lv_aload_n (pc := 89) hx hb dX8_parts_89 rfl (lv_at hl 1 rfl) ?_
    refine rg_getr (pc := 90) (C := RX8) (T := TX8) (N := 37) (κ := 8) hx hb hts hK hR hown in_8 rfl (by decide) 7 (by decide) m_675 rfl dX8_parts_90 hf (fun a9 hf => ?_)
    refine lv_iload (pc := 93) hx hb dX8_parts_93 (lv_at hl 0 rfl) ?_
    refine rg_iald (pc := 95) hx hb hK hR dX8_parts_95 hf (fun hf => ?_)
    refine lv_iconst (pc := 96) (v := (1 : Int32)) hx hb dX8_parts_96 (by decide) ?_
    refine lv_iadd (pc := 97) hx hb dX8_parts_97 ?_
    obtain ⟨hq, hf⟩ := gd_e hf
    refine rg_V (pc := 98) hf hR hA (fun z hz => rn_V (κ := 8) (As := [.int s0, .int ((mm_i z8 a9 (s0).toNatClampNeg) + (1 : Int32))]) (rest := []) hC hR rfl (by decide) hq (c_X8_goes  hz _) m_842 m_844 ms_16 m_9 m_845 hd_X8_goes ⟨rfl, rfl, Nat.le_of_ble_eq_true rfl, Nat.le_of_ble_eq_true rfl⟩ rfl hl.1 rfl (Nat.le_of_ble_eq_true rfl) dX8_parts_98 ⟨Nat.le_of_ble_eq_true rfl, Nat.le_of_ble_eq_true rfl⟩) (fun z10 H locs hf hR => ?_)
    refine lv_aload_n (pc := 101) hx hb dX8_parts_101 rfl (lv_at hl 1 rfl) ?_
    refine lv_dup (pc := 102) hx hb dX8_parts_102 rfl ?_
    refine rg_get (pc := 103) (C := RX8) (T := TX8) (N := 37) (κ := 8) (v := .int (mm_i z10 v0 20)) hx hb hts hK hR hown in_8 rfl (by decide) 20 (by decide) m_688 rfl dX8_parts_103 hf (fun hf => ?_)
    refine lv_iconst (pc := 106) (v := (1 : Int32)) hx hb dX8_parts_106 (by decide) ?_
    refine lv_iadd (pc := 107) hx hb dX8_parts_107 ?_
    refine rg_puti (pc := 108) (C := RX8) (T := TX8) (N := 37) (κ := 8) hx hb hts hK hR hown in_8 rfl (by decide) 20 (by decide) m_688 tyX8 tyX8_ok nmX8 rfl rfl rfl rfl dX8_parts_108 hf (fun M11 H locs hf hR => ?_)
    exact rg_vret (pc := 111) hx hb hlocks hr hf hR dX8_parts_111
  have hB20 : ∀  (s0 : Int32) (v0 : Nat) (v1 : Int32) (v2 : Int32) (M : Mem) (H : Heap) (locs : List Loc) (ls : Array Slot), f_X8_parts_b20  s0 v0 v1 v2 M = some r → Hp D ca nx A s M H locs → lv_has ls 5 [(0, .ref v0), (1, .int v1), (2, .int v2)] → W p l e rm_X8_parts s m args below meth c H locs 0 0 (MQ below (cvV D ca nx A r) args s 0 0 A) (F0 m 20 ls [.int s0]) := by
    intro  s0 v0 v1 v2 M H locs ls hf hR hl
    unfold f_X8_parts_b20 at hf
    refine lv_istore_n (pc := 20) (lv' := [(3, .int s0), (0, .ref v0), (1, .int v1), (2, .int v2)]) hx hb dX8_parts_20 rfl hl (by decide) rfl (fun ls hl => ?_)
    refine lv_iload_n (pc := 21) hx hb dX8_parts_21 rfl (lv_at hl 0 rfl) ?_
    refine lv_iload_n (pc := 22) hx hb dX8_parts_22 rfl (lv_at hl 2 rfl) ?_
    refine lv_icmp_ne (pc := 23) (tgt := 30) hx hb dX8_parts_23 (by decide) (fun hc => ?_) (fun hc => ?_)
    · replace hf := it_f hf hc
      refine lv_iload_n (pc := 30) hx hb dX8_parts_30 rfl (lv_at hl 2 rfl) ?_
      exact hB31 v1 v0 v1 v2 s0 M _ _ _ hf hR (lv_sub hl [1, 2, 3, 0] rfl)
    · replace hf := it_t hf hc
      refine lv_iload_n (pc := 26) hx hb dX8_parts_26 rfl (lv_at hl 3 rfl) ?_
      refine lv_goto (pc := 27) (tgt := 31) hx hb dX8_parts_27 (by decide) ?_
      exact hB31 v2 v0 v1 v2 s0 M _ _ _ hf hR (lv_sub hl [1, 2, 3, 0] rfl)
  unfold f_X8_parts at hf
  refine lv_aload_n (pc := 0) hx hb dX8_parts_0 rfl (lv_at hl 0 rfl) ?_
  refine rg_getr (pc := 1) (C := RX8) (T := TX8) (N := 37) (κ := 8) hx hb hts hK hR hown in_8 rfl (by decide) 7 (by decide) m_675 rfl dX8_parts_1 hf (fun a12 hf => ?_)
  refine lv_iload_n (pc := 4) hx hb dX8_parts_4 rfl (lv_at hl 2 rfl) ?_
  refine rg_iald (pc := 5) hx hb hK hR dX8_parts_5 hf (fun hf => ?_)
  refine lv_aload_n (pc := 6) hx hb dX8_parts_6 rfl (lv_at hl 0 rfl) ?_
  refine rg_getr (pc := 7) (C := RX8) (T := TX8) (N := 37) (κ := 8) hx hb hts hK hR hown in_8 rfl (by decide) 7 (by decide) m_675 rfl dX8_parts_7 hf (fun a13 hf => ?_)
  refine lv_iload_n (pc := 10) hx hb dX8_parts_10 rfl (lv_at hl 1 rfl) ?_
  refine rg_iald (pc := 11) hx hb hK hR dX8_parts_11 hf (fun hf => ?_)
  refine lv_icmp_ge (pc := 12) (tgt := 19) hx hb dX8_parts_12 (by decide) (fun hc => ?_) (fun hc => ?_)
  · replace hf := it_t hf hc
    refine lv_iload_n (pc := 19) hx hb dX8_parts_19 rfl (lv_at hl 1 rfl) ?_
    exact hB20 v1 v0 v1 v2 M _ _ _ hf hR (lv_sub hl [0, 1, 2] rfl)
  · replace hf := it_f hf hc
    refine lv_iload_n (pc := 15) hx hb dX8_parts_15 rfl (lv_at hl 2 rfl) ?_
    refine lv_goto (pc := 16) (tgt := 20) hx hb dX8_parts_16 (by decide) ?_
    exact hB20 v2 v0 v1 v2 M _ _ _ hf hR (lv_sub hl [0, 1, 2] rfl)
-- X8_meets
def f_X8_meets_b207  (s0 : Int64) (s1 : Int64) (s2 : Int64) (s3 : Nat) (M : Mem) : Option (Mem) := gd (M.1 s3 = 8) <| lt_ (ms_l M s3 28 (s2 + (s1 - s0))) fun M1 => some M1
def f_X8_meets_b169  (v0 : Nat) (v1 : Int32) (v2 : Int32) (v5 : Int64) (v7 : Int32) (M : Mem) : Option (Mem) := gd (M.1 v0 = 8) <| gd (M.1 v0 = 8) <| bd (f_X8_momentumOf v0 v1 M) fun z2 => gd (z2.1.1 v0 = 8) <| bd (f_X8_momentumOf v0 v2 z2.1) fun z3 => gd (z3.1.1 v0 = 8) <| if (mm_i z3.1 v0 6) ≤ v7 then (f_X8_meets_b207 (0 : Int64) ((v5 - z2.2) - z3.2) (mm_l M v0 28) v0 z3.1) else (gd (z3.1.1 v0 = 8) <| bd (f_X8_momentumOf v0 v7 z3.1) fun z4 => f_X8_meets_b207 z4.2 ((v5 - z2.2) - z3.2) (mm_l M v0 28) v0 z4.1)
def f_X8_meets_b163  (v0 : Nat) (v1 : Int32) (v2 : Int32) (v5 : Int64) (v7 : Int32) (M : Mem) : Option (Mem) := gd (M.1 v0 = 8) <| bd (f_X8_parts v0 v1 v2 M) fun z5 => f_X8_meets_b169 v0 v1 v2 v5 v7 z5
def f_X8_meets_b73  (s0 : Int32) (v0 : Nat) (v1 : Int32) (v2 : Int32) (v3 : Int32) (M : Mem) : Option (Mem) := gd (M.1 v0 = 8) <| bd (f_X8_momentumOf v0 v1 M) fun z6 => gd (z6.1.1 v0 = 8) <| bd (f_X8_momentumOf v0 v2 z6.1) fun z7 => lt_ ((z6.2 + z7.2)) fun x8 => gd (z7.1.1 v0 = 8) <| lt_ ((mm_i z7.1 v0 6)) fun x9 => gd (z7.1.1 v0 = 8) <| if (mm_i z7.1 v0 3) < v3 then (gd (z7.1.1 v0 = 8) <| if v3 ≤ (mm_i z7.1 v0 4) then (f_X8_meets_b163 v0 v1 v2 x8 x9 z7.1) else (gd (z7.1.1 v0 = 8) <| rd (mm_r z7.1 v0 9) fun a10 => gd (z7.1.1 a10 = 9 ∧ vi_ s0 (mm_N z7.1 a10)) <| if (mm_i z7.1 a10 (s0).toNatClampNeg) ≤ (1 : Int32) then (f_X8_meets_b163 v0 v1 v2 x8 x9 z7.1) else (gd (z7.1.1 v0 = 8) <| if (80 : Int32) ≤ (mm_i z7.1 v0 6) then (f_X8_meets_b163 v0 v1 v2 x8 x9 z7.1) else (gd (z7.1.1 v0 = 8) <| bd (f_X8_breaks v0 s0 z7.1) fun z11 => f_X8_meets_b169 v0 v1 v2 x8 x9 z11)))) else (gd (z7.1.1 v0 = 8) <| bd (f_X8_sticks v0 v1 v2 z7.1) fun z12 => gd (z12.1 v0 = 8) <| gd (z12.1 v0 = 8) <| bd (f_X8_momentumOf v0 v1 z12) fun z13 => gd (z13.1.1 v0 = 8) <| lt_ (ms_l z13.1 v0 28 ((mm_l z12 v0 28) + (x8 - z13.2))) fun M14 => some M14)
def f_X8_meets (v0 : Nat) (v1 : Int32) (v2 : Int32) (M : Mem) : Option (Mem) := gd (M.1 v0 = 8) <| rd (mm_r M v0 13) fun a15 => gd (M.1 a15 = 10 ∧ vi_ v1 (mm_N M a15)) <| lt_ (ms_i M a15 (v1).toNatClampNeg (1 : Int32)) fun M16 => gd (M16.1 v0 = 8) <| rd (mm_r M16 v0 13) fun a17 => gd (M16.1 a17 = 10 ∧ vi_ v2 (mm_N M16 a17)) <| lt_ (ms_i M16 a17 (v2).toNatClampNeg (1 : Int32)) fun M18 => gd (M18.1 v0 = 8) <| rd (mm_r M18 v0 10) fun a19 => gd (M18.1 a19 = 9 ∧ vi_ v1 (mm_N M18 a19)) <| gd (M18.1 v0 = 8) <| rd (mm_r M18 v0 10) fun a20 => gd (M18.1 a20 = 9 ∧ vi_ v2 (mm_N M18 a20)) <| gd (M18.1 v0 = 8) <| rd (mm_r M18 v0 7) fun a21 => gd (M18.1 a21 = 9 ∧ vi_ v1 (mm_N M18 a21)) <| gd (M18.1 v0 = 8) <| bd (f_X8_speedOf v0 (mm_i M18 a21 (v1).toNatClampNeg) M18) fun z22 => gd (z22.1.1 v0 = 8) <| rd (mm_r z22.1 v0 7) fun a23 => gd (z22.1.1 a23 = 9 ∧ vi_ v2 (mm_N z22.1 a23)) <| gd (z22.1.1 v0 = 8) <| bd (f_X8_speedOf v0 (mm_i z22.1 a23 (v2).toNatClampNeg) z22.1) fun z24 => bd (f_X8_size (z22.2 - z24.2) z24.1) fun z25 => lt_ ((((mm_i M18 a19 (v1).toNatClampNeg) + (mm_i M18 a20 (v2).toNatClampNeg)) + z25.2)) fun x26 => gd (z25.1.1 v0 = 8) <| rd (mm_r z25.1 v0 9) fun a27 => gd (z25.1.1 a27 = 9 ∧ vi_ v1 (mm_N z25.1 a27)) <| gd (z25.1.1 v0 = 8) <| rd (mm_r z25.1 v0 9) fun a28 => gd (z25.1.1 a28 = 9 ∧ vi_ v2 (mm_N z25.1 a28)) <| if (mm_i z25.1 a28 (v2).toNatClampNeg) ≤ (mm_i z25.1 a27 (v1).toNatClampNeg) then (f_X8_meets_b73 v2 v0 v1 v2 x26 z25.1) else (f_X8_meets_b73 v1 v0 v1 v2 x26 z25.1)
abbrev rm_X8_meets : Room := { frames := 2, cells := 0, slots := 0, locals := 49 }
theorem hd_X8_meets : yX8_meets.cls ≠ "java/lang/invoke/MethodHandle" ∧ yX8_meets.cls ≠ "java/lang/invoke/VarHandle" ∧ (parseMethodDescriptor yX8_meets.desc).map (fun d => d.parameters.length) = some 2 := by decide +kernel
set_option maxHeartbeats 8000000 in
set_option maxRecDepth 100000 in
theorem c_X8_meets {l : Launch} {D : va_G} {ca : Nat → ClassId} {b : Nat} {nx : Bool} {v0 : Nat} {v1 : Int32} {v2 : Int32} {M : Mem} {r : Mem} (hf : f_X8_meets v0 v1 v2 M = some r) : CtV l yX8_meets cX8_meets 8 none rm_X8_meets D ca b nx [.ref v0, .int v1, .int v2] M r 0 0 := by
  intro sz
  refine body_start (Qc := fun A => cvV D ca nx A r) (by decide +kernel) (Nat.le_of_ble_eq_true rfl) ?_
  intro p e s m args below meth c A hC hr hR ls hl
  obtain ⟨hx, hb, hml, hts, hown, hlocks, hXe, hA, hAb, hnm⟩ := id hC
  have hK := hXe.1
  have hl : lv_has ls 8 [(0, .ref v0), (1, .int v1), (2, .int v2)] := hl
  have hB207 : ∀  (s0 : Int64) (s1 : Int64) (s2 : Int64) (s3 : Nat) (M : Mem) (H : Heap) (locs : List Loc) (ls : Array Slot), f_X8_meets_b207  s0 s1 s2 s3 M = some r → Hp D ca nx A s M H locs → lv_has ls 8 [] → W p l e rm_X8_meets s m args below meth c H locs 0 0 (MQ below (cvV D ca nx A r) args s 0 0 A) (F0 m 207 ls [.long s0, .long s1, .long s2, .ref s3]) := by
    intro  s0 s1 s2 s3 M H locs ls hf hR hl
    unfold f_X8_meets_b207 at hf
    refine lv_lsub (pc := 207) hx hb dX8_meets_207 ?_
    refine lv_ladd (pc := 208) hx hb dX8_meets_208 ?_
    refine rg_putl (pc := 209) (C := RX8) (T := TX8) (N := 37) (κ := 8) hx hb hts hK hR hown in_8 rfl (by decide) 28 (by decide) m_696 tyX8 tyX8_ok nmX8 rfl rfl rfl rfl dX8_meets_209 hf (fun M1 H locs hf hR => ?_)
    exact rg_vret (pc := 212) hx hb hlocks hr hf hR dX8_meets_212
  have hB169 : ∀  (v0 : Nat) (v1 : Int32) (v2 : Int32) (v5 : Int64) (v7 : Int32) (M : Mem) (H : Heap) (locs : List Loc) (ls : Array Slot), f_X8_meets_b169  v0 v1 v2 v5 v7 M = some r → Hp D ca nx A s M H locs → lv_has ls 8 [(0, .ref v0), (1, .int v1), (2, .int v2), (5, .long v5), (7, .int v7)] → W p l e rm_X8_meets s m args below meth c H locs 0 0 (MQ below (cvV D ca nx A r) args s 0 0 A) (F0 m 169 ls []) := by
    intro  v0 v1 v2 v5 v7 M H locs ls hf hR hl
    unfold f_X8_meets_b169 at hf
    refine lv_aload_n (pc := 169) hx hb dX8_meets_169 rfl (lv_at hl 0 rfl) ?_
    refine lv_dup (pc := 170) hx hb dX8_meets_170 rfl ?_
    refine rg_get (pc := 171) (C := RX8) (T := TX8) (N := 37) (κ := 8) (v := .long (mm_l M v0 28)) hx hb hts hK hR hown in_8 rfl (by decide) 28 (by decide) m_696 rfl dX8_meets_171 hf (fun hf => ?_)
    refine lv_lload (pc := 174) hx hb dX8_meets_174 (lv_at hl 3 rfl) ?_
    refine lv_aload_n (pc := 176) hx hb dX8_meets_176 rfl (lv_at hl 0 rfl) ?_
    refine lv_iload_n (pc := 177) hx hb dX8_meets_177 rfl (lv_at hl 1 rfl) ?_
    obtain ⟨hq, hf⟩ := gd_e hf
    refine rg_L (pc := 178) hf hR hA (fun z hz => rn_V (κ := 8) (As := [.int v1]) (rest := [.long v5, .long (mm_l M v0 28), .ref v0]) hC hR rfl (by decide) hq (c_X8_momentumOf  hz _) m_838 m_840 ms_15 m_9 m_841 hd_X8_momentumOf ⟨rfl, rfl, Nat.le_of_ble_eq_true rfl, Nat.le_of_ble_eq_true rfl⟩ rfl hl.1 rfl (Nat.le_of_ble_eq_true rfl) dX8_meets_178 ⟨Nat.le_of_ble_eq_true rfl, Nat.le_of_ble_eq_true rfl⟩) (fun z2 H locs hf hR => ?_)
    refine lv_lsub (pc := 181) hx hb dX8_meets_181 ?_
    refine lv_aload_n (pc := 182) hx hb dX8_meets_182 rfl (lv_at hl 0 rfl) ?_
    refine lv_iload_n (pc := 183) hx hb dX8_meets_183 rfl (lv_at hl 2 rfl) ?_
    obtain ⟨hq, hf⟩ := gd_e hf
    refine rg_L (pc := 184) hf hR hA (fun z hz => rn_V (κ := 8) (As := [.int v2]) (rest := [.long (v5 - z2.2), .long (mm_l M v0 28), .ref v0]) hC hR rfl (by decide) hq (c_X8_momentumOf  hz _) m_838 m_840 ms_15 m_9 m_841 hd_X8_momentumOf ⟨rfl, rfl, Nat.le_of_ble_eq_true rfl, Nat.le_of_ble_eq_true rfl⟩ rfl hl.1 rfl (Nat.le_of_ble_eq_true rfl) dX8_meets_184 ⟨Nat.le_of_ble_eq_true rfl, Nat.le_of_ble_eq_true rfl⟩) (fun z3 H locs hf hR => ?_)
    refine lv_lsub (pc := 187) hx hb dX8_meets_187 ?_
    refine lv_aload_n (pc := 188) hx hb dX8_meets_188 rfl (lv_at hl 0 rfl) ?_
    refine rg_get (pc := 189) (C := RX8) (T := TX8) (N := 37) (κ := 8) (v := .int (mm_i z3.1 v0 6)) hx hb hts hK hR hown in_8 rfl (by decide) 6 (by decide) m_674 rfl dX8_meets_189 hf (fun hf => ?_)
    refine lv_iload (pc := 192) hx hb dX8_meets_192 (lv_at hl 4 rfl) ?_
    refine lv_icmp_le (pc := 194) (tgt := 206) hx hb dX8_meets_194 (by decide) (fun hc => ?_) (fun hc => ?_)
    · replace hf := it_t hf hc
      refine lv_lconst (pc := 206) (v := (0 : Int64)) hx hb dX8_meets_206 (by decide) ?_
      exact hB207 (0 : Int64) ((v5 - z2.2) - z3.2) (mm_l M v0 28) v0 z3.1 _ _ _ hf hR (lv_sub hl [] rfl)
    · replace hf := it_f hf hc
      refine lv_aload_n (pc := 197) hx hb dX8_meets_197 rfl (lv_at hl 0 rfl) ?_
      refine lv_iload (pc := 198) hx hb dX8_meets_198 (lv_at hl 4 rfl) ?_
      obtain ⟨hq, hf⟩ := gd_e hf
      refine rg_L (pc := 200) hf hR hA (fun z hz => rn_V (κ := 8) (As := [.int v7]) (rest := [.long ((v5 - z2.2) - z3.2), .long (mm_l M v0 28), .ref v0]) hC hR rfl (by decide) hq (c_X8_momentumOf  hz _) m_838 m_840 ms_15 m_9 m_841 hd_X8_momentumOf ⟨rfl, rfl, Nat.le_of_ble_eq_true rfl, Nat.le_of_ble_eq_true rfl⟩ rfl hl.1 rfl (Nat.le_of_ble_eq_true rfl) dX8_meets_200 ⟨Nat.le_of_ble_eq_true rfl, Nat.le_of_ble_eq_true rfl⟩) (fun z4 H locs hf hR => ?_)
      refine lv_goto (pc := 203) (tgt := 207) hx hb dX8_meets_203 (by decide) ?_
      exact hB207 z4.2 ((v5 - z2.2) - z3.2) (mm_l M v0 28) v0 z4.1 _ _ _ hf hR (lv_sub hl [] rfl)
  have hB163 : ∀  (v0 : Nat) (v1 : Int32) (v2 : Int32) (v5 : Int64) (v7 : Int32) (M : Mem) (H : Heap) (locs : List Loc) (ls : Array Slot), f_X8_meets_b163  v0 v1 v2 v5 v7 M = some r → Hp D ca nx A s M H locs → lv_has ls 8 [(0, .ref v0), (1, .int v1), (2, .int v2), (5, .long v5), (7, .int v7)] → W p l e rm_X8_meets s m args below meth c H locs 0 0 (MQ below (cvV D ca nx A r) args s 0 0 A) (F0 m 163 ls []) := by
    intro  v0 v1 v2 v5 v7 M H locs ls hf hR hl
    unfold f_X8_meets_b163 at hf
    refine lv_aload_n (pc := 163) hx hb dX8_meets_163 rfl (lv_at hl 0 rfl) ?_
    refine lv_iload_n (pc := 164) hx hb dX8_meets_164 rfl (lv_at hl 1 rfl) ?_
    refine lv_iload_n (pc := 165) hx hb dX8_meets_165 rfl (lv_at hl 2 rfl) ?_
    obtain ⟨hq, hf⟩ := gd_e hf
    refine rg_V (pc := 166) hf hR hA (fun z hz => rn_V (κ := 8) (As := [.int v1, .int v2]) (rest := []) hC hR rfl (by decide) hq (c_X8_parts  hz _) m_862 m_864 ms_21 m_9 m_865 hd_X8_parts ⟨rfl, rfl, Nat.le_of_ble_eq_true rfl, Nat.le_of_ble_eq_true rfl⟩ rfl hl.1 rfl (Nat.le_of_ble_eq_true rfl) dX8_meets_166 ⟨Nat.le_of_ble_eq_true rfl, Nat.le_of_ble_eq_true rfl⟩) (fun z5 H locs hf hR => ?_)
    exact hB169 v0 v1 v2 v5 v7 z5 _ _ _ hf hR (lv_sub hl [0, 1, 2, 3, 4] rfl)
  have hB73 : ∀  (s0 : Int32) (v0 : Nat) (v1 : Int32) (v2 : Int32) (v3 : Int32) (M : Mem) (H : Heap) (locs : List Loc) (ls : Array Slot), f_X8_meets_b73  s0 v0 v1 v2 v3 M = some r → Hp D ca nx A s M H locs → lv_has ls 8 [(0, .ref v0), (1, .int v1), (2, .int v2), (3, .int v3)] → W p l e rm_X8_meets s m args below meth c H locs 0 0 (MQ below (cvV D ca nx A r) args s 0 0 A) (F0 m 73 ls [.int s0]) := by
    intro  s0 v0 v1 v2 v3 M H locs ls hf hR hl
    unfold f_X8_meets_b73 at hf
    refine lv_istore (pc := 73) (lv' := [(4, .int s0), (0, .ref v0), (1, .int v1), (2, .int v2), (3, .int v3)]) hx hb dX8_meets_73 hl (by decide) rfl (fun ls hl => ?_)
    refine lv_aload_n (pc := 75) hx hb dX8_meets_75 rfl (lv_at hl 1 rfl) ?_
    refine lv_iload_n (pc := 76) hx hb dX8_meets_76 rfl (lv_at hl 2 rfl) ?_
    obtain ⟨hq, hf⟩ := gd_e hf
    refine rg_L (pc := 77) hf hR hA (fun z hz => rn_V (κ := 8) (As := [.int v1]) (rest := []) hC hR rfl (by decide) hq (c_X8_momentumOf  hz _) m_838 m_840 ms_15 m_9 m_841 hd_X8_momentumOf ⟨rfl, rfl, Nat.le_of_ble_eq_true rfl, Nat.le_of_ble_eq_true rfl⟩ rfl hl.1 rfl (Nat.le_of_ble_eq_true rfl) dX8_meets_77 ⟨Nat.le_of_ble_eq_true rfl, Nat.le_of_ble_eq_true rfl⟩) (fun z6 H locs hf hR => ?_)
    refine lv_aload_n (pc := 80) hx hb dX8_meets_80 rfl (lv_at hl 1 rfl) ?_
    refine lv_iload_n (pc := 81) hx hb dX8_meets_81 rfl (lv_at hl 3 rfl) ?_
    obtain ⟨hq, hf⟩ := gd_e hf
    refine rg_L (pc := 82) hf hR hA (fun z hz => rn_V (κ := 8) (As := [.int v2]) (rest := [.long z6.2]) hC hR rfl (by decide) hq (c_X8_momentumOf  hz _) m_838 m_840 ms_15 m_9 m_841 hd_X8_momentumOf ⟨rfl, rfl, Nat.le_of_ble_eq_true rfl, Nat.le_of_ble_eq_true rfl⟩ rfl hl.1 rfl (Nat.le_of_ble_eq_true rfl) dX8_meets_82 ⟨Nat.le_of_ble_eq_true rfl, Nat.le_of_ble_eq_true rfl⟩) (fun z7 H locs hf hR => ?_)
    refine lv_ladd (pc := 85) hx hb dX8_meets_85 ?_
    refine nm_l hf (fun x8 hf => ?_)
    refine lv_lstore (pc := 86) (lv' := [(5, .long x8), (4, .int s0), (0, .ref v0), (1, .int v1), (2, .int v2), (3, .int v3)]) hx hb dX8_meets_86 hl (by decide) rfl (fun ls hl => ?_)
    refine lv_aload_n (pc := 88) hx hb dX8_meets_88 rfl (lv_at hl 2 rfl) ?_
    refine rg_get (pc := 89) (C := RX8) (T := TX8) (N := 37) (κ := 8) (v := .int (mm_i z7.1 v0 6)) hx hb hts hK hR hown in_8 rfl (by decide) 6 (by decide) m_674 rfl dX8_meets_89 hf (fun hf => ?_)
    refine nm_i hf (fun x9 hf => ?_)
    refine lv_istore (pc := 92) (lv' := [(7, .int x9), (5, .long x8), (4, .int s0), (0, .ref v0), (1, .int v1), (2, .int v2), (3, .int v3)]) hx hb dX8_meets_92 hl (by decide) rfl (fun ls hl => ?_)
    refine lv_iload_n (pc := 94) hx hb dX8_meets_94 rfl (lv_at hl 6 rfl) ?_
    refine lv_aload_n (pc := 95) hx hb dX8_meets_95 rfl (lv_at hl 3 rfl) ?_
    refine rg_get (pc := 96) (C := RX8) (T := TX8) (N := 37) (κ := 8) (v := .int (mm_i z7.1 v0 3)) hx hb hts hK hR hown in_8 rfl (by decide) 3 (by decide) m_671 rfl dX8_meets_96 hf (fun hf => ?_)
    refine lv_icmp_gt (pc := 99) (tgt := 126) hx hb dX8_meets_99 (by decide) (fun hc => ?_) (fun hc => ?_)
    · replace hf := it_t hf hc
      refine lv_iload_n (pc := 126) hx hb dX8_meets_126 rfl (lv_at hl 6 rfl) ?_
      refine lv_aload_n (pc := 127) hx hb dX8_meets_127 rfl (lv_at hl 3 rfl) ?_
      refine rg_get (pc := 128) (C := RX8) (T := TX8) (N := 37) (κ := 8) (v := .int (mm_i z7.1 v0 4)) hx hb hts hK hR hown in_8 rfl (by decide) 4 (by decide) m_672 rfl dX8_meets_128 hf (fun hf => ?_)
      refine lv_icmp_le (pc := 131) (tgt := 163) hx hb dX8_meets_131 (by decide) (fun hc => ?_) (fun hc => ?_)
      · replace hf := it_t hf hc
        exact hB163 v0 v1 v2 x8 x9 z7.1 _ _ _ hf hR (lv_sub hl [3, 4, 5, 1, 0] rfl)
      · replace hf := it_f hf hc
        refine lv_aload_n (pc := 134) hx hb dX8_meets_134 rfl (lv_at hl 3 rfl) ?_
        refine rg_getr (pc := 135) (C := RX8) (T := TX8) (N := 37) (κ := 8) hx hb hts hK hR hown in_8 rfl (by decide) 9 (by decide) m_677 rfl dX8_meets_135 hf (fun a10 hf => ?_)
        refine lv_iload (pc := 138) hx hb dX8_meets_138 (lv_at hl 2 rfl) ?_
        refine rg_iald (pc := 140) hx hb hK hR dX8_meets_140 hf (fun hf => ?_)
        refine lv_iconst (pc := 141) (v := (1 : Int32)) hx hb dX8_meets_141 (by decide) ?_
        refine lv_icmp_le (pc := 142) (tgt := 163) hx hb dX8_meets_142 (by decide) (fun hc => ?_) (fun hc => ?_)
        · replace hf := it_t hf hc
          exact hB163 v0 v1 v2 x8 x9 z7.1 _ _ _ hf hR (lv_sub hl [3, 4, 5, 1, 0] rfl)
        · replace hf := it_f hf hc
          refine lv_aload_n (pc := 145) hx hb dX8_meets_145 rfl (lv_at hl 3 rfl) ?_
          refine rg_get (pc := 146) (C := RX8) (T := TX8) (N := 37) (κ := 8) (v := .int (mm_i z7.1 v0 6)) hx hb hts hK hR hown in_8 rfl (by decide) 6 (by decide) m_674 rfl dX8_meets_146 hf (fun hf => ?_)
          refine lv_bipush (pc := 149) (v := (80 : Int32)) hx hb dX8_meets_149 (by decide) ?_
          refine lv_icmp_ge (pc := 151) (tgt := 163) hx hb dX8_meets_151 (by decide) (fun hc => ?_) (fun hc => ?_)
          · replace hf := it_t hf hc
            exact hB163 v0 v1 v2 x8 x9 z7.1 _ _ _ hf hR (lv_sub hl [3, 4, 5, 1, 0] rfl)
          · replace hf := it_f hf hc
            refine lv_aload_n (pc := 154) hx hb dX8_meets_154 rfl (lv_at hl 3 rfl) ?_
            refine lv_iload (pc := 155) hx hb dX8_meets_155 (lv_at hl 2 rfl) ?_
            obtain ⟨hq, hf⟩ := gd_e hf
            refine rg_V (pc := 157) hf hR hA (fun z hz => rn_V (κ := 8) (As := [.int s0]) (rest := []) hC hR rfl (by decide) hq (c_X8_breaks  hz _) m_858 m_860 ms_20 m_9 m_861 hd_X8_breaks ⟨rfl, rfl, Nat.le_of_ble_eq_true rfl, Nat.le_of_ble_eq_true rfl⟩ rfl hl.1 rfl (Nat.le_of_ble_eq_true rfl) dX8_meets_157 ⟨Nat.le_of_ble_eq_true rfl, Nat.le_of_ble_eq_true rfl⟩) (fun z11 H locs hf hR => ?_)
            refine lv_goto (pc := 160) (tgt := 169) hx hb dX8_meets_160 (by decide) ?_
            exact hB169 v0 v1 v2 x8 x9 z11 _ _ _ hf hR (lv_sub hl [3, 4, 5, 1, 0] rfl)
    · replace hf := it_f hf hc
      refine lv_aload_n (pc := 102) hx hb dX8_meets_102 rfl (lv_at hl 3 rfl) ?_
      refine lv_iload_n (pc := 103) hx hb dX8_meets_103 rfl (lv_at hl 4 rfl) ?_
      refine lv_iload_n (pc := 104) hx hb dX8_meets_104 rfl (lv_at hl 5 rfl) ?_
      obtain ⟨hq, hf⟩ := gd_e hf
      refine rg_V (pc := 105) hf hR hA (fun z hz => rn_V (κ := 8) (As := [.int v1, .int v2]) (rest := []) hC hR rfl (by decide) hq (c_X8_sticks  hz _) m_854 m_856 ms_19 m_9 m_857 hd_X8_sticks ⟨rfl, rfl, Nat.le_of_ble_eq_true rfl, Nat.le_of_ble_eq_true rfl⟩ rfl hl.1 rfl (Nat.le_of_ble_eq_true rfl) dX8_meets_105 ⟨Nat.le_of_ble_eq_true rfl, Nat.le_of_ble_eq_true rfl⟩) (fun z12 H locs hf hR => ?_)
      refine lv_aload_n (pc := 108) hx hb dX8_meets_108 rfl (lv_at hl 3 rfl) ?_
      refine lv_dup (pc := 109) hx hb dX8_meets_109 rfl ?_
      refine rg_get (pc := 110) (C := RX8) (T := TX8) (N := 37) (κ := 8) (v := .long (mm_l z12 v0 28)) hx hb hts hK hR hown in_8 rfl (by decide) 28 (by decide) m_696 rfl dX8_meets_110 hf (fun hf => ?_)
      refine lv_lload (pc := 113) hx hb dX8_meets_113 (lv_at hl 1 rfl) ?_
      refine lv_aload_n (pc := 115) hx hb dX8_meets_115 rfl (lv_at hl 3 rfl) ?_
      refine lv_iload_n (pc := 116) hx hb dX8_meets_116 rfl (lv_at hl 4 rfl) ?_
      obtain ⟨hq, hf⟩ := gd_e hf
      refine rg_L (pc := 117) hf hR hA (fun z hz => rn_V (κ := 8) (As := [.int v1]) (rest := [.long x8, .long (mm_l z12 v0 28), .ref v0]) hC hR rfl (by decide) hq (c_X8_momentumOf  hz _) m_838 m_840 ms_15 m_9 m_841 hd_X8_momentumOf ⟨rfl, rfl, Nat.le_of_ble_eq_true rfl, Nat.le_of_ble_eq_true rfl⟩ rfl hl.1 rfl (Nat.le_of_ble_eq_true rfl) dX8_meets_117 ⟨Nat.le_of_ble_eq_true rfl, Nat.le_of_ble_eq_true rfl⟩) (fun z13 H locs hf hR => ?_)
      refine lv_lsub (pc := 120) hx hb dX8_meets_120 ?_
      refine lv_ladd (pc := 121) hx hb dX8_meets_121 ?_
      refine rg_putl (pc := 122) (C := RX8) (T := TX8) (N := 37) (κ := 8) hx hb hts hK hR hown in_8 rfl (by decide) 28 (by decide) m_696 tyX8 tyX8_ok nmX8 rfl rfl rfl rfl dX8_meets_122 hf (fun M14 H locs hf hR => ?_)
      exact rg_vret (pc := 125) hx hb hlocks hr hf hR dX8_meets_125
  unfold f_X8_meets at hf
  refine lv_aload_n (pc := 0) hx hb dX8_meets_0 rfl (lv_at hl 0 rfl) ?_
  refine rg_getr (pc := 1) (C := RX8) (T := TX8) (N := 37) (κ := 8) hx hb hts hK hR hown in_8 rfl (by decide) 13 (by decide) m_681 rfl dX8_meets_1 hf (fun a15 hf => ?_)
  refine lv_iload_n (pc := 4) hx hb dX8_meets_4 rfl (lv_at hl 1 rfl) ?_
  refine lv_iconst (pc := 5) (v := (1 : Int32)) hx hb dX8_meets_5 (by decide) ?_
  refine rg_zast (pc := 6) hx hb hK hR rfl dX8_meets_6 hf (fun M16 H locs hf hR => ?_)
  refine lv_aload_n (pc := 7) hx hb dX8_meets_7 rfl (lv_at hl 0 rfl) ?_
  refine rg_getr (pc := 8) (C := RX8) (T := TX8) (N := 37) (κ := 8) hx hb hts hK hR hown in_8 rfl (by decide) 13 (by decide) m_681 rfl dX8_meets_8 hf (fun a17 hf => ?_)
  refine lv_iload_n (pc := 11) hx hb dX8_meets_11 rfl (lv_at hl 2 rfl) ?_
  refine lv_iconst (pc := 12) (v := (1 : Int32)) hx hb dX8_meets_12 (by decide) ?_
  refine rg_zast (pc := 13) hx hb hK hR rfl dX8_meets_13 hf (fun M18 H locs hf hR => ?_)
  refine lv_aload_n (pc := 14) hx hb dX8_meets_14 rfl (lv_at hl 0 rfl) ?_
  refine rg_getr (pc := 15) (C := RX8) (T := TX8) (N := 37) (κ := 8) hx hb hts hK hR hown in_8 rfl (by decide) 10 (by decide) m_678 rfl dX8_meets_15 hf (fun a19 hf => ?_)
  refine lv_iload_n (pc := 18) hx hb dX8_meets_18 rfl (lv_at hl 1 rfl) ?_
  refine rg_iald (pc := 19) hx hb hK hR dX8_meets_19 hf (fun hf => ?_)
  refine lv_aload_n (pc := 20) hx hb dX8_meets_20 rfl (lv_at hl 0 rfl) ?_
  refine rg_getr (pc := 21) (C := RX8) (T := TX8) (N := 37) (κ := 8) hx hb hts hK hR hown in_8 rfl (by decide) 10 (by decide) m_678 rfl dX8_meets_21 hf (fun a20 hf => ?_)
  refine lv_iload_n (pc := 24) hx hb dX8_meets_24 rfl (lv_at hl 2 rfl) ?_
  refine rg_iald (pc := 25) hx hb hK hR dX8_meets_25 hf (fun hf => ?_)
  refine lv_iadd (pc := 26) hx hb dX8_meets_26 ?_
  refine lv_aload_n (pc := 27) hx hb dX8_meets_27 rfl (lv_at hl 0 rfl) ?_
  refine lv_aload_n (pc := 28) hx hb dX8_meets_28 rfl (lv_at hl 0 rfl) ?_
  refine rg_getr (pc := 29) (C := RX8) (T := TX8) (N := 37) (κ := 8) hx hb hts hK hR hown in_8 rfl (by decide) 7 (by decide) m_675 rfl dX8_meets_29 hf (fun a21 hf => ?_)
  refine lv_iload_n (pc := 32) hx hb dX8_meets_32 rfl (lv_at hl 1 rfl) ?_
  refine rg_iald (pc := 33) hx hb hK hR dX8_meets_33 hf (fun hf => ?_)
  obtain ⟨hq, hf⟩ := gd_e hf
  refine rg_I (pc := 34) hf hR hA (fun z hz => rn_V (κ := 8) (As := [.int (mm_i M18 a21 (v1).toNatClampNeg)]) (rest := [.int ((mm_i M18 a19 (v1).toNatClampNeg) + (mm_i M18 a20 (v2).toNatClampNeg))]) hC hR rfl (by decide) hq (c_X8_speedOf  hz _) m_820 m_822 ms_13 m_9 m_823 hd_X8_speedOf ⟨rfl, rfl, Nat.le_of_ble_eq_true rfl, Nat.le_of_ble_eq_true rfl⟩ rfl hl.1 rfl (Nat.le_of_ble_eq_true rfl) dX8_meets_34 ⟨Nat.le_of_ble_eq_true rfl, Nat.le_of_ble_eq_true rfl⟩) (fun z22 H locs hf hR => ?_)
  refine lv_aload_n (pc := 37) hx hb dX8_meets_37 rfl (lv_at hl 0 rfl) ?_
  refine lv_aload_n (pc := 38) hx hb dX8_meets_38 rfl (lv_at hl 0 rfl) ?_
  refine rg_getr (pc := 39) (C := RX8) (T := TX8) (N := 37) (κ := 8) hx hb hts hK hR hown in_8 rfl (by decide) 7 (by decide) m_675 rfl dX8_meets_39 hf (fun a23 hf => ?_)
  refine lv_iload_n (pc := 42) hx hb dX8_meets_42 rfl (lv_at hl 2 rfl) ?_
  refine rg_iald (pc := 43) hx hb hK hR dX8_meets_43 hf (fun hf => ?_)
  obtain ⟨hq, hf⟩ := gd_e hf
  refine rg_I (pc := 44) hf hR hA (fun z hz => rn_V (κ := 8) (As := [.int (mm_i z22.1 a23 (v2).toNatClampNeg)]) (rest := [.int z22.2, .int ((mm_i M18 a19 (v1).toNatClampNeg) + (mm_i M18 a20 (v2).toNatClampNeg))]) hC hR rfl (by decide) hq (c_X8_speedOf  hz _) m_820 m_822 ms_13 m_9 m_823 hd_X8_speedOf ⟨rfl, rfl, Nat.le_of_ble_eq_true rfl, Nat.le_of_ble_eq_true rfl⟩ rfl hl.1 rfl (Nat.le_of_ble_eq_true rfl) dX8_meets_44 ⟨Nat.le_of_ble_eq_true rfl, Nat.le_of_ble_eq_true rfl⟩) (fun z24 H locs hf hR => ?_)
  refine lv_isub (pc := 47) hx hb dX8_meets_47 ?_
  refine rg_I (pc := 48) hf hR hA (fun z hz => rn_S (As := [.int (z22.2 - z24.2)]) (rest := [.int ((mm_i M18 a19 (v1).toNatClampNeg) + (mm_i M18 a20 (v2).toNatClampNeg))]) hC hR (c_X8_size  hz _) m_832 m_833 m_9 m_834 hd_X8_size ⟨rfl, rfl, Nat.le_of_ble_eq_true rfl, Nat.le_of_ble_eq_true rfl⟩ rfl hl.1 rfl (Nat.le_of_ble_eq_true rfl) dX8_meets_48 ⟨Nat.le_of_ble_eq_true rfl, Nat.le_of_ble_eq_true rfl⟩) (fun z25 H locs hf hR => ?_)
  refine lv_iadd (pc := 51) hx hb dX8_meets_51 ?_
  refine nm_i hf (fun x26 hf => ?_)
  refine lv_istore_n (pc := 52) (lv' := [(3, .int x26), (0, .ref v0), (1, .int v1), (2, .int v2)]) hx hb dX8_meets_52 rfl hl (by decide) rfl (fun ls hl => ?_)
  refine lv_aload_n (pc := 53) hx hb dX8_meets_53 rfl (lv_at hl 1 rfl) ?_
  refine rg_getr (pc := 54) (C := RX8) (T := TX8) (N := 37) (κ := 8) hx hb hts hK hR hown in_8 rfl (by decide) 9 (by decide) m_677 rfl dX8_meets_54 hf (fun a27 hf => ?_)
  refine lv_iload_n (pc := 57) hx hb dX8_meets_57 rfl (lv_at hl 2 rfl) ?_
  refine rg_iald (pc := 58) hx hb hK hR dX8_meets_58 hf (fun hf => ?_)
  refine lv_aload_n (pc := 59) hx hb dX8_meets_59 rfl (lv_at hl 1 rfl) ?_
  refine rg_getr (pc := 60) (C := RX8) (T := TX8) (N := 37) (κ := 8) hx hb hts hK hR hown in_8 rfl (by decide) 9 (by decide) m_677 rfl dX8_meets_60 hf (fun a28 hf => ?_)
  refine lv_iload_n (pc := 63) hx hb dX8_meets_63 rfl (lv_at hl 3 rfl) ?_
  refine rg_iald (pc := 64) hx hb hK hR dX8_meets_64 hf (fun hf => ?_)
  refine lv_icmp_ge (pc := 65) (tgt := 72) hx hb dX8_meets_65 (by decide) (fun hc => ?_) (fun hc => ?_)
  · replace hf := it_t hf hc
    refine lv_iload_n (pc := 72) hx hb dX8_meets_72 rfl (lv_at hl 3 rfl) ?_
    exact hB73 v2 v0 v1 v2 x26 z25.1 _ _ _ hf hR (lv_sub hl [1, 2, 3, 0] rfl)
  · replace hf := it_f hf hc
    refine lv_iload_n (pc := 68) hx hb dX8_meets_68 rfl (lv_at hl 2 rfl) ?_
    refine lv_goto (pc := 69) (tgt := 73) hx hb dX8_meets_69 (by decide) ?_
    exact hB73 v1 v0 v1 v2 x26 z25.1 _ _ _ hf hR (lv_sub hl [1, 2, 3, 0] rfl)
-- X8_canMeet
def f_X8_canMeet_b91  (s0 : Int32) (M : Mem) : Option (Mem × Int32) := gd (s0 = 0 ∨ s0 = 1) <| some (M, s0)
def f_X8_canMeet_b90   (M : Mem) : Option (Mem × Int32) := f_X8_canMeet_b91 (0 : Int32) M
def f_X8_canMeet_b41  (s0 : Int32) (v0 : Nat) (v1 : Int32) (v2 : Int32) (M : Mem) : Option (Mem × Int32) := if s0 = 0 then (f_X8_canMeet_b90  M) else (gd (M.1 v0 = 8) <| rd (mm_r M v0 7) fun a1 => gd (M.1 a1 = 9 ∧ vi_ v1 (mm_N M a1)) <| gd (M.1 v0 = 8) <| rd (mm_r M v0 7) fun a2 => gd (M.1 a2 = 9 ∧ vi_ v2 (mm_N M a2)) <| bd (f_X8_size ((mm_i M a1 (v1).toNatClampNeg) - (mm_i M a2 (v2).toNatClampNeg)) M) fun z3 => if (1 : Int32) < z3.2 then (f_X8_canMeet_b90  z3.1) else (gd (z3.1.1 v0 = 8) <| rd (mm_r z3.1 v0 8) fun a4 => gd (z3.1.1 a4 = 9 ∧ vi_ v1 (mm_N z3.1 a4)) <| gd (z3.1.1 v0 = 8) <| rd (mm_r z3.1 v0 8) fun a5 => gd (z3.1.1 a5 = 9 ∧ vi_ v2 (mm_N z3.1 a5)) <| bd (f_X8_apart (mm_i z3.1 a4 (v1).toNatClampNeg) (mm_i z3.1 a5 (v2).toNatClampNeg) z3.1) fun z6 => if (100 : Int32) < z6.2 then (f_X8_canMeet_b90  z6.1) else (f_X8_canMeet_b91 (1 : Int32) z6.1)))
def f_X8_canMeet_b40  (v0 : Nat) (v1 : Int32) (v2 : Int32) (M : Mem) : Option (Mem × Int32) := f_X8_canMeet_b41 (0 : Int32) v0 v1 v2 M
def f_X8_canMeet (v0 : Nat) (v1 : Int32) (v2 : Int32) (M : Mem) : Option (Mem × Int32) := gd (M.1 v0 = 8) <| rd (mm_r M v0 12) fun a7 => gd (M.1 a7 = 10 ∧ vi_ v1 (mm_N M a7)) <| if (mm_i M a7 (v1).toNatClampNeg) = 0 then (f_X8_canMeet_b40 v0 v1 v2 M) else (gd (M.1 v0 = 8) <| rd (mm_r M v0 12) fun a8 => gd (M.1 a8 = 10 ∧ vi_ v2 (mm_N M a8)) <| if (mm_i M a8 (v2).toNatClampNeg) = 0 then (f_X8_canMeet_b40 v0 v1 v2 M) else (gd (M.1 v0 = 8) <| rd (mm_r M v0 13) fun a9 => gd (M.1 a9 = 10 ∧ vi_ v1 (mm_N M a9)) <| if (mm_i M a9 (v1).toNatClampNeg) = 0 then (gd (M.1 v0 = 8) <| rd (mm_r M v0 13) fun a10 => gd (M.1 a10 = 10 ∧ vi_ v2 (mm_N M a10)) <| if (mm_i M a10 (v2).toNatClampNeg) = 0 then (f_X8_canMeet_b41 (1 : Int32) v0 v1 v2 M) else (f_X8_canMeet_b40 v0 v1 v2 M)) else (f_X8_canMeet_b40 v0 v1 v2 M)))
abbrev rm_X8_canMeet : Room := { frames := 2, cells := 0, slots := 0, locals := 42 }
theorem hd_X8_canMeet : yX8_canMeet.cls ≠ "java/lang/invoke/MethodHandle" ∧ yX8_canMeet.cls ≠ "java/lang/invoke/VarHandle" ∧ (parseMethodDescriptor yX8_canMeet.desc).map (fun d => d.parameters.length) = some 2 := by decide +kernel
set_option maxHeartbeats 8000000 in
set_option maxRecDepth 100000 in
theorem c_X8_canMeet {l : Launch} {D : va_G} {ca : Nat → ClassId} {b : Nat} {nx : Bool} {v0 : Nat} {v1 : Int32} {v2 : Int32} {M : Mem} {r : Mem × Int32} (hf : f_X8_canMeet v0 v1 v2 M = some r) : CtI l yX8_canMeet cX8_canMeet 4 (some .boolean) rm_X8_canMeet D ca b nx [.ref v0, .int v1, .int v2] M r := by
  intro sz
  refine body_start (Qc := fun A => cvI D ca nx A r) (by decide +kernel) (Nat.le_of_ble_eq_true rfl) ?_
  intro p e s m args below meth c A hC hr hR ls hl
  obtain ⟨hx, hb, hml, hts, hown, hlocks, hXe, hA, hAb, hnm⟩ := id hC
  have hK := hXe.1
  have hl : lv_has ls 4 [(0, .ref v0), (1, .int v1), (2, .int v2)] := hl
  have hB91 : ∀  (s0 : Int32) (M : Mem) (H : Heap) (locs : List Loc) (ls : Array Slot), f_X8_canMeet_b91  s0 M = some r → Hp D ca nx A s M H locs → lv_has ls 4 [] → W p l e rm_X8_canMeet s m args below meth c H locs 0 0 (MQ below (cvI D ca nx A r) args s 0 0 A) (F0 m 91 ls [.int s0]) := by
    intro  s0 M H locs ls hf hR hl
    unfold f_X8_canMeet_b91 at hf
    exact rg_zret (pc := 91) hx hb hlocks hr hf hR dX8_canMeet_91
  have hB90 : ∀   (M : Mem) (H : Heap) (locs : List Loc) (ls : Array Slot), f_X8_canMeet_b90   M = some r → Hp D ca nx A s M H locs → lv_has ls 4 [] → W p l e rm_X8_canMeet s m args below meth c H locs 0 0 (MQ below (cvI D ca nx A r) args s 0 0 A) (F0 m 90 ls []) := by
    intro   M H locs ls hf hR hl
    unfold f_X8_canMeet_b90 at hf
    refine lv_iconst (pc := 90) (v := (0 : Int32)) hx hb dX8_canMeet_90 (by decide) ?_
    exact hB91 (0 : Int32) M _ _ _ hf hR (lv_sub hl [] rfl)
  have hB41 : ∀  (s0 : Int32) (v0 : Nat) (v1 : Int32) (v2 : Int32) (M : Mem) (H : Heap) (locs : List Loc) (ls : Array Slot), f_X8_canMeet_b41  s0 v0 v1 v2 M = some r → Hp D ca nx A s M H locs → lv_has ls 4 [(0, .ref v0), (1, .int v1), (2, .int v2)] → W p l e rm_X8_canMeet s m args below meth c H locs 0 0 (MQ below (cvI D ca nx A r) args s 0 0 A) (F0 m 41 ls [.int s0]) := by
    intro  s0 v0 v1 v2 M H locs ls hf hR hl
    unfold f_X8_canMeet_b41 at hf
    refine lv_istore_n (pc := 41) (lv' := [(3, .int s0), (0, .ref v0), (1, .int v1), (2, .int v2)]) hx hb dX8_canMeet_41 rfl hl (by decide) rfl (fun ls hl => ?_)
    refine lv_iload_n (pc := 42) hx hb dX8_canMeet_42 rfl (lv_at hl 0 rfl) ?_
    refine lv_if_eq (pc := 43) (tgt := 90) hx hb dX8_canMeet_43 (by decide) (fun hc => ?_) (fun hc => ?_)
    · replace hf := it_t hf hc
      exact hB90  M _ _ _ hf hR (lv_sub hl [] rfl)
    · replace hf := it_f hf hc
      refine lv_aload_n (pc := 46) hx hb dX8_canMeet_46 rfl (lv_at hl 1 rfl) ?_
      refine rg_getr (pc := 47) (C := RX8) (T := TX8) (N := 37) (κ := 8) hx hb hts hK hR hown in_8 rfl (by decide) 7 (by decide) m_675 rfl dX8_canMeet_47 hf (fun a1 hf => ?_)
      refine lv_iload_n (pc := 50) hx hb dX8_canMeet_50 rfl (lv_at hl 2 rfl) ?_
      refine rg_iald (pc := 51) hx hb hK hR dX8_canMeet_51 hf (fun hf => ?_)
      refine lv_aload_n (pc := 52) hx hb dX8_canMeet_52 rfl (lv_at hl 1 rfl) ?_
      refine rg_getr (pc := 53) (C := RX8) (T := TX8) (N := 37) (κ := 8) hx hb hts hK hR hown in_8 rfl (by decide) 7 (by decide) m_675 rfl dX8_canMeet_53 hf (fun a2 hf => ?_)
      refine lv_iload_n (pc := 56) hx hb dX8_canMeet_56 rfl (lv_at hl 3 rfl) ?_
      refine rg_iald (pc := 57) hx hb hK hR dX8_canMeet_57 hf (fun hf => ?_)
      refine lv_isub (pc := 58) hx hb dX8_canMeet_58 ?_
      refine rg_I (pc := 59) hf hR hA (fun z hz => rn_S (As := [.int ((mm_i M a1 (v1).toNatClampNeg) - (mm_i M a2 (v2).toNatClampNeg))]) (rest := []) hC hR (c_X8_size  hz _) m_832 m_833 m_9 m_834 hd_X8_size ⟨rfl, rfl, Nat.le_of_ble_eq_true rfl, Nat.le_of_ble_eq_true rfl⟩ rfl hl.1 rfl (Nat.le_of_ble_eq_true rfl) dX8_canMeet_59 ⟨Nat.le_of_ble_eq_true rfl, Nat.le_of_ble_eq_true rfl⟩) (fun z3 H locs hf hR => ?_)
      refine lv_iconst (pc := 62) (v := (1 : Int32)) hx hb dX8_canMeet_62 (by decide) ?_
      refine lv_icmp_gt (pc := 63) (tgt := 90) hx hb dX8_canMeet_63 (by decide) (fun hc => ?_) (fun hc => ?_)
      · replace hf := it_t hf hc
        exact hB90  z3.1 _ _ _ hf hR (lv_sub hl [] rfl)
      · replace hf := it_f hf hc
        refine lv_aload_n (pc := 66) hx hb dX8_canMeet_66 rfl (lv_at hl 1 rfl) ?_
        refine rg_getr (pc := 67) (C := RX8) (T := TX8) (N := 37) (κ := 8) hx hb hts hK hR hown in_8 rfl (by decide) 8 (by decide) m_676 rfl dX8_canMeet_67 hf (fun a4 hf => ?_)
        refine lv_iload_n (pc := 70) hx hb dX8_canMeet_70 rfl (lv_at hl 2 rfl) ?_
        refine rg_iald (pc := 71) hx hb hK hR dX8_canMeet_71 hf (fun hf => ?_)
        refine lv_aload_n (pc := 72) hx hb dX8_canMeet_72 rfl (lv_at hl 1 rfl) ?_
        refine rg_getr (pc := 73) (C := RX8) (T := TX8) (N := 37) (κ := 8) hx hb hts hK hR hown in_8 rfl (by decide) 8 (by decide) m_676 rfl dX8_canMeet_73 hf (fun a5 hf => ?_)
        refine lv_iload_n (pc := 76) hx hb dX8_canMeet_76 rfl (lv_at hl 3 rfl) ?_
        refine rg_iald (pc := 77) hx hb hK hR dX8_canMeet_77 hf (fun hf => ?_)
        refine rg_I (pc := 78) hf hR hA (fun z hz => rn_S (As := [.int (mm_i z3.1 a4 (v1).toNatClampNeg), .int (mm_i z3.1 a5 (v2).toNatClampNeg)]) (rest := []) hC hR (c_X8_apart  hz _) m_835 m_836 m_9 m_837 hd_X8_apart ⟨rfl, rfl, Nat.le_of_ble_eq_true rfl, Nat.le_of_ble_eq_true rfl⟩ rfl hl.1 rfl (Nat.le_of_ble_eq_true rfl) dX8_canMeet_78 ⟨Nat.le_of_ble_eq_true rfl, Nat.le_of_ble_eq_true rfl⟩) (fun z6 H locs hf hR => ?_)
        refine lv_bipush (pc := 81) (v := (100 : Int32)) hx hb dX8_canMeet_81 (by decide) ?_
        refine lv_icmp_gt (pc := 83) (tgt := 90) hx hb dX8_canMeet_83 (by decide) (fun hc => ?_) (fun hc => ?_)
        · replace hf := it_t hf hc
          exact hB90  z6.1 _ _ _ hf hR (lv_sub hl [] rfl)
        · replace hf := it_f hf hc
          refine lv_iconst (pc := 86) (v := (1 : Int32)) hx hb dX8_canMeet_86 (by decide) ?_
          refine lv_goto (pc := 87) (tgt := 91) hx hb dX8_canMeet_87 (by decide) ?_
          exact hB91 (1 : Int32) z6.1 _ _ _ hf hR (lv_sub hl [] rfl)
  have hB40 : ∀  (v0 : Nat) (v1 : Int32) (v2 : Int32) (M : Mem) (H : Heap) (locs : List Loc) (ls : Array Slot), f_X8_canMeet_b40  v0 v1 v2 M = some r → Hp D ca nx A s M H locs → lv_has ls 4 [(0, .ref v0), (1, .int v1), (2, .int v2)] → W p l e rm_X8_canMeet s m args below meth c H locs 0 0 (MQ below (cvI D ca nx A r) args s 0 0 A) (F0 m 40 ls []) := by
    intro  v0 v1 v2 M H locs ls hf hR hl
    unfold f_X8_canMeet_b40 at hf
    refine lv_iconst (pc := 40) (v := (0 : Int32)) hx hb dX8_canMeet_40 (by decide) ?_
    exact hB41 (0 : Int32) v0 v1 v2 M _ _ _ hf hR (lv_sub hl [0, 1, 2] rfl)
  unfold f_X8_canMeet at hf
  refine lv_aload_n (pc := 0) hx hb dX8_canMeet_0 rfl (lv_at hl 0 rfl) ?_
  refine rg_getr (pc := 1) (C := RX8) (T := TX8) (N := 37) (κ := 8) hx hb hts hK hR hown in_8 rfl (by decide) 12 (by decide) m_680 rfl dX8_canMeet_1 hf (fun a7 hf => ?_)
  refine lv_iload_n (pc := 4) hx hb dX8_canMeet_4 rfl (lv_at hl 1 rfl) ?_
  refine rg_zald (pc := 5) hx hb hK hR dX8_canMeet_5 hf (fun hf => ?_)
  refine lv_if_eq (pc := 6) (tgt := 40) hx hb dX8_canMeet_6 (by decide) (fun hc => ?_) (fun hc => ?_)
  · replace hf := it_t hf hc
    exact hB40 v0 v1 v2 M _ _ _ hf hR (lv_sub hl [0, 1, 2] rfl)
  · replace hf := it_f hf hc
    refine lv_aload_n (pc := 9) hx hb dX8_canMeet_9 rfl (lv_at hl 0 rfl) ?_
    refine rg_getr (pc := 10) (C := RX8) (T := TX8) (N := 37) (κ := 8) hx hb hts hK hR hown in_8 rfl (by decide) 12 (by decide) m_680 rfl dX8_canMeet_10 hf (fun a8 hf => ?_)
    refine lv_iload_n (pc := 13) hx hb dX8_canMeet_13 rfl (lv_at hl 2 rfl) ?_
    refine rg_zald (pc := 14) hx hb hK hR dX8_canMeet_14 hf (fun hf => ?_)
    refine lv_if_eq (pc := 15) (tgt := 40) hx hb dX8_canMeet_15 (by decide) (fun hc => ?_) (fun hc => ?_)
    · replace hf := it_t hf hc
      exact hB40 v0 v1 v2 M _ _ _ hf hR (lv_sub hl [0, 1, 2] rfl)
    · replace hf := it_f hf hc
      refine lv_aload_n (pc := 18) hx hb dX8_canMeet_18 rfl (lv_at hl 0 rfl) ?_
      refine rg_getr (pc := 19) (C := RX8) (T := TX8) (N := 37) (κ := 8) hx hb hts hK hR hown in_8 rfl (by decide) 13 (by decide) m_681 rfl dX8_canMeet_19 hf (fun a9 hf => ?_)
      refine lv_iload_n (pc := 22) hx hb dX8_canMeet_22 rfl (lv_at hl 1 rfl) ?_
      refine rg_zald (pc := 23) hx hb hK hR dX8_canMeet_23 hf (fun hf => ?_)
      refine lv_if_ne (pc := 24) (tgt := 40) hx hb dX8_canMeet_24 (by decide) (fun hc => ?_) (fun hc => ?_)
      · replace hf := it_f hf hc
        exact hB40 v0 v1 v2 M _ _ _ hf hR (lv_sub hl [0, 1, 2] rfl)
      · replace hf := it_t hf hc
        refine lv_aload_n (pc := 27) hx hb dX8_canMeet_27 rfl (lv_at hl 0 rfl) ?_
        refine rg_getr (pc := 28) (C := RX8) (T := TX8) (N := 37) (κ := 8) hx hb hts hK hR hown in_8 rfl (by decide) 13 (by decide) m_681 rfl dX8_canMeet_28 hf (fun a10 hf => ?_)
        refine lv_iload_n (pc := 31) hx hb dX8_canMeet_31 rfl (lv_at hl 2 rfl) ?_
        refine rg_zald (pc := 32) hx hb hK hR dX8_canMeet_32 hf (fun hf => ?_)
        refine lv_if_ne (pc := 33) (tgt := 40) hx hb dX8_canMeet_33 (by decide) (fun hc => ?_) (fun hc => ?_)
        · replace hf := it_f hf hc
          exact hB40 v0 v1 v2 M _ _ _ hf hR (lv_sub hl [0, 1, 2] rfl)
        · replace hf := it_t hf hc
          refine lv_iconst (pc := 36) (v := (1 : Int32)) hx hb dX8_canMeet_36 (by decide) ?_
          refine lv_goto (pc := 37) (tgt := 41) hx hb dX8_canMeet_37 (by decide) ?_
          exact hB41 (1 : Int32) v0 v1 v2 M _ _ _ hf hR (lv_sub hl [0, 1, 2] rfl)
