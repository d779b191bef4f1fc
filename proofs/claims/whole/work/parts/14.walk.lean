-- X7_keeperOf
def f_X7_keeperOf_b90  (v3 : Int32) (M : Mem) : Option (Mem × Int32) := some (M, v3)
def f_X7_keeperOf_b46 (k46 : Nat → Int32 → Int32 → Int32 → Mem → Option (Mem × Int32)) (v0 : Nat) (v1 : Int32) (v2 : Int32) (v3 : Int32) (M : Mem) : Option (Mem × Int32) := gd (M.1 v0 = 7) <| if (mm_i M v0 2) ≤ v3 then (some (M, (-1 : Int32))) else (gd (M.1 v0 = 7) <| rd (mm_r M v0 1) fun a1 => gd (M.1 a1 = 14 ∧ vi_ v3 (mm_N M a1)) <| rd (mm_r M a1 (v3).toNatClampNeg) fun a2 => gd (M.1 v0 = 7) <| bd (f_X7_ratioOf v0 a2 (v1 - (1 : Int32)) (2 : Int32) M) fun z3 => if z3.2 = (-1 : Int32) then (gd (z3.1.1 v0 = 7) <| rd (mm_r z3.1 v0 1) fun a4 => gd (z3.1.1 a4 = 14 ∧ vi_ v3 (mm_N z3.1 a4)) <| rd (mm_r z3.1 a4 (v3).toNatClampNeg) fun a5 => gd (z3.1.1 v0 = 7) <| bd (f_X7_ratioOf v0 a5 (v2 + (1 : Int32)) (2 : Int32) z3.1) fun z6 => if z6.2 = (-1 : Int32) then (lt_ (v3 + (1 : Int32)) fun x7 => k46 v0 v1 v2 x7 z6.1) else (f_X7_keeperOf_b90 v3 z6.1)) else (f_X7_keeperOf_b90 v3 z3.1))
def f_X7_keeperOf_L46  : Nat → Nat → Int32 → Int32 → Int32 → Mem → Option (Mem × Int32)
  | 0 => fun _ _ _ _ _ => none
  | n + 1 => f_X7_keeperOf_b46  (f_X7_keeperOf_L46  n)
def f_X7_keeperOf_b38 (k2 : Nat → Int32 → Int32 → Int32 → Mem → Option (Mem × Int32)) (v0 : Nat) (v1 : Int32) (v2 : Int32) (v3 : Int32) (M : Mem) : Option (Mem × Int32) := lt_ (v3 + (1 : Int32)) fun x8 => k2 v0 v1 v2 x8 M
def f_X7_keeperOf_b2 (k2 : Nat → Int32 → Int32 → Int32 → Mem → Option (Mem × Int32)) (v0 : Nat) (v1 : Int32) (v2 : Int32) (v3 : Int32) (M : Mem) : Option (Mem × Int32) := gd (M.1 v0 = 7) <| if (mm_i M v0 2) ≤ v3 then (f_X7_keeperOf_L46 200 v0 v1 v2 (0 : Int32) M) else (gd (M.1 v0 = 7) <| rd (mm_r M v0 1) fun a9 => gd (M.1 a9 = 14 ∧ vi_ v3 (mm_N M a9)) <| rd (mm_r M a9 (v3).toNatClampNeg) fun a10 => gd (M.1 a10 = 5) <| if (mm_i M a10 0) < v1 then (f_X7_keeperOf_b38 k2 v0 v1 v2 v3 M) else (gd (M.1 v0 = 7) <| rd (mm_r M v0 1) fun a11 => gd (M.1 a11 = 14 ∧ vi_ v3 (mm_N M a11)) <| rd (mm_r M a11 (v3).toNatClampNeg) fun a12 => gd (M.1 a12 = 5) <| if v2 < (mm_i M a12 0) then (f_X7_keeperOf_b38 k2 v0 v1 v2 v3 M) else (some (M, v3))))
def f_X7_keeperOf_L2  : Nat → Nat → Int32 → Int32 → Int32 → Mem → Option (Mem × Int32)
  | 0 => fun _ _ _ _ _ => none
  | n + 1 => f_X7_keeperOf_b2  (f_X7_keeperOf_L2  n)
def f_X7_keeperOf (v0 : Nat) (v1 : Int32) (v2 : Int32) (M : Mem) : Option (Mem × Int32) := f_X7_keeperOf_L2 200 v0 v1 v2 (0 : Int32) M
abbrev rm_X7_keeperOf : Room := { frames := 3, cells := 0, slots := 0, locals := 74 }
theorem hd_X7_keeperOf : yX7_keeperOf.cls ≠ "java/lang/invoke/MethodHandle" ∧ yX7_keeperOf.cls ≠ "java/lang/invoke/VarHandle" ∧ (parseMethodDescriptor yX7_keeperOf.desc).map (fun d => d.parameters.length) = some 2 := by decide +kernel
set_option maxHeartbeats 8000000 in
set_option maxRecDepth 100000 in
theorem c_X7_keeperOf {l : Launch} {D : va_G} {ca : Nat → ClassId} {b : Nat} {nx : Bool} {v0 : Nat} {v1 : Int32} {v2 : Int32} {M : Mem} {r : Mem × Int32} (hf : f_X7_keeperOf v0 v1 v2 M = some r) : CtI l yX7_keeperOf cX7_keeperOf 4 (some .int) rm_X7_keeperOf D ca b nx [.ref v0, .int v1, .int v2] M r := by
  intro sz
  refine body_start (Qc := fun A => cvI D ca nx A r) (by decide +kernel) (Nat.le_of_ble_eq_true rfl) ?_
  intro p e s m args below meth c A hC hr hR ls hl
  obtain ⟨hx, hb, hml, hts, hown, hlocks, hXe, hA, hAb, hnm⟩ := id hC
  have hK := hXe.1
  have hl : lv_has ls 4 [(0, .ref v0), (1, .int v1), (2, .int v2)] := hl
  have hB90 : ∀  (v3 : Int32) (M : Mem) (H : Heap) (locs : List Loc) (ls : Array Slot), f_X7_keeperOf_b90  v3 M = some r → Hp D ca nx A s M H locs → lv_has ls 4 [(3, .int v3)] → W p l e rm_X7_keeperOf s m args below meth c H locs 0 0 (MQ below (cvI D ca nx A r) args s 0 0 A) (F0 m 90 ls []) := by
    intro  v3 M H locs ls hf hR hl
    unfold f_X7_keeperOf_b90 at hf
    refine lv_iload_n (pc := 90) hx hb dX7_keeperOf_90 rfl (lv_at hl 0 rfl) ?_
    exact rg_iret (pc := 91) hx hb hlocks hr hf hR dX7_keeperOf_91
  have hB46 : ∀ (k46 : Nat → Int32 → Int32 → Int32 → Mem → Option (Mem × Int32)) (hk46 : ∀ (v0 : Nat) (v1 : Int32) (v2 : Int32) (v3 : Int32) (M : Mem) (H : Heap) (locs : List Loc) (ls : Array Slot), k46 v0 v1 v2 v3 M = some r → Hp D ca nx A s M H locs → lv_has ls 4 [(0, .ref v0), (1, .int v1), (2, .int v2), (3, .int v3)] → W p l e rm_X7_keeperOf s m args below meth c H locs 0 0 (MQ below (cvI D ca nx A r) args s 0 0 A) (F0 m 46 ls [])) (v0 : Nat) (v1 : Int32) (v2 : Int32) (v3 : Int32) (M : Mem) (H : Heap) (locs : List Loc) (ls : Array Slot), f_X7_keeperOf_b46 k46 v0 v1 v2 v3 M = some r → Hp D ca nx A s M H locs → lv_has ls 4 [(0, .ref v0), (1, .int v1), (2, .int v2), (3, .int v3)] → W p l e rm_X7_keeperOf s m args below meth c H locs 0 0 (MQ below (cvI D ca nx A r) args s 0 0 A) (F0 m 46 ls []) := by
    intro k46 hk46 v0 v1 v2 v3 M H locs ls hf hR hl
    unfold f_X7_keeperOf_b46 at hf
    refine lv_iload_n (pc := 46) hx hb dX7_keeperOf_46 rfl (lv_at hl 3 rfl) ?_
    refine lv_aload_n (pc := 47) hx hb dX7_keeperOf_47 rfl (lv_at hl 0 rfl) ?_
    refine rg_get (pc := 48) (C := RX7) (T := TX7) (N := 11) (κ := 7) (v := .int (mm_i M v0 2)) hx hb hts hK hR hown in_7 rfl (by decide) 2 (by decide) m_232 rfl dX7_keeperOf_48 hf (fun hf => ?_)
    refine lv_icmp_ge (pc := 51) (tgt := 98) hx hb dX7_keeperOf_51 (by decide) (fun hc => ?_) (fun hc => ?_)
    · replace hf := it_t hf hc
      refine lv_iconst (pc := 98) (v := (-1 : Int32)) hx hb dX7_keeperOf_98 (by decide) ?_
      exact rg_iret (pc := 99) hx hb hlocks hr hf hR dX7_keeperOf_99
    · replace hf := it_f hf hc
      refine lv_aload_n (pc := 54) hx hb dX7_keeperOf_54 rfl (lv_at hl 0 rfl) ?_
      refine lv_aload_n (pc := 55) hx hb dX7_keeperOf_55 rfl (lv_at hl 0 rfl) ?_
      refine rg_getr (pc := 56) (C := RX7) (T := TX7) (N := 11) (κ := 7) hx hb hts hK hR hown in_7 rfl (by decide) 1 (by decide) m_231 rfl dX7_keeperOf_56 hf (fun a1 hf => ?_)
      refine lv_iload_n (pc := 59) hx hb dX7_keeperOf_59 rfl (lv_at hl 3 rfl) ?_
      refine rg_aald (pc := 60) (κ := 14) hx hb hK hR 5 rfl (by decide) dX7_keeperOf_60 hf (fun a2 hf => ?_)
      refine lv_iload_n (pc := 61) hx hb dX7_keeperOf_61 rfl (lv_at hl 1 rfl) ?_
      refine lv_iconst (pc := 62) (v := (1 : Int32)) hx hb dX7_keeperOf_62 (by decide) ?_
      refine lv_isub (pc := 63) hx hb dX7_keeperOf_63 ?_
      refine lv_iconst (pc := 64) (v := (2 : Int32)) hx hb dX7_keeperOf_64 (by decide) ?_
      obtain ⟨hq, hf⟩ := gd_e hf
      refine rg_I (pc := 65) hf hR hA (fun z hz => rn_V (κ := 7) (As := [.ref a2, .int (v1 - (1 : Int32)), .int (2 : Int32)]) (rest := []) hC hR rfl (by decide) hq (c_X7_ratioOf  hz _) m_618 m_620 ms_9 m_1 m_621 hd_X7_ratioOf ⟨rfl, rfl, Nat.le_of_ble_eq_true rfl, Nat.le_of_ble_eq_true rfl⟩ rfl hl.1 rfl (Nat.le_of_ble_eq_true rfl) dX7_keeperOf_65 ⟨Nat.le_of_ble_eq_true rfl, Nat.le_of_ble_eq_true rfl⟩) (fun z3 H locs hf hR => ?_)
      refine lv_iconst (pc := 68) (v := (-1 : Int32)) hx hb dX7_keeperOf_68 (by decide) ?_
      refine lv_icmp_ne (pc := 69) (tgt := 90) hx hb dX7_keeperOf_69 (by decide) (fun hc => ?_) (fun hc => ?_)
      · replace hf := it_f hf hc
        exact hB90 v3 z3.1 _ _ _ hf hR (lv_sub hl [3] rfl)
      · replace hf := it_t hf hc
        refine lv_aload_n (pc := 72) hx hb dX7_keeperOf_72 rfl (lv_at hl 0 rfl) ?_
        refine lv_aload_n (pc := 73) hx hb dX7_keeperOf_73 rfl (lv_at hl 0 rfl) ?_
        refine rg_getr (pc := 74) (C := RX7) (T := TX7) (N := 11) (κ := 7) hx hb hts hK hR hown in_7 rfl (by decide) 1 (by decide) m_231 rfl dX7_keeperOf_74 hf (fun a4 hf => ?_)
        refine lv_iload_n (pc := 77) hx hb dX7_keeperOf_77 rfl (lv_at hl 3 rfl) ?_
        refine rg_aald (pc := 78) (κ := 14) hx hb hK hR 5 rfl (by decide) dX7_keeperOf_78 hf (fun a5 hf => ?_)
        refine lv_iload_n (pc := 79) hx hb dX7_keeperOf_79 rfl (lv_at hl 2 rfl) ?_
        refine lv_iconst (pc := 80) (v := (1 : Int32)) hx hb dX7_keeperOf_80 (by decide) ?_
        refine lv_iadd (pc := 81) hx hb dX7_keeperOf_81 ?_
        refine lv_iconst (pc := 82) (v := (2 : Int32)) hx hb dX7_keeperOf_82 (by decide) ?_
        obtain ⟨hq, hf⟩ := gd_e hf
        refine rg_I (pc := 83) hf hR hA (fun z hz => rn_V (κ := 7) (As := [.ref a5, .int (v2 + (1 : Int32)), .int (2 : Int32)]) (rest := []) hC hR rfl (by decide) hq (c_X7_ratioOf  hz _) m_618 m_620 ms_9 m_1 m_621 hd_X7_ratioOf ⟨rfl, rfl, Nat.le_of_ble_eq_true rfl, Nat.le_of_ble_eq_true rfl⟩ rfl hl.1 rfl (Nat.le_of_ble_eq_true rfl) dX7_keeperOf_83 ⟨Nat.le_of_ble_eq_true rfl, Nat.le_of_ble_eq_true rfl⟩) (fun z6 H locs hf hR => ?_)
        refine lv_iconst (pc := 86) (v := (-1 : Int32)) hx hb dX7_keeperOf_86 (by decide) ?_
        refine lv_icmp_eq (pc := 87) (tgt := 92) hx hb dX7_keeperOf_87 (by decide) (fun hc => ?_) (fun hc => ?_)
        · replace hf := it_t hf hc
          refine rg_iinc (pc := 92) hx hb dX7_keeperOf_92 hl (k := 3) rfl rfl (by decide) hf (fun x7 ls hf hl => ?_)
          have hl : lv_has ls 4 [(3, .int x7), (0, .ref v0), (1, .int v1), (2, .int v2)] := hl
          refine lv_goto (pc := 95) (tgt := 46) hx hb dX7_keeperOf_95 (by decide) ?_
          exact hk46 v0 v1 v2 x7 z6.1 _ _ _ hf hR (lv_sub hl [1, 2, 3, 0] rfl)
        · replace hf := it_f hf hc
          exact hB90 v3 z6.1 _ _ _ hf hR (lv_sub hl [3] rfl)
  have hL46 : ∀  (n : Nat) (v0 : Nat) (v1 : Int32) (v2 : Int32) (v3 : Int32) (M : Mem) (H : Heap) (locs : List Loc) (ls : Array Slot), f_X7_keeperOf_L46  n v0 v1 v2 v3 M = some r → Hp D ca nx A s M H locs → lv_has ls 4 [(0, .ref v0), (1, .int v1), (2, .int v2), (3, .int v3)] → W p l e rm_X7_keeperOf s m args below meth c H locs 0 0 (MQ below (cvI D ca nx A r) args s 0 0 A) (F0 m 46 ls []) := by
    intro  n
    induction n with
    | zero => intro v0 v1 v2 v3 M H locs ls hf; exact nomatch (show (none : Option (Mem × Int32)) = some r from hf)
    | succ n ih => intro v0 v1 v2 v3 M H locs ls hf hR hl; exact hB46  (f_X7_keeperOf_L46  n) ih v0 v1 v2 v3 M H locs ls hf hR hl
  have hB38 : ∀ (k2 : Nat → Int32 → Int32 → Int32 → Mem → Option (Mem × Int32)) (hk2 : ∀ (v0 : Nat) (v1 : Int32) (v2 : Int32) (v3 : Int32) (M : Mem) (H : Heap) (locs : List Loc) (ls : Array Slot), k2 v0 v1 v2 v3 M = some r → Hp D ca nx A s M H locs → lv_has ls 4 [(0, .ref v0), (1, .int v1), (2, .int v2), (3, .int v3)] → W p l e rm_X7_keeperOf s m args below meth c H locs 0 0 (MQ below (cvI D ca nx A r) args s 0 0 A) (F0 m 2 ls [])) (v0 : Nat) (v1 : Int32) (v2 : Int32) (v3 : Int32) (M : Mem) (H : Heap) (locs : List Loc) (ls : Array Slot), f_X7_keeperOf_b38 k2 v0 v1 v2 v3 M = some r → Hp D ca nx A s M H locs → lv_has ls 4 [(0, .ref v0), (1, .int v1), (2, .int v2), (3, .int v3)] → W p l e rm_X7_keeperOf s m args below meth c H locs 0 0 (MQ below (cvI D ca nx A r) args s 0 0 A) (F0 m 38 ls []) := by
    intro k2 hk2 v0 v1 v2 v3 M H locs ls hf hR hl
    unfold f_X7_keeperOf_b38 at hf
    refine rg_iinc (pc := 38) hx hb dX7_keeperOf_38 hl (k := 3) rfl rfl (by decide) hf (fun x8 ls hf hl => ?_)
    have hl : lv_has ls 4 [(3, .int x8), (0, .ref v0), (1, .int v1), (2, .int v2)] := hl
    refine lv_goto (pc := 41) (tgt := 2) hx hb dX7_keeperOf_41 (by decide) ?_
    exact hk2 v0 v1 v2 x8 M _ _ _ hf hR (lv_sub hl [1, 2, 3, 0] rfl)
  have hB2 : ∀ (k2 : Nat → Int32 → Int32 → Int32 → Mem → Option (Mem × Int32)) (hk2 : ∀ (v0 : Nat) (v1 : Int32) (v2 : Int32) (v3 : Int32) (M : Mem) (H : Heap) (locs : List Loc) (ls : Array Slot), k2 v0 v1 v2 v3 M = some r → Hp D ca nx A s M H locs → lv_has ls 4 [(0, .ref v0), (1, .int v1), (2, .int v2), (3, .int v3)] → W p l e rm_X7_keeperOf s m args below meth c H locs 0 0 (MQ below (cvI D ca nx A r) args s 0 0 A) (F0 m 2 ls [])) (v0 : Nat) (v1 : Int32) (v2 : Int32) (v3 : Int32) (M : Mem) (H : Heap) (locs : List Loc) (ls : Array Slot), f_X7_keeperOf_b2 k2 v0 v1 v2 v3 M = some r → Hp D ca nx A s M H locs → lv_has ls 4 [(0, .ref v0), (1, .int v1), (2, .int v2), (3, .int v3)] → W p l e rm_X7_keeperOf s m args below meth c H locs 0 0 (MQ below (cvI D ca nx A r) args s 0 0 A) (F0 m 2 ls []) := by
    intro k2 hk2 v0 v1 v2 v3 M H locs ls hf hR hl
    unfold f_X7_keeperOf_b2 at hf
    refine lv_iload_n (pc := 2) hx hb dX7_keeperOf_2 rfl (lv_at hl 3 rfl) ?_
    refine lv_aload_n (pc := 3) hx hb dX7_keeperOf_3 rfl (lv_at hl 0 rfl) ?_
    refine rg_get (pc := 4) (C := RX7) (T := TX7) (N := 11) (κ := 7) (v := .int (mm_i M v0 2)) hx hb hts hK hR hown in_7 rfl (by decide) 2 (by decide) m_232 rfl dX7_keeperOf_4 hf (fun hf => ?_)
    refine lv_icmp_ge (pc := 7) (tgt := 44) hx hb dX7_keeperOf_7 (by decide) (fun hc => ?_) (fun hc => ?_)
    · replace hf := it_t hf hc
      refine lv_iconst (pc := 44) (v := (0 : Int32)) hx hb dX7_keeperOf_44 (by decide) ?_
      refine lv_istore_n (pc := 45) (lv' := [(3, .int (0 : Int32)), (0, .ref v0), (1, .int v1), (2, .int v2)]) hx hb dX7_keeperOf_45 rfl hl (by decide) rfl (fun ls hl => ?_)
      exact hL46 200 v0 v1 v2 (0 : Int32) M _ _ _ hf hR (lv_sub hl [1, 2, 3, 0] rfl)
    · replace hf := it_f hf hc
      refine lv_aload_n (pc := 10) hx hb dX7_keeperOf_10 rfl (lv_at hl 0 rfl) ?_
      refine rg_getr (pc := 11) (C := RX7) (T := TX7) (N := 11) (κ := 7) hx hb hts hK hR hown in_7 rfl (by decide) 1 (by decide) m_231 rfl dX7_keeperOf_11 hf (fun a9 hf => ?_)
      refine lv_iload_n (pc := 14) hx hb dX7_keeperOf_14 rfl (lv_at hl 3 rfl) ?_
      refine rg_aald (pc := 15) (κ := 14) hx hb hK hR 5 rfl (by decide) dX7_keeperOf_15 hf (fun a10 hf => ?_)
      refine rg_get (pc := 16) (C := RX5) (T := TX5) (N := 3) (κ := 5) (v := .int (mm_i M a10 0)) hx hb hts hK hR hown in_5 rfl (by decide) 0 (by decide) m_177 rfl dX7_keeperOf_16 hf (fun hf => ?_)
      refine lv_iload_n (pc := 19) hx hb dX7_keeperOf_19 rfl (lv_at hl 1 rfl) ?_
      refine lv_icmp_lt (pc := 20) (tgt := 38) hx hb dX7_keeperOf_20 (by decide) (fun hc => ?_) (fun hc => ?_)
      · replace hf := it_t hf hc
        exact hB38 k2 hk2 v0 v1 v2 v3 M _ _ _ hf hR (lv_sub hl [0, 1, 2, 3] rfl)
      · replace hf := it_f hf hc
        refine lv_aload_n (pc := 23) hx hb dX7_keeperOf_23 rfl (lv_at hl 0 rfl) ?_
        refine rg_getr (pc := 24) (C := RX7) (T := TX7) (N := 11) (κ := 7) hx hb hts hK hR hown in_7 rfl (by decide) 1 (by decide) m_231 rfl dX7_keeperOf_24 hf (fun a11 hf => ?_)
        refine lv_iload_n (pc := 27) hx hb dX7_keeperOf_27 rfl (lv_at hl 3 rfl) ?_
        refine rg_aald (pc := 28) (κ := 14) hx hb hK hR 5 rfl (by decide) dX7_keeperOf_28 hf (fun a12 hf => ?_)
        refine rg_get (pc := 29) (C := RX5) (T := TX5) (N := 3) (κ := 5) (v := .int (mm_i M a12 0)) hx hb hts hK hR hown in_5 rfl (by decide) 0 (by decide) m_177 rfl dX7_keeperOf_29 hf (fun hf => ?_)
        refine lv_iload_n (pc := 32) hx hb dX7_keeperOf_32 rfl (lv_at hl 2 rfl) ?_
        refine lv_icmp_gt (pc := 33) (tgt := 38) hx hb dX7_keeperOf_33 (by decide) (fun hc => ?_) (fun hc => ?_)
        · replace hf := it_t hf hc
          exact hB38 k2 hk2 v0 v1 v2 v3 M _ _ _ hf hR (lv_sub hl [0, 1, 2, 3] rfl)
        · replace hf := it_f hf hc
          refine lv_iload_n (pc := 36) hx hb dX7_keeperOf_36 rfl (lv_at hl 3 rfl) ?_
          exact rg_iret (pc := 37) hx hb hlocks hr hf hR dX7_keeperOf_37
  have hL2 : ∀  (n : Nat) (v0 : Nat) (v1 : Int32) (v2 : Int32) (v3 : Int32) (M : Mem) (H : Heap) (locs : List Loc) (ls : Array Slot), f_X7_keeperOf_L2  n v0 v1 v2 v3 M = some r → Hp D ca nx A s M H locs → lv_has ls 4 [(0, .ref v0), (1, .int v1), (2, .int v2), (3, .int v3)] → W p l e rm_X7_keeperOf s m args below meth c H locs 0 0 (MQ below (cvI D ca nx A r) args s 0 0 A) (F0 m 2 ls []) := by
    intro  n
    induction n with
    | zero => intro v0 v1 v2 v3 M H locs ls hf; exact nomatch (show (none : Option (Mem × Int32)) = some r from hf)
    | succ n ih => intro v0 v1 v2 v3 M H locs ls hf hR hl; exact hB2  (f_X7_keeperOf_L2  n) ih v0 v1 v2 v3 M H locs ls hf hR hl
  unfold f_X7_keeperOf at hf
  refine lv_iconst (pc := 0) (v := (0 : Int32)) hx hb dX7_keeperOf_0 (by decide) ?_
  refine lv_istore_n (pc := 1) (lv' := [(3, .int (0 : Int32)), (0, .ref v0), (1, .int v1), (2, .int v2)]) hx hb dX7_keeperOf_1 rfl hl (by decide) rfl (fun ls hl => ?_)
  exact hL2 200 v0 v1 v2 (0 : Int32) M _ _ _ hf hR (lv_sub hl [1, 2, 3, 0] rfl)
-- X7_gap
def f_X7_gap (v0 : Nat) (v1 : Int32) (v2 : Int32) (M : Mem) : Option (Mem × (Int32 ⊕ Nat)) := gd (M.1 v0 = 7) <| bd (f_X7_surveyGaps v0 M) fun z1 => bx (f_X7_requireNumber v1 z1.2 z1.1) fun M2 _ => if v2 = (0 : Int32) then (gd (M2.1 v0 = 7) <| rd (mm_r M2 v0 9) fun a4 => gd (M2.1 a4 = 9 ∧ vi_ v1 (mm_N M2 a4)) <| some (M2, .inl (mm_i M2 a4 (v1).toNatClampNeg))) else if v2 = (1 : Int32) then (gd (M2.1 v0 = 7) <| rd (mm_r M2 v0 10) fun a5 => gd (M2.1 a5 = 9 ∧ vi_ v1 (mm_N M2 a5)) <| some (M2, .inl (mm_i M2 a5 (v1).toNatClampNeg))) else if v2 = (2 : Int32) then (gd (M2.1 v0 = 7) <| rd (mm_r M2 v0 9) fun a6 => gd (M2.1 a6 = 9 ∧ vi_ v1 (mm_N M2 a6)) <| gd (M2.1 v0 = 7) <| rd (mm_r M2 v0 10) fun a7 => gd (M2.1 a7 = 9 ∧ vi_ v1 (mm_N M2 a7)) <| gd (M2.1 v0 = 7) <| bd (f_X7_keeperOf v0 (mm_i M2 a6 (v1).toNatClampNeg) (mm_i M2 a7 (v1).toNatClampNeg) M2) fun z8 => some (z8.1, .inl z8.2)) else (some (M2, .inr 0))
abbrev rm_X7_gap : Room := { frames := 7, cells := 2, slots := 12, locals := 111 }
theorem hd_X7_gap : yX7_gap.cls ≠ "java/lang/invoke/MethodHandle" ∧ yX7_gap.cls ≠ "java/lang/invoke/VarHandle" ∧ (parseMethodDescriptor yX7_gap.desc).map (fun d => d.parameters.length) = some 2 := by decide +kernel
set_option maxHeartbeats 8000000 in
set_option maxRecDepth 100000 in
theorem c_X7_gap {l : Launch} (hlt : l.stackTraces = false) {D : va_G} {ca : Nat → ClassId} {b : Nat} {v0 : Nat} {v1 : Int32} {v2 : Int32} {M : Mem} {r : Mem × (Int32 ⊕ Nat)} (hf : f_X7_gap v0 v1 v2 M = some r) : CxI l yX7_gap cX7_gap 3 (some .int) rm_X7_gap D ca b [.ref v0, .int v1, .int v2] M r 2 12 := by
  intro sz
  refine bodyx_start (nx := false) (Qc := fun A => cxI D ca A r) (XC := fun A => cxX D ca A r) (by decide +kernel) (Nat.le_of_ble_eq_true rfl) ?_
  intro p e s m args below meth c A hC htab hr hR ls hl
  obtain ⟨hx, hb, hml, hts, hown, hlocks, hXe, hA, hAb, hnm⟩ := id hC
  have hK := hXe.1
  have hl : lv_has ls 3 [(0, .ref v0), (1, .int v1), (2, .int v2)] := hl
  unfold f_X7_gap at hf
  refine lv_iload_n (pc := 0) hx hb dX7_gap_0 rfl (lv_at hl 1 rfl) ?_
  refine lv_aload_n (pc := 1) hx hb dX7_gap_1 rfl (lv_at hl 0 rfl) ?_
  obtain ⟨hq, hf⟩ := gd_e hf
  refine rg_I (pc := 2) hf hR hA (fun z hz => rn_V (κ := 7) (As := []) (rest := [.int v1]) hC hR rfl (by decide) hq (c_X7_surveyGaps  hz _) m_283 m_285 ms_0 m_1 m_286 hd_X7_surveyGaps ⟨rfl, rfl, Nat.le_of_ble_eq_true rfl, Nat.le_of_ble_eq_true rfl⟩ rfl hl.1 rfl (Nat.le_of_ble_eq_true rfl) dX7_gap_2 ⟨Nat.le_of_ble_eq_true rfl, Nat.le_of_ble_eq_true rfl⟩) (fun z1 H locs hf hR => ?_)
  refine rg_xV (pc := 5) hf hR hA htab hlocks (by show 1 ≤ 2; decide) (by show 6 ≤ 12; decide) (fun z hz => xn_S (As := [.int v1, .int z1.2]) (rest := []) hC hR (c_X7_requireNumber hlt hz _) m_526 m_527 m_1 m_528 hd_X7_requireNumber ⟨rfl, rfl, Nat.le_of_ble_eq_true rfl, Nat.le_of_ble_eq_true rfl⟩ rfl hl.1 rfl (Nat.le_of_ble_eq_true rfl) dX7_gap_5 ⟨Nat.le_of_ble_eq_true rfl, Nat.le_of_ble_eq_true rfl⟩) (fun M2 H locs hf hR => ?_)
  refine lv_iload_n (pc := 8) hx hb dX7_gap_8 rfl (lv_at hl 2 rfl) ?_
  by_cases hw0 : v2 = (0 : Int32)
  · replace hf := it_t hf hw0
    refine lv_tableIn (pc := 9) (off := 27) (tgt := 36) hx hb dX7_gap_9 (by rw [hw0]; decide) (by rw [hw0]; decide) (by rw [hw0]; decide) (by decide) ?_
    refine lv_aload_n (pc := 36) hx hb dX7_gap_36 rfl (lv_at hl 0 rfl) ?_
    refine rg_getr (pc := 37) (C := RX7) (T := TX7) (N := 11) (κ := 7) hx hb hts hK hR hown in_7 rfl (by decide) 9 (by decide) m_239 rfl dX7_gap_37 hf (fun a4 hf => ?_)
    refine lv_iload_n (pc := 40) hx hb dX7_gap_40 rfl (lv_at hl 1 rfl) ?_
    refine rg_iald (pc := 41) hx hb hK hR dX7_gap_41 hf (fun hf => ?_)
    exact rg_xiret (pc := 42) hx hb hlocks hr hf hR (by show 1 ≤ 2; decide) (by show 6 ≤ 12; decide) dX7_gap_42
  replace hf := it_f hf hw0
  by_cases hw1 : v2 = (1 : Int32)
  · replace hf := it_t hf hw1
    refine lv_tableIn (pc := 9) (off := 34) (tgt := 43) hx hb dX7_gap_9 (by rw [hw1]; decide) (by rw [hw1]; decide) (by rw [hw1]; decide) (by decide) ?_
    refine lv_aload_n (pc := 43) hx hb dX7_gap_43 rfl (lv_at hl 0 rfl) ?_
    refine rg_getr (pc := 44) (C := RX7) (T := TX7) (N := 11) (κ := 7) hx hb hts hK hR hown in_7 rfl (by decide) 10 (by decide) m_240 rfl dX7_gap_44 hf (fun a5 hf => ?_)
    refine lv_iload_n (pc := 47) hx hb dX7_gap_47 rfl (lv_at hl 1 rfl) ?_
    refine rg_iald (pc := 48) hx hb hK hR dX7_gap_48 hf (fun hf => ?_)
    exact rg_xiret (pc := 49) hx hb hlocks hr hf hR (by show 1 ≤ 2; decide) (by show 6 ≤ 12; decide) dX7_gap_49
  replace hf := it_f hf hw1
  by_cases hw2 : v2 = (2 : Int32)
  · replace hf := it_t hf hw2
    refine lv_tableIn (pc := 9) (off := 41) (tgt := 50) hx hb dX7_gap_9 (by rw [hw2]; decide) (by rw [hw2]; decide) (by rw [hw2]; decide) (by decide) ?_
    refine lv_aload_n (pc := 50) hx hb dX7_gap_50 rfl (lv_at hl 0 rfl) ?_
    refine lv_aload_n (pc := 51) hx hb dX7_gap_51 rfl (lv_at hl 0 rfl) ?_
    refine rg_getr (pc := 52) (C := RX7) (T := TX7) (N := 11) (κ := 7) hx hb hts hK hR hown in_7 rfl (by decide) 9 (by decide) m_239 rfl dX7_gap_52 hf (fun a6 hf => ?_)
    refine lv_iload_n (pc := 55) hx hb dX7_gap_55 rfl (lv_at hl 1 rfl) ?_
    refine rg_iald (pc := 56) hx hb hK hR dX7_gap_56 hf (fun hf => ?_)
    refine lv_aload_n (pc := 57) hx hb dX7_gap_57 rfl (lv_at hl 0 rfl) ?_
    refine rg_getr (pc := 58) (C := RX7) (T := TX7) (N := 11) (κ := 7) hx hb hts hK hR hown in_7 rfl (by decide) 10 (by decide) m_240 rfl dX7_gap_58 hf (fun a7 hf => ?_)
    refine lv_iload_n (pc := 61) hx hb dX7_gap_61 rfl (lv_at hl 1 rfl) ?_
    refine rg_iald (pc := 62) hx hb hK hR dX7_gap_62 hf (fun hf => ?_)
    obtain ⟨hq, hf⟩ := gd_e hf
    refine rg_I (pc := 63) hf hR hA (fun z hz => rn_V (κ := 7) (As := [.int (mm_i M2 a6 (v1).toNatClampNeg), .int (mm_i M2 a7 (v1).toNatClampNeg)]) (rest := []) hC hR rfl (by decide) hq (c_X7_keeperOf  hz _) m_632 m_634 ms_10 m_1 m_635 hd_X7_keeperOf ⟨rfl, rfl, Nat.le_of_ble_eq_true rfl, Nat.le_of_ble_eq_true rfl⟩ rfl hl.1 rfl (Nat.le_of_ble_eq_true rfl) dX7_gap_63 ⟨Nat.le_of_ble_eq_true rfl, Nat.le_of_ble_eq_true rfl⟩) (fun z8 H locs hf hR => ?_)
    exact rg_xiret (pc := 66) hx hb hlocks hr hf hR (by show 1 ≤ 2; decide) (by show 6 ≤ 12; decide) dX7_gap_66
  replace hf := it_f hf hw2
  refine lv_tableOut (pc := 9) (tgt := 67) hx hb dX7_gap_9 (by have h0 := sw_ne (0 : Int32) (k := 0) (by decide) hw0; have h1 := sw_ne (1 : Int32) (k := 1) (by decide) hw1; have h2 := sw_ne (2 : Int32) (k := 2) (by decide) hw2; omega) (by decide) ?_
  exact rg_thrW (pc := 67) 0 (by decide) hC htab hlt hl.1 rfl m_305 (is := 258) (text := "what is 0 to 2") (by decide +kernel) hf hR dX7_gap_67 dX7_gap_70 dX7_gap_71 dX7_gap_74 dX7_gap_77 (Nat.le_of_ble_eq_true rfl) (Nat.le_of_ble_eq_true rfl) (Nat.le_of_ble_eq_true rfl) (Nat.le_of_ble_eq_true rfl) (by show 2 ≤ 2; decide) (by show 12 ≤ 12; decide)
-- X7_gaps
def f_X7_gaps (v0 : Nat) (M : Mem) : Option (Mem × Int32) := gd (M.1 v0 = 7) <| bd (f_X7_surveyGaps v0 M) fun z1 => some (z1.1, z1.2)
abbrev rm_X7_gaps : Room := { frames := 2, cells := 0, slots := 0, locals := 48 }
theorem hd_X7_gaps : yX7_gaps.cls ≠ "java/lang/invoke/MethodHandle" ∧ yX7_gaps.cls ≠ "java/lang/invoke/VarHandle" ∧ (parseMethodDescriptor yX7_gaps.desc).map (fun d => d.parameters.length) = some 0 := by decide +kernel
set_option maxHeartbeats 8000000 in
set_option maxRecDepth 100000 in
theorem c_X7_gaps {l : Launch} {D : va_G} {ca : Nat → ClassId} {b : Nat} {nx : Bool} {v0 : Nat} {M : Mem} {r : Mem × Int32} (hf : f_X7_gaps v0 M = some r) : CtI l yX7_gaps cX7_gaps 1 (some .int) rm_X7_gaps D ca b nx [.ref v0] M r := by
  intro sz
  refine body_start (Qc := fun A => cvI D ca nx A r) (by decide +kernel) (Nat.le_of_ble_eq_true rfl) ?_
  intro p e s m args below meth c A hC hr hR ls hl
  obtain ⟨hx, hb, hml, hts, hown, hlocks, hXe, hA, hAb, hnm⟩ := id hC
  have hK := hXe.1
  have hl : lv_has ls 1 [(0, .ref v0)] := hl
  unfold f_X7_gaps at hf
  refine lv_aload_n (pc := 0) hx hb dX7_gaps_0 rfl (lv_at hl 0 rfl) ?_
  obtain ⟨hq, hf⟩ := gd_e hf
  refine rg_I (pc := 1) hf hR hA (fun z hz => rn_V (κ := 7) (As := []) (rest := []) hC hR rfl (by decide) hq (c_X7_surveyGaps  hz _) m_283 m_285 ms_0 m_1 m_286 hd_X7_surveyGaps ⟨rfl, rfl, Nat.le_of_ble_eq_true rfl, Nat.le_of_ble_eq_true rfl⟩ rfl hl.1 rfl (Nat.le_of_ble_eq_true rfl) dX7_gaps_1 ⟨Nat.le_of_ble_eq_true rfl, Nat.le_of_ble_eq_true rfl⟩) (fun z1 H locs hf hR => ?_)
  exact rg_iret (pc := 4) hx hb hlocks hr hf hR dX7_gaps_4
-- X7_framed
def f_X7_framed (v0 : Nat) (v1 : Int32) (v2 : Int32) (M : Mem) : Option (Mem × (Int32 ⊕ Nat)) := gd (M.1 v0 = 7) <| bx (f_X7_requireNumber v1 (mm_i M v0 4) M) fun M1 _ => bx (f_X7_requireLane v2 M1) fun M3 _ => gd (M3.1 v0 = 7) <| rd (mm_r M3 v0 3) fun a5 => gd (M3.1 a5 = 12 ∧ vi_ v1 (mm_N M3 a5)) <| rd (mm_r M3 a5 (v1).toNatClampNeg) fun a6 => gd (M3.1 a6 = 1) <| rd (mm_r M3 a6 0) fun a7 => gd (M3.1 a7 = 9 ∧ vi_ v2 (mm_N M3 a7)) <| some (M3, .inl (mm_i M3 a7 (v2).toNatClampNeg))
abbrev rm_X7_framed : Room := { frames := 8, cells := 2, slots := 12, locals := 132 }
theorem hd_X7_framed : yX7_framed.cls ≠ "java/lang/invoke/MethodHandle" ∧ yX7_framed.cls ≠ "java/lang/invoke/VarHandle" ∧ (parseMethodDescriptor yX7_framed.desc).map (fun d => d.parameters.length) = some 2 := by decide +kernel
set_option maxHeartbeats 8000000 in
set_option maxRecDepth 100000 in
theorem c_X7_framed {l : Launch} (hlt : l.stackTraces = false) {D : va_G} {ca : Nat → ClassId} {b : Nat} {v0 : Nat} {v1 : Int32} {v2 : Int32} {M : Mem} {r : Mem × (Int32 ⊕ Nat)} (hf : f_X7_framed v0 v1 v2 M = some r) : CxI l yX7_framed cX7_framed 3 (some .int) rm_X7_framed D ca b [.ref v0, .int v1, .int v2] M r 2 12 := by
  intro sz
  refine bodyx_start (nx := false) (Qc := fun A => cxI D ca A r) (XC := fun A => cxX D ca A r) (by decide +kernel) (Nat.le_of_ble_eq_true rfl) ?_
  intro p e s m args below meth c A hC htab hr hR ls hl
  obtain ⟨hx, hb, hml, hts, hown, hlocks, hXe, hA, hAb, hnm⟩ := id hC
  have hK := hXe.1
  have hl : lv_has ls 3 [(0, .ref v0), (1, .int v1), (2, .int v2)] := hl
  unfold f_X7_framed at hf
  refine lv_iload_n (pc := 0) hx hb dX7_framed_0 rfl (lv_at hl 1 rfl) ?_
  refine lv_aload_n (pc := 1) hx hb dX7_framed_1 rfl (lv_at hl 0 rfl) ?_
  refine rg_get (pc := 2) (C := RX7) (T := TX7) (N := 11) (κ := 7) (v := .int (mm_i M v0 4)) hx hb hts hK hR hown in_7 rfl (by decide) 4 (by decide) m_234 rfl dX7_framed_2 hf (fun hf => ?_)
  refine rg_xV (pc := 5) hf hR hA htab hlocks (by show 1 ≤ 2; decide) (by show 6 ≤ 12; decide) (fun z hz => xn_S (As := [.int v1, .int (mm_i M v0 4)]) (rest := []) hC hR (c_X7_requireNumber hlt hz _) m_526 m_527 m_1 m_528 hd_X7_requireNumber ⟨rfl, rfl, Nat.le_of_ble_eq_true rfl, Nat.le_of_ble_eq_true rfl⟩ rfl hl.1 rfl (Nat.le_of_ble_eq_true rfl) dX7_framed_5 ⟨Nat.le_of_ble_eq_true rfl, Nat.le_of_ble_eq_true rfl⟩) (fun M1 H locs hf hR => ?_)
  refine lv_iload_n (pc := 8) hx hb dX7_framed_8 rfl (lv_at hl 2 rfl) ?_
  refine rg_xV (pc := 9) hf hR hA htab hlocks (by show 2 ≤ 2; decide) (by show 12 ≤ 12; decide) (fun z hz => xn_S (As := [.int v2]) (rest := []) hC hR (c_X7_requireLane hlt hz _) m_299 m_300 m_1 m_301 hd_X7_requireLane ⟨rfl, rfl, Nat.le_of_ble_eq_true rfl, Nat.le_of_ble_eq_true rfl⟩ rfl hl.1 rfl (Nat.le_of_ble_eq_true rfl) dX7_framed_9 ⟨Nat.le_of_ble_eq_true rfl, Nat.le_of_ble_eq_true rfl⟩) (fun M3 H locs hf hR => ?_)
  refine lv_aload_n (pc := 12) hx hb dX7_framed_12 rfl (lv_at hl 0 rfl) ?_
  refine rg_getr (pc := 13) (C := RX7) (T := TX7) (N := 11) (κ := 7) hx hb hts hK hR hown in_7 rfl (by decide) 3 (by decide) m_233 rfl dX7_framed_13 hf (fun a5 hf => ?_)
  refine lv_iload_n (pc := 16) hx hb dX7_framed_16 rfl (lv_at hl 1 rfl) ?_
  refine rg_aald (pc := 17) (κ := 12) hx hb hK hR 3 rfl (by decide) dX7_framed_17 hf (fun a6 hf => ?_)
  refine rg_getr (pc := 18) (C := RX1) (T := TX1) (N := 2) (κ := 1) hx hb hts hK hR hown in_1 rfl (by decide) 0 (by decide) m_199 rfl dX7_framed_18 hf (fun a7 hf => ?_)
  refine lv_iload_n (pc := 21) hx hb dX7_framed_21 rfl (lv_at hl 2 rfl) ?_
  refine rg_iald (pc := 22) hx hb hK hR dX7_framed_22 hf (fun hf => ?_)
  exact rg_xiret (pc := 23) hx hb hlocks hr hf hR (by show 2 ≤ 2; decide) (by show 12 ≤ 12; decide) dX7_framed_23
-- X7_holds
def f_X7_holds_b28  (s0 : Int32) (v0 : Nat) (v3 : Nat) (M : Mem) : Option (Mem × (Int32 ⊕ Nat)) := gd (M.1 v0 = 7) <| bx (f_X7_requireNumber s0 (mm_i M v0 4) M) fun M1 _ => gd (M1.1 v0 = 7) <| rd (mm_r M1 v0 3) fun a3 => gd (M1.1 a3 = 12 ∧ vi_ s0 (mm_N M1 a3)) <| rd (mm_r M1 a3 (s0).toNatClampNeg) fun a4 => gd (M1.1 v3 = 0) <| bd (f_X0_holdsBy v3 a4 M1) fun z5 => gd (z5.2 = 0 ∨ z5.2 = 1) <| some (z5.1, .inl z5.2)
def f_X7_holds (v0 : Nat) (v1 : Int32) (v2 : Int32) (M : Mem) : Option (Mem × (Int32 ⊕ Nat)) := gd (M.1 v0 = 7) <| bx (f_X7_requireNumber v1 (mm_i M v0 6) M) fun M6 _ => gd (M6.1 v0 = 7) <| rd (mm_r M6 v0 5) fun a8 => gd (M6.1 a8 = 11 ∧ vi_ v1 (mm_N M6 a8)) <| rd (mm_r M6 a8 (v1).toNatClampNeg) fun a9 => if v2 = (-1 : Int32) then (gd (M6.1 a9 = 0) <| f_X7_holds_b28 (mm_i M6 a9 0) v0 a9 M6) else (f_X7_holds_b28 v2 v0 a9 M6)
abbrev rm_X7_holds : Room := { frames := 7, cells := 2, slots := 12, locals := 111 }
theorem hd_X7_holds : yX7_holds.cls ≠ "java/lang/invoke/MethodHandle" ∧ yX7_holds.cls ≠ "java/lang/invoke/VarHandle" ∧ (parseMethodDescriptor yX7_holds.desc).map (fun d => d.parameters.length) = some 2 := by decide +kernel
set_option maxHeartbeats 8000000 in
set_option maxRecDepth 100000 in
theorem c_X7_holds {l : Launch} (hlt : l.stackTraces = false) {D : va_G} {ca : Nat → ClassId} {b : Nat} {v0 : Nat} {v1 : Int32} {v2 : Int32} {M : Mem} {r : Mem × (Int32 ⊕ Nat)} (hf : f_X7_holds v0 v1 v2 M = some r) : CxI l yX7_holds cX7_holds 5 (some .boolean) rm_X7_holds D ca b [.ref v0, .int v1, .int v2] M r 2 12 := by
  intro sz
  refine bodyx_start (nx := false) (Qc := fun A => cxI D ca A r) (XC := fun A => cxX D ca A r) (by decide +kernel) (Nat.le_of_ble_eq_true rfl) ?_
  intro p e s m args below meth c A hC htab hr hR ls hl
  obtain ⟨hx, hb, hml, hts, hown, hlocks, hXe, hA, hAb, hnm⟩ := id hC
  have hK := hXe.1
  have hl : lv_has ls 5 [(0, .ref v0), (1, .int v1), (2, .int v2)] := hl
  have hB28 : ∀  (s0 : Int32) (v0 : Nat) (v3 : Nat) (M : Mem) (H : Heap) (locs : List Loc) (ls : Array Slot), f_X7_holds_b28  s0 v0 v3 M = some r → Hp D ca false A s M H locs → lv_has ls 5 [(0, .ref v0), (3, .ref v3)] → W p l e rm_X7_holds s m args below meth c H locs 1 6 (vx_MQ below (cxI D ca A r) (cxX D ca A r) args s 2 12 A) (F0 m 28 ls [.int s0]) := by
    intro  s0 v0 v3 M H locs ls hf hR hl
    unfold f_X7_holds_b28 at hf
    refine lv_istore (pc := 28) (lv' := [(4, .int s0), (0, .ref v0), (3, .ref v3)]) hx hb dX7_holds_28 hl (by decide) rfl (fun ls hl => ?_)
    refine lv_iload (pc := 30) hx hb dX7_holds_30 (lv_at hl 0 rfl) ?_
    refine lv_aload_n (pc := 32) hx hb dX7_holds_32 rfl (lv_at hl 1 rfl) ?_
    refine rg_get (pc := 33) (C := RX7) (T := TX7) (N := 11) (κ := 7) (v := .int (mm_i M v0 4)) hx hb hts hK hR hown in_7 rfl (by decide) 4 (by decide) m_234 rfl dX7_holds_33 hf (fun hf => ?_)
    refine rg_xV (pc := 36) hf hR hA htab hlocks (by show 2 ≤ 2; decide) (by show 12 ≤ 12; decide) (fun z hz => xn_S (As := [.int s0, .int (mm_i M v0 4)]) (rest := []) hC hR (c_X7_requireNumber hlt hz _) m_526 m_527 m_1 m_528 hd_X7_requireNumber ⟨rfl, rfl, Nat.le_of_ble_eq_true rfl, Nat.le_of_ble_eq_true rfl⟩ rfl hl.1 rfl (Nat.le_of_ble_eq_true rfl) dX7_holds_36 ⟨Nat.le_of_ble_eq_true rfl, Nat.le_of_ble_eq_true rfl⟩) (fun M1 H locs hf hR => ?_)
    refine lv_aload_n (pc := 39) hx hb dX7_holds_39 rfl (lv_at hl 2 rfl) ?_
    refine lv_aload_n (pc := 40) hx hb dX7_holds_40 rfl (lv_at hl 1 rfl) ?_
    refine rg_getr (pc := 41) (C := RX7) (T := TX7) (N := 11) (κ := 7) hx hb hts hK hR hown in_7 rfl (by decide) 3 (by decide) m_233 rfl dX7_holds_41 hf (fun a3 hf => ?_)
    refine lv_iload (pc := 44) hx hb dX7_holds_44 (lv_at hl 0 rfl) ?_
    refine rg_aald (pc := 46) (κ := 12) hx hb hK hR 3 rfl (by decide) dX7_holds_46 hf (fun a4 hf => ?_)
    obtain ⟨hq, hf⟩ := gd_e hf
    refine rg_I (pc := 47) hf hR hA (fun z hz => rn_V (κ := 0) (As := [.ref a4]) (rest := []) hC hR rfl (by decide) hq (c_X0_holdsBy  hz _) m_651 m_652 m_653 m_8 m_654 hd_X0_holdsBy ⟨rfl, rfl, Nat.le_of_ble_eq_true rfl, Nat.le_of_ble_eq_true rfl⟩ rfl hl.1 rfl (Nat.le_of_ble_eq_true rfl) dX7_holds_47 ⟨Nat.le_of_ble_eq_true rfl, Nat.le_of_ble_eq_true rfl⟩) (fun z5 H locs hf hR => ?_)
    exact rg_xzret (pc := 50) hx hb hlocks hr hf hR (by show 2 ≤ 2; decide) (by show 12 ≤ 12; decide) dX7_holds_50
  unfold f_X7_holds at hf
  refine lv_iload_n (pc := 0) hx hb dX7_holds_0 rfl (lv_at hl 1 rfl) ?_
  refine lv_aload_n (pc := 1) hx hb dX7_holds_1 rfl (lv_at hl 0 rfl) ?_
  refine rg_get (pc := 2) (C := RX7) (T := TX7) (N := 11) (κ := 7) (v := .int (mm_i M v0 6)) hx hb hts hK hR hown in_7 rfl (by decide) 6 (by decide) m_236 rfl dX7_holds_2 hf (fun hf => ?_)
  refine rg_xV (pc := 5) hf hR hA htab hlocks (by show 1 ≤ 2; decide) (by show 6 ≤ 12; decide) (fun z hz => xn_S (As := [.int v1, .int (mm_i M v0 6)]) (rest := []) hC hR (c_X7_requireNumber hlt hz _) m_526 m_527 m_1 m_528 hd_X7_requireNumber ⟨rfl, rfl, Nat.le_of_ble_eq_true rfl, Nat.le_of_ble_eq_true rfl⟩ rfl hl.1 rfl (Nat.le_of_ble_eq_true rfl) dX7_holds_5 ⟨Nat.le_of_ble_eq_true rfl, Nat.le_of_ble_eq_true rfl⟩) (fun M6 H locs hf hR => ?_)
  refine lv_aload_n (pc := 8) hx hb dX7_holds_8 rfl (lv_at hl 0 rfl) ?_
  refine rg_getr (pc := 9) (C := RX7) (T := TX7) (N := 11) (κ := 7) hx hb hts hK hR hown in_7 rfl (by decide) 5 (by decide) m_235 rfl dX7_holds_9 hf (fun a8 hf => ?_)
  refine lv_iload_n (pc := 12) hx hb dX7_holds_12 rfl (lv_at hl 1 rfl) ?_
  refine rg_aald (pc := 13) (κ := 11) hx hb hK hR 2 rfl (by decide) dX7_holds_13 hf (fun a9 hf => ?_)
  refine lv_astore_n (pc := 14) (lv' := [(3, .ref a9), (0, .ref v0), (1, .int v1), (2, .int v2)]) hx hb dX7_holds_14 rfl hl (by decide) rfl (fun ls hl => ?_)
  refine lv_iload_n (pc := 15) hx hb dX7_holds_15 rfl (lv_at hl 3 rfl) ?_
  refine lv_iconst (pc := 16) (v := (-1 : Int32)) hx hb dX7_holds_16 (by decide) ?_
  refine lv_icmp_ne (pc := 17) (tgt := 27) hx hb dX7_holds_17 (by decide) (fun hc => ?_) (fun hc => ?_)
  · replace hf := it_f hf hc
    refine lv_iload_n (pc := 27) hx hb dX7_holds_27 rfl (lv_at hl 3 rfl) ?_
    exact hB28 v2 v0 a9 M6 _ _ _ hf hR (lv_sub hl [1, 0] rfl)
  · replace hf := it_t hf hc
    refine lv_aload_n (pc := 20) hx hb dX7_holds_20 rfl (lv_at hl 0 rfl) ?_
    refine rg_get (pc := 21) (C := RX0) (T := TX0) (N := 4) (κ := 0) (v := .int (mm_i M6 a9 0)) hx hb hts hK hR hown in_0 rfl (by decide) 0 (by decide) m_214 rfl dX7_holds_21 hf (fun hf => ?_)
    refine lv_goto (pc := 24) (tgt := 28) hx hb dX7_holds_24 (by decide) ?_
    exact hB28 (mm_i M6 a9 0) v0 a9 M6 _ _ _ hf hR (lv_sub hl [1, 0] rfl)
-- X7_disputes
def f_X7_disputes_b74 (k34 : Nat → Nat → Int32 → Int32 → Int32 → Mem → Option (Mem × (Int32 ⊕ Nat))) (v0 : Nat) (v2 : Nat) (v3 : Int32) (v4 : Int32) (v5 : Int32) (M : Mem) : Option (Mem × (Int32 ⊕ Nat)) := lt_ (v5 + (1 : Int32)) fun x1 => k34 v0 v2 v3 v4 x1 M
def f_X7_disputes_b34 (k34 : Nat → Nat → Int32 → Int32 → Int32 → Mem → Option (Mem × (Int32 ⊕ Nat))) (v0 : Nat) (v2 : Nat) (v3 : Int32) (v4 : Int32) (v5 : Int32) (M : Mem) : Option (Mem × (Int32 ⊕ Nat)) := gd (M.1 v0 = 7) <| if (mm_i M v0 4) ≤ v5 then (some (M, .inl v4)) else (gd (M.1 v0 = 7) <| rd (mm_r M v0 3) fun a2 => gd (M.1 a2 = 12 ∧ vi_ v5 (mm_N M a2)) <| rd (mm_r M a2 (v5).toNatClampNeg) fun a3 => gd (M.1 a3 = 1) <| if (mm_i M a3 1) < v3 then (f_X7_disputes_b74 k34 v0 v2 v3 v4 v5 M) else (gd (M.1 v0 = 7) <| rd (mm_r M v0 3) fun a4 => gd (M.1 a4 = 12 ∧ vi_ v5 (mm_N M a4)) <| rd (mm_r M a4 (v5).toNatClampNeg) fun a5 => gd (M.1 v2 = 0) <| bd (f_X0_holdsBy v2 a5 M) fun z6 => if z6.2 = 0 then (lt_ (v4 + (1 : Int32)) fun x7 => f_X7_disputes_b74 k34 v0 v2 v3 x7 v5 z6.1) else (f_X7_disputes_b74 k34 v0 v2 v3 v4 v5 z6.1)))
def f_X7_disputes_L34  : Nat → Nat → Nat → Int32 → Int32 → Int32 → Mem → Option (Mem × (Int32 ⊕ Nat))
  | 0 => fun _ _ _ _ _ _ => none
  | n + 1 => f_X7_disputes_b34  (f_X7_disputes_L34  n)
def f_X7_disputes (v0 : Nat) (v1 : Int32) (M : Mem) : Option (Mem × (Int32 ⊕ Nat)) := gd (M.1 v0 = 7) <| bx (f_X7_requireNumber v1 (mm_i M v0 6) M) fun M8 _ => gd (M8.1 v0 = 7) <| rd (mm_r M8 v0 5) fun a10 => gd (M8.1 a10 = 11 ∧ vi_ v1 (mm_N M8 a10)) <| rd (mm_r M8 a10 (v1).toNatClampNeg) fun a11 => gd (M8.1 v0 = 7) <| rd (mm_r M8 v0 3) fun a12 => gd (M8.1 a11 = 0) <| gd (M8.1 a12 = 12 ∧ vi_ (mm_i M8 a11 0) (mm_N M8 a12)) <| rd (mm_r M8 a12 ((mm_i M8 a11 0)).toNatClampNeg) fun a13 => gd (M8.1 a13 = 1) <| lt_ ((mm_i M8 a13 1)) fun x14 => f_X7_disputes_L34 200 v0 a11 x14 (0 : Int32) (0 : Int32) M8
abbrev rm_X7_disputes : Room := { frames := 7, cells := 1, slots := 6, locals := 111 }
theorem hd_X7_disputes : yX7_disputes.cls ≠ "java/lang/invoke/MethodHandle" ∧ yX7_disputes.cls ≠ "java/lang/invoke/VarHandle" ∧ (parseMethodDescriptor yX7_disputes.desc).map (fun d => d.parameters.length) = some 1 := by decide +kernel
set_option maxHeartbeats 8000000 in
set_option maxRecDepth 100000 in
theorem c_X7_disputes {l : Launch} (hlt : l.stackTraces = false) {D : va_G} {ca : Nat → ClassId} {b : Nat} {v0 : Nat} {v1 : Int32} {M : Mem} {r : Mem × (Int32 ⊕ Nat)} (hf : f_X7_disputes v0 v1 M = some r) : CxI l yX7_disputes cX7_disputes 6 (some .int) rm_X7_disputes D ca b [.ref v0, .int v1] M r 1 6 := by
  intro sz
  refine bodyx_start (nx := false) (Qc := fun A => cxI D ca A r) (XC := fun A => cxX D ca A r) (by decide +kernel) (Nat.le_of_ble_eq_true rfl) ?_
  intro p e s m args below meth c A hC htab hr hR ls hl
  obtain ⟨hx, hb, hml, hts, hown, hlocks, hXe, hA, hAb, hnm⟩ := id hC
  have hK := hXe.1
  have hl : lv_has ls 6 [(0, .ref v0), (1, .int v1)] := hl
  have hB74 : ∀ (k34 : Nat → Nat → Int32 → Int32 → Int32 → Mem → Option (Mem × (Int32 ⊕ Nat))) (hk34 : ∀ (v0 : Nat) (v2 : Nat) (v3 : Int32) (v4 : Int32) (v5 : Int32) (M : Mem) (H : Heap) (locs : List Loc) (ls : Array Slot), k34 v0 v2 v3 v4 v5 M = some r → Hp D ca false A s M H locs → lv_has ls 6 [(0, .ref v0), (2, .ref v2), (3, .int v3), (4, .int v4), (5, .int v5)] → W p l e rm_X7_disputes s m args below meth c H locs 1 6 (vx_MQ below (cxI D ca A r) (cxX D ca A r) args s 1 6 A) (F0 m 34 ls [])) (v0 : Nat) (v2 : Nat) (v3 : Int32) (v4 : Int32) (v5 : Int32) (M : Mem) (H : Heap) (locs : List Loc) (ls : Array Slot), f_X7_disputes_b74 k34 v0 v2 v3 v4 v5 M = some r → Hp D ca false A s M H locs → lv_has ls 6 [(0, .ref v0), (2, .ref v2), (3, .int v3), (4, .int v4), (5, .int v5)] → W p l e rm_X7_disputes s m args below meth c H locs 1 6 (vx_MQ below (cxI D ca A r) (cxX D ca A r) args s 1 6 A) (F0 m 74 ls []) := by
    intro k34 hk34 v0 v2 v3 v4 v5 M H locs ls hf hR hl
    unfold f_X7_disputes_b74 at hf
    refine rg_iinc (pc := 74) hx hb dX7_disputes_74 hl (k := 4) rfl rfl (by decide) hf (fun x1 ls hf hl => ?_)
    have hl : lv_has ls 6 [(5, .int x1), (0, .ref v0), (2, .ref v2), (3, .int v3), (4, .int v4)] := hl
    refine lv_goto (pc := 77) (tgt := 34) hx hb dX7_disputes_77 (by decide) ?_
    exact hk34 v0 v2 v3 v4 x1 M _ _ _ hf hR (lv_sub hl [1, 2, 3, 4, 0] rfl)
  have hB34 : ∀ (k34 : Nat → Nat → Int32 → Int32 → Int32 → Mem → Option (Mem × (Int32 ⊕ Nat))) (hk34 : ∀ (v0 : Nat) (v2 : Nat) (v3 : Int32) (v4 : Int32) (v5 : Int32) (M : Mem) (H : Heap) (locs : List Loc) (ls : Array Slot), k34 v0 v2 v3 v4 v5 M = some r → Hp D ca false A s M H locs → lv_has ls 6 [(0, .ref v0), (2, .ref v2), (3, .int v3), (4, .int v4), (5, .int v5)] → W p l e rm_X7_disputes s m args below meth c H locs 1 6 (vx_MQ below (cxI D ca A r) (cxX D ca A r) args s 1 6 A) (F0 m 34 ls [])) (v0 : Nat) (v2 : Nat) (v3 : Int32) (v4 : Int32) (v5 : Int32) (M : Mem) (H : Heap) (locs : List Loc) (ls : Array Slot), f_X7_disputes_b34 k34 v0 v2 v3 v4 v5 M = some r → Hp D ca false A s M H locs → lv_has ls 6 [(0, .ref v0), (2, .ref v2), (3, .int v3), (4, .int v4), (5, .int v5)] → W p l e rm_X7_disputes s m args below meth c H locs 1 6 (vx_MQ below (cxI D ca A r) (cxX D ca A r) args s 1 6 A) (F0 m 34 ls []) := by
    intro k34 hk34 v0 v2 v3 v4 v5 M H locs ls hf hR hl
    unfold f_X7_disputes_b34 at hf
    refine lv_iload (pc := 34) hx hb dX7_disputes_34 (lv_at hl 4 rfl) ?_
    refine lv_aload_n (pc := 36) hx hb dX7_disputes_36 rfl (lv_at hl 0 rfl) ?_
    refine rg_get (pc := 37) (C := RX7) (T := TX7) (N := 11) (κ := 7) (v := .int (mm_i M v0 4)) hx hb hts hK hR hown in_7 rfl (by decide) 4 (by decide) m_234 rfl dX7_disputes_37 hf (fun hf => ?_)
    refine lv_icmp_ge (pc := 40) (tgt := 80) hx hb dX7_disputes_40 (by decide) (fun hc => ?_) (fun hc => ?_)
    · replace hf := it_t hf hc
      refine lv_iload (pc := 80) hx hb dX7_disputes_80 (lv_at hl 3 rfl) ?_
      exact rg_xiret (pc := 82) hx hb hlocks hr hf hR (by show 1 ≤ 1; decide) (by show 6 ≤ 6; decide) dX7_disputes_82
    · replace hf := it_f hf hc
      refine lv_aload_n (pc := 43) hx hb dX7_disputes_43 rfl (lv_at hl 0 rfl) ?_
      refine rg_getr (pc := 44) (C := RX7) (T := TX7) (N := 11) (κ := 7) hx hb hts hK hR hown in_7 rfl (by decide) 3 (by decide) m_233 rfl dX7_disputes_44 hf (fun a2 hf => ?_)
      refine lv_iload (pc := 47) hx hb dX7_disputes_47 (lv_at hl 4 rfl) ?_
      refine rg_aald (pc := 49) (κ := 12) hx hb hK hR 3 rfl (by decide) dX7_disputes_49 hf (fun a3 hf => ?_)
      refine rg_get (pc := 50) (C := RX1) (T := TX1) (N := 2) (κ := 1) (v := .int (mm_i M a3 1)) hx hb hts hK hR hown in_1 rfl (by decide) 1 (by decide) m_200 rfl dX7_disputes_50 hf (fun hf => ?_)
      refine lv_iload_n (pc := 53) hx hb dX7_disputes_53 rfl (lv_at hl 2 rfl) ?_
      refine lv_icmp_lt (pc := 54) (tgt := 74) hx hb dX7_disputes_54 (by decide) (fun hc => ?_) (fun hc => ?_)
      · replace hf := it_t hf hc
        exact hB74 k34 hk34 v0 v2 v3 v4 v5 M _ _ _ hf hR (lv_sub hl [0, 1, 2, 3, 4] rfl)
      · replace hf := it_f hf hc
        refine lv_aload_n (pc := 57) hx hb dX7_disputes_57 rfl (lv_at hl 1 rfl) ?_
        refine lv_aload_n (pc := 58) hx hb dX7_disputes_58 rfl (lv_at hl 0 rfl) ?_
        refine rg_getr (pc := 59) (C := RX7) (T := TX7) (N := 11) (κ := 7) hx hb hts hK hR hown in_7 rfl (by decide) 3 (by decide) m_233 rfl dX7_disputes_59 hf (fun a4 hf => ?_)
        refine lv_iload (pc := 62) hx hb dX7_disputes_62 (lv_at hl 4 rfl) ?_
        refine rg_aald (pc := 64) (κ := 12) hx hb hK hR 3 rfl (by decide) dX7_disputes_64 hf (fun a5 hf => ?_)
        obtain ⟨hq, hf⟩ := gd_e hf
        refine rg_I (pc := 65) hf hR hA (fun z hz => rn_V (κ := 0) (As := [.ref a5]) (rest := []) hC hR rfl (by decide) hq (c_X0_holdsBy  hz _) m_651 m_652 m_653 m_8 m_654 hd_X0_holdsBy ⟨rfl, rfl, Nat.le_of_ble_eq_true rfl, Nat.le_of_ble_eq_true rfl⟩ rfl hl.1 rfl (Nat.le_of_ble_eq_true rfl) dX7_disputes_65 ⟨Nat.le_of_ble_eq_true rfl, Nat.le_of_ble_eq_true rfl⟩) (fun z6 H locs hf hR => ?_)
        refine lv_if_ne (pc := 68) (tgt := 74) hx hb dX7_disputes_68 (by decide) (fun hc => ?_) (fun hc => ?_)
        · replace hf := it_f hf hc
          exact hB74 k34 hk34 v0 v2 v3 v4 v5 z6.1 _ _ _ hf hR (lv_sub hl [0, 1, 2, 3, 4] rfl)
        · replace hf := it_t hf hc
          refine rg_iinc (pc := 71) hx hb dX7_disputes_71 hl (k := 3) rfl rfl (by decide) hf (fun x7 ls hf hl => ?_)
          have hl : lv_has ls 6 [(4, .int x7), (0, .ref v0), (2, .ref v2), (3, .int v3), (5, .int v5)] := hl
          exact hB74 k34 hk34 v0 v2 v3 x7 v5 z6.1 _ _ _ hf hR (lv_sub hl [1, 2, 3, 0, 4] rfl)
  have hL34 : ∀  (n : Nat) (v0 : Nat) (v2 : Nat) (v3 : Int32) (v4 : Int32) (v5 : Int32) (M : Mem) (H : Heap) (locs : List Loc) (ls : Array Slot), f_X7_disputes_L34  n v0 v2 v3 v4 v5 M = some r → Hp D ca false A s M H locs → lv_has ls 6 [(0, .ref v0), (2, .ref v2), (3, .int v3), (4, .int v4), (5, .int v5)] → W p l e rm_X7_disputes s m args below meth c H locs 1 6 (vx_MQ below (cxI D ca A r) (cxX D ca A r) args s 1 6 A) (F0 m 34 ls []) := by
    intro  n
    induction n with
    | zero => intro v0 v2 v3 v4 v5 M H locs ls hf; exact nomatch (show (none : Option (Mem × (Int32 ⊕ Nat))) = some r from hf)
    | succ n ih => intro v0 v2 v3 v4 v5 M H locs ls hf hR hl; exact hB34  (f_X7_disputes_L34  n) ih v0 v2 v3 v4 v5 M H locs ls hf hR hl
  unfold f_X7_disputes at hf
  refine lv_iload_n (pc := 0) hx hb dX7_disputes_0 rfl (lv_at hl 1 rfl) ?_
  refine lv_aload_n (pc := 1) hx hb dX7_disputes_1 rfl (lv_at hl 0 rfl) ?_
  refine rg_get (pc := 2) (C := RX7) (T := TX7) (N := 11) (κ := 7) (v := .int (mm_i M v0 6)) hx hb hts hK hR hown in_7 rfl (by decide) 6 (by decide) m_236 rfl dX7_disputes_2 hf (fun hf => ?_)
  refine rg_xV (pc := 5) hf hR hA htab hlocks (by show 1 ≤ 1; decide) (by show 6 ≤ 6; decide) (fun z hz => xn_S (As := [.int v1, .int (mm_i M v0 6)]) (rest := []) hC hR (c_X7_requireNumber hlt hz _) m_526 m_527 m_1 m_528 hd_X7_requireNumber ⟨rfl, rfl, Nat.le_of_ble_eq_true rfl, Nat.le_of_ble_eq_true rfl⟩ rfl hl.1 rfl (Nat.le_of_ble_eq_true rfl) dX7_disputes_5 ⟨Nat.le_of_ble_eq_true rfl, Nat.le_of_ble_eq_true rfl⟩) (fun M8 H locs hf hR => ?_)
  refine lv_aload_n (pc := 8) hx hb dX7_disputes_8 rfl (lv_at hl 0 rfl) ?_
  refine rg_getr (pc := 9) (C := RX7) (T := TX7) (N := 11) (κ := 7) hx hb hts hK hR hown in_7 rfl (by decide) 5 (by decide) m_235 rfl dX7_disputes_9 hf (fun a10 hf => ?_)
  refine lv_iload_n (pc := 12) hx hb dX7_disputes_12 rfl (lv_at hl 1 rfl) ?_
  refine rg_aald (pc := 13) (κ := 11) hx hb hK hR 2 rfl (by decide) dX7_disputes_13 hf (fun a11 hf => ?_)
  refine lv_astore_n (pc := 14) (lv' := [(2, .ref a11), (0, .ref v0), (1, .int v1)]) hx hb dX7_disputes_14 rfl hl (by decide) rfl (fun ls hl => ?_)
  refine lv_aload_n (pc := 15) hx hb dX7_disputes_15 rfl (lv_at hl 1 rfl) ?_
  refine rg_getr (pc := 16) (C := RX7) (T := TX7) (N := 11) (κ := 7) hx hb hts hK hR hown in_7 rfl (by decide) 3 (by decide) m_233 rfl dX7_disputes_16 hf (fun a12 hf => ?_)
  refine lv_aload_n (pc := 19) hx hb dX7_disputes_19 rfl (lv_at hl 0 rfl) ?_
  refine rg_get (pc := 20) (C := RX0) (T := TX0) (N := 4) (κ := 0) (v := .int (mm_i M8 a11 0)) hx hb hts hK hR hown in_0 rfl (by decide) 0 (by decide) m_214 rfl dX7_disputes_20 hf (fun hf => ?_)
  refine rg_aald (pc := 23) (κ := 12) hx hb hK hR 3 rfl (by decide) dX7_disputes_23 hf (fun a13 hf => ?_)
  refine rg_get (pc := 24) (C := RX1) (T := TX1) (N := 2) (κ := 1) (v := .int (mm_i M8 a13 1)) hx hb hts hK hR hown in_1 rfl (by decide) 1 (by decide) m_200 rfl dX7_disputes_24 hf (fun hf => ?_)
  refine nm_i hf (fun x14 hf => ?_)
  refine lv_istore_n (pc := 27) (lv' := [(3, .int x14), (2, .ref a11), (0, .ref v0), (1, .int v1)]) hx hb dX7_disputes_27 rfl hl (by decide) rfl (fun ls hl => ?_)
  refine lv_iconst (pc := 28) (v := (0 : Int32)) hx hb dX7_disputes_28 (by decide) ?_
  refine lv_istore (pc := 29) (lv' := [(4, .int (0 : Int32)), (3, .int x14), (2, .ref a11), (0, .ref v0), (1, .int v1)]) hx hb dX7_disputes_29 hl (by decide) rfl (fun ls hl => ?_)
  refine lv_iconst (pc := 31) (v := (0 : Int32)) hx hb dX7_disputes_31 (by decide) ?_
  refine lv_istore (pc := 32) (lv' := [(5, .int (0 : Int32)), (4, .int (0 : Int32)), (3, .int x14), (2, .ref a11), (0, .ref v0), (1, .int v1)]) hx hb dX7_disputes_32 hl (by decide) rfl (fun ls hl => ?_)
  exact hL34 200 v0 a11 x14 (0 : Int32) (0 : Int32) M8 _ _ _ hf hR (lv_sub hl [4, 3, 2, 1, 0] rfl)
-- X8_thrown
def f_X8_thrown (v0 : Nat) (M : Mem) : Option (Mem × Int32) := gd (M.1 v0 = 8) <| some (M, (mm_i M v0 0))
abbrev rm_X8_thrown : Room := { frames := 0, cells := 0, slots := 0, locals := 0 }
theorem hd_X8_thrown : yX8_thrown.cls ≠ "java/lang/invoke/MethodHandle" ∧ yX8_thrown.cls ≠ "java/lang/invoke/VarHandle" ∧ (parseMethodDescriptor yX8_thrown.desc).map (fun d => d.parameters.length) = some 0 := by decide +kernel
set_option maxHeartbeats 8000000 in
set_option maxRecDepth 100000 in
theorem c_X8_thrown {l : Launch} {D : va_G} {ca : Nat → ClassId} {b : Nat} {nx : Bool} {v0 : Nat} {M : Mem} {r : Mem × Int32} (hf : f_X8_thrown v0 M = some r) : CtI l yX8_thrown cX8_thrown 1 (some .int) rm_X8_thrown D ca b nx [.ref v0] M r := by
  intro sz
  refine body_start (Qc := fun A => cvI D ca nx A r) (by decide +kernel) (Nat.le_of_ble_eq_true rfl) ?_
  intro p e s m args below meth c A hC hr hR ls hl
  obtain ⟨hx, hb, hml, hts, hown, hlocks, hXe, hA, hAb, hnm⟩ := id hC
  have hK := hXe.1
  have hl : lv_has ls 1 [(0, .ref v0)] := hl
  unfold f_X8_thrown at hf
  refine lv_aload_n (pc := 0) hx hb dX8_thrown_0 rfl (lv_at hl 0 rfl) ?_
  refine rg_get (pc := 1) (C := RX8) (T := TX8) (N := 37) (κ := 8) (v := .int (mm_i M v0 0)) hx hb hts hK hR hown in_8 rfl (by decide) 0 (by decide) m_668 rfl dX8_thrown_1 hf (fun hf => ?_)
  exact rg_iret (pc := 4) hx hb hlocks hr hf hR dX8_thrown_4
-- X8_isIn
def f_X8_isIn_b15  (s0 : Int32) (M : Mem) : Option (Mem × Int32) := gd (s0 = 0 ∨ s0 = 1) <| some (M, s0)
def f_X8_isIn_b14   (M : Mem) : Option (Mem × Int32) := f_X8_isIn_b15 (0 : Int32) M
def f_X8_isIn (v0 : Int32) (v1 : Int32) (v2 : Int32) (M : Mem) : Option (Mem × Int32) := if v0 < v1 then (f_X8_isIn_b14  M) else (if v2 < v0 then (f_X8_isIn_b14  M) else (f_X8_isIn_b15 (1 : Int32) M))
abbrev rm_X8_isIn : Room := { frames := 0, cells := 0, slots := 0, locals := 0 }
theorem hd_X8_isIn : yX8_isIn.cls ≠ "java/lang/invoke/MethodHandle" ∧ yX8_isIn.cls ≠ "java/lang/invoke/VarHandle" ∧ (parseMethodDescriptor yX8_isIn.desc).map (fun d => d.parameters.length) = some 3 := by decide +kernel
set_option maxHeartbeats 8000000 in
set_option maxRecDepth 100000 in
theorem c_X8_isIn {l : Launch} {D : va_G} {ca : Nat → ClassId} {b : Nat} {nx : Bool} {v0 : Int32} {v1 : Int32} {v2 : Int32} {M : Mem} {r : Mem × Int32} (hf : f_X8_isIn v0 v1 v2 M = some r) : CtI l yX8_isIn cX8_isIn 3 (some .boolean) rm_X8_isIn D ca b nx [.int v0, .int v1, .int v2] M r := by
  intro sz
  refine body_start (Qc := fun A => cvI D ca nx A r) (by decide +kernel) (Nat.le_of_ble_eq_true rfl) ?_
  intro p e s m args below meth c A hC hr hR ls hl
  obtain ⟨hx, hb, hml, hts, hown, hlocks, hXe, hA, hAb, hnm⟩ := id hC
  have hK := hXe.1
  have hl : lv_has ls 3 [(0, .int v0), (1, .int v1), (2, .int v2)] := hl
  have hB15 : ∀  (s0 : Int32) (M : Mem) (H : Heap) (locs : List Loc) (ls : Array Slot), f_X8_isIn_b15  s0 M = some r → Hp D ca nx A s M H locs → lv_has ls 3 [] → W p l e rm_X8_isIn s m args below meth c H locs 0 0 (MQ below (cvI D ca nx A r) args s 0 0 A) (F0 m 15 ls [.int s0]) := by
    intro  s0 M H locs ls hf hR hl
    unfold f_X8_isIn_b15 at hf
    exact rg_zret (pc := 15) hx hb hlocks hr hf hR dX8_isIn_15
  have hB14 : ∀   (M : Mem) (H : Heap) (locs : List Loc) (ls : Array Slot), f_X8_isIn_b14   M = some r → Hp D ca nx A s M H locs → lv_has ls 3 [] → W p l e rm_X8_isIn s m args below meth c H locs 0 0 (MQ below (cvI D ca nx A r) args s 0 0 A) (F0 m 14 ls []) := by
    intro   M H locs ls hf hR hl
    unfold f_X8_isIn_b14 at hf
    refine lv_iconst (pc := 14) (v := (0 : Int32)) hx hb dX8_isIn_14 (by decide) ?_
    exact hB15 (0 : Int32) M _ _ _ hf hR (lv_sub hl [] rfl)
  unfold f_X8_isIn at hf
  refine lv_iload_n (pc := 0) hx hb dX8_isIn_0 rfl (lv_at hl 0 rfl) ?_
  refine lv_iload_n (pc := 1) hx hb dX8_isIn_1 rfl (lv_at hl 1 rfl) ?_
  refine lv_icmp_lt (pc := 2) (tgt := 14) hx hb dX8_isIn_2 (by decide) (fun hc => ?_) (fun hc => ?_)
  · replace hf := it_t hf hc
    exact hB14  M _ _ _ hf hR (lv_sub hl [] rfl)
  · replace hf := it_f hf hc
    refine lv_iload_n (pc := 5) hx hb dX8_isIn_5 rfl (lv_at hl 0 rfl) ?_
    refine lv_iload_n (pc := 6) hx hb dX8_isIn_6 rfl (lv_at hl 2 rfl) ?_
    refine lv_icmp_gt (pc := 7) (tgt := 14) hx hb dX8_isIn_7 (by decide) (fun hc => ?_) (fun hc => ?_)
    · replace hf := it_t hf hc
      exact hB14  M _ _ _ hf hR (lv_sub hl [] rfl)
    · replace hf := it_f hf hc
      refine lv_iconst (pc := 10) (v := (1 : Int32)) hx hb dX8_isIn_10 (by decide) ?_
      refine lv_goto (pc := 11) (tgt := 15) hx hb dX8_isIn_11 (by decide) ?_
      exact hB15 (1 : Int32) M _ _ _ hf hR (lv_sub hl [] rfl)
-- X8_isLane
def f_X8_isLane (v0 : Int32) (M : Mem) : Option (Mem × Int32) := bd (f_X8_isIn v0 (0 : Int32) (63 : Int32) M) fun z1 => gd (z1.2 = 0 ∨ z1.2 = 1) <| some (z1.1, z1.2)
abbrev rm_X8_isLane : Room := { frames := 1, cells := 0, slots := 0, locals := 22 }
theorem hd_X8_isLane : yX8_isLane.cls ≠ "java/lang/invoke/MethodHandle" ∧ yX8_isLane.cls ≠ "java/lang/invoke/VarHandle" ∧ (parseMethodDescriptor yX8_isLane.desc).map (fun d => d.parameters.length) = some 1 := by decide +kernel
set_option maxHeartbeats 8000000 in
set_option maxRecDepth 100000 in
theorem c_X8_isLane {l : Launch} {D : va_G} {ca : Nat → ClassId} {b : Nat} {nx : Bool} {v0 : Int32} {M : Mem} {r : Mem × Int32} (hf : f_X8_isLane v0 M = some r) : CtI l yX8_isLane cX8_isLane 1 (some .boolean) rm_X8_isLane D ca b nx [.int v0] M r := by
  intro sz
  refine body_start (Qc := fun A => cvI D ca nx A r) (by decide +kernel) (Nat.le_of_ble_eq_true rfl) ?_
  intro p e s m args below meth c A hC hr hR ls hl
  obtain ⟨hx, hb, hml, hts, hown, hlocks, hXe, hA, hAb, hnm⟩ := id hC
  have hK := hXe.1
  have hl : lv_has ls 1 [(0, .int v0)] := hl
  unfold f_X8_isLane at hf
  refine lv_iload_n (pc := 0) hx hb dX8_isLane_0 rfl (lv_at hl 0 rfl) ?_
  refine lv_iconst (pc := 1) (v := (0 : Int32)) hx hb dX8_isLane_1 (by decide) ?_
  refine lv_bipush (pc := 2) (v := (63 : Int32)) hx hb dX8_isLane_2 (by decide) ?_
  refine rg_I (pc := 4) hf hR hA (fun z hz => rn_S (As := [.int v0, .int (0 : Int32), .int (63 : Int32)]) (rest := []) hC hR (c_X8_isIn  hz _) m_792 m_793 m_9 m_794 hd_X8_isIn ⟨rfl, rfl, Nat.le_of_ble_eq_true rfl, Nat.le_of_ble_eq_true rfl⟩ rfl hl.1 rfl (Nat.le_of_ble_eq_true rfl) dX8_isLane_4 ⟨Nat.le_of_ble_eq_true rfl, Nat.le_of_ble_eq_true rfl⟩) (fun z1 H locs hf hR => ?_)
  exact rg_zret (pc := 7) hx hb hlocks hr hf hR dX8_isLane_7
-- X8_adds
def f_X8_adds (v0 : Nat) (v1 : Int32) (v2 : Int32) (v3 : Int32) (v4 : Int32) (v5 : Int32) (M : Mem) : Option (Mem × Int32) := gd (M.1 v0 = 8) <| rd (mm_r M v0 7) fun a1 => gd (M.1 v0 = 8) <| gd (M.1 a1 = 9 ∧ vi_ (mm_i M v0 6) (mm_N M a1)) <| lt_ (ms_i M a1 ((mm_i M v0 6)).toNatClampNeg v1) fun M2 => gd (M2.1 v0 = 8) <| rd (mm_r M2 v0 8) fun a3 => gd (M2.1 v0 = 8) <| gd (M2.1 a3 = 9 ∧ vi_ (mm_i M2 v0 6) (mm_N M2 a3)) <| lt_ (ms_i M2 a3 ((mm_i M2 v0 6)).toNatClampNeg v2) fun M4 => gd (M4.1 v0 = 8) <| rd (mm_r M4 v0 9) fun a5 => gd (M4.1 v0 = 8) <| gd (M4.1 a5 = 9 ∧ vi_ (mm_i M4 v0 6) (mm_N M4 a5)) <| lt_ (ms_i M4 a5 ((mm_i M4 v0 6)).toNatClampNeg v3) fun M6 => gd (M6.1 v0 = 8) <| rd (mm_r M6 v0 10) fun a7 => gd (M6.1 v0 = 8) <| gd (M6.1 a7 = 9 ∧ vi_ (mm_i M6 v0 6) (mm_N M6 a7)) <| lt_ (ms_i M6 a7 ((mm_i M6 v0 6)).toNatClampNeg v4) fun M8 => gd (M8.1 v0 = 8) <| rd (mm_r M8 v0 11) fun a9 => gd (M8.1 v0 = 8) <| gd (M8.1 a9 = 9 ∧ vi_ (mm_i M8 v0 6) (mm_N M8 a9)) <| lt_ (ms_i M8 a9 ((mm_i M8 v0 6)).toNatClampNeg v5) fun M10 => gd (M10.1 v0 = 8) <| rd (mm_r M10 v0 12) fun a11 => gd (M10.1 v0 = 8) <| gd (M10.1 a11 = 10 ∧ vi_ (mm_i M10 v0 6) (mm_N M10 a11)) <| lt_ (ms_i M10 a11 ((mm_i M10 v0 6)).toNatClampNeg (1 : Int32)) fun M12 => gd (M12.1 v0 = 8) <| gd (M12.1 v0 = 8) <| lt_ (ms_i M12 v0 6 ((mm_i M12 v0 6) + (1 : Int32))) fun M13 => gd (M13.1 v0 = 8) <| some (M13, ((mm_i M13 v0 6) - (1 : Int32)))
abbrev rm_X8_adds : Room := { frames := 0, cells := 0, slots := 0, locals := 0 }
theorem hd_X8_adds : yX8_adds.cls ≠ "java/lang/invoke/MethodHandle" ∧ yX8_adds.cls ≠ "java/lang/invoke/VarHandle" ∧ (parseMethodDescriptor yX8_adds.desc).map (fun d => d.parameters.length) = some 5 := by decide +kernel
set_option maxHeartbeats 8000000 in
set_option maxRecDepth 100000 in
theorem c_X8_adds {l : Launch} {D : va_G} {ca : Nat → ClassId} {b : Nat} {nx : Bool} {v0 : Nat} {v1 : Int32} {v2 : Int32} {v3 : Int32} {v4 : Int32} {v5 : Int32} {M : Mem} {r : Mem × Int32} (hf : f_X8_adds v0 v1 v2 v3 v4 v5 M = some r) : CtI l yX8_adds cX8_adds 6 (some .int) rm_X8_adds D ca b nx [.ref v0, .int v1, .int v2, .int v3, .int v4, .int v5] M r := by
  intro sz
  refine body_start (Qc := fun A => cvI D ca nx A r) (by decide +kernel) (Nat.le_of_ble_eq_true rfl) ?_
  intro p e s m args below meth c A hC hr hR ls hl
  obtain ⟨hx, hb, hml, hts, hown, hlocks, hXe, hA, hAb, hnm⟩ := id hC
  have hK := hXe.1
  have hl : lv_has ls 6 [(0, .ref v0), (1, .int v1), (2, .int v2), (3, .int v3), (4, .int v4), (5, .int v5)] := hl
  unfold f_X8_adds at hf
  refine lv_aload_n (pc := 0) hx hb dX8_adds_0 rfl (lv_at hl 0 rfl) ?_
  refine rg_getr (pc := 1) (C := RX8) (T := TX8) (N := 37) (κ := 8) hx hb hts hK hR hown in_8 rfl (by decide) 7 (by decide) m_675 rfl dX8_adds_1 hf (fun a1 hf => ?_)
  refine lv_aload_n (pc := 4) hx hb dX8_adds_4 rfl (lv_at hl 0 rfl) ?_
  refine rg_get (pc := 5) (C := RX8) (T := TX8) (N := 37) (κ := 8) (v := .int (mm_i M v0 6)) hx hb hts hK hR hown in_8 rfl (by decide) 6 (by decide) m_674 rfl dX8_adds_5 hf (fun hf => ?_)
  refine lv_iload_n (pc := 8) hx hb dX8_adds_8 rfl (lv_at hl 1 rfl) ?_
  refine rg_iast (pc := 9) hx hb hK hR dX8_adds_9 hf (fun M2 H locs hf hR => ?_)
  refine lv_aload_n (pc := 10) hx hb dX8_adds_10 rfl (lv_at hl 0 rfl) ?_
  refine rg_getr (pc := 11) (C := RX8) (T := TX8) (N := 37) (κ := 8) hx hb hts hK hR hown in_8 rfl (by decide) 8 (by decide) m_676 rfl dX8_adds_11 hf (fun a3 hf => ?_)
  refine lv_aload_n (pc := 14) hx hb dX8_adds_14 rfl (lv_at hl 0 rfl) ?_
  refine rg_get (pc := 15) (C := RX8) (T := TX8) (N := 37) (κ := 8) (v := .int (mm_i M2 v0 6)) hx hb hts hK hR hown in_8 rfl (by decide) 6 (by decide) m_674 rfl dX8_adds_15 hf (fun hf => ?_)
  refine lv_iload_n (pc := 18) hx hb dX8_adds_18 rfl (lv_at hl 2 rfl) ?_
  refine rg_iast (pc := 19) hx hb hK hR dX8_adds_19 hf (fun M4 H locs hf hR => ?_)
  refine lv_aload_n (pc := 20) hx hb dX8_adds_20 rfl (lv_at hl 0 rfl) ?_
  refine rg_getr (pc := 21) (C := RX8) (T := TX8) (N := 37) (κ := 8) hx hb hts hK hR hown in_8 rfl (by decide) 9 (by decide) m_677 rfl dX8_adds_21 hf (fun a5 hf => ?_)
  refine lv_aload_n (pc := 24) hx hb dX8_adds_24 rfl (lv_at hl 0 rfl) ?_
  refine rg_get (pc := 25) (C := RX8) (T := TX8) (N := 37) (κ := 8) (v := .int (mm_i M4 v0 6)) hx hb hts hK hR hown in_8 rfl (by decide) 6 (by decide) m_674 rfl dX8_adds_25 hf (fun hf => ?_)
  refine lv_iload_n (pc := 28) hx hb dX8_adds_28 rfl (lv_at hl 3 rfl) ?_
  refine rg_iast (pc := 29) hx hb hK hR dX8_adds_29 hf (fun M6 H locs hf hR => ?_)
  refine lv_aload_n (pc := 30) hx hb dX8_adds_30 rfl (lv_at hl 0 rfl) ?_
  refine rg_getr (pc := 31) (C := RX8) (T := TX8) (N := 37) (κ := 8) hx hb hts hK hR hown in_8 rfl (by decide) 10 (by decide) m_678 rfl dX8_adds_31 hf (fun a7 hf => ?_)
  refine lv_aload_n (pc := 34) hx hb dX8_adds_34 rfl (lv_at hl 0 rfl) ?_
  refine rg_get (pc := 35) (C := RX8) (T := TX8) (N := 37) (κ := 8) (v := .int (mm_i M6 v0 6)) hx hb hts hK hR hown in_8 rfl (by decide) 6 (by decide) m_674 rfl dX8_adds_35 hf (fun hf => ?_)
  refine lv_iload (pc := 38) hx hb dX8_adds_38 (lv_at hl 4 rfl) ?_
  refine rg_iast (pc := 40) hx hb hK hR dX8_adds_40 hf (fun M8 H locs hf hR => ?_)
  refine lv_aload_n (pc := 41) hx hb dX8_adds_41 rfl (lv_at hl 0 rfl) ?_
  refine rg_getr (pc := 42) (C := RX8) (T := TX8) (N := 37) (κ := 8) hx hb hts hK hR hown in_8 rfl (by decide) 11 (by decide) m_679 rfl dX8_adds_42 hf (fun a9 hf => ?_)
  refine lv_aload_n (pc := 45) hx hb dX8_adds_45 rfl (lv_at hl 0 rfl) ?_
  refine rg_get (pc := 46) (C := RX8) (T := TX8) (N := 37) (κ := 8) (v := .int (mm_i M8 v0 6)) hx hb hts hK hR hown in_8 rfl (by decide) 6 (by decide) m_674 rfl dX8_adds_46 hf (fun hf => ?_)
  refine lv_iload (pc := 49) hx hb dX8_adds_49 (lv_at hl 5 rfl) ?_
  refine rg_iast (pc := 51) hx hb hK hR dX8_adds_51 hf (fun M10 H locs hf hR => ?_)
  refine lv_aload_n (pc := 52) hx hb dX8_adds_52 rfl (lv_at hl 0 rfl) ?_
  refine rg_getr (pc := 53) (C := RX8) (T := TX8) (N := 37) (κ := 8) hx hb hts hK hR hown in_8 rfl (by decide) 12 (by decide) m_680 rfl dX8_adds_53 hf (fun a11 hf => ?_)
  refine lv_aload_n (pc := 56) hx hb dX8_adds_56 rfl (lv_at hl 0 rfl) ?_
  refine rg_get (pc := 57) (C := RX8) (T := TX8) (N := 37) (κ := 8) (v := .int (mm_i M10 v0 6)) hx hb hts hK hR hown in_8 rfl (by decide) 6 (by decide) m_674 rfl dX8_adds_57 hf (fun hf => ?_)
  refine lv_iconst (pc := 60) (v := (1 : Int32)) hx hb dX8_adds_60 (by decide) ?_
  refine rg_zast (pc := 61) hx hb hK hR rfl dX8_adds_61 hf (fun M12 H locs hf hR => ?_)
  refine lv_aload_n (pc := 62) hx hb dX8_adds_62 rfl (lv_at hl 0 rfl) ?_
  refine lv_dup (pc := 63) hx hb dX8_adds_63 rfl ?_
  refine rg_get (pc := 64) (C := RX8) (T := TX8) (N := 37) (κ := 8) (v := .int (mm_i M12 v0 6)) hx hb hts hK hR hown in_8 rfl (by decide) 6 (by decide) m_674 rfl dX8_adds_64 hf (fun hf => ?_)
  refine lv_iconst (pc := 67) (v := (1 : Int32)) hx hb dX8_adds_67 (by decide) ?_
  refine lv_iadd (pc := 68) hx hb dX8_adds_68 ?_
  refine rg_puti (pc := 69) (C := RX8) (T := TX8) (N := 37) (κ := 8) hx hb hts hK hR hown in_8 rfl (by decide) 6 (by decide) m_674 tyX8 tyX8_ok nmX8 rfl rfl rfl rfl dX8_adds_69 hf (fun M13 H locs hf hR => ?_)
  refine lv_aload_n (pc := 72) hx hb dX8_adds_72 rfl (lv_at hl 0 rfl) ?_
  refine rg_get (pc := 73) (C := RX8) (T := TX8) (N := 37) (κ := 8) (v := .int (mm_i M13 v0 6)) hx hb hts hK hR hown in_8 rfl (by decide) 6 (by decide) m_674 rfl dX8_adds_73 hf (fun hf => ?_)
  refine lv_iconst (pc := 76) (v := (1 : Int32)) hx hb dX8_adds_76 (by decide) ?_
  refine lv_isub (pc := 77) hx hb dX8_adds_77 ?_
  exact rg_iret (pc := 78) hx hb hlocks hr hf hR dX8_adds_78
-- X8_grain
def f_X8_grain_b70  (s0 : Int32) (s1 : Nat) (v0 : Nat) (v1 : Int32) (v2 : Int32) (v3 : Int32) (v4 : Int32) (M : Mem) : Option (Mem × Int32) := gd (M.1 s1 = 8) <| lt_ (ms_i M s1 0 s0) fun M1 => gd (M1.1 v0 = 8) <| if (mm_i M1 v0 0) ≤ 0 then (gd (M1.1 v0 = 8) <| gd (M1.1 v0 = 8) <| lt_ (ms_i M1 v0 25 ((mm_i M1 v0 25) + v3)) fun M2 => gd (M2.1 v0 = 8) <| gd (M2.1 v0 = 8) <| lt_ (ms_l M2 v0 26 ((mm_l M2 v0 26) + ((v3).toInt64 * ((v1 + (20 : Int32))).toInt64))) fun M3 => gd (M3.1 v0 = 8) <| bd (f_X8_adds v0 v1 v2 v3 v4 (0 : Int32) M3) fun z4 => some (z4.1, z4.2)) else (some (M1, (0 : Int32)))
def f_X8_grain_b44  (s0 : Int32) (v0 : Nat) (v1 : Int32) (v2 : Int32) (v3 : Int32) (v4 : Int32) (M : Mem) : Option (Mem × Int32) := if s0 = 0 then (f_X8_grain_b70 (1 : Int32) v0 v0 v1 v2 v3 v4 M) else (gd (M.1 v0 = 8) <| if (mm_i M v0 6) = (80 : Int32) then (f_X8_grain_b70 (2 : Int32) v0 v0 v1 v2 v3 v4 M) else (f_X8_grain_b70 (0 : Int32) v0 v0 v1 v2 v3 v4 M))
def f_X8_grain_b43  (v0 : Nat) (v1 : Int32) (v2 : Int32) (v3 : Int32) (v4 : Int32) (M : Mem) : Option (Mem × Int32) := f_X8_grain_b44 (0 : Int32) v0 v1 v2 v3 v4 M
def f_X8_grain (v0 : Nat) (v1 : Int32) (v2 : Int32) (v3 : Int32) (v4 : Int32) (M : Mem) : Option (Mem × Int32) := bd (f_X8_isLane v1 M) fun z5 => if z5.2 = 0 then (f_X8_grain_b43 v0 v1 v2 v3 v4 z5.1) else (bd (f_X8_isIn v2 (0 : Int32) (35999 : Int32) z5.1) fun z6 => if z6.2 = 0 then (f_X8_grain_b43 v0 v1 v2 v3 v4 z6.1) else (bd (f_X8_isIn v3 (1 : Int32) (10000 : Int32) z6.1) fun z7 => if z7.2 = 0 then (f_X8_grain_b43 v0 v1 v2 v3 v4 z7.1) else (bd (f_X8_isIn v4 (0 : Int32) (99 : Int32) z7.1) fun z8 => if z8.2 = 0 then (f_X8_grain_b43 v0 v1 v2 v3 v4 z8.1) else (f_X8_grain_b44 (1 : Int32) v0 v1 v2 v3 v4 z8.1))))
abbrev rm_X8_grain : Room := { frames := 2, cells := 0, slots := 0, locals := 42 }
theorem hd_X8_grain : yX8_grain.cls ≠ "java/lang/invoke/MethodHandle" ∧ yX8_grain.cls ≠ "java/lang/invoke/VarHandle" ∧ (parseMethodDescriptor yX8_grain.desc).map (fun d => d.parameters.length) = some 4 := by decide +kernel
set_option maxHeartbeats 8000000 in
set_option maxRecDepth 100000 in
theorem c_X8_grain {l : Launch} {D : va_G} {ca : Nat → ClassId} {b : Nat} {nx : Bool} {v0 : Nat} {v1 : Int32} {v2 : Int32} {v3 : Int32} {v4 : Int32} {M : Mem} {r : Mem × Int32} (hf : f_X8_grain v0 v1 v2 v3 v4 M = some r) : CtI l yX8_grain cX8_grain 6 (some .int) rm_X8_grain D ca b nx [.ref v0, .int v1, .int v2, .int v3, .int v4] M r := by
  intro sz
  refine body_start (Qc := fun A => cvI D ca nx A r) (by decide +kernel) (Nat.le_of_ble_eq_true rfl) ?_
  intro p e s m args below meth c A hC hr hR ls hl
  obtain ⟨hx, hb, hml, hts, hown, hlocks, hXe, hA, hAb, hnm⟩ := id hC
  have hK := hXe.1
  have hl : lv_has ls 6 [(0, .ref v0), (1, .int v1), (2, .int v2), (3, .int v3), (4, .int v4)] := hl
  have hB70 : ∀  (s0 : Int32) (s1 : Nat) (v0 : Nat) (v1 : Int32) (v2 : Int32) (v3 : Int32) (v4 : Int32) (M : Mem) (H : Heap) (locs : List Loc) (ls : Array Slot), f_X8_grain_b70  s0 s1 v0 v1 v2 v3 v4 M = some r → Hp D ca nx A s M H locs → lv_has ls 6 [(0, .ref v0), (1, .int v1), (2, .int v2), (3, .int v3), (4, .int v4)] → W p l e rm_X8_grain s m args below meth c H locs 0 0 (MQ below (cvI D ca nx A r) args s 0 0 A) (F0 m 70 ls [.int s0, .ref s1]) := by
    intro  s0 s1 v0 v1 v2 v3 v4 M H locs ls hf hR hl
    unfold f_X8_grain_b70 at hf
    refine rg_puti (pc := 70) (C := RX8) (T := TX8) (N := 37) (κ := 8) hx hb hts hK hR hown in_8 rfl (by decide) 0 (by decide) m_668 tyX8 tyX8_ok nmX8 rfl rfl rfl rfl dX8_grain_70 hf (fun M1 H locs hf hR => ?_)
    refine lv_aload_n (pc := 73) hx hb dX8_grain_73 rfl (lv_at hl 0 rfl) ?_
    refine rg_get (pc := 74) (C := RX8) (T := TX8) (N := 37) (κ := 8) (v := .int (mm_i M1 v0 0)) hx hb hts hK hR hown in_8 rfl (by decide) 0 (by decide) m_668 rfl dX8_grain_74 hf (fun hf => ?_)
    refine lv_if_le (pc := 77) (tgt := 82) hx hb dX8_grain_77 (by decide) (fun hc => ?_) (fun hc => ?_)
    · replace hf := it_t hf hc
      refine lv_aload_n (pc := 82) hx hb dX8_grain_82 rfl (lv_at hl 0 rfl) ?_
      refine lv_dup (pc := 83) hx hb dX8_grain_83 rfl ?_
      refine rg_get (pc := 84) (C := RX8) (T := TX8) (N := 37) (κ := 8) (v := .int (mm_i M1 v0 25)) hx hb hts hK hR hown in_8 rfl (by decide) 25 (by decide) m_693 rfl dX8_grain_84 hf (fun hf => ?_)
      refine lv_iload_n (pc := 87) hx hb dX8_grain_87 rfl (lv_at hl 3 rfl) ?_
      refine lv_iadd (pc := 88) hx hb dX8_grain_88 ?_
      refine rg_puti (pc := 89) (C := RX8) (T := TX8) (N := 37) (κ := 8) hx hb hts hK hR hown in_8 rfl (by decide) 25 (by decide) m_693 tyX8 tyX8_ok nmX8 rfl rfl rfl rfl dX8_grain_89 hf (fun M2 H locs hf hR => ?_)
      refine lv_aload_n (pc := 92) hx hb dX8_grain_92 rfl (lv_at hl 0 rfl) ?_
      refine lv_dup (pc := 93) hx hb dX8_grain_93 rfl ?_
      refine rg_get (pc := 94) (C := RX8) (T := TX8) (N := 37) (κ := 8) (v := .long (mm_l M2 v0 26)) hx hb hts hK hR hown in_8 rfl (by decide) 26 (by decide) m_694 rfl dX8_grain_94 hf (fun hf => ?_)
      refine lv_iload_n (pc := 97) hx hb dX8_grain_97 rfl (lv_at hl 3 rfl) ?_
      refine lv_i2l (pc := 98) hx hb dX8_grain_98 rfl ?_
      refine lv_iload_n (pc := 99) hx hb dX8_grain_99 rfl (lv_at hl 1 rfl) ?_
      refine lv_bipush (pc := 100) (v := (20 : Int32)) hx hb dX8_grain_100 (by decide) ?_
      refine lv_iadd (pc := 102) hx hb dX8_grain_102 ?_
      refine lv_i2l (pc := 103) hx hb dX8_grain_103 rfl ?_
      refine lv_lmul (pc := 104) hx hb dX8_grain_104 ?_
      refine lv_ladd (pc := 105) hx hb dX8_grain_105 ?_
      refine rg_putl (pc := 106) (C := RX8) (T := TX8) (N := 37) (κ := 8) hx hb hts hK hR hown in_8 rfl (by decide) 26 (by decide) m_694 tyX8 tyX8_ok nmX8 rfl rfl rfl rfl dX8_grain_106 hf (fun M3 H locs hf hR => ?_)
      refine lv_aload_n (pc := 109) hx hb dX8_grain_109 rfl (lv_at hl 0 rfl) ?_
      refine lv_iload_n (pc := 110) hx hb dX8_grain_110 rfl (lv_at hl 1 rfl) ?_
      refine lv_iload_n (pc := 111) hx hb dX8_grain_111 rfl (lv_at hl 2 rfl) ?_
      refine lv_iload_n (pc := 112) hx hb dX8_grain_112 rfl (lv_at hl 3 rfl) ?_
      refine lv_iload (pc := 113) hx hb dX8_grain_113 (lv_at hl 4 rfl) ?_
      refine lv_iconst (pc := 115) (v := (0 : Int32)) hx hb dX8_grain_115 (by decide) ?_
      obtain ⟨hq, hf⟩ := gd_e hf
      refine rg_I (pc := 116) hf hR hA (fun z hz => rn_V (κ := 8) (As := [.int v1, .int v2, .int v3, .int v4, .int (0 : Int32)]) (rest := []) hC hR rfl (by decide) hq (c_X8_adds  hz _) m_796 m_798 ms_11 m_9 m_799 hd_X8_adds ⟨rfl, rfl, Nat.le_of_ble_eq_true rfl, Nat.le_of_ble_eq_true rfl⟩ rfl hl.1 rfl (Nat.le_of_ble_eq_true rfl) dX8_grain_116 ⟨Nat.le_of_ble_eq_true rfl, Nat.le_of_ble_eq_true rfl⟩) (fun z4 H locs hf hR => ?_)
      exact rg_iret (pc := 119) hx hb hlocks hr hf hR dX8_grain_119
    · replace hf := it_f hf hc
      refine lv_iconst (pc := 80) (v := (0 : Int32)) hx hb dX8_grain_80 (by decide) ?_
      exact rg_iret (pc := 81) hx hb hlocks hr hf hR dX8_grain_81
  have hB44 : ∀  (s0 : Int32) (v0 : Nat) (v1 : Int32) (v2 : Int32) (v3 : Int32) (v4 : Int32) (M : Mem) (H : Heap) (locs : List Loc) (ls : Array Slot), f_X8_grain_b44  s0 v0 v1 v2 v3 v4 M = some r → Hp D ca nx A s M H locs → lv_has ls 6 [(0, .ref v0), (1, .int v1), (2, .int v2), (3, .int v3), (4, .int v4)] → W p l e rm_X8_grain s m args below meth c H locs 0 0 (MQ below (cvI D ca nx A r) args s 0 0 A) (F0 m 44 ls [.int s0]) := by
    intro  s0 v0 v1 v2 v3 v4 M H locs ls hf hR hl
    unfold f_X8_grain_b44 at hf
    refine lv_istore (pc := 44) (lv' := [(5, .int s0), (0, .ref v0), (1, .int v1), (2, .int v2), (3, .int v3), (4, .int v4)]) hx hb dX8_grain_44 hl (by decide) rfl (fun ls hl => ?_)
    refine lv_aload_n (pc := 46) hx hb dX8_grain_46 rfl (lv_at hl 1 rfl) ?_
    refine lv_iload (pc := 47) hx hb dX8_grain_47 (lv_at hl 0 rfl) ?_
    refine lv_if_ne (pc := 49) (tgt := 56) hx hb dX8_grain_49 (by decide) (fun hc => ?_) (fun hc => ?_)
    · replace hf := it_f hf hc
      refine lv_aload_n (pc := 56) hx hb dX8_grain_56 rfl (lv_at hl 1 rfl) ?_
      refine rg_get (pc := 57) (C := RX8) (T := TX8) (N := 37) (κ := 8) (v := .int (mm_i M v0 6)) hx hb hts hK hR hown in_8 rfl (by decide) 6 (by decide) m_674 rfl dX8_grain_57 hf (fun hf => ?_)
      refine lv_bipush (pc := 60) (v := (80 : Int32)) hx hb dX8_grain_60 (by decide) ?_
      refine lv_icmp_ne (pc := 62) (tgt := 69) hx hb dX8_grain_62 (by decide) (fun hc => ?_) (fun hc => ?_)
      · replace hf := it_f hf hc
        refine lv_iconst (pc := 69) (v := (0 : Int32)) hx hb dX8_grain_69 (by decide) ?_
        exact hB70 (0 : Int32) v0 v0 v1 v2 v3 v4 M _ _ _ hf hR (lv_sub hl [1, 2, 3, 4, 5] rfl)
      · replace hf := it_t hf hc
        refine lv_iconst (pc := 65) (v := (2 : Int32)) hx hb dX8_grain_65 (by decide) ?_
        refine lv_goto (pc := 66) (tgt := 70) hx hb dX8_grain_66 (by decide) ?_
        exact hB70 (2 : Int32) v0 v0 v1 v2 v3 v4 M _ _ _ hf hR (lv_sub hl [1, 2, 3, 4, 5] rfl)
    · replace hf := it_t hf hc
      refine lv_iconst (pc := 52) (v := (1 : Int32)) hx hb dX8_grain_52 (by decide) ?_
      refine lv_goto (pc := 53) (tgt := 70) hx hb dX8_grain_53 (by decide) ?_
      exact hB70 (1 : Int32) v0 v0 v1 v2 v3 v4 M _ _ _ hf hR (lv_sub hl [1, 2, 3, 4, 5] rfl)
  have hB43 : ∀  (v0 : Nat) (v1 : Int32) (v2 : Int32) (v3 : Int32) (v4 : Int32) (M : Mem) (H : Heap) (locs : List Loc) (ls : Array Slot), f_X8_grain_b43  v0 v1 v2 v3 v4 M = some r → Hp D ca nx A s M H locs → lv_has ls 6 [(0, .ref v0), (1, .int v1), (2, .int v2), (3, .int v3), (4, .int v4)] → W p l e rm_X8_grain s m args below meth c H locs 0 0 (MQ below (cvI D ca nx A r) args s 0 0 A) (F0 m 43 ls []) := by
    intro  v0 v1 v2 v3 v4 M H locs ls hf hR hl
    unfold f_X8_grain_b43 at hf
    refine lv_iconst (pc := 43) (v := (0 : Int32)) hx hb dX8_grain_43 (by decide) ?_
    exact hB44 (0 : Int32) v0 v1 v2 v3 v4 M _ _ _ hf hR (lv_sub hl [0, 1, 2, 3, 4] rfl)
  unfold f_X8_grain at hf
  refine lv_iload_n (pc := 0) hx hb dX8_grain_0 rfl (lv_at hl 1 rfl) ?_
  refine rg_I (pc := 1) hf hR hA (fun z hz => rn_S (As := [.int v1]) (rest := []) hC hR (c_X8_isLane  hz _) m_789 m_790 m_9 m_791 hd_X8_isLane ⟨rfl, rfl, Nat.le_of_ble_eq_true rfl, Nat.le_of_ble_eq_true rfl⟩ rfl hl.1 rfl (Nat.le_of_ble_eq_true rfl) dX8_grain_1 ⟨Nat.le_of_ble_eq_true rfl, Nat.le_of_ble_eq_true rfl⟩) (fun z5 H locs hf hR => ?_)
  refine lv_if_eq (pc := 4) (tgt := 43) hx hb dX8_grain_4 (by decide) (fun hc => ?_) (fun hc => ?_)
  · replace hf := it_t hf hc
    exact hB43 v0 v1 v2 v3 v4 z5.1 _ _ _ hf hR (lv_sub hl [0, 1, 2, 3, 4] rfl)
  · replace hf := it_f hf hc
    refine lv_iload_n (pc := 7) hx hb dX8_grain_7 rfl (lv_at hl 2 rfl) ?_
    refine lv_iconst (pc := 8) (v := (0 : Int32)) hx hb dX8_grain_8 (by decide) ?_
    refine lv_ldc (pc := 9) hx hb hown (hts _ m_795) dX8_grain_9 ?_
    refine rg_I (pc := 11) hf hR hA (fun z hz => rn_S (As := [.int v2, .int (0 : Int32), .int (35999 : Int32)]) (rest := []) hC hR (c_X8_isIn  hz _) m_792 m_793 m_9 m_794 hd_X8_isIn ⟨rfl, rfl, Nat.le_of_ble_eq_true rfl, Nat.le_of_ble_eq_true rfl⟩ rfl hl.1 rfl (Nat.le_of_ble_eq_true rfl) dX8_grain_11 ⟨Nat.le_of_ble_eq_true rfl, Nat.le_of_ble_eq_true rfl⟩) (fun z6 H locs hf hR => ?_)
    refine lv_if_eq (pc := 14) (tgt := 43) hx hb dX8_grain_14 (by decide) (fun hc => ?_) (fun hc => ?_)
    · replace hf := it_t hf hc
      exact hB43 v0 v1 v2 v3 v4 z6.1 _ _ _ hf hR (lv_sub hl [0, 1, 2, 3, 4] rfl)
    · replace hf := it_f hf hc
      refine lv_iload_n (pc := 17) hx hb dX8_grain_17 rfl (lv_at hl 3 rfl) ?_
      refine lv_iconst (pc := 18) (v := (1 : Int32)) hx hb dX8_grain_18 (by decide) ?_
      refine lv_sipush (pc := 19) (v := (10000 : Int32)) hx hb dX8_grain_19 (by decide) ?_
      refine rg_I (pc := 22) hf hR hA (fun z hz => rn_S (As := [.int v3, .int (1 : Int32), .int (10000 : Int32)]) (rest := []) hC hR (c_X8_isIn  hz _) m_792 m_793 m_9 m_794 hd_X8_isIn ⟨rfl, rfl, Nat.le_of_ble_eq_true rfl, Nat.le_of_ble_eq_true rfl⟩ rfl hl.1 rfl (Nat.le_of_ble_eq_true rfl) dX8_grain_22 ⟨Nat.le_of_ble_eq_true rfl, Nat.le_of_ble_eq_true rfl⟩) (fun z7 H locs hf hR => ?_)
      refine lv_if_eq (pc := 25) (tgt := 43) hx hb dX8_grain_25 (by decide) (fun hc => ?_) (fun hc => ?_)
      · replace hf := it_t hf hc
        exact hB43 v0 v1 v2 v3 v4 z7.1 _ _ _ hf hR (lv_sub hl [0, 1, 2, 3, 4] rfl)
      · replace hf := it_f hf hc
        refine lv_iload (pc := 28) hx hb dX8_grain_28 (lv_at hl 4 rfl) ?_
        refine lv_iconst (pc := 30) (v := (0 : Int32)) hx hb dX8_grain_30 (by decide) ?_
        refine lv_bipush (pc := 31) (v := (99 : Int32)) hx hb dX8_grain_31 (by decide) ?_
        refine rg_I (pc := 33) hf hR hA (fun z hz => rn_S (As := [.int v4, .int (0 : Int32), .int (99 : Int32)]) (rest := []) hC hR (c_X8_isIn  hz _) m_792 m_793 m_9 m_794 hd_X8_isIn ⟨rfl, rfl, Nat.le_of_ble_eq_true rfl, Nat.le_of_ble_eq_true rfl⟩ rfl hl.1 rfl (Nat.le_of_ble_eq_true rfl) dX8_grain_33 ⟨Nat.le_of_ble_eq_true rfl, Nat.le_of_ble_eq_true rfl⟩) (fun z8 H locs hf hR => ?_)
        refine lv_if_eq (pc := 36) (tgt := 43) hx hb dX8_grain_36 (by decide) (fun hc => ?_) (fun hc => ?_)
        · replace hf := it_t hf hc
          exact hB43 v0 v1 v2 v3 v4 z8.1 _ _ _ hf hR (lv_sub hl [0, 1, 2, 3, 4] rfl)
        · replace hf := it_f hf hc
          refine lv_iconst (pc := 39) (v := (1 : Int32)) hx hb dX8_grain_39 (by decide) ?_
          refine lv_goto (pc := 40) (tgt := 44) hx hb dX8_grain_40 (by decide) ?_
          exact hB44 (1 : Int32) v0 v1 v2 v3 v4 z8.1 _ _ _ hf hR (lv_sub hl [0, 1, 2, 3, 4] rfl)
-- X8_moon
def f_X8_moon_b59  (s0 : Int32) (s1 : Nat) (v0 : Nat) (v1 : Int32) (v2 : Int32) (v3 : Int32) (M : Mem) : Option (Mem × Int32) := gd (M.1 s1 = 8) <| lt_ (ms_i M s1 0 s0) fun M1 => gd (M1.1 v0 = 8) <| if (mm_i M1 v0 0) ≤ 0 then (gd (M1.1 v0 = 8) <| rd (mm_r M1 v0 15) fun a2 => gd (M1.1 v0 = 8) <| gd (M1.1 a2 = 9 ∧ vi_ (mm_i M1 v0 14) (mm_N M1 a2)) <| lt_ (ms_i M1 a2 ((mm_i M1 v0 14)).toNatClampNeg v1) fun M3 => gd (M3.1 v0 = 8) <| rd (mm_r M3 v0 16) fun a4 => gd (M3.1 v0 = 8) <| gd (M3.1 a4 = 9 ∧ vi_ (mm_i M3 v0 14) (mm_N M3 a4)) <| lt_ (ms_i M3 a4 ((mm_i M3 v0 14)).toNatClampNeg v2) fun M5 => gd (M5.1 v0 = 8) <| rd (mm_r M5 v0 17) fun a6 => gd (M5.1 v0 = 8) <| gd (M5.1 a6 = 9 ∧ vi_ (mm_i M5 v0 14) (mm_N M5 a6)) <| lt_ (ms_i M5 a6 ((mm_i M5 v0 14)).toNatClampNeg v3) fun M7 => gd (M7.1 v0 = 8) <| gd (M7.1 v0 = 8) <| lt_ (ms_i M7 v0 14 ((mm_i M7 v0 14) + (1 : Int32))) fun M8 => gd (M8.1 v0 = 8) <| some (M8, ((mm_i M8 v0 14) - (1 : Int32)))) else (some (M1, (0 : Int32)))
def f_X8_moon_b33  (s0 : Int32) (v0 : Nat) (v1 : Int32) (v2 : Int32) (v3 : Int32) (M : Mem) : Option (Mem × Int32) := if s0 = 0 then (f_X8_moon_b59 (1 : Int32) v0 v0 v1 v2 v3 M) else (gd (M.1 v0 = 8) <| if (mm_i M v0 14) = (6 : Int32) then (f_X8_moon_b59 (2 : Int32) v0 v0 v1 v2 v3 M) else (f_X8_moon_b59 (0 : Int32) v0 v0 v1 v2 v3 M))
def f_X8_moon_b32  (v0 : Nat) (v1 : Int32) (v2 : Int32) (v3 : Int32) (M : Mem) : Option (Mem × Int32) := f_X8_moon_b33 (0 : Int32) v0 v1 v2 v3 M
def f_X8_moon (v0 : Nat) (v1 : Int32) (v2 : Int32) (v3 : Int32) (M : Mem) : Option (Mem × Int32) := bd (f_X8_isLane v1 M) fun z9 => if z9.2 = 0 then (f_X8_moon_b32 v0 v1 v2 v3 z9.1) else (bd (f_X8_isIn v2 (0 : Int32) (35999 : Int32) z9.1) fun z10 => if z10.2 = 0 then (f_X8_moon_b32 v0 v1 v2 v3 z10.1) else (bd (f_X8_isIn v3 (1 : Int32) (10000 : Int32) z10.1) fun z11 => if z11.2 = 0 then (f_X8_moon_b32 v0 v1 v2 v3 z11.1) else (f_X8_moon_b33 (1 : Int32) v0 v1 v2 v3 z11.1)))
abbrev rm_X8_moon : Room := { frames := 2, cells := 0, slots := 0, locals := 42 }
theorem hd_X8_moon : yX8_moon.cls ≠ "java/lang/invoke/MethodHandle" ∧ yX8_moon.cls ≠ "java/lang/invoke/VarHandle" ∧ (parseMethodDescriptor yX8_moon.desc).map (fun d => d.parameters.length) = some 3 := by decide +kernel
set_option maxHeartbeats 8000000 in
set_option maxRecDepth 100000 in
theorem c_X8_moon {l : Launch} {D : va_G} {ca : Nat → ClassId} {b : Nat} {nx : Bool} {v0 : Nat} {v1 : Int32} {v2 : Int32} {v3 : Int32} {M : Mem} {r : Mem × Int32} (hf : f_X8_moon v0 v1 v2 v3 M = some r) : CtI l yX8_moon cX8_moon 5 (some .int) rm_X8_moon D ca b nx [.ref v0, .int v1, .int v2, .int v3] M r := by
  intro sz
  refine body_start (Qc := fun A => cvI D ca nx A r) (by decide +kernel) (Nat.le_of_ble_eq_true rfl) ?_
  intro p e s m args below meth c A hC hr hR ls hl
  obtain ⟨hx, hb, hml, hts, hown, hlocks, hXe, hA, hAb, hnm⟩ := id hC
  have hK := hXe.1
  have hl : lv_has ls 5 [(0, .ref v0), (1, .int v1), (2, .int v2), (3, .int v3)] := hl
  have hB59 : ∀  (s0 : Int32) (s1 : Nat) (v0 : Nat) (v1 : Int32) (v2 : Int32) (v3 : Int32) (M : Mem) (H : Heap) (locs : List Loc) (ls : Array Slot), f_X8_moon_b59  s0 s1 v0 v1 v2 v3 M = some r → Hp D ca nx A s M H locs → lv_has ls 5 [(0, .ref v0), (1, .int v1), (2, .int v2), (3, .int v3)] → W p l e rm_X8_moon s m args below meth c H locs 0 0 (MQ below (cvI D ca nx A r) args s 0 0 A) (F0 m 59 ls [.int s0, .ref s1]) := by
    intro  s0 s1 v0 v1 v2 v3 M H locs ls hf hR hl
    unfold f_X8_moon_b59 at hf
    refine rg_puti (pc := 59) (C := RX8) (T := TX8) (N := 37) (κ := 8) hx hb hts hK hR hown in_8 rfl (by decide) 0 (by decide) m_668 tyX8 tyX8_ok nmX8 rfl rfl rfl rfl dX8_moon_59 hf (fun M1 H locs hf hR => ?_)
    refine lv_aload_n (pc := 62) hx hb dX8_moon_62 rfl (lv_at hl 0 rfl) ?_
    refine rg_get (pc := 63) (C := RX8) (T := TX8) (N := 37) (κ := 8) (v := .int (mm_i M1 v0 0)) hx hb hts hK hR hown in_8 rfl (by decide) 0 (by decide) m_668 rfl dX8_moon_63 hf (fun hf => ?_)
    refine lv_if_le (pc := 66) (tgt := 71) hx hb dX8_moon_66 (by decide) (fun hc => ?_) (fun hc => ?_)
    · replace hf := it_t hf hc
      refine lv_aload_n (pc := 71) hx hb dX8_moon_71 rfl (lv_at hl 0 rfl) ?_
      refine rg_getr (pc := 72) (C := RX8) (T := TX8) (N := 37) (κ := 8) hx hb hts hK hR hown in_8 rfl (by decide) 15 (by decide) m_683 rfl dX8_moon_72 hf (fun a2 hf => ?_)
      refine lv_aload_n (pc := 75) hx hb dX8_moon_75 rfl (lv_at hl 0 rfl) ?_
      refine rg_get (pc := 76) (C := RX8) (T := TX8) (N := 37) (κ := 8) (v := .int (mm_i M1 v0 14)) hx hb hts hK hR hown in_8 rfl (by decide) 14 (by decide) m_682 rfl dX8_moon_76 hf (fun hf => ?_)
      refine lv_iload_n (pc := 79) hx hb dX8_moon_79 rfl (lv_at hl 1 rfl) ?_
      refine rg_iast (pc := 80) hx hb hK hR dX8_moon_80 hf (fun M3 H locs hf hR => ?_)
      refine lv_aload_n (pc := 81) hx hb dX8_moon_81 rfl (lv_at hl 0 rfl) ?_
      refine rg_getr (pc := 82) (C := RX8) (T := TX8) (N := 37) (κ := 8) hx hb hts hK hR hown in_8 rfl (by decide) 16 (by decide) m_684 rfl dX8_moon_82 hf (fun a4 hf => ?_)
      refine lv_aload_n (pc := 85) hx hb dX8_moon_85 rfl (lv_at hl 0 rfl) ?_
      refine rg_get (pc := 86) (C := RX8) (T := TX8) (N := 37) (κ := 8) (v := .int (mm_i M3 v0 14)) hx hb hts hK hR hown in_8 rfl (by decide) 14 (by decide) m_682 rfl dX8_moon_86 hf (fun hf => ?_)
      refine lv_iload_n (pc := 89) hx hb dX8_moon_89 rfl (lv_at hl 2 rfl) ?_
      refine rg_iast (pc := 90) hx hb hK hR dX8_moon_90 hf (fun M5 H locs hf hR => ?_)
      refine lv_aload_n (pc := 91) hx hb dX8_moon_91 rfl (lv_at hl 0 rfl) ?_
      refine rg_getr (pc := 92) (C := RX8) (T := TX8) (N := 37) (κ := 8) hx hb hts hK hR hown in_8 rfl (by decide) 17 (by decide) m_685 rfl dX8_moon_92 hf (fun a6 hf => ?_)
      refine lv_aload_n (pc := 95) hx hb dX8_moon_95 rfl (lv_at hl 0 rfl) ?_
      refine rg_get (pc := 96) (C := RX8) (T := TX8) (N := 37) (κ := 8) (v := .int (mm_i M5 v0 14)) hx hb hts hK hR hown in_8 rfl (by decide) 14 (by decide) m_682 rfl dX8_moon_96 hf (fun hf => ?_)
      refine lv_iload_n (pc := 99) hx hb dX8_moon_99 rfl (lv_at hl 3 rfl) ?_
      refine rg_iast (pc := 100) hx hb hK hR dX8_moon_100 hf (fun M7 H locs hf hR => ?_)
      refine lv_aload_n (pc := 101) hx hb dX8_moon_101 rfl (lv_at hl 0 rfl) ?_
      refine lv_dup (pc := 102) hx hb dX8_moon_102 rfl ?_
      refine rg_get (pc := 103) (C := RX8) (T := TX8) (N := 37) (κ := 8) (v := .int (mm_i M7 v0 14)) hx hb hts hK hR hown in_8 rfl (by decide) 14 (by decide) m_682 rfl dX8_moon_103 hf (fun hf => ?_)
      refine lv_iconst (pc := 106) (v := (1 : Int32)) hx hb dX8_moon_106 (by decide) ?_
      refine lv_iadd (pc := 107) hx hb dX8_moon_107 ?_
      refine rg_puti (pc := 108) (C := RX8) (T := TX8) (N := 37) (κ := 8) hx hb hts hK hR hown in_8 rfl (by decide) 14 (by decide) m_682 tyX8 tyX8_ok nmX8 rfl rfl rfl rfl dX8_moon_108 hf (fun M8 H locs hf hR => ?_)
      refine lv_aload_n (pc := 111) hx hb dX8_moon_111 rfl (lv_at hl 0 rfl) ?_
      refine rg_get (pc := 112) (C := RX8) (T := TX8) (N := 37) (κ := 8) (v := .int (mm_i M8 v0 14)) hx hb hts hK hR hown in_8 rfl (by decide) 14 (by decide) m_682 rfl dX8_moon_112 hf (fun hf => ?_)
      refine lv_iconst (pc := 115) (v := (1 : Int32)) hx hb dX8_moon_115 (by decide) ?_
      refine lv_isub (pc := 116) hx hb dX8_moon_116 ?_
      exact rg_iret (pc := 117) hx hb hlocks hr hf hR dX8_moon_117
    · replace hf := it_f hf hc
      refine lv_iconst (pc := 69) (v := (0 : Int32)) hx hb dX8_moon_69 (by decide) ?_
      exact rg_iret (pc := 70) hx hb hlocks hr hf hR dX8_moon_70
  have hB33 : ∀  (s0 : Int32) (v0 : Nat) (v1 : Int32) (v2 : Int32) (v3 : Int32) (M : Mem) (H : Heap) (locs : List Loc) (ls : Array Slot), f_X8_moon_b33  s0 v0 v1 v2 v3 M = some r → Hp D ca nx A s M H locs → lv_has ls 5 [(0, .ref v0), (1, .int v1), (2, .int v2), (3, .int v3)] → W p l e rm_X8_moon s m args below meth c H locs 0 0 (MQ below (cvI D ca nx A r) args s 0 0 A) (F0 m 33 ls [.int s0]) := by
    intro  s0 v0 v1 v2 v3 M H locs ls hf hR hl
    unfold f_X8_moon_b33 at hf
    refine lv_istore (pc := 33) (lv' := [(4, .int s0), (0, .ref v0), (1, .int v1), (2, .int v2), (3, .int v3)]) hx hb dX8_moon_33 hl (by decide) rfl (fun ls hl => ?_)
    refine lv_aload_n (pc := 35) hx hb dX8_moon_35 rfl (lv_at hl 1 rfl) ?_
    refine lv_iload (pc := 36) hx hb dX8_moon_36 (lv_at hl 0 rfl) ?_
    refine lv_if_ne (pc := 38) (tgt := 45) hx hb dX8_moon_38 (by decide) (fun hc => ?_) (fun hc => ?_)
    · replace hf := it_f hf hc
      refine lv_aload_n (pc := 45) hx hb dX8_moon_45 rfl (lv_at hl 1 rfl) ?_
      refine rg_get (pc := 46) (C := RX8) (T := TX8) (N := 37) (κ := 8) (v := .int (mm_i M v0 14)) hx hb hts hK hR hown in_8 rfl (by decide) 14 (by decide) m_682 rfl dX8_moon_46 hf (fun hf => ?_)
      refine lv_bipush (pc := 49) (v := (6 : Int32)) hx hb dX8_moon_49 (by decide) ?_
      refine lv_icmp_ne (pc := 51) (tgt := 58) hx hb dX8_moon_51 (by decide) (fun hc => ?_) (fun hc => ?_)
      · replace hf := it_f hf hc
        refine lv_iconst (pc := 58) (v := (0 : Int32)) hx hb dX8_moon_58 (by decide) ?_
        exact hB59 (0 : Int32) v0 v0 v1 v2 v3 M _ _ _ hf hR (lv_sub hl [1, 2, 3, 4] rfl)
      · replace hf := it_t hf hc
        refine lv_iconst (pc := 54) (v := (2 : Int32)) hx hb dX8_moon_54 (by decide) ?_
        refine lv_goto (pc := 55) (tgt := 59) hx hb dX8_moon_55 (by decide) ?_
        exact hB59 (2 : Int32) v0 v0 v1 v2 v3 M _ _ _ hf hR (lv_sub hl [1, 2, 3, 4] rfl)
    · replace hf := it_t hf hc
      refine lv_iconst (pc := 41) (v := (1 : Int32)) hx hb dX8_moon_41 (by decide) ?_
      refine lv_goto (pc := 42) (tgt := 59) hx hb dX8_moon_42 (by decide) ?_
      exact hB59 (1 : Int32) v0 v0 v1 v2 v3 M _ _ _ hf hR (lv_sub hl [1, 2, 3, 4] rfl)
  have hB32 : ∀  (v0 : Nat) (v1 : Int32) (v2 : Int32) (v3 : Int32) (M : Mem) (H : Heap) (locs : List Loc) (ls : Array Slot), f_X8_moon_b32  v0 v1 v2 v3 M = some r → Hp D ca nx A s M H locs → lv_has ls 5 [(0, .ref v0), (1, .int v1), (2, .int v2), (3, .int v3)] → W p l e rm_X8_moon s m args below meth c H locs 0 0 (MQ below (cvI D ca nx A r) args s 0 0 A) (F0 m 32 ls []) := by
    intro  v0 v1 v2 v3 M H locs ls hf hR hl
    unfold f_X8_moon_b32 at hf
    refine lv_iconst (pc := 32) (v := (0 : Int32)) hx hb dX8_moon_32 (by decide) ?_
    exact hB33 (0 : Int32) v0 v1 v2 v3 M _ _ _ hf hR (lv_sub hl [0, 1, 2, 3] rfl)
  unfold f_X8_moon at hf
  refine lv_iload_n (pc := 0) hx hb dX8_moon_0 rfl (lv_at hl 1 rfl) ?_
  refine rg_I (pc := 1) hf hR hA (fun z hz => rn_S (As := [.int v1]) (rest := []) hC hR (c_X8_isLane  hz _) m_789 m_790 m_9 m_791 hd_X8_isLane ⟨rfl, rfl, Nat.le_of_ble_eq_true rfl, Nat.le_of_ble_eq_true rfl⟩ rfl hl.1 rfl (Nat.le_of_ble_eq_true rfl) dX8_moon_1 ⟨Nat.le_of_ble_eq_true rfl, Nat.le_of_ble_eq_true rfl⟩) (fun z9 H locs hf hR => ?_)
  refine lv_if_eq (pc := 4) (tgt := 32) hx hb dX8_moon_4 (by decide) (fun hc => ?_) (fun hc => ?_)
  · replace hf := it_t hf hc
    exact hB32 v0 v1 v2 v3 z9.1 _ _ _ hf hR (lv_sub hl [0, 1, 2, 3] rfl)
  · replace hf := it_f hf hc
    refine lv_iload_n (pc := 7) hx hb dX8_moon_7 rfl (lv_at hl 2 rfl) ?_
    refine lv_iconst (pc := 8) (v := (0 : Int32)) hx hb dX8_moon_8 (by decide) ?_
    refine lv_ldc (pc := 9) hx hb hown (hts _ m_795) dX8_moon_9 ?_
    refine rg_I (pc := 11) hf hR hA (fun z hz => rn_S (As := [.int v2, .int (0 : Int32), .int (35999 : Int32)]) (rest := []) hC hR (c_X8_isIn  hz _) m_792 m_793 m_9 m_794 hd_X8_isIn ⟨rfl, rfl, Nat.le_of_ble_eq_true rfl, Nat.le_of_ble_eq_true rfl⟩ rfl hl.1 rfl (Nat.le_of_ble_eq_true rfl) dX8_moon_11 ⟨Nat.le_of_ble_eq_true rfl, Nat.le_of_ble_eq_true rfl⟩) (fun z10 H locs hf hR => ?_)
    refine lv_if_eq (pc := 14) (tgt := 32) hx hb dX8_moon_14 (by decide) (fun hc => ?_) (fun hc => ?_)
    · replace hf := it_t hf hc
      exact hB32 v0 v1 v2 v3 z10.1 _ _ _ hf hR (lv_sub hl [0, 1, 2, 3] rfl)
    · replace hf := it_f hf hc
      refine lv_iload_n (pc := 17) hx hb dX8_moon_17 rfl (lv_at hl 3 rfl) ?_
      refine lv_iconst (pc := 18) (v := (1 : Int32)) hx hb dX8_moon_18 (by decide) ?_
      refine lv_sipush (pc := 19) (v := (10000 : Int32)) hx hb dX8_moon_19 (by decide) ?_
      refine rg_I (pc := 22) hf hR hA (fun z hz => rn_S (As := [.int v3, .int (1 : Int32), .int (10000 : Int32)]) (rest := []) hC hR (c_X8_isIn  hz _) m_792 m_793 m_9 m_794 hd_X8_isIn ⟨rfl, rfl, Nat.le_of_ble_eq_true rfl, Nat.le_of_ble_eq_true rfl⟩ rfl hl.1 rfl (Nat.le_of_ble_eq_true rfl) dX8_moon_22 ⟨Nat.le_of_ble_eq_true rfl, Nat.le_of_ble_eq_true rfl⟩) (fun z11 H locs hf hR => ?_)
      refine lv_if_eq (pc := 25) (tgt := 32) hx hb dX8_moon_25 (by decide) (fun hc => ?_) (fun hc => ?_)
      · replace hf := it_t hf hc
        exact hB32 v0 v1 v2 v3 z11.1 _ _ _ hf hR (lv_sub hl [0, 1, 2, 3] rfl)
      · replace hf := it_f hf hc
        refine lv_iconst (pc := 28) (v := (1 : Int32)) hx hb dX8_moon_28 (by decide) ?_
        refine lv_goto (pc := 29) (tgt := 33) hx hb dX8_moon_29 (by decide) ?_
        exact hB33 (1 : Int32) v0 v1 v2 v3 z11.1 _ _ _ hf hR (lv_sub hl [0, 1, 2, 3] rfl)
-- X8_flatness
def f_X8_flatness_b17  (s0 : Int32) (s1 : Nat) (v0 : Nat) (v1 : Int32) (M : Mem) : Option (Mem × Int32) := gd (M.1 s1 = 8) <| lt_ (ms_i M s1 0 s0) fun M1 => gd (M1.1 v0 = 8) <| if (mm_i M1 v0 0) ≤ 0 then (gd (M1.1 v0 = 8) <| lt_ ((mm_i M1 v0 2)) fun x2 => gd (M1.1 v0 = 8) <| lt_ (ms_i M1 v0 2 v1) fun M3 => some (M3, x2)) else (some (M1, (0 : Int32)))
def f_X8_flatness (v0 : Nat) (v1 : Int32) (M : Mem) : Option (Mem × Int32) := bd (f_X8_isIn v1 (0 : Int32) (1000 : Int32) M) fun z4 => if z4.2 = 0 then (f_X8_flatness_b17 (1 : Int32) v0 v0 v1 z4.1) else (f_X8_flatness_b17 (0 : Int32) v0 v0 v1 z4.1)
abbrev rm_X8_flatness : Room := { frames := 1, cells := 0, slots := 0, locals := 22 }
theorem hd_X8_flatness : yX8_flatness.cls ≠ "java/lang/invoke/MethodHandle" ∧ yX8_flatness.cls ≠ "java/lang/invoke/VarHandle" ∧ (parseMethodDescriptor yX8_flatness.desc).map (fun d => d.parameters.length) = some 1 := by decide +kernel
set_option maxHeartbeats 8000000 in
set_option maxRecDepth 100000 in
theorem c_X8_flatness {l : Launch} {D : va_G} {ca : Nat → ClassId} {b : Nat} {nx : Bool} {v0 : Nat} {v1 : Int32} {M : Mem} {r : Mem × Int32} (hf : f_X8_flatness v0 v1 M = some r) : CtI l yX8_flatness cX8_flatness 3 (some .int) rm_X8_flatness D ca b nx [.ref v0, .int v1] M r := by
  intro sz
  refine body_start (Qc := fun A => cvI D ca nx A r) (by decide +kernel) (Nat.le_of_ble_eq_true rfl) ?_
  intro p e s m args below meth c A hC hr hR ls hl
  obtain ⟨hx, hb, hml, hts, hown, hlocks, hXe, hA, hAb, hnm⟩ := id hC
  have hK := hXe.1
  have hl : lv_has ls 3 [(0, .ref v0), (1, .int v1)] := hl
  have hB17 : ∀  (s0 : Int32) (s1 : Nat) (v0 : Nat) (v1 : Int32) (M : Mem) (H : Heap) (locs : List Loc) (ls : Array Slot), f_X8_flatness_b17  s0 s1 v0 v1 M = some r → Hp D ca nx A s M H locs → lv_has ls 3 [(0, .ref v0), (1, .int v1)] → W p l e rm_X8_flatness s m args below meth c H locs 0 0 (MQ below (cvI D ca nx A r) args s 0 0 A) (F0 m 17 ls [.int s0, .ref s1]) := by
    intro  s0 s1 v0 v1 M H locs ls hf hR hl
    unfold f_X8_flatness_b17 at hf
    refine rg_puti (pc := 17) (C := RX8) (T := TX8) (N := 37) (κ := 8) hx hb hts hK hR hown in_8 rfl (by decide) 0 (by decide) m_668 tyX8 tyX8_ok nmX8 rfl rfl rfl rfl dX8_flatness_17 hf (fun M1 H locs hf hR => ?_)
    refine lv_aload_n (pc := 20) hx hb dX8_flatness_20 rfl (lv_at hl 0 rfl) ?_
    refine rg_get (pc := 21) (C := RX8) (T := TX8) (N := 37) (κ := 8) (v := .int (mm_i M1 v0 0)) hx hb hts hK hR hown in_8 rfl (by decide) 0 (by decide) m_668 rfl dX8_flatness_21 hf (fun hf => ?_)
    refine lv_if_le (pc := 24) (tgt := 29) hx hb dX8_flatness_24 (by decide) (fun hc => ?_) (fun hc => ?_)
    · replace hf := it_t hf hc
      refine lv_aload_n (pc := 29) hx hb dX8_flatness_29 rfl (lv_at hl 0 rfl) ?_
      refine rg_get (pc := 30) (C := RX8) (T := TX8) (N := 37) (κ := 8) (v := .int (mm_i M1 v0 2)) hx hb hts hK hR hown in_8 rfl (by decide) 2 (by decide) m_670 rfl dX8_flatness_30 hf (fun hf => ?_)
      refine nm_i hf (fun x2 hf => ?_)
      refine lv_istore_n (pc := 33) (lv' := [(2, .int x2), (0, .ref v0), (1, .int v1)]) hx hb dX8_flatness_33 rfl hl (by decide) rfl (fun ls hl => ?_)
      refine lv_aload_n (pc := 34) hx hb dX8_flatness_34 rfl (lv_at hl 1 rfl) ?_
      refine lv_iload_n (pc := 35) hx hb dX8_flatness_35 rfl (lv_at hl 2 rfl) ?_
      refine rg_puti (pc := 36) (C := RX8) (T := TX8) (N := 37) (κ := 8) hx hb hts hK hR hown in_8 rfl (by decide) 2 (by decide) m_670 tyX8 tyX8_ok nmX8 rfl rfl rfl rfl dX8_flatness_36 hf (fun M3 H locs hf hR => ?_)
      refine lv_iload_n (pc := 39) hx hb dX8_flatness_39 rfl (lv_at hl 0 rfl) ?_
      exact rg_iret (pc := 40) hx hb hlocks hr hf hR dX8_flatness_40
    · replace hf := it_f hf hc
      refine lv_iconst (pc := 27) (v := (0 : Int32)) hx hb dX8_flatness_27 (by decide) ?_
      exact rg_iret (pc := 28) hx hb hlocks hr hf hR dX8_flatness_28
  unfold f_X8_flatness at hf
  refine lv_aload_n (pc := 0) hx hb dX8_flatness_0 rfl (lv_at hl 0 rfl) ?_
  refine lv_iload_n (pc := 1) hx hb dX8_flatness_1 rfl (lv_at hl 1 rfl) ?_
  refine lv_iconst (pc := 2) (v := (0 : Int32)) hx hb dX8_flatness_2 (by decide) ?_
  refine lv_sipush (pc := 3) (v := (1000 : Int32)) hx hb dX8_flatness_3 (by decide) ?_
  refine rg_I (pc := 6) hf hR hA (fun z hz => rn_S (As := [.int v1, .int (0 : Int32), .int (1000 : Int32)]) (rest := [.ref v0]) hC hR (c_X8_isIn  hz _) m_792 m_793 m_9 m_794 hd_X8_isIn ⟨rfl, rfl, Nat.le_of_ble_eq_true rfl, Nat.le_of_ble_eq_true rfl⟩ rfl hl.1 rfl (Nat.le_of_ble_eq_true rfl) dX8_flatness_6 ⟨Nat.le_of_ble_eq_true rfl, Nat.le_of_ble_eq_true rfl⟩) (fun z4 H locs hf hR => ?_)
  refine lv_if_eq (pc := 9) (tgt := 16) hx hb dX8_flatness_9 (by decide) (fun hc => ?_) (fun hc => ?_)
  · replace hf := it_t hf hc
    refine lv_iconst (pc := 16) (v := (1 : Int32)) hx hb dX8_flatness_16 (by decide) ?_
    exact hB17 (1 : Int32) v0 v0 v1 z4.1 _ _ _ hf hR (lv_sub hl [0, 1] rfl)
  · replace hf := it_f hf hc
    refine lv_iconst (pc := 12) (v := (0 : Int32)) hx hb dX8_flatness_12 (by decide) ?_
    refine lv_goto (pc := 13) (tgt := 17) hx hb dX8_flatness_13 (by decide) ?_
    exact hB17 (0 : Int32) v0 v0 v1 z4.1 _ _ _ hf hR (lv_sub hl [0, 1] rfl)
