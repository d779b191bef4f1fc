section LB
variable {p : Program} {l : Launch} {e : Env} {s : State} {m : MethodId} {below : List Frame} {meth : Method} {c : Code} {D : va_G} {ca : Nat → ClassId} {b L : Nat} {xs : Nat → Int32}
set_option maxHeartbeats 8000000 in
set_option maxRecDepth 100000 in
theorem b_law_2114 (X : LX p l s m meth c D ca b L xs)   (M N : Mem) (nc ns : Nat) (H : Heap) (locs : List Loc) (ls : Array Slot) (hf : f_L_law_b2114 L xs   M N nc ns = some (1 : Int32)) (hR : H2 D ca s M N H locs) (hl : lv_has ls 34 []) : W p l e room_1 s m #[Value.ref b] below meth c H locs nc ns (lw_Z below #[Value.ref b] s) (F0 m 2114 ls []) := by
  obtain ⟨hx, hb, hC, hlt, hXs, hbl, hret, hL⟩ := id X
  have hts : ∀ w ∈ aw, w.before #[Value.ref b] s = true := hC.2.2.2.1
  have hown := hC.2.2.2.2.1
  have hK := hC.2.2.2.2.2.2.1.1
  have hA : ∀ q : Nat, s.heap.size ≤ q → (fun q : Nat => s.heap.size ≤ q) q := fun _ h => h
  unfold f_L_law_b2114 at hf
  refine lv_iconst (pc := 2114) (v := (1 : Int32)) hx hb dL_law_2114 (by decide) ?_
  exact rq_ret (pc := 2115) X hf hR dL_law_2115
set_option maxHeartbeats 8000000 in
set_option maxRecDepth 100000 in
theorem b_law_1936 (X : LX p l s m meth c D ca b L xs)   (M N : Mem) (nc ns : Nat) (H : Heap) (locs : List Loc) (ls : Array Slot) (hf : f_L_law_b1936 L xs   M N nc ns = some (1 : Int32)) (hR : H2 D ca s M N H locs) (hl : lv_has ls 34 []) : W p l e room_1 s m #[Value.ref b] below meth c H locs nc ns (lw_Z below #[Value.ref b] s) (F0 m 1936 ls []) := by
  obtain ⟨hx, hb, hC, hlt, hXs, hbl, hret, hL⟩ := id X
  have hts : ∀ w ∈ aw, w.before #[Value.ref b] s = true := hC.2.2.2.1
  have hown := hC.2.2.2.2.1
  have hK := hC.2.2.2.2.2.2.1.1
  have hA : ∀ q : Nat, s.heap.size ≤ q → (fun q : Nat => s.heap.size ≤ q) q := fun _ h => h
  unfold f_L_law_b1936 at hf
  exact nomatch hf
set_option maxHeartbeats 8000000 in
set_option maxRecDepth 100000 in
theorem b_law_2018 (X : LX p l s m meth c D ca b L xs)   (M N : Mem) (nc ns : Nat) (H : Heap) (locs : List Loc) (ls : Array Slot) (hf : f_L_law_b2018 L xs   M N nc ns = some (1 : Int32)) (hR : H2 D ca s M N H locs) (hl : lv_has ls 34 []) : W p l e room_1 s m #[Value.ref b] below meth c H locs nc ns (lw_Z below #[Value.ref b] s) (F0 m 2018 ls []) := by
  obtain ⟨hx, hb, hC, hlt, hXs, hbl, hret, hL⟩ := id X
  have hts : ∀ w ∈ aw, w.before #[Value.ref b] s = true := hC.2.2.2.1
  have hown := hC.2.2.2.2.1
  have hK := hC.2.2.2.2.2.2.1.1
  have hA : ∀ q : Nat, s.heap.size ≤ q → (fun q : Nat => s.heap.size ≤ q) q := fun _ h => h
  unfold f_L_law_b2018 at hf
  exact nomatch hf
set_option maxHeartbeats 8000000 in
set_option maxRecDepth 100000 in
theorem b_law_2106 (X : LX p l s m meth c D ca b L xs)   (M N : Mem) (nc ns : Nat) (H : Heap) (locs : List Loc) (ls : Array Slot) (hf : f_L_law_b2106 L xs   M N nc ns = some (1 : Int32)) (hR : H2 D ca s M N H locs) (hl : lv_has ls 34 []) : W p l e room_1 s m #[Value.ref b] below meth c H locs nc ns (lw_Z below #[Value.ref b] s) (F0 m 2106 ls []) := by
  obtain ⟨hx, hb, hC, hlt, hXs, hbl, hret, hL⟩ := id X
  have hts : ∀ w ∈ aw, w.before #[Value.ref b] s = true := hC.2.2.2.1
  have hown := hC.2.2.2.2.1
  have hK := hC.2.2.2.2.2.2.1.1
  have hA : ∀ q : Nat, s.heap.size ≤ q → (fun q : Nat => s.heap.size ≤ q) q := fun _ h => h
  unfold f_L_law_b2106 at hf
  exact nomatch hf
set_option maxHeartbeats 8000000 in
set_option maxRecDepth 100000 in
theorem b_law_2073 (X : LX p l s m meth c D ca b L xs) (k281 : Nat → Nat → Nat → Nat → Nat → Nat → Nat → Nat → Nat → Nat → Int64 → Int64 → Int64 → Int32 → Int32 → Int32 → Int32 → Int32 → Int32 → Mem → Mem → Nat → Nat → Option Int32) (hk281 : ∀ (v1 : Nat) (v2 : Nat) (v3 : Nat) (v4 : Nat) (v5 : Nat) (v6 : Nat) (v7 : Nat) (v8 : Nat) (v9 : Nat) (v10 : Nat) (v11 : Int64) (v13 : Int64) (v15 : Int64) (v17 : Int32) (v18 : Int32) (v19 : Int32) (v20 : Int32) (v21 : Int32) (v22 : Int32) (M N : Mem) (nc ns : Nat) (H : Heap) (locs : List Loc) (ls : Array Slot), k281 v1 v2 v3 v4 v5 v6 v7 v8 v9 v10 v11 v13 v15 v17 v18 v19 v20 v21 v22 M N nc ns = some (1 : Int32) → H2 D ca s M N H locs → lv_has ls 34 [(0, .ref b), (1, .ref v1), (2, .ref v2), (3, .ref v3), (4, .ref v4), (5, .ref v5), (6, .ref v6), (7, .ref v7), (8, .ref v8), (9, .ref v9), (10, .ref v10), (11, .long v11), (13, .long v13), (15, .long v15), (17, .int v17), (18, .int v18), (19, .int v19), (20, .int v20), (21, .int v21), (22, .int v22)] → W p l e room_1 s m #[Value.ref b] below meth c H locs nc ns (lw_Z below #[Value.ref b] s) (F0 m 281 ls [])) (k2038 : Nat → Nat → Nat → Nat → Nat → Nat → Nat → Nat → Nat → Nat → Int64 → Int64 → Int64 → Int32 → Int32 → Int32 → Int32 → Int32 → Int32 → Int32 → Int32 → Int32 → Mem → Mem → Nat → Nat → Option Int32) (hk2038 : ∀ (v1 : Nat) (v2 : Nat) (v3 : Nat) (v4 : Nat) (v5 : Nat) (v6 : Nat) (v7 : Nat) (v8 : Nat) (v9 : Nat) (v10 : Nat) (v11 : Int64) (v13 : Int64) (v15 : Int64) (v17 : Int32) (v18 : Int32) (v19 : Int32) (v20 : Int32) (v21 : Int32) (v22 : Int32) (v30 : Int32) (v31 : Int32) (v32 : Int32) (M N : Mem) (nc ns : Nat) (H : Heap) (locs : List Loc) (ls : Array Slot), k2038 v1 v2 v3 v4 v5 v6 v7 v8 v9 v10 v11 v13 v15 v17 v18 v19 v20 v21 v22 v30 v31 v32 M N nc ns = some (1 : Int32) → H2 D ca s M N H locs → lv_has ls 34 [(0, .ref b), (1, .ref v1), (2, .ref v2), (3, .ref v3), (4, .ref v4), (5, .ref v5), (6, .ref v6), (7, .ref v7), (8, .ref v8), (9, .ref v9), (10, .ref v10), (11, .long v11), (13, .long v13), (15, .long v15), (17, .int v17), (18, .int v18), (19, .int v19), (20, .int v20), (21, .int v21), (22, .int v22), (30, .int v30), (31, .int v31), (32, .int v32)] → W p l e room_1 s m #[Value.ref b] below meth c H locs nc ns (lw_Z below #[Value.ref b] s) (F0 m 2038 ls [])) (v1 : Nat) (v2 : Nat) (v3 : Nat) (v4 : Nat) (v5 : Nat) (v6 : Nat) (v7 : Nat) (v8 : Nat) (v9 : Nat) (v10 : Nat) (v11 : Int64) (v13 : Int64) (v15 : Int64) (v17 : Int32) (v18 : Int32) (v19 : Int32) (v20 : Int32) (v21 : Int32) (v22 : Int32) (v30 : Int32) (v31 : Int32) (v32 : Int32) (M N : Mem) (nc ns : Nat) (H : Heap) (locs : List Loc) (ls : Array Slot) (hf : f_L_law_b2073 L xs k281 k2038 v1 v2 v3 v4 v5 v6 v7 v8 v9 v10 v11 v13 v15 v17 v18 v19 v20 v21 v22 v30 v31 v32 M N nc ns = some (1 : Int32)) (hR : H2 D ca s M N H locs) (hl : lv_has ls 34 [(0, .ref b), (1, .ref v1), (2, .ref v2), (3, .ref v3), (4, .ref v4), (5, .ref v5), (6, .ref v6), (7, .ref v7), (8, .ref v8), (9, .ref v9), (10, .ref v10), (11, .long v11), (13, .long v13), (15, .long v15), (17, .int v17), (18, .int v18), (19, .int v19), (20, .int v20), (21, .int v21), (22, .int v22), (30, .int v30), (31, .int v31), (32, .int v32)]) : W p l e room_1 s m #[Value.ref b] below meth c H locs nc ns (lw_Z below #[Value.ref b] s) (F0 m 2073 ls []) := by
  obtain ⟨hx, hb, hC, hlt, hXs, hbl, hret, hL⟩ := id X
  have hts : ∀ w ∈ aw, w.before #[Value.ref b] s = true := hC.2.2.2.1
  have hown := hC.2.2.2.2.1
  have hK := hC.2.2.2.2.2.2.1.1
  have hA : ∀ q : Nat, s.heap.size ≤ q → (fun q : Nat => s.heap.size ≤ q) q := fun _ h => h
  unfold f_L_law_b2073 at hf
  refine rg_iinc (pc := 2073) hx hb dL_law_2073 hl (k := 22) rfl rfl (by decide) hf (fun x1 ls hf hl => ?_)
  have hl : lv_has ls 34 [(32, .int x1), (0, .ref b), (1, .ref v1), (2, .ref v2), (3, .ref v3), (4, .ref v4), (5, .ref v5), (6, .ref v6), (7, .ref v7), (8, .ref v8), (9, .ref v9), (10, .ref v10), (11, .long v11), (13, .long v13), (15, .long v15), (17, .int v17), (18, .int v18), (19, .int v19), (20, .int v20), (21, .int v21), (22, .int v22), (30, .int v30), (31, .int v31)] := hl
  refine lv_goto (pc := 2076) (tgt := 2038) hx hb dL_law_2076 (by decide) ?_
  exact hk2038 v1 v2 v3 v4 v5 v6 v7 v8 v9 v10 v11 v13 v15 v17 v18 v19 v20 v21 v22 v30 v31 x1 M N nc ns _ _ _ hf hR (lv_sub hl [1, 2, 3, 4, 5, 6, 7, 8, 9, 10, 11, 12, 13, 14, 15, 16, 17, 18, 19, 20, 21, 22, 0] rfl)
set_option maxHeartbeats 8000000 in
set_option maxRecDepth 100000 in
theorem b_law_2038 (X : LX p l s m meth c D ca b L xs) (k281 : Nat → Nat → Nat → Nat → Nat → Nat → Nat → Nat → Nat → Nat → Int64 → Int64 → Int64 → Int32 → Int32 → Int32 → Int32 → Int32 → Int32 → Mem → Mem → Nat → Nat → Option Int32) (hk281 : ∀ (v1 : Nat) (v2 : Nat) (v3 : Nat) (v4 : Nat) (v5 : Nat) (v6 : Nat) (v7 : Nat) (v8 : Nat) (v9 : Nat) (v10 : Nat) (v11 : Int64) (v13 : Int64) (v15 : Int64) (v17 : Int32) (v18 : Int32) (v19 : Int32) (v20 : Int32) (v21 : Int32) (v22 : Int32) (M N : Mem) (nc ns : Nat) (H : Heap) (locs : List Loc) (ls : Array Slot), k281 v1 v2 v3 v4 v5 v6 v7 v8 v9 v10 v11 v13 v15 v17 v18 v19 v20 v21 v22 M N nc ns = some (1 : Int32) → H2 D ca s M N H locs → lv_has ls 34 [(0, .ref b), (1, .ref v1), (2, .ref v2), (3, .ref v3), (4, .ref v4), (5, .ref v5), (6, .ref v6), (7, .ref v7), (8, .ref v8), (9, .ref v9), (10, .ref v10), (11, .long v11), (13, .long v13), (15, .long v15), (17, .int v17), (18, .int v18), (19, .int v19), (20, .int v20), (21, .int v21), (22, .int v22)] → W p l e room_1 s m #[Value.ref b] below meth c H locs nc ns (lw_Z below #[Value.ref b] s) (F0 m 281 ls [])) (k2038 : Nat → Nat → Nat → Nat → Nat → Nat → Nat → Nat → Nat → Nat → Int64 → Int64 → Int64 → Int32 → Int32 → Int32 → Int32 → Int32 → Int32 → Int32 → Int32 → Int32 → Mem → Mem → Nat → Nat → Option Int32) (hk2038 : ∀ (v1 : Nat) (v2 : Nat) (v3 : Nat) (v4 : Nat) (v5 : Nat) (v6 : Nat) (v7 : Nat) (v8 : Nat) (v9 : Nat) (v10 : Nat) (v11 : Int64) (v13 : Int64) (v15 : Int64) (v17 : Int32) (v18 : Int32) (v19 : Int32) (v20 : Int32) (v21 : Int32) (v22 : Int32) (v30 : Int32) (v31 : Int32) (v32 : Int32) (M N : Mem) (nc ns : Nat) (H : Heap) (locs : List Loc) (ls : Array Slot), k2038 v1 v2 v3 v4 v5 v6 v7 v8 v9 v10 v11 v13 v15 v17 v18 v19 v20 v21 v22 v30 v31 v32 M N nc ns = some (1 : Int32) → H2 D ca s M N H locs → lv_has ls 34 [(0, .ref b), (1, .ref v1), (2, .ref v2), (3, .ref v3), (4, .ref v4), (5, .ref v5), (6, .ref v6), (7, .ref v7), (8, .ref v8), (9, .ref v9), (10, .ref v10), (11, .long v11), (13, .long v13), (15, .long v15), (17, .int v17), (18, .int v18), (19, .int v19), (20, .int v20), (21, .int v21), (22, .int v22), (30, .int v30), (31, .int v31), (32, .int v32)] → W p l e room_1 s m #[Value.ref b] below meth c H locs nc ns (lw_Z below #[Value.ref b] s) (F0 m 2038 ls [])) (v1 : Nat) (v2 : Nat) (v3 : Nat) (v4 : Nat) (v5 : Nat) (v6 : Nat) (v7 : Nat) (v8 : Nat) (v9 : Nat) (v10 : Nat) (v11 : Int64) (v13 : Int64) (v15 : Int64) (v17 : Int32) (v18 : Int32) (v19 : Int32) (v20 : Int32) (v21 : Int32) (v22 : Int32) (v30 : Int32) (v31 : Int32) (v32 : Int32) (M N : Mem) (nc ns : Nat) (H : Heap) (locs : List Loc) (ls : Array Slot) (hf : f_L_law_b2038 L xs k281 k2038 v1 v2 v3 v4 v5 v6 v7 v8 v9 v10 v11 v13 v15 v17 v18 v19 v20 v21 v22 v30 v31 v32 M N nc ns = some (1 : Int32)) (hR : H2 D ca s M N H locs) (hl : lv_has ls 34 [(0, .ref b), (1, .ref v1), (2, .ref v2), (3, .ref v3), (4, .ref v4), (5, .ref v5), (6, .ref v6), (7, .ref v7), (8, .ref v8), (9, .ref v9), (10, .ref v10), (11, .long v11), (13, .long v13), (15, .long v15), (17, .int v17), (18, .int v18), (19, .int v19), (20, .int v20), (21, .int v21), (22, .int v22), (30, .int v30), (31, .int v31), (32, .int v32)]) : W p l e room_1 s m #[Value.ref b] below meth c H locs nc ns (lw_Z below #[Value.ref b] s) (F0 m 2038 ls []) := by
  obtain ⟨hx, hb, hC, hlt, hXs, hbl, hret, hL⟩ := id X
  have hts : ∀ w ∈ aw, w.before #[Value.ref b] s = true := hC.2.2.2.1
  have hown := hC.2.2.2.2.1
  have hK := hC.2.2.2.2.2.2.1.1
  have hA : ∀ q : Nat, s.heap.size ≤ q → (fun q : Nat => s.heap.size ≤ q) q := fun _ h => h
  unfold f_L_law_b2038 at hf
  refine lv_iload (pc := 2038) hx hb dL_law_2038 (lv_at hl 22 rfl) ?_
  refine lv_iload (pc := 2040) hx hb dL_law_2040 (lv_at hl 14 rfl) ?_
  refine lv_icmp_ge (pc := 2042) (tgt := 2079) hx hb dL_law_2042 (by decide) (fun hc => ?_) (fun hc => ?_)
  · replace hf := it_t hf hc
    refine lv_aload_n (pc := 2079) hx hb dL_law_2079 rfl (lv_at hl 1 rfl) ?_
    refine lv_iload (pc := 2080) hx hb dL_law_2080 (lv_at hl 20 rfl) ?_
    obtain ⟨hq, hf⟩ := gd_e hf
    obtain ⟨hrm, hf⟩ := gd_e hf
    refine rq_xI (pc := 2082) hf hR hA (fun z hz => xn_V (κ := 7) (As := [.int v30]) (rest := []) hC ⟨hR.1, hR.2.2.2⟩ rfl (by decide) hq (c_X7_mass hlt hz _) m_500 m_501 m_502 m_1 m_503 hd_X7_mass ⟨rfl, rfl, Nat.le_of_ble_eq_true rfl, Nat.le_of_ble_eq_true rfl⟩ rfl hl.1 rfl (Nat.le_of_ble_eq_true rfl) dL_law_2082 hrm) (fun M2 x3 H locs hf hR => ?_)
    refine lv_iload (pc := 2085) hx hb dL_law_2085 (lv_at hl 21 rfl) ?_
    refine lv_icmp_ne (pc := 2087) (tgt := 2106) hx hb dL_law_2087 (by decide) (fun hc => ?_) (fun hc => ?_)
    · replace hf := it_f hf hc
      exact b_law_2106 X  M2 N (nc + 1) (ns + 6) _ _ _ hf hR (lv_sub hl [] rfl)
    · replace hf := it_t hf hc
      refine lv_aload_n (pc := 2090) hx hb dL_law_2090 rfl (lv_at hl 1 rfl) ?_
      refine lv_iload (pc := 2091) hx hb dL_law_2091 (lv_at hl 20 rfl) ?_
      obtain ⟨hq, hf⟩ := gd_e hf
      obtain ⟨hrm, hf⟩ := gd_e hf
      refine rq_xI (pc := 2093) hf hR hA (fun z hz => xn_V (κ := 7) (As := [.int v30]) (rest := []) hC ⟨hR.1, hR.2.2.2⟩ rfl (by decide) hq (c_X7_speed hlt hz _) m_487 m_488 m_489 m_1 m_490 hd_X7_speed ⟨rfl, rfl, Nat.le_of_ble_eq_true rfl, Nat.le_of_ble_eq_true rfl⟩ rfl hl.1 rfl (Nat.le_of_ble_eq_true rfl) dL_law_2093 hrm) (fun M4 x5 H locs hf hR => ?_)
      refine lv_aload (pc := 2096) hx hb dL_law_2096 (lv_at hl 9 rfl) ?_
      refine lv_iload (pc := 2098) hx hb dL_law_2098 (lv_at hl 20 rfl) ?_
      obtain ⟨hrm0, hf⟩ := gd_e hf
      refine rq_I (pc := 2100) hf hR hA (fun z hz => rn_S (As := [.ref v9, .int v30]) (rest := [.int x5]) hC ⟨hR.2.1, hR.2.2.2⟩ (c_L_speed hz _) m_539 m_540 m_0 m_541 hd_L_speed ⟨rfl, rfl, Nat.le_of_ble_eq_true rfl, Nat.le_of_ble_eq_true rfl⟩ rfl hl.1 rfl (Nat.le_of_ble_eq_true rfl) dL_law_2100 hrm0) (fun z6 H locs hf hR => ?_)
      refine lv_icmp_eq (pc := 2103) (tgt := 2108) hx hb dL_law_2103 (by decide) (fun hc => ?_) (fun hc => ?_)
      · replace hf := it_t hf hc
        refine rg_iinc (pc := 2108) hx hb dL_law_2108 hl (k := 19) rfl rfl (by decide) hf (fun x7 ls hf hl => ?_)
        have hl : lv_has ls 34 [(22, .int x7), (0, .ref b), (1, .ref v1), (2, .ref v2), (3, .ref v3), (4, .ref v4), (5, .ref v5), (6, .ref v6), (7, .ref v7), (8, .ref v8), (9, .ref v9), (10, .ref v10), (11, .long v11), (13, .long v13), (15, .long v15), (17, .int v17), (18, .int v18), (19, .int v19), (20, .int v20), (21, .int v21), (30, .int v30), (31, .int v31), (32, .int v32)] := hl
        refine lv_goto (pc := 2111) (tgt := 281) hx hb dL_law_2111 (by decide) ?_
        exact hk281 v1 v2 v3 v4 v5 v6 v7 v8 v9 v10 v11 v13 v15 v17 v18 v19 v20 v21 x7 M4 z6.1 (nc + 1 + 1) (ns + 6 + 6) _ _ _ hf hR (lv_sub hl [1, 2, 3, 4, 5, 6, 7, 8, 9, 10, 11, 12, 13, 14, 15, 16, 17, 18, 19, 0] rfl)
      · replace hf := it_f hf hc
        exact b_law_2106 X  M4 z6.1 (nc + 1 + 1) (ns + 6 + 6) _ _ _ hf hR (lv_sub hl [] rfl)
  · replace hf := it_f hf hc
    refine lv_aload (pc := 2045) hx hb dL_law_2045 (lv_at hl 7 rfl) ?_
    refine lv_iload (pc := 2047) hx hb dL_law_2047 (lv_at hl 22 rfl) ?_
    refine rg_iald (pc := 2049) hx hb hK ⟨hR.2.1, hR.2.2.2⟩ dL_law_2049 hf (fun hf => ?_)
    refine lv_iconst (pc := 2050) (v := (1 : Int32)) hx hb dL_law_2050 (by decide) ?_
    refine lv_icmp_ne (pc := 2051) (tgt := 2073) hx hb dL_law_2051 (by decide) (fun hc => ?_) (fun hc => ?_)
    · replace hf := it_f hf hc
      exact b_law_2073 X k281 hk281 k2038 hk2038 v1 v2 v3 v4 v5 v6 v7 v8 v9 v10 v11 v13 v15 v17 v18 v19 v20 v21 v22 v30 v31 v32 M N nc ns _ _ _ hf hR (lv_sub hl [0, 1, 2, 3, 4, 5, 6, 7, 8, 9, 10, 11, 12, 13, 14, 15, 16, 17, 18, 19, 20, 21, 22] rfl)
    · replace hf := it_t hf hc
      refine lv_aload_n (pc := 2054) hx hb dL_law_2054 rfl (lv_at hl 2 rfl) ?_
      refine lv_iload (pc := 2055) hx hb dL_law_2055 (lv_at hl 22 rfl) ?_
      refine rg_iald (pc := 2057) hx hb hK ⟨hR.2.1, hR.2.2.2⟩ dL_law_2057 hf (fun hf => ?_)
      refine lv_iload (pc := 2058) hx hb dL_law_2058 (lv_at hl 20 rfl) ?_
      refine lv_icmp_ne (pc := 2060) (tgt := 2073) hx hb dL_law_2060 (by decide) (fun hc => ?_) (fun hc => ?_)
      · replace hf := it_f hf hc
        exact b_law_2073 X k281 hk281 k2038 hk2038 v1 v2 v3 v4 v5 v6 v7 v8 v9 v10 v11 v13 v15 v17 v18 v19 v20 v21 v22 v30 v31 v32 M N nc ns _ _ _ hf hR (lv_sub hl [0, 1, 2, 3, 4, 5, 6, 7, 8, 9, 10, 11, 12, 13, 14, 15, 16, 17, 18, 19, 20, 21, 22] rfl)
      · replace hf := it_t hf hc
        refine lv_iload (pc := 2063) hx hb dL_law_2063 (lv_at hl 21 rfl) ?_
        refine lv_aload (pc := 2065) hx hb dL_law_2065 (lv_at hl 4 rfl) ?_
        refine lv_iload (pc := 2067) hx hb dL_law_2067 (lv_at hl 22 rfl) ?_
        refine rg_iald (pc := 2069) hx hb hK ⟨hR.2.1, hR.2.2.2⟩ dL_law_2069 hf (fun hf => ?_)
        refine lv_iadd (pc := 2070) hx hb dL_law_2070 ?_
        refine nm_i hf (fun x8 hf => ?_)
        refine lv_istore (pc := 2071) (lv' := [(31, .int x8), (0, .ref b), (1, .ref v1), (2, .ref v2), (3, .ref v3), (4, .ref v4), (5, .ref v5), (6, .ref v6), (7, .ref v7), (8, .ref v8), (9, .ref v9), (10, .ref v10), (11, .long v11), (13, .long v13), (15, .long v15), (17, .int v17), (18, .int v18), (19, .int v19), (20, .int v20), (21, .int v21), (22, .int v22), (30, .int v30), (32, .int v32)]) hx hb dL_law_2071 hl (by decide) rfl (fun ls hl => ?_)
        exact b_law_2073 X k281 hk281 k2038 hk2038 v1 v2 v3 v4 v5 v6 v7 v8 v9 v10 v11 v13 v15 v17 v18 v19 v20 v21 v22 v30 x8 v32 M N nc ns _ _ _ hf hR (lv_sub hl [1, 2, 3, 4, 5, 6, 7, 8, 9, 10, 11, 12, 13, 14, 15, 16, 17, 18, 19, 20, 21, 0, 22] rfl)
theorem l_law_2038 (X : LX p l s m meth c D ca b L xs) (k281 : Nat → Nat → Nat → Nat → Nat → Nat → Nat → Nat → Nat → Nat → Int64 → Int64 → Int64 → Int32 → Int32 → Int32 → Int32 → Int32 → Int32 → Mem → Mem → Nat → Nat → Option Int32) (hk281 : ∀ (v1 : Nat) (v2 : Nat) (v3 : Nat) (v4 : Nat) (v5 : Nat) (v6 : Nat) (v7 : Nat) (v8 : Nat) (v9 : Nat) (v10 : Nat) (v11 : Int64) (v13 : Int64) (v15 : Int64) (v17 : Int32) (v18 : Int32) (v19 : Int32) (v20 : Int32) (v21 : Int32) (v22 : Int32) (M N : Mem) (nc ns : Nat) (H : Heap) (locs : List Loc) (ls : Array Slot), k281 v1 v2 v3 v4 v5 v6 v7 v8 v9 v10 v11 v13 v15 v17 v18 v19 v20 v21 v22 M N nc ns = some (1 : Int32) → H2 D ca s M N H locs → lv_has ls 34 [(0, .ref b), (1, .ref v1), (2, .ref v2), (3, .ref v3), (4, .ref v4), (5, .ref v5), (6, .ref v6), (7, .ref v7), (8, .ref v8), (9, .ref v9), (10, .ref v10), (11, .long v11), (13, .long v13), (15, .long v15), (17, .int v17), (18, .int v18), (19, .int v19), (20, .int v20), (21, .int v21), (22, .int v22)] → W p l e room_1 s m #[Value.ref b] below meth c H locs nc ns (lw_Z below #[Value.ref b] s) (F0 m 281 ls [])) (n : Nat) : ∀ (v1 : Nat) (v2 : Nat) (v3 : Nat) (v4 : Nat) (v5 : Nat) (v6 : Nat) (v7 : Nat) (v8 : Nat) (v9 : Nat) (v10 : Nat) (v11 : Int64) (v13 : Int64) (v15 : Int64) (v17 : Int32) (v18 : Int32) (v19 : Int32) (v20 : Int32) (v21 : Int32) (v22 : Int32) (v30 : Int32) (v31 : Int32) (v32 : Int32) (M N : Mem) (nc ns : Nat) (H : Heap) (locs : List Loc) (ls : Array Slot), f_L_law_L2038 L xs k281 n v1 v2 v3 v4 v5 v6 v7 v8 v9 v10 v11 v13 v15 v17 v18 v19 v20 v21 v22 v30 v31 v32 M N nc ns = some (1 : Int32) → H2 D ca s M N H locs → lv_has ls 34 [(0, .ref b), (1, .ref v1), (2, .ref v2), (3, .ref v3), (4, .ref v4), (5, .ref v5), (6, .ref v6), (7, .ref v7), (8, .ref v8), (9, .ref v9), (10, .ref v10), (11, .long v11), (13, .long v13), (15, .long v15), (17, .int v17), (18, .int v18), (19, .int v19), (20, .int v20), (21, .int v21), (22, .int v22), (30, .int v30), (31, .int v31), (32, .int v32)] → W p l e room_1 s m #[Value.ref b] below meth c H locs nc ns (lw_Z below #[Value.ref b] s) (F0 m 2038 ls []) := by
  induction n with
  | zero => intro v1 v2 v3 v4 v5 v6 v7 v8 v9 v10 v11 v13 v15 v17 v18 v19 v20 v21 v22 v30 v31 v32 M N nc ns H locs ls hf; exact nomatch (show (none : Option Int32) = some 1 from hf)
  | succ n ih => intro v1 v2 v3 v4 v5 v6 v7 v8 v9 v10 v11 v13 v15 v17 v18 v19 v20 v21 v22 v30 v31 v32 M N nc ns H locs ls hf hR hl; exact b_law_2038 X k281 hk281 (f_L_law_L2038 L xs k281 n) ih v1 v2 v3 v4 v5 v6 v7 v8 v9 v10 v11 v13 v15 v17 v18 v19 v20 v21 v22 v30 v31 v32 M N nc ns H locs ls hf hR hl
set_option maxHeartbeats 8000000 in
set_option maxRecDepth 100000 in
theorem b_law_1787 (X : LX p l s m meth c D ca b L xs) (k281 : Nat → Nat → Nat → Nat → Nat → Nat → Nat → Nat → Nat → Nat → Int64 → Int64 → Int64 → Int32 → Int32 → Int32 → Int32 → Int32 → Int32 → Mem → Mem → Nat → Nat → Option Int32) (hk281 : ∀ (v1 : Nat) (v2 : Nat) (v3 : Nat) (v4 : Nat) (v5 : Nat) (v6 : Nat) (v7 : Nat) (v8 : Nat) (v9 : Nat) (v10 : Nat) (v11 : Int64) (v13 : Int64) (v15 : Int64) (v17 : Int32) (v18 : Int32) (v19 : Int32) (v20 : Int32) (v21 : Int32) (v22 : Int32) (M N : Mem) (nc ns : Nat) (H : Heap) (locs : List Loc) (ls : Array Slot), k281 v1 v2 v3 v4 v5 v6 v7 v8 v9 v10 v11 v13 v15 v17 v18 v19 v20 v21 v22 M N nc ns = some (1 : Int32) → H2 D ca s M N H locs → lv_has ls 34 [(0, .ref b), (1, .ref v1), (2, .ref v2), (3, .ref v3), (4, .ref v4), (5, .ref v5), (6, .ref v6), (7, .ref v7), (8, .ref v8), (9, .ref v9), (10, .ref v10), (11, .long v11), (13, .long v13), (15, .long v15), (17, .int v17), (18, .int v18), (19, .int v19), (20, .int v20), (21, .int v21), (22, .int v22)] → W p l e room_1 s m #[Value.ref b] below meth c H locs nc ns (lw_Z below #[Value.ref b] s) (F0 m 281 ls [])) (k1787 : Nat → Nat → Nat → Nat → Nat → Nat → Nat → Nat → Nat → Nat → Int64 → Int64 → Int64 → Int32 → Int32 → Int32 → Int32 → Int32 → Int32 → Int32 → Int64 → Int32 → Int32 → Int32 → Mem → Mem → Nat → Nat → Option Int32) (hk1787 : ∀ (v1 : Nat) (v2 : Nat) (v3 : Nat) (v4 : Nat) (v5 : Nat) (v6 : Nat) (v7 : Nat) (v8 : Nat) (v9 : Nat) (v10 : Nat) (v11 : Int64) (v13 : Int64) (v15 : Int64) (v17 : Int32) (v18 : Int32) (v19 : Int32) (v20 : Int32) (v21 : Int32) (v22 : Int32) (v24 : Int32) (v26 : Int64) (v28 : Int32) (v29 : Int32) (v30 : Int32) (M N : Mem) (nc ns : Nat) (H : Heap) (locs : List Loc) (ls : Array Slot), k1787 v1 v2 v3 v4 v5 v6 v7 v8 v9 v10 v11 v13 v15 v17 v18 v19 v20 v21 v22 v24 v26 v28 v29 v30 M N nc ns = some (1 : Int32) → H2 D ca s M N H locs → lv_has ls 34 [(0, .ref b), (1, .ref v1), (2, .ref v2), (3, .ref v3), (4, .ref v4), (5, .ref v5), (6, .ref v6), (7, .ref v7), (8, .ref v8), (9, .ref v9), (10, .ref v10), (11, .long v11), (13, .long v13), (15, .long v15), (17, .int v17), (18, .int v18), (19, .int v19), (20, .int v20), (21, .int v21), (22, .int v22), (24, .int v24), (26, .long v26), (28, .int v28), (29, .int v29), (30, .int v30)] → W p l e room_1 s m #[Value.ref b] below meth c H locs nc ns (lw_Z below #[Value.ref b] s) (F0 m 1787 ls [])) (v1 : Nat) (v2 : Nat) (v3 : Nat) (v4 : Nat) (v5 : Nat) (v6 : Nat) (v7 : Nat) (v8 : Nat) (v9 : Nat) (v10 : Nat) (v11 : Int64) (v13 : Int64) (v15 : Int64) (v17 : Int32) (v18 : Int32) (v19 : Int32) (v20 : Int32) (v21 : Int32) (v22 : Int32) (v24 : Int32) (v26 : Int64) (v28 : Int32) (v29 : Int32) (v30 : Int32) (M N : Mem) (nc ns : Nat) (H : Heap) (locs : List Loc) (ls : Array Slot) (hf : f_L_law_b1787 L xs k281 k1787 v1 v2 v3 v4 v5 v6 v7 v8 v9 v10 v11 v13 v15 v17 v18 v19 v20 v21 v22 v24 v26 v28 v29 v30 M N nc ns = some (1 : Int32)) (hR : H2 D ca s M N H locs) (hl : lv_has ls 34 [(0, .ref b), (1, .ref v1), (2, .ref v2), (3, .ref v3), (4, .ref v4), (5, .ref v5), (6, .ref v6), (7, .ref v7), (8, .ref v8), (9, .ref v9), (10, .ref v10), (11, .long v11), (13, .long v13), (15, .long v15), (17, .int v17), (18, .int v18), (19, .int v19), (20, .int v20), (21, .int v21), (22, .int v22), (24, .int v24), (26, .long v26), (28, .int v28), (29, .int v29), (30, .int v30)]) : W p l e room_1 s m #[Value.ref b] below meth c H locs nc ns (lw_Z below #[Value.ref b] s) (F0 m 1787 ls []) := by
  obtain ⟨hx, hb, hC, hlt, hXs, hbl, hret, hL⟩ := id X
  have hts : ∀ w ∈ aw, w.before #[Value.ref b] s = true := hC.2.2.2.1
  have hown := hC.2.2.2.2.1
  have hK := hC.2.2.2.2.2.2.1.1
  have hA : ∀ q : Nat, s.heap.size ≤ q → (fun q : Nat => s.heap.size ≤ q) q := fun _ h => h
  unfold f_L_law_b1787 at hf
  refine lv_iload (pc := 1787) hx hb dL_law_1787 (lv_at hl 24 rfl) ?_
  refine lv_iload (pc := 1789) hx hb dL_law_1789 (lv_at hl 15 rfl) ?_
  refine lv_icmp_ge (pc := 1791) (tgt := 1820) hx hb dL_law_1791 (by decide) (fun hc => ?_) (fun hc => ?_)
  · replace hf := it_t hf hc
    refine lv_aload_n (pc := 1820) hx hb dL_law_1820 rfl (lv_at hl 1 rfl) ?_
    refine lv_iconst (pc := 1821) (v := (0 : Int32)) hx hb dL_law_1821 (by decide) ?_
    obtain ⟨hq, hf⟩ := gd_e hf
    obtain ⟨hrm, hf⟩ := gd_e hf
    refine rq_xI (pc := 1822) hf hR hA (fun z hz => xn_V (κ := 7) (As := [.int (0 : Int32)]) (rest := []) hC ⟨hR.1, hR.2.2.2⟩ rfl (by decide) hq (c_X7_count hlt hz _) m_491 m_492 m_493 m_1 m_494 hd_X7_count ⟨rfl, rfl, Nat.le_of_ble_eq_true rfl, Nat.le_of_ble_eq_true rfl⟩ rfl hl.1 rfl (Nat.le_of_ble_eq_true rfl) dL_law_1822 hrm) (fun M9 x10 H locs hf hR => ?_)
    refine lv_iload (pc := 1825) hx hb dL_law_1825 (lv_at hl 14 rfl) ?_
    refine lv_icmp_ne (pc := 1827) (tgt := 1936) hx hb dL_law_1827 (by decide) (fun hc => ?_) (fun hc => ?_)
    · replace hf := it_f hf hc
      exact b_law_1936 X  M9 N (nc + 1) (ns + 6) _ _ _ hf hR (lv_sub hl [] rfl)
    · replace hf := it_t hf hc
      refine lv_aload_n (pc := 1830) hx hb dL_law_1830 rfl (lv_at hl 1 rfl) ?_
      refine lv_iconst (pc := 1831) (v := (1 : Int32)) hx hb dL_law_1831 (by decide) ?_
      obtain ⟨hq, hf⟩ := gd_e hf
      obtain ⟨hrm, hf⟩ := gd_e hf
      refine rq_xI (pc := 1832) hf hR hA (fun z hz => xn_V (κ := 7) (As := [.int (1 : Int32)]) (rest := []) hC ⟨hR.1, hR.2.2.2⟩ rfl (by decide) hq (c_X7_count hlt hz _) m_491 m_492 m_493 m_1 m_494 hd_X7_count ⟨rfl, rfl, Nat.le_of_ble_eq_true rfl, Nat.le_of_ble_eq_true rfl⟩ rfl hl.1 rfl (Nat.le_of_ble_eq_true rfl) dL_law_1832 hrm) (fun M11 x12 H locs hf hR => ?_)
      refine lv_iload (pc := 1835) hx hb dL_law_1835 (lv_at hl 23 rfl) ?_
      refine lv_icmp_ne (pc := 1837) (tgt := 1936) hx hb dL_law_1837 (by decide) (fun hc => ?_) (fun hc => ?_)
      · replace hf := it_f hf hc
        exact b_law_1936 X  M11 N (nc + 1 + 1) (ns + 6 + 6) _ _ _ hf hR (lv_sub hl [] rfl)
      · replace hf := it_t hf hc
        refine lv_aload_n (pc := 1840) hx hb dL_law_1840 rfl (lv_at hl 1 rfl) ?_
        refine lv_iconst (pc := 1841) (v := (2 : Int32)) hx hb dL_law_1841 (by decide) ?_
        obtain ⟨hq, hf⟩ := gd_e hf
        obtain ⟨hrm, hf⟩ := gd_e hf
        refine rq_xI (pc := 1842) hf hR hA (fun z hz => xn_V (κ := 7) (As := [.int (2 : Int32)]) (rest := []) hC ⟨hR.1, hR.2.2.2⟩ rfl (by decide) hq (c_X7_count hlt hz _) m_491 m_492 m_493 m_1 m_494 hd_X7_count ⟨rfl, rfl, Nat.le_of_ble_eq_true rfl, Nat.le_of_ble_eq_true rfl⟩ rfl hl.1 rfl (Nat.le_of_ble_eq_true rfl) dL_law_1842 hrm) (fun M13 x14 H locs hf hR => ?_)
        refine lv_aload (pc := 1845) hx hb dL_law_1845 (lv_at hl 9 rfl) ?_
        refine lv_iconst (pc := 1847) (v := (1 : Int32)) hx hb dL_law_1847 (by decide) ?_
        refine rg_iald (pc := 1848) hx hb hK ⟨hR.2.1, hR.2.2.2⟩ dL_law_1848 hf (fun hf => ?_)
        refine lv_icmp_ne (pc := 1849) (tgt := 1936) hx hb dL_law_1849 (by decide) (fun hc => ?_) (fun hc => ?_)
        · replace hf := it_f hf hc
          exact b_law_1936 X  M13 N (nc + 1 + 1 + 1) (ns + 6 + 6 + 6) _ _ _ hf hR (lv_sub hl [] rfl)
        · replace hf := it_t hf hc
          refine lv_aload_n (pc := 1852) hx hb dL_law_1852 rfl (lv_at hl 1 rfl) ?_
          refine lv_iconst (pc := 1853) (v := (3 : Int32)) hx hb dL_law_1853 (by decide) ?_
          obtain ⟨hq, hf⟩ := gd_e hf
          obtain ⟨hrm, hf⟩ := gd_e hf
          refine rq_xI (pc := 1854) hf hR hA (fun z hz => xn_V (κ := 7) (As := [.int (3 : Int32)]) (rest := []) hC ⟨hR.1, hR.2.2.2⟩ rfl (by decide) hq (c_X7_count hlt hz _) m_491 m_492 m_493 m_1 m_494 hd_X7_count ⟨rfl, rfl, Nat.le_of_ble_eq_true rfl, Nat.le_of_ble_eq_true rfl⟩ rfl hl.1 rfl (Nat.le_of_ble_eq_true rfl) dL_law_1854 hrm) (fun M15 x16 H locs hf hR => ?_)
          refine lv_aload (pc := 1857) hx hb dL_law_1857 (lv_at hl 9 rfl) ?_
          refine lv_iconst (pc := 1859) (v := (2 : Int32)) hx hb dL_law_1859 (by decide) ?_
          refine rg_iald (pc := 1860) hx hb hK ⟨hR.2.1, hR.2.2.2⟩ dL_law_1860 hf (fun hf => ?_)
          refine lv_icmp_ne (pc := 1861) (tgt := 1936) hx hb dL_law_1861 (by decide) (fun hc => ?_) (fun hc => ?_)
          · replace hf := it_f hf hc
            exact b_law_1936 X  M15 N (nc + 1 + 1 + 1 + 1) (ns + 6 + 6 + 6 + 6) _ _ _ hf hR (lv_sub hl [] rfl)
          · replace hf := it_t hf hc
            refine lv_aload_n (pc := 1864) hx hb dL_law_1864 rfl (lv_at hl 1 rfl) ?_
            refine lv_iconst (pc := 1865) (v := (4 : Int32)) hx hb dL_law_1865 (by decide) ?_
            obtain ⟨hq, hf⟩ := gd_e hf
            obtain ⟨hrm, hf⟩ := gd_e hf
            refine rq_xI (pc := 1866) hf hR hA (fun z hz => xn_V (κ := 7) (As := [.int (4 : Int32)]) (rest := []) hC ⟨hR.1, hR.2.2.2⟩ rfl (by decide) hq (c_X7_count hlt hz _) m_491 m_492 m_493 m_1 m_494 hd_X7_count ⟨rfl, rfl, Nat.le_of_ble_eq_true rfl, Nat.le_of_ble_eq_true rfl⟩ rfl hl.1 rfl (Nat.le_of_ble_eq_true rfl) dL_law_1866 hrm) (fun M17 x18 H locs hf hR => ?_)
            refine lv_aload (pc := 1869) hx hb dL_law_1869 (lv_at hl 9 rfl) ?_
            refine lv_iconst (pc := 1871) (v := (3 : Int32)) hx hb dL_law_1871 (by decide) ?_
            refine rg_iald (pc := 1872) hx hb hK ⟨hR.2.1, hR.2.2.2⟩ dL_law_1872 hf (fun hf => ?_)
            refine lv_icmp_ne (pc := 1873) (tgt := 1936) hx hb dL_law_1873 (by decide) (fun hc => ?_) (fun hc => ?_)
            · replace hf := it_f hf hc
              exact b_law_1936 X  M17 N (nc + 1 + 1 + 1 + 1 + 1) (ns + 6 + 6 + 6 + 6 + 6) _ _ _ hf hR (lv_sub hl [] rfl)
            · replace hf := it_t hf hc
              refine lv_aload_n (pc := 1876) hx hb dL_law_1876 rfl (lv_at hl 1 rfl) ?_
              refine lv_iconst (pc := 1877) (v := (5 : Int32)) hx hb dL_law_1877 (by decide) ?_
              obtain ⟨hq, hf⟩ := gd_e hf
              obtain ⟨hrm, hf⟩ := gd_e hf
              refine rq_xI (pc := 1878) hf hR hA (fun z hz => xn_V (κ := 7) (As := [.int (5 : Int32)]) (rest := []) hC ⟨hR.1, hR.2.2.2⟩ rfl (by decide) hq (c_X7_count hlt hz _) m_491 m_492 m_493 m_1 m_494 hd_X7_count ⟨rfl, rfl, Nat.le_of_ble_eq_true rfl, Nat.le_of_ble_eq_true rfl⟩ rfl hl.1 rfl (Nat.le_of_ble_eq_true rfl) dL_law_1878 hrm) (fun M19 x20 H locs hf hR => ?_)
              refine lv_aload (pc := 1881) hx hb dL_law_1881 (lv_at hl 9 rfl) ?_
              refine lv_iconst (pc := 1883) (v := (4 : Int32)) hx hb dL_law_1883 (by decide) ?_
              refine rg_iald (pc := 1884) hx hb hK ⟨hR.2.1, hR.2.2.2⟩ dL_law_1884 hf (fun hf => ?_)
              refine lv_icmp_ne (pc := 1885) (tgt := 1936) hx hb dL_law_1885 (by decide) (fun hc => ?_) (fun hc => ?_)
              · replace hf := it_f hf hc
                exact b_law_1936 X  M19 N (nc + 1 + 1 + 1 + 1 + 1 + 1) (ns + 6 + 6 + 6 + 6 + 6 + 6) _ _ _ hf hR (lv_sub hl [] rfl)
              · replace hf := it_t hf hc
                refine lv_aload_n (pc := 1888) hx hb dL_law_1888 rfl (lv_at hl 1 rfl) ?_
                refine lv_bipush (pc := 1889) (v := (6 : Int32)) hx hb dL_law_1889 (by decide) ?_
                obtain ⟨hq, hf⟩ := gd_e hf
                obtain ⟨hrm, hf⟩ := gd_e hf
                refine rq_xI (pc := 1891) hf hR hA (fun z hz => xn_V (κ := 7) (As := [.int (6 : Int32)]) (rest := []) hC ⟨hR.1, hR.2.2.2⟩ rfl (by decide) hq (c_X7_count hlt hz _) m_491 m_492 m_493 m_1 m_494 hd_X7_count ⟨rfl, rfl, Nat.le_of_ble_eq_true rfl, Nat.le_of_ble_eq_true rfl⟩ rfl hl.1 rfl (Nat.le_of_ble_eq_true rfl) dL_law_1891 hrm) (fun M21 x22 H locs hf hR => ?_)
                refine lv_aload (pc := 1894) hx hb dL_law_1894 (lv_at hl 9 rfl) ?_
                refine lv_iconst (pc := 1896) (v := (5 : Int32)) hx hb dL_law_1896 (by decide) ?_
                refine rg_iald (pc := 1897) hx hb hK ⟨hR.2.1, hR.2.2.2⟩ dL_law_1897 hf (fun hf => ?_)
                refine lv_icmp_ne (pc := 1898) (tgt := 1936) hx hb dL_law_1898 (by decide) (fun hc => ?_) (fun hc => ?_)
                · replace hf := it_f hf hc
                  exact b_law_1936 X  M21 N (nc + 1 + 1 + 1 + 1 + 1 + 1 + 1) (ns + 6 + 6 + 6 + 6 + 6 + 6 + 6) _ _ _ hf hR (lv_sub hl [] rfl)
                · replace hf := it_t hf hc
                  refine lv_aload_n (pc := 1901) hx hb dL_law_1901 rfl (lv_at hl 1 rfl) ?_
                  refine lv_iconst (pc := 1902) (v := (0 : Int32)) hx hb dL_law_1902 (by decide) ?_
                  obtain ⟨hq, hf⟩ := gd_e hf
                  obtain ⟨hrm, hf⟩ := gd_e hf
                  refine rq_xI (pc := 1903) hf hR hA (fun z hz => xn_V (κ := 7) (As := [.int (0 : Int32)]) (rest := []) hC ⟨hR.1, hR.2.2.2⟩ rfl (by decide) hq (c_X7_sum hlt hz _) m_508 m_509 m_510 m_1 m_511 hd_X7_sum ⟨rfl, rfl, Nat.le_of_ble_eq_true rfl, Nat.le_of_ble_eq_true rfl⟩ rfl hl.1 rfl (Nat.le_of_ble_eq_true rfl) dL_law_1903 hrm) (fun M23 x24 H locs hf hR => ?_)
                  refine lv_iload (pc := 1906) hx hb dL_law_1906 (lv_at hl 22 rfl) ?_
                  refine lv_icmp_ne (pc := 1908) (tgt := 1936) hx hb dL_law_1908 (by decide) (fun hc => ?_) (fun hc => ?_)
                  · replace hf := it_f hf hc
                    exact b_law_1936 X  M23 N (nc + 1 + 1 + 1 + 1 + 1 + 1 + 1 + 1) (ns + 6 + 6 + 6 + 6 + 6 + 6 + 6 + 6) _ _ _ hf hR (lv_sub hl [] rfl)
                  · replace hf := it_t hf hc
                    refine lv_aload_n (pc := 1911) hx hb dL_law_1911 rfl (lv_at hl 1 rfl) ?_
                    refine lv_iconst (pc := 1912) (v := (0 : Int32)) hx hb dL_law_1912 (by decide) ?_
                    obtain ⟨hq, hf⟩ := gd_e hf
                    obtain ⟨hrm, hf⟩ := gd_e hf
                    refine rq_xI (pc := 1913) hf hR hA (fun z hz => xn_V (κ := 7) (As := [.int (0 : Int32)]) (rest := []) hC ⟨hR.1, hR.2.2.2⟩ rfl (by decide) hq (c_X7_sum hlt hz _) m_508 m_509 m_510 m_1 m_511 hd_X7_sum ⟨rfl, rfl, Nat.le_of_ble_eq_true rfl, Nat.le_of_ble_eq_true rfl⟩ rfl hl.1 rfl (Nat.le_of_ble_eq_true rfl) dL_law_1913 hrm) (fun M25 x26 H locs hf hR => ?_)
                    refine lv_aload_n (pc := 1916) hx hb dL_law_1916 rfl (lv_at hl 1 rfl) ?_
                    refine lv_iconst (pc := 1917) (v := (1 : Int32)) hx hb dL_law_1917 (by decide) ?_
                    obtain ⟨hq, hf⟩ := gd_e hf
                    obtain ⟨hrm, hf⟩ := gd_e hf
                    refine rq_xI (pc := 1918) hf hR hA (fun z hz => xn_V (κ := 7) (As := [.int (1 : Int32)]) (rest := [.int x26]) hC ⟨hR.1, hR.2.2.2⟩ rfl (by decide) hq (c_X7_sum hlt hz _) m_508 m_509 m_510 m_1 m_511 hd_X7_sum ⟨rfl, rfl, Nat.le_of_ble_eq_true rfl, Nat.le_of_ble_eq_true rfl⟩ rfl hl.1 rfl (Nat.le_of_ble_eq_true rfl) dL_law_1918 hrm) (fun M27 x28 H locs hf hR => ?_)
                    refine lv_iadd (pc := 1921) hx hb dL_law_1921 ?_
                    refine lv_aload_n (pc := 1922) hx hb dL_law_1922 rfl (lv_at hl 1 rfl) ?_
                    refine lv_iconst (pc := 1923) (v := (2 : Int32)) hx hb dL_law_1923 (by decide) ?_
                    obtain ⟨hq, hf⟩ := gd_e hf
                    obtain ⟨hrm, hf⟩ := gd_e hf
                    refine rq_xI (pc := 1924) hf hR hA (fun z hz => xn_V (κ := 7) (As := [.int (2 : Int32)]) (rest := [.int (x26 + x28)]) hC ⟨hR.1, hR.2.2.2⟩ rfl (by decide) hq (c_X7_sum hlt hz _) m_508 m_509 m_510 m_1 m_511 hd_X7_sum ⟨rfl, rfl, Nat.le_of_ble_eq_true rfl, Nat.le_of_ble_eq_true rfl⟩ rfl hl.1 rfl (Nat.le_of_ble_eq_true rfl) dL_law_1924 hrm) (fun M29 x30 H locs hf hR => ?_)
                    refine lv_iadd (pc := 1927) hx hb dL_law_1927 ?_
                    refine lv_aload_n (pc := 1928) hx hb dL_law_1928 rfl (lv_at hl 1 rfl) ?_
                    refine lv_iconst (pc := 1929) (v := (3 : Int32)) hx hb dL_law_1929 (by decide) ?_
                    obtain ⟨hq, hf⟩ := gd_e hf
                    obtain ⟨hrm, hf⟩ := gd_e hf
                    refine rq_xI (pc := 1930) hf hR hA (fun z hz => xn_V (κ := 7) (As := [.int (3 : Int32)]) (rest := [.int ((x26 + x28) + x30)]) hC ⟨hR.1, hR.2.2.2⟩ rfl (by decide) hq (c_X7_sum hlt hz _) m_508 m_509 m_510 m_1 m_511 hd_X7_sum ⟨rfl, rfl, Nat.le_of_ble_eq_true rfl, Nat.le_of_ble_eq_true rfl⟩ rfl hl.1 rfl (Nat.le_of_ble_eq_true rfl) dL_law_1930 hrm) (fun M31 x32 H locs hf hR => ?_)
                    refine lv_icmp_eq (pc := 1933) (tgt := 1938) hx hb dL_law_1933 (by decide) (fun hc => ?_) (fun hc => ?_)
                    · replace hf := it_t hf hc
                      refine lv_aload_n (pc := 1938) hx hb dL_law_1938 rfl (lv_at hl 1 rfl) ?_
                      refine lv_iconst (pc := 1939) (v := (0 : Int32)) hx hb dL_law_1939 (by decide) ?_
                      obtain ⟨hq, hf⟩ := gd_e hf
                      obtain ⟨hrm, hf⟩ := gd_e hf
                      refine rq_xL (pc := 1940) hf hR hA (fun z hz => xn_V (κ := 7) (As := [.int (0 : Int32)]) (rest := []) hC ⟨hR.1, hR.2.2.2⟩ rfl (by decide) hq (c_X7_momentum hlt hz _) m_517 m_518 m_519 m_1 m_520 hd_X7_momentum ⟨rfl, rfl, Nat.le_of_ble_eq_true rfl, Nat.le_of_ble_eq_true rfl⟩ rfl hl.1 rfl (Nat.le_of_ble_eq_true rfl) dL_law_1940 hrm) (fun M33 x34 H locs hf hR => ?_)
                      refine lv_lload (pc := 1943) hx hb dL_law_1943 (lv_at hl 21 rfl) ?_
                      refine W.lcmp (pc := 1945) hx hb dL_law_1945 ?_
                      refine lv_if_ne (pc := 1946) (tgt := 2018) hx hb dL_law_1946 (by decide) (fun hc => ?_) (fun hc => ?_)
                      · replace hf := it_f hf hc
                        exact b_law_2018 X  M33 N (nc + 1 + 1 + 1 + 1 + 1 + 1 + 1 + 1 + 1 + 1 + 1 + 1 + 1) (ns + 6 + 6 + 6 + 6 + 6 + 6 + 6 + 6 + 6 + 6 + 6 + 6 + 6) _ _ _ hf hR (lv_sub hl [] rfl)
                      · replace hf := it_t hf hc
                        refine lv_aload_n (pc := 1949) hx hb dL_law_1949 rfl (lv_at hl 1 rfl) ?_
                        obtain ⟨hq, hf⟩ := gd_e hf
                        obtain ⟨hrm, hf⟩ := gd_e hf
                        refine rq_L1 (pc := 1950) hf hR hA (fun z hz => rn_V (κ := 7) (As := []) (rest := []) hC ⟨hR.1, hR.2.2.2⟩ rfl (by decide) hq (c_X7_momentumByLanes hz _) m_525 m_526 m_527 m_1 m_528 hd_X7_momentumByLanes ⟨rfl, rfl, Nat.le_of_ble_eq_true rfl, Nat.le_of_ble_eq_true rfl⟩ rfl hl.1 rfl (Nat.le_of_ble_eq_true rfl) dL_law_1950 hrm) (fun z35 H locs hf hR => ?_)
                        refine lv_lload (pc := 1953) hx hb dL_law_1953 (lv_at hl 21 rfl) ?_
                        refine W.lcmp (pc := 1955) hx hb dL_law_1955 ?_
                        refine lv_if_ne (pc := 1956) (tgt := 2018) hx hb dL_law_1956 (by decide) (fun hc => ?_) (fun hc => ?_)
                        · replace hf := it_f hf hc
                          exact b_law_2018 X  z35.1 N (nc + 1 + 1 + 1 + 1 + 1 + 1 + 1 + 1 + 1 + 1 + 1 + 1 + 1) (ns + 6 + 6 + 6 + 6 + 6 + 6 + 6 + 6 + 6 + 6 + 6 + 6 + 6) _ _ _ hf hR (lv_sub hl [] rfl)
                        · replace hf := it_t hf hc
                          refine lv_aload_n (pc := 1959) hx hb dL_law_1959 rfl (lv_at hl 1 rfl) ?_
                          refine lv_iconst (pc := 1960) (v := (3 : Int32)) hx hb dL_law_1960 (by decide) ?_
                          obtain ⟨hq, hf⟩ := gd_e hf
                          obtain ⟨hrm, hf⟩ := gd_e hf
                          refine rq_xL (pc := 1961) hf hR hA (fun z hz => xn_V (κ := 7) (As := [.int (3 : Int32)]) (rest := []) hC ⟨hR.1, hR.2.2.2⟩ rfl (by decide) hq (c_X7_momentum hlt hz _) m_517 m_518 m_519 m_1 m_520 hd_X7_momentum ⟨rfl, rfl, Nat.le_of_ble_eq_true rfl, Nat.le_of_ble_eq_true rfl⟩ rfl hl.1 rfl (Nat.le_of_ble_eq_true rfl) dL_law_1961 hrm) (fun M36 x37 H locs hf hR => ?_)
                          refine lv_lload (pc := 1964) hx hb dL_law_1964 (lv_at hl 13 rfl) ?_
                          refine W.lcmp (pc := 1966) hx hb dL_law_1966 ?_
                          refine lv_if_ne (pc := 1967) (tgt := 2018) hx hb dL_law_1967 (by decide) (fun hc => ?_) (fun hc => ?_)
                          · replace hf := it_f hf hc
                            exact b_law_2018 X  M36 N (nc + 1 + 1 + 1 + 1 + 1 + 1 + 1 + 1 + 1 + 1 + 1 + 1 + 1 + 1) (ns + 6 + 6 + 6 + 6 + 6 + 6 + 6 + 6 + 6 + 6 + 6 + 6 + 6 + 6) _ _ _ hf hR (lv_sub hl [] rfl)
                          · replace hf := it_t hf hc
                            refine lv_aload_n (pc := 1970) hx hb dL_law_1970 rfl (lv_at hl 1 rfl) ?_
                            refine lv_iconst (pc := 1971) (v := (4 : Int32)) hx hb dL_law_1971 (by decide) ?_
                            obtain ⟨hq, hf⟩ := gd_e hf
                            obtain ⟨hrm, hf⟩ := gd_e hf
                            refine rq_xL (pc := 1972) hf hR hA (fun z hz => xn_V (κ := 7) (As := [.int (4 : Int32)]) (rest := []) hC ⟨hR.1, hR.2.2.2⟩ rfl (by decide) hq (c_X7_momentum hlt hz _) m_517 m_518 m_519 m_1 m_520 hd_X7_momentum ⟨rfl, rfl, Nat.le_of_ble_eq_true rfl, Nat.le_of_ble_eq_true rfl⟩ rfl hl.1 rfl (Nat.le_of_ble_eq_true rfl) dL_law_1972 hrm) (fun M38 x39 H locs hf hR => ?_)
                            refine lv_lload (pc := 1975) hx hb dL_law_1975 (lv_at hl 11 rfl) ?_
                            refine W.lcmp (pc := 1977) hx hb dL_law_1977 ?_
                            refine lv_if_ne (pc := 1978) (tgt := 2018) hx hb dL_law_1978 (by decide) (fun hc => ?_) (fun hc => ?_)
                            · replace hf := it_f hf hc
                              exact b_law_2018 X  M38 N (nc + 1 + 1 + 1 + 1 + 1 + 1 + 1 + 1 + 1 + 1 + 1 + 1 + 1 + 1 + 1) (ns + 6 + 6 + 6 + 6 + 6 + 6 + 6 + 6 + 6 + 6 + 6 + 6 + 6 + 6 + 6) _ _ _ hf hR (lv_sub hl [] rfl)
                            · replace hf := it_t hf hc
                              refine lv_aload_n (pc := 1981) hx hb dL_law_1981 rfl (lv_at hl 1 rfl) ?_
                              refine lv_iconst (pc := 1982) (v := (5 : Int32)) hx hb dL_law_1982 (by decide) ?_
                              obtain ⟨hq, hf⟩ := gd_e hf
                              obtain ⟨hrm, hf⟩ := gd_e hf
                              refine rq_xL (pc := 1983) hf hR hA (fun z hz => xn_V (κ := 7) (As := [.int (5 : Int32)]) (rest := []) hC ⟨hR.1, hR.2.2.2⟩ rfl (by decide) hq (c_X7_momentum hlt hz _) m_517 m_518 m_519 m_1 m_520 hd_X7_momentum ⟨rfl, rfl, Nat.le_of_ble_eq_true rfl, Nat.le_of_ble_eq_true rfl⟩ rfl hl.1 rfl (Nat.le_of_ble_eq_true rfl) dL_law_1983 hrm) (fun M40 x41 H locs hf hR => ?_)
                              refine lv_lload (pc := 1986) hx hb dL_law_1986 (lv_at hl 12 rfl) ?_
                              refine W.lcmp (pc := 1988) hx hb dL_law_1988 ?_
                              refine lv_if_ne (pc := 1989) (tgt := 2018) hx hb dL_law_1989 (by decide) (fun hc => ?_) (fun hc => ?_)
                              · replace hf := it_f hf hc
                                exact b_law_2018 X  M40 N (nc + 1 + 1 + 1 + 1 + 1 + 1 + 1 + 1 + 1 + 1 + 1 + 1 + 1 + 1 + 1 + 1) (ns + 6 + 6 + 6 + 6 + 6 + 6 + 6 + 6 + 6 + 6 + 6 + 6 + 6 + 6 + 6 + 6) _ _ _ hf hR (lv_sub hl [] rfl)
                              · replace hf := it_t hf hc
                                refine lv_lload (pc := 1992) hx hb dL_law_1992 (lv_at hl 13 rfl) ?_
                                refine lv_lload (pc := 1994) hx hb dL_law_1994 (lv_at hl 11 rfl) ?_
                                refine lv_ladd (pc := 1996) hx hb dL_law_1996 ?_
                                refine lv_lload (pc := 1997) hx hb dL_law_1997 (lv_at hl 12 rfl) ?_
                                refine lv_lsub (pc := 1999) hx hb dL_law_1999 ?_
                                refine lv_lload (pc := 2000) hx hb dL_law_2000 (lv_at hl 21 rfl) ?_
                                refine lv_aload_n (pc := 2002) hx hb dL_law_2002 rfl (lv_at hl 1 rfl) ?_
                                refine lv_iconst (pc := 2003) (v := (1 : Int32)) hx hb dL_law_2003 (by decide) ?_
                                obtain ⟨hq, hf⟩ := gd_e hf
                                obtain ⟨hrm, hf⟩ := gd_e hf
                                refine rq_xL (pc := 2004) hf hR hA (fun z hz => xn_V (κ := 7) (As := [.int (1 : Int32)]) (rest := [.long v26, .long ((v15 + v11) - v13)]) hC ⟨hR.1, hR.2.2.2⟩ rfl (by decide) hq (c_X7_momentum hlt hz _) m_517 m_518 m_519 m_1 m_520 hd_X7_momentum ⟨rfl, rfl, Nat.le_of_ble_eq_true rfl, Nat.le_of_ble_eq_true rfl⟩ rfl hl.1 rfl (Nat.le_of_ble_eq_true rfl) dL_law_2004 hrm) (fun M42 x43 H locs hf hR => ?_)
                                refine lv_ladd (pc := 2007) hx hb dL_law_2007 ?_
                                refine lv_aload_n (pc := 2008) hx hb dL_law_2008 rfl (lv_at hl 1 rfl) ?_
                                refine lv_iconst (pc := 2009) (v := (2 : Int32)) hx hb dL_law_2009 (by decide) ?_
                                obtain ⟨hq, hf⟩ := gd_e hf
                                obtain ⟨hrm, hf⟩ := gd_e hf
                                refine rq_xL (pc := 2010) hf hR hA (fun z hz => xn_V (κ := 7) (As := [.int (2 : Int32)]) (rest := [.long (v26 + x43), .long ((v15 + v11) - v13)]) hC ⟨hR.1, hR.2.2.2⟩ rfl (by decide) hq (c_X7_momentum hlt hz _) m_517 m_518 m_519 m_1 m_520 hd_X7_momentum ⟨rfl, rfl, Nat.le_of_ble_eq_true rfl, Nat.le_of_ble_eq_true rfl⟩ rfl hl.1 rfl (Nat.le_of_ble_eq_true rfl) dL_law_2010 hrm) (fun M44 x45 H locs hf hR => ?_)
                                refine lv_ladd (pc := 2013) hx hb dL_law_2013 ?_
                                refine W.lcmp (pc := 2014) hx hb dL_law_2014 ?_
                                refine lv_if_eq (pc := 2015) (tgt := 2020) hx hb dL_law_2015 (by decide) (fun hc => ?_) (fun hc => ?_)
                                · replace hf := it_t hf hc
                                  refine lv_iload (pc := 2020) hx hb dL_law_2020 (lv_at hl 20 rfl) ?_
                                  refine lv_bipush (pc := 2022) (v := (7 : Int32)) hx hb dL_law_2022 (by decide) ?_
                                  refine lv_ishr (pc := 2024) hx hb dL_law_2024 ?_
                                  refine lv_bipush (pc := 2025) (v := (64 : Int32)) hx hb dL_law_2025 (by decide) ?_
                                  obtain ⟨hrm0, hf⟩ := gd_e hf
                                  refine rq_I (pc := 2027) hf hR hA (fun z hz => rn_S (As := [.int (v24 >>> ((7 : Int32) &&& 31)), .int (64 : Int32)]) (rest := []) hC ⟨hR.2.1, hR.2.2.2⟩ (c_L_low hz _) m_535 m_536 m_0 m_537 hd_L_low ⟨rfl, rfl, Nat.le_of_ble_eq_true rfl, Nat.le_of_ble_eq_true rfl⟩ rfl hl.1 rfl (Nat.le_of_ble_eq_true rfl) dL_law_2027 hrm0) (fun z46 H locs hf hR => ?_)
                                  refine lv_istore (pc := 2030) (lv' := [(30, .int z46.2), (0, .ref b), (1, .ref v1), (2, .ref v2), (3, .ref v3), (4, .ref v4), (5, .ref v5), (6, .ref v6), (7, .ref v7), (8, .ref v8), (9, .ref v9), (10, .ref v10), (11, .long v11), (13, .long v13), (15, .long v15), (17, .int v17), (18, .int v18), (19, .int v19), (20, .int v20), (21, .int v21), (22, .int v22), (24, .int v24), (26, .long v26), (28, .int v28), (29, .int v29)]) hx hb dL_law_2030 hl (by decide) rfl (fun ls hl => ?_)
                                  refine lv_iconst (pc := 2032) (v := (0 : Int32)) hx hb dL_law_2032 (by decide) ?_
                                  refine lv_istore (pc := 2033) (lv' := [(31, .int (0 : Int32)), (30, .int z46.2), (0, .ref b), (1, .ref v1), (2, .ref v2), (3, .ref v3), (4, .ref v4), (5, .ref v5), (6, .ref v6), (7, .ref v7), (8, .ref v8), (9, .ref v9), (10, .ref v10), (11, .long v11), (13, .long v13), (15, .long v15), (17, .int v17), (18, .int v18), (19, .int v19), (20, .int v20), (21, .int v21), (22, .int v22), (24, .int v24), (26, .long v26), (28, .int v28), (29, .int v29)]) hx hb dL_law_2033 hl (by decide) rfl (fun ls hl => ?_)
                                  refine lv_iconst (pc := 2035) (v := (0 : Int32)) hx hb dL_law_2035 (by decide) ?_
                                  refine lv_istore (pc := 2036) (lv' := [(32, .int (0 : Int32)), (31, .int (0 : Int32)), (30, .int z46.2), (0, .ref b), (1, .ref v1), (2, .ref v2), (3, .ref v3), (4, .ref v4), (5, .ref v5), (6, .ref v6), (7, .ref v7), (8, .ref v8), (9, .ref v9), (10, .ref v10), (11, .long v11), (13, .long v13), (15, .long v15), (17, .int v17), (18, .int v18), (19, .int v19), (20, .int v20), (21, .int v21), (22, .int v22), (24, .int v24), (26, .long v26), (28, .int v28), (29, .int v29)]) hx hb dL_law_2036 hl (by decide) rfl (fun ls hl => ?_)
                                  exact l_law_2038 X k281 hk281 200 v1 v2 v3 v4 v5 v6 v7 v8 v9 v10 v11 v13 v15 v17 v18 v19 v20 v21 v22 z46.2 (0 : Int32) (0 : Int32) M44 z46.1 (nc + 1 + 1 + 1 + 1 + 1 + 1 + 1 + 1 + 1 + 1 + 1 + 1 + 1 + 1 + 1 + 1 + 1 + 1) (ns + 6 + 6 + 6 + 6 + 6 + 6 + 6 + 6 + 6 + 6 + 6 + 6 + 6 + 6 + 6 + 6 + 6 + 6) _ _ _ hf hR (lv_sub hl [3, 4, 5, 6, 7, 8, 9, 10, 11, 12, 13, 14, 15, 16, 17, 18, 19, 20, 21, 22, 2, 1, 0] rfl)
                                · replace hf := it_f hf hc
                                  exact b_law_2018 X  M44 N (nc + 1 + 1 + 1 + 1 + 1 + 1 + 1 + 1 + 1 + 1 + 1 + 1 + 1 + 1 + 1 + 1 + 1 + 1) (ns + 6 + 6 + 6 + 6 + 6 + 6 + 6 + 6 + 6 + 6 + 6 + 6 + 6 + 6 + 6 + 6 + 6 + 6) _ _ _ hf hR (lv_sub hl [] rfl)
                    · replace hf := it_f hf hc
                      exact b_law_1936 X  M31 N (nc + 1 + 1 + 1 + 1 + 1 + 1 + 1 + 1 + 1 + 1 + 1 + 1) (ns + 6 + 6 + 6 + 6 + 6 + 6 + 6 + 6 + 6 + 6 + 6 + 6) _ _ _ hf hR (lv_sub hl [] rfl)
  · replace hf := it_f hf hc
    refine lv_aload_n (pc := 1794) hx hb dL_law_1794 rfl (lv_at hl 1 rfl) ?_
    refine lv_iload (pc := 1795) hx hb dL_law_1795 (lv_at hl 24 rfl) ?_
    obtain ⟨hq, hf⟩ := gd_e hf
    obtain ⟨hrm, hf⟩ := gd_e hf
    refine rq_xI (pc := 1797) hf hR hA (fun z hz => xn_V (κ := 7) (As := [.int v30]) (rest := []) hC ⟨hR.1, hR.2.2.2⟩ rfl (by decide) hq (c_X7_angle hlt hz _) m_483 m_484 m_485 m_1 m_486 hd_X7_angle ⟨rfl, rfl, Nat.le_of_ble_eq_true rfl, Nat.le_of_ble_eq_true rfl⟩ rfl hl.1 rfl (Nat.le_of_ble_eq_true rfl) dL_law_1797 hrm) (fun M47 x48 H locs hf hR => ?_)
    refine lv_aload (pc := 1800) hx hb dL_law_1800 (lv_at hl 10 rfl) ?_
    refine lv_iconst (pc := 1802) (v := (3 : Int32)) hx hb dL_law_1802 (by decide) ?_
    refine lv_iload (pc := 1803) hx hb dL_law_1803 (lv_at hl 24 rfl) ?_
    refine lv_imul (pc := 1805) hx hb dL_law_1805 ?_
    refine lv_iconst (pc := 1806) (v := (1 : Int32)) hx hb dL_law_1806 (by decide) ?_
    refine lv_iadd (pc := 1807) hx hb dL_law_1807 ?_
    refine rg_iald (pc := 1808) hx hb hK ⟨hR.2.1, hR.2.2.2⟩ dL_law_1808 hf (fun hf => ?_)
    refine lv_icmp_eq (pc := 1809) (tgt := 1814) hx hb dL_law_1809 (by decide) (fun hc => ?_) (fun hc => ?_)
    · replace hf := it_t hf hc
      refine rg_iinc (pc := 1814) hx hb dL_law_1814 hl (k := 24) rfl rfl (by decide) hf (fun x49 ls hf hl => ?_)
      have hl : lv_has ls 34 [(30, .int x49), (0, .ref b), (1, .ref v1), (2, .ref v2), (3, .ref v3), (4, .ref v4), (5, .ref v5), (6, .ref v6), (7, .ref v7), (8, .ref v8), (9, .ref v9), (10, .ref v10), (11, .long v11), (13, .long v13), (15, .long v15), (17, .int v17), (18, .int v18), (19, .int v19), (20, .int v20), (21, .int v21), (22, .int v22), (24, .int v24), (26, .long v26), (28, .int v28), (29, .int v29)] := hl
      refine lv_goto (pc := 1817) (tgt := 1787) hx hb dL_law_1817 (by decide) ?_
      exact hk1787 v1 v2 v3 v4 v5 v6 v7 v8 v9 v10 v11 v13 v15 v17 v18 v19 v20 v21 v22 v24 v26 v28 v29 x49 M47 N (nc + 1) (ns + 6) _ _ _ hf hR (lv_sub hl [1, 2, 3, 4, 5, 6, 7, 8, 9, 10, 11, 12, 13, 14, 15, 16, 17, 18, 19, 20, 21, 22, 23, 24, 0] rfl)
    · replace hf := it_f hf hc
      exact nomatch hf
theorem l_law_1787 (X : LX p l s m meth c D ca b L xs) (k281 : Nat → Nat → Nat → Nat → Nat → Nat → Nat → Nat → Nat → Nat → Int64 → Int64 → Int64 → Int32 → Int32 → Int32 → Int32 → Int32 → Int32 → Mem → Mem → Nat → Nat → Option Int32) (hk281 : ∀ (v1 : Nat) (v2 : Nat) (v3 : Nat) (v4 : Nat) (v5 : Nat) (v6 : Nat) (v7 : Nat) (v8 : Nat) (v9 : Nat) (v10 : Nat) (v11 : Int64) (v13 : Int64) (v15 : Int64) (v17 : Int32) (v18 : Int32) (v19 : Int32) (v20 : Int32) (v21 : Int32) (v22 : Int32) (M N : Mem) (nc ns : Nat) (H : Heap) (locs : List Loc) (ls : Array Slot), k281 v1 v2 v3 v4 v5 v6 v7 v8 v9 v10 v11 v13 v15 v17 v18 v19 v20 v21 v22 M N nc ns = some (1 : Int32) → H2 D ca s M N H locs → lv_has ls 34 [(0, .ref b), (1, .ref v1), (2, .ref v2), (3, .ref v3), (4, .ref v4), (5, .ref v5), (6, .ref v6), (7, .ref v7), (8, .ref v8), (9, .ref v9), (10, .ref v10), (11, .long v11), (13, .long v13), (15, .long v15), (17, .int v17), (18, .int v18), (19, .int v19), (20, .int v20), (21, .int v21), (22, .int v22)] → W p l e room_1 s m #[Value.ref b] below meth c H locs nc ns (lw_Z below #[Value.ref b] s) (F0 m 281 ls [])) (n : Nat) : ∀ (v1 : Nat) (v2 : Nat) (v3 : Nat) (v4 : Nat) (v5 : Nat) (v6 : Nat) (v7 : Nat) (v8 : Nat) (v9 : Nat) (v10 : Nat) (v11 : Int64) (v13 : Int64) (v15 : Int64) (v17 : Int32) (v18 : Int32) (v19 : Int32) (v20 : Int32) (v21 : Int32) (v22 : Int32) (v24 : Int32) (v26 : Int64) (v28 : Int32) (v29 : Int32) (v30 : Int32) (M N : Mem) (nc ns : Nat) (H : Heap) (locs : List Loc) (ls : Array Slot), f_L_law_L1787 L xs k281 n v1 v2 v3 v4 v5 v6 v7 v8 v9 v10 v11 v13 v15 v17 v18 v19 v20 v21 v22 v24 v26 v28 v29 v30 M N nc ns = some (1 : Int32) → H2 D ca s M N H locs → lv_has ls 34 [(0, .ref b), (1, .ref v1), (2, .ref v2), (3, .ref v3), (4, .ref v4), (5, .ref v5), (6, .ref v6), (7, .ref v7), (8, .ref v8), (9, .ref v9), (10, .ref v10), (11, .long v11), (13, .long v13), (15, .long v15), (17, .int v17), (18, .int v18), (19, .int v19), (20, .int v20), (21, .int v21), (22, .int v22), (24, .int v24), (26, .long v26), (28, .int v28), (29, .int v29), (30, .int v30)] → W p l e room_1 s m #[Value.ref b] below meth c H locs nc ns (lw_Z below #[Value.ref b] s) (F0 m 1787 ls []) := by
  induction n with
  | zero => intro v1 v2 v3 v4 v5 v6 v7 v8 v9 v10 v11 v13 v15 v17 v18 v19 v20 v21 v22 v24 v26 v28 v29 v30 M N nc ns H locs ls hf; exact nomatch (show (none : Option Int32) = some 1 from hf)
  | succ n ih => intro v1 v2 v3 v4 v5 v6 v7 v8 v9 v10 v11 v13 v15 v17 v18 v19 v20 v21 v22 v24 v26 v28 v29 v30 M N nc ns H locs ls hf hR hl; exact b_law_1787 X k281 hk281 (f_L_law_L1787 L xs k281 n) ih v1 v2 v3 v4 v5 v6 v7 v8 v9 v10 v11 v13 v15 v17 v18 v19 v20 v21 v22 v24 v26 v28 v29 v30 M N nc ns H locs ls hf hR hl
set_option maxHeartbeats 8000000 in
set_option maxRecDepth 100000 in
theorem b_law_1739 (X : LX p l s m meth c D ca b L xs)   (M N : Mem) (nc ns : Nat) (H : Heap) (locs : List Loc) (ls : Array Slot) (hf : f_L_law_b1739 L xs   M N nc ns = some (1 : Int32)) (hR : H2 D ca s M N H locs) (hl : lv_has ls 34 []) : W p l e room_1 s m #[Value.ref b] below meth c H locs nc ns (lw_Z below #[Value.ref b] s) (F0 m 1739 ls []) := by
  obtain ⟨hx, hb, hC, hlt, hXs, hbl, hret, hL⟩ := id X
  have hts : ∀ w ∈ aw, w.before #[Value.ref b] s = true := hC.2.2.2.1
  have hown := hC.2.2.2.2.1
  have hK := hC.2.2.2.2.2.2.1.1
  have hA : ∀ q : Nat, s.heap.size ≤ q → (fun q : Nat => s.heap.size ≤ q) q := fun _ h => h
  unfold f_L_law_b1739 at hf
  exact nomatch hf
set_option maxHeartbeats 8000000 in
set_option maxRecDepth 100000 in
theorem b_law_1778 (X : LX p l s m meth c D ca b L xs) (k281 : Nat → Nat → Nat → Nat → Nat → Nat → Nat → Nat → Nat → Nat → Int64 → Int64 → Int64 → Int32 → Int32 → Int32 → Int32 → Int32 → Int32 → Mem → Mem → Nat → Nat → Option Int32) (hk281 : ∀ (v1 : Nat) (v2 : Nat) (v3 : Nat) (v4 : Nat) (v5 : Nat) (v6 : Nat) (v7 : Nat) (v8 : Nat) (v9 : Nat) (v10 : Nat) (v11 : Int64) (v13 : Int64) (v15 : Int64) (v17 : Int32) (v18 : Int32) (v19 : Int32) (v20 : Int32) (v21 : Int32) (v22 : Int32) (M N : Mem) (nc ns : Nat) (H : Heap) (locs : List Loc) (ls : Array Slot), k281 v1 v2 v3 v4 v5 v6 v7 v8 v9 v10 v11 v13 v15 v17 v18 v19 v20 v21 v22 M N nc ns = some (1 : Int32) → H2 D ca s M N H locs → lv_has ls 34 [(0, .ref b), (1, .ref v1), (2, .ref v2), (3, .ref v3), (4, .ref v4), (5, .ref v5), (6, .ref v6), (7, .ref v7), (8, .ref v8), (9, .ref v9), (10, .ref v10), (11, .long v11), (13, .long v13), (15, .long v15), (17, .int v17), (18, .int v18), (19, .int v19), (20, .int v20), (21, .int v21), (22, .int v22)] → W p l e room_1 s m #[Value.ref b] below meth c H locs nc ns (lw_Z below #[Value.ref b] s) (F0 m 281 ls [])) (k1644 : Nat → Nat → Nat → Nat → Nat → Nat → Nat → Nat → Nat → Nat → Int64 → Int64 → Int64 → Int32 → Int32 → Int32 → Int32 → Int32 → Int32 → Int32 → Int64 → Int32 → Int32 → Int32 → Mem → Mem → Nat → Nat → Option Int32) (hk1644 : ∀ (v1 : Nat) (v2 : Nat) (v3 : Nat) (v4 : Nat) (v5 : Nat) (v6 : Nat) (v7 : Nat) (v8 : Nat) (v9 : Nat) (v10 : Nat) (v11 : Int64) (v13 : Int64) (v15 : Int64) (v17 : Int32) (v18 : Int32) (v19 : Int32) (v20 : Int32) (v21 : Int32) (v22 : Int32) (v24 : Int32) (v26 : Int64) (v28 : Int32) (v29 : Int32) (v30 : Int32) (M N : Mem) (nc ns : Nat) (H : Heap) (locs : List Loc) (ls : Array Slot), k1644 v1 v2 v3 v4 v5 v6 v7 v8 v9 v10 v11 v13 v15 v17 v18 v19 v20 v21 v22 v24 v26 v28 v29 v30 M N nc ns = some (1 : Int32) → H2 D ca s M N H locs → lv_has ls 34 [(0, .ref b), (1, .ref v1), (2, .ref v2), (3, .ref v3), (4, .ref v4), (5, .ref v5), (6, .ref v6), (7, .ref v7), (8, .ref v8), (9, .ref v9), (10, .ref v10), (11, .long v11), (13, .long v13), (15, .long v15), (17, .int v17), (18, .int v18), (19, .int v19), (20, .int v20), (21, .int v21), (22, .int v22), (24, .int v24), (26, .long v26), (28, .int v28), (29, .int v29), (30, .int v30)] → W p l e room_1 s m #[Value.ref b] below meth c H locs nc ns (lw_Z below #[Value.ref b] s) (F0 m 1644 ls [])) (v1 : Nat) (v2 : Nat) (v3 : Nat) (v4 : Nat) (v5 : Nat) (v6 : Nat) (v7 : Nat) (v8 : Nat) (v9 : Nat) (v10 : Nat) (v11 : Int64) (v13 : Int64) (v15 : Int64) (v17 : Int32) (v18 : Int32) (v19 : Int32) (v20 : Int32) (v21 : Int32) (v22 : Int32) (v24 : Int32) (v26 : Int64) (v28 : Int32) (v29 : Int32) (v30 : Int32) (M N : Mem) (nc ns : Nat) (H : Heap) (locs : List Loc) (ls : Array Slot) (hf : f_L_law_b1778 L xs k281 k1644 v1 v2 v3 v4 v5 v6 v7 v8 v9 v10 v11 v13 v15 v17 v18 v19 v20 v21 v22 v24 v26 v28 v29 v30 M N nc ns = some (1 : Int32)) (hR : H2 D ca s M N H locs) (hl : lv_has ls 34 [(0, .ref b), (1, .ref v1), (2, .ref v2), (3, .ref v3), (4, .ref v4), (5, .ref v5), (6, .ref v6), (7, .ref v7), (8, .ref v8), (9, .ref v9), (10, .ref v10), (11, .long v11), (13, .long v13), (15, .long v15), (17, .int v17), (18, .int v18), (19, .int v19), (20, .int v20), (21, .int v21), (22, .int v22), (24, .int v24), (26, .long v26), (28, .int v28), (29, .int v29), (30, .int v30)]) : W p l e room_1 s m #[Value.ref b] below meth c H locs nc ns (lw_Z below #[Value.ref b] s) (F0 m 1778 ls []) := by
  obtain ⟨hx, hb, hC, hlt, hXs, hbl, hret, hL⟩ := id X
  have hts : ∀ w ∈ aw, w.before #[Value.ref b] s = true := hC.2.2.2.1
  have hown := hC.2.2.2.2.1
  have hK := hC.2.2.2.2.2.2.1.1
  have hA : ∀ q : Nat, s.heap.size ≤ q → (fun q : Nat => s.heap.size ≤ q) q := fun _ h => h
  unfold f_L_law_b1778 at hf
  refine rg_iinc (pc := 1778) hx hb dL_law_1778 hl (k := 24) rfl rfl (by decide) hf (fun x50 ls hf hl => ?_)
  have hl : lv_has ls 34 [(30, .int x50), (0, .ref b), (1, .ref v1), (2, .ref v2), (3, .ref v3), (4, .ref v4), (5, .ref v5), (6, .ref v6), (7, .ref v7), (8, .ref v8), (9, .ref v9), (10, .ref v10), (11, .long v11), (13, .long v13), (15, .long v15), (17, .int v17), (18, .int v18), (19, .int v19), (20, .int v20), (21, .int v21), (22, .int v22), (24, .int v24), (26, .long v26), (28, .int v28), (29, .int v29)] := hl
  refine lv_goto (pc := 1781) (tgt := 1644) hx hb dL_law_1781 (by decide) ?_
  exact hk1644 v1 v2 v3 v4 v5 v6 v7 v8 v9 v10 v11 v13 v15 v17 v18 v19 v20 v21 v22 v24 v26 v28 v29 x50 M N nc ns _ _ _ hf hR (lv_sub hl [1, 2, 3, 4, 5, 6, 7, 8, 9, 10, 11, 12, 13, 14, 15, 16, 17, 18, 19, 20, 21, 22, 23, 24, 0] rfl)
set_option maxHeartbeats 8000000 in
set_option maxRecDepth 100000 in
theorem b_law_1644 (X : LX p l s m meth c D ca b L xs) (k281 : Nat → Nat → Nat → Nat → Nat → Nat → Nat → Nat → Nat → Nat → Int64 → Int64 → Int64 → Int32 → Int32 → Int32 → Int32 → Int32 → Int32 → Mem → Mem → Nat → Nat → Option Int32) (hk281 : ∀ (v1 : Nat) (v2 : Nat) (v3 : Nat) (v4 : Nat) (v5 : Nat) (v6 : Nat) (v7 : Nat) (v8 : Nat) (v9 : Nat) (v10 : Nat) (v11 : Int64) (v13 : Int64) (v15 : Int64) (v17 : Int32) (v18 : Int32) (v19 : Int32) (v20 : Int32) (v21 : Int32) (v22 : Int32) (M N : Mem) (nc ns : Nat) (H : Heap) (locs : List Loc) (ls : Array Slot), k281 v1 v2 v3 v4 v5 v6 v7 v8 v9 v10 v11 v13 v15 v17 v18 v19 v20 v21 v22 M N nc ns = some (1 : Int32) → H2 D ca s M N H locs → lv_has ls 34 [(0, .ref b), (1, .ref v1), (2, .ref v2), (3, .ref v3), (4, .ref v4), (5, .ref v5), (6, .ref v6), (7, .ref v7), (8, .ref v8), (9, .ref v9), (10, .ref v10), (11, .long v11), (13, .long v13), (15, .long v15), (17, .int v17), (18, .int v18), (19, .int v19), (20, .int v20), (21, .int v21), (22, .int v22)] → W p l e room_1 s m #[Value.ref b] below meth c H locs nc ns (lw_Z below #[Value.ref b] s) (F0 m 281 ls [])) (k1644 : Nat → Nat → Nat → Nat → Nat → Nat → Nat → Nat → Nat → Nat → Int64 → Int64 → Int64 → Int32 → Int32 → Int32 → Int32 → Int32 → Int32 → Int32 → Int64 → Int32 → Int32 → Int32 → Mem → Mem → Nat → Nat → Option Int32) (hk1644 : ∀ (v1 : Nat) (v2 : Nat) (v3 : Nat) (v4 : Nat) (v5 : Nat) (v6 : Nat) (v7 : Nat) (v8 : Nat) (v9 : Nat) (v10 : Nat) (v11 : Int64) (v13 : Int64) (v15 : Int64) (v17 : Int32) (v18 : Int32) (v19 : Int32) (v20 : Int32) (v21 : Int32) (v22 : Int32) (v24 : Int32) (v26 : Int64) (v28 : Int32) (v29 : Int32) (v30 : Int32) (M N : Mem) (nc ns : Nat) (H : Heap) (locs : List Loc) (ls : Array Slot), k1644 v1 v2 v3 v4 v5 v6 v7 v8 v9 v10 v11 v13 v15 v17 v18 v19 v20 v21 v22 v24 v26 v28 v29 v30 M N nc ns = some (1 : Int32) → H2 D ca s M N H locs → lv_has ls 34 [(0, .ref b), (1, .ref v1), (2, .ref v2), (3, .ref v3), (4, .ref v4), (5, .ref v5), (6, .ref v6), (7, .ref v7), (8, .ref v8), (9, .ref v9), (10, .ref v10), (11, .long v11), (13, .long v13), (15, .long v15), (17, .int v17), (18, .int v18), (19, .int v19), (20, .int v20), (21, .int v21), (22, .int v22), (24, .int v24), (26, .long v26), (28, .int v28), (29, .int v29), (30, .int v30)] → W p l e room_1 s m #[Value.ref b] below meth c H locs nc ns (lw_Z below #[Value.ref b] s) (F0 m 1644 ls [])) (v1 : Nat) (v2 : Nat) (v3 : Nat) (v4 : Nat) (v5 : Nat) (v6 : Nat) (v7 : Nat) (v8 : Nat) (v9 : Nat) (v10 : Nat) (v11 : Int64) (v13 : Int64) (v15 : Int64) (v17 : Int32) (v18 : Int32) (v19 : Int32) (v20 : Int32) (v21 : Int32) (v22 : Int32) (v24 : Int32) (v26 : Int64) (v28 : Int32) (v29 : Int32) (v30 : Int32) (M N : Mem) (nc ns : Nat) (H : Heap) (locs : List Loc) (ls : Array Slot) (hf : f_L_law_b1644 L xs k281 k1644 v1 v2 v3 v4 v5 v6 v7 v8 v9 v10 v11 v13 v15 v17 v18 v19 v20 v21 v22 v24 v26 v28 v29 v30 M N nc ns = some (1 : Int32)) (hR : H2 D ca s M N H locs) (hl : lv_has ls 34 [(0, .ref b), (1, .ref v1), (2, .ref v2), (3, .ref v3), (4, .ref v4), (5, .ref v5), (6, .ref v6), (7, .ref v7), (8, .ref v8), (9, .ref v9), (10, .ref v10), (11, .long v11), (13, .long v13), (15, .long v15), (17, .int v17), (18, .int v18), (19, .int v19), (20, .int v20), (21, .int v21), (22, .int v22), (24, .int v24), (26, .long v26), (28, .int v28), (29, .int v29), (30, .int v30)]) : W p l e room_1 s m #[Value.ref b] below meth c H locs nc ns (lw_Z below #[Value.ref b] s) (F0 m 1644 ls []) := by
  obtain ⟨hx, hb, hC, hlt, hXs, hbl, hret, hL⟩ := id X
  have hts : ∀ w ∈ aw, w.before #[Value.ref b] s = true := hC.2.2.2.1
  have hown := hC.2.2.2.2.1
  have hK := hC.2.2.2.2.2.2.1.1
  have hA : ∀ q : Nat, s.heap.size ≤ q → (fun q : Nat => s.heap.size ≤ q) q := fun _ h => h
  unfold f_L_law_b1644 at hf
  refine lv_iload (pc := 1644) hx hb dL_law_1644 (lv_at hl 24 rfl) ?_
  refine lv_iload (pc := 1646) hx hb dL_law_1646 (lv_at hl 14 rfl) ?_
  refine lv_icmp_ge (pc := 1648) (tgt := 1784) hx hb dL_law_1648 (by decide) (fun hc => ?_) (fun hc => ?_)
  · replace hf := it_t hf hc
    refine lv_iconst (pc := 1784) (v := (0 : Int32)) hx hb dL_law_1784 (by decide) ?_
    refine lv_istore (pc := 1785) (lv' := [(30, .int (0 : Int32)), (0, .ref b), (1, .ref v1), (2, .ref v2), (3, .ref v3), (4, .ref v4), (5, .ref v5), (6, .ref v6), (7, .ref v7), (8, .ref v8), (9, .ref v9), (10, .ref v10), (11, .long v11), (13, .long v13), (15, .long v15), (17, .int v17), (18, .int v18), (19, .int v19), (20, .int v20), (21, .int v21), (22, .int v22), (24, .int v24), (26, .long v26), (28, .int v28), (29, .int v29)]) hx hb dL_law_1785 hl (by decide) rfl (fun ls hl => ?_)
    exact l_law_1787 X k281 hk281 200 v1 v2 v3 v4 v5 v6 v7 v8 v9 v10 v11 v13 v15 v17 v18 v19 v20 v21 v22 v24 v26 v28 v29 (0 : Int32) M N nc ns _ _ _ hf hR (lv_sub hl [1, 2, 3, 4, 5, 6, 7, 8, 9, 10, 11, 12, 13, 14, 15, 16, 17, 18, 19, 20, 21, 22, 23, 24, 0] rfl)
  · replace hf := it_f hf hc
    refine lv_aload_n (pc := 1651) hx hb dL_law_1651 rfl (lv_at hl 1 rfl) ?_
    refine lv_iload (pc := 1652) hx hb dL_law_1652 (lv_at hl 24 rfl) ?_
    refine lv_iconst (pc := 1654) (v := (0 : Int32)) hx hb dL_law_1654 (by decide) ?_
    obtain ⟨hq, hf⟩ := gd_e hf
    obtain ⟨hrm, hf⟩ := gd_e hf
    refine rq_xI (pc := 1655) hf hR hA (fun z hz => xn_V (κ := 7) (As := [.int v30, .int (0 : Int32)]) (rest := []) hC ⟨hR.1, hR.2.2.2⟩ rfl (by decide) hq (c_X7_told hlt hz _) m_459 m_460 m_461 m_1 m_462 hd_X7_told ⟨rfl, rfl, Nat.le_of_ble_eq_true rfl, Nat.le_of_ble_eq_true rfl⟩ rfl hl.1 rfl (Nat.le_of_ble_eq_true rfl) dL_law_1655 hrm) (fun M51 x52 H locs hf hR => ?_)
    refine lv_aload_n (pc := 1658) hx hb dL_law_1658 rfl (lv_at hl 2 rfl) ?_
    refine lv_iload (pc := 1659) hx hb dL_law_1659 (lv_at hl 24 rfl) ?_
    refine rg_iald (pc := 1661) hx hb hK ⟨hR.2.1, hR.2.2.2⟩ dL_law_1661 hf (fun hf => ?_)
    refine lv_icmp_ne (pc := 1662) (tgt := 1739) hx hb dL_law_1662 (by decide) (fun hc => ?_) (fun hc => ?_)
    · replace hf := it_f hf hc
      exact b_law_1739 X  M51 N (nc + 2) (ns + 12) _ _ _ hf hR (lv_sub hl [] rfl)
    · replace hf := it_t hf hc
      refine lv_aload_n (pc := 1665) hx hb dL_law_1665 rfl (lv_at hl 1 rfl) ?_
      refine lv_iload (pc := 1666) hx hb dL_law_1666 (lv_at hl 24 rfl) ?_
      refine lv_iconst (pc := 1668) (v := (1 : Int32)) hx hb dL_law_1668 (by decide) ?_
      obtain ⟨hq, hf⟩ := gd_e hf
      obtain ⟨hrm, hf⟩ := gd_e hf
      refine rq_xI (pc := 1669) hf hR hA (fun z hz => xn_V (κ := 7) (As := [.int v30, .int (1 : Int32)]) (rest := []) hC ⟨hR.1, hR.2.2.2⟩ rfl (by decide) hq (c_X7_told hlt hz _) m_459 m_460 m_461 m_1 m_462 hd_X7_told ⟨rfl, rfl, Nat.le_of_ble_eq_true rfl, Nat.le_of_ble_eq_true rfl⟩ rfl hl.1 rfl (Nat.le_of_ble_eq_true rfl) dL_law_1669 hrm) (fun M53 x54 H locs hf hR => ?_)
      refine lv_aload_n (pc := 1672) hx hb dL_law_1672 rfl (lv_at hl 3 rfl) ?_
      refine lv_iload (pc := 1673) hx hb dL_law_1673 (lv_at hl 24 rfl) ?_
      refine rg_iald (pc := 1675) hx hb hK ⟨hR.2.1, hR.2.2.2⟩ dL_law_1675 hf (fun hf => ?_)
      refine lv_icmp_ne (pc := 1676) (tgt := 1739) hx hb dL_law_1676 (by decide) (fun hc => ?_) (fun hc => ?_)
      · replace hf := it_f hf hc
        exact b_law_1739 X  M53 N (nc + 2 + 2) (ns + 12 + 12) _ _ _ hf hR (lv_sub hl [] rfl)
      · replace hf := it_t hf hc
        refine lv_aload_n (pc := 1679) hx hb dL_law_1679 rfl (lv_at hl 1 rfl) ?_
        refine lv_iload (pc := 1680) hx hb dL_law_1680 (lv_at hl 24 rfl) ?_
        refine lv_iconst (pc := 1682) (v := (2 : Int32)) hx hb dL_law_1682 (by decide) ?_
        obtain ⟨hq, hf⟩ := gd_e hf
        obtain ⟨hrm, hf⟩ := gd_e hf
        refine rq_xI (pc := 1683) hf hR hA (fun z hz => xn_V (κ := 7) (As := [.int v30, .int (2 : Int32)]) (rest := []) hC ⟨hR.1, hR.2.2.2⟩ rfl (by decide) hq (c_X7_told hlt hz _) m_459 m_460 m_461 m_1 m_462 hd_X7_told ⟨rfl, rfl, Nat.le_of_ble_eq_true rfl, Nat.le_of_ble_eq_true rfl⟩ rfl hl.1 rfl (Nat.le_of_ble_eq_true rfl) dL_law_1683 hrm) (fun M55 x56 H locs hf hR => ?_)
        refine lv_aload (pc := 1686) hx hb dL_law_1686 (lv_at hl 4 rfl) ?_
        refine lv_iload (pc := 1688) hx hb dL_law_1688 (lv_at hl 24 rfl) ?_
        refine rg_iald (pc := 1690) hx hb hK ⟨hR.2.1, hR.2.2.2⟩ dL_law_1690 hf (fun hf => ?_)
        refine lv_icmp_ne (pc := 1691) (tgt := 1739) hx hb dL_law_1691 (by decide) (fun hc => ?_) (fun hc => ?_)
        · replace hf := it_f hf hc
          exact b_law_1739 X  M55 N (nc + 2 + 2 + 2) (ns + 12 + 12 + 12) _ _ _ hf hR (lv_sub hl [] rfl)
        · replace hf := it_t hf hc
          refine lv_aload_n (pc := 1694) hx hb dL_law_1694 rfl (lv_at hl 1 rfl) ?_
          refine lv_iload (pc := 1695) hx hb dL_law_1695 (lv_at hl 24 rfl) ?_
          refine lv_iconst (pc := 1697) (v := (3 : Int32)) hx hb dL_law_1697 (by decide) ?_
          obtain ⟨hq, hf⟩ := gd_e hf
          obtain ⟨hrm, hf⟩ := gd_e hf
          refine rq_xI (pc := 1698) hf hR hA (fun z hz => xn_V (κ := 7) (As := [.int v30, .int (3 : Int32)]) (rest := []) hC ⟨hR.1, hR.2.2.2⟩ rfl (by decide) hq (c_X7_told hlt hz _) m_459 m_460 m_461 m_1 m_462 hd_X7_told ⟨rfl, rfl, Nat.le_of_ble_eq_true rfl, Nat.le_of_ble_eq_true rfl⟩ rfl hl.1 rfl (Nat.le_of_ble_eq_true rfl) dL_law_1698 hrm) (fun M57 x58 H locs hf hR => ?_)
          refine lv_aload (pc := 1701) hx hb dL_law_1701 (lv_at hl 5 rfl) ?_
          refine lv_iload (pc := 1703) hx hb dL_law_1703 (lv_at hl 24 rfl) ?_
          refine rg_iald (pc := 1705) hx hb hK ⟨hR.2.1, hR.2.2.2⟩ dL_law_1705 hf (fun hf => ?_)
          refine lv_icmp_ne (pc := 1706) (tgt := 1739) hx hb dL_law_1706 (by decide) (fun hc => ?_) (fun hc => ?_)
          · replace hf := it_f hf hc
            exact b_law_1739 X  M57 N (nc + 2 + 2 + 2 + 2) (ns + 12 + 12 + 12 + 12) _ _ _ hf hR (lv_sub hl [] rfl)
          · replace hf := it_t hf hc
            refine lv_aload_n (pc := 1709) hx hb dL_law_1709 rfl (lv_at hl 1 rfl) ?_
            refine lv_iload (pc := 1710) hx hb dL_law_1710 (lv_at hl 24 rfl) ?_
            refine lv_iconst (pc := 1712) (v := (4 : Int32)) hx hb dL_law_1712 (by decide) ?_
            obtain ⟨hq, hf⟩ := gd_e hf
            obtain ⟨hrm, hf⟩ := gd_e hf
            refine rq_xI (pc := 1713) hf hR hA (fun z hz => xn_V (κ := 7) (As := [.int v30, .int (4 : Int32)]) (rest := []) hC ⟨hR.1, hR.2.2.2⟩ rfl (by decide) hq (c_X7_told hlt hz _) m_459 m_460 m_461 m_1 m_462 hd_X7_told ⟨rfl, rfl, Nat.le_of_ble_eq_true rfl, Nat.le_of_ble_eq_true rfl⟩ rfl hl.1 rfl (Nat.le_of_ble_eq_true rfl) dL_law_1713 hrm) (fun M59 x60 H locs hf hR => ?_)
            refine lv_aload (pc := 1716) hx hb dL_law_1716 (lv_at hl 6 rfl) ?_
            refine lv_iload (pc := 1718) hx hb dL_law_1718 (lv_at hl 24 rfl) ?_
            refine rg_iald (pc := 1720) hx hb hK ⟨hR.2.1, hR.2.2.2⟩ dL_law_1720 hf (fun hf => ?_)
            refine lv_icmp_ne (pc := 1721) (tgt := 1739) hx hb dL_law_1721 (by decide) (fun hc => ?_) (fun hc => ?_)
            · replace hf := it_f hf hc
              exact b_law_1739 X  M59 N (nc + 2 + 2 + 2 + 2 + 2) (ns + 12 + 12 + 12 + 12 + 12) _ _ _ hf hR (lv_sub hl [] rfl)
            · replace hf := it_t hf hc
              refine lv_aload_n (pc := 1724) hx hb dL_law_1724 rfl (lv_at hl 1 rfl) ?_
              refine lv_iload (pc := 1725) hx hb dL_law_1725 (lv_at hl 24 rfl) ?_
              refine lv_iconst (pc := 1727) (v := (5 : Int32)) hx hb dL_law_1727 (by decide) ?_
              obtain ⟨hq, hf⟩ := gd_e hf
              obtain ⟨hrm, hf⟩ := gd_e hf
              refine rq_xI (pc := 1728) hf hR hA (fun z hz => xn_V (κ := 7) (As := [.int v30, .int (5 : Int32)]) (rest := []) hC ⟨hR.1, hR.2.2.2⟩ rfl (by decide) hq (c_X7_told hlt hz _) m_459 m_460 m_461 m_1 m_462 hd_X7_told ⟨rfl, rfl, Nat.le_of_ble_eq_true rfl, Nat.le_of_ble_eq_true rfl⟩ rfl hl.1 rfl (Nat.le_of_ble_eq_true rfl) dL_law_1728 hrm) (fun M61 x62 H locs hf hR => ?_)
              refine lv_aload (pc := 1731) hx hb dL_law_1731 (lv_at hl 7 rfl) ?_
              refine lv_iload (pc := 1733) hx hb dL_law_1733 (lv_at hl 24 rfl) ?_
              refine rg_iald (pc := 1735) hx hb hK ⟨hR.2.1, hR.2.2.2⟩ dL_law_1735 hf (fun hf => ?_)
              refine lv_icmp_eq (pc := 1736) (tgt := 1741) hx hb dL_law_1736 (by decide) (fun hc => ?_) (fun hc => ?_)
              · replace hf := it_t hf hc
                refine lv_aload (pc := 1741) hx hb dL_law_1741 (lv_at hl 7 rfl) ?_
                refine lv_iload (pc := 1743) hx hb dL_law_1743 (lv_at hl 24 rfl) ?_
                refine rg_iald (pc := 1745) hx hb hK ⟨hR.2.1, hR.2.2.2⟩ dL_law_1745 hf (fun hf => ?_)
                refine lv_if_ne (pc := 1746) (tgt := 1752) hx hb dL_law_1746 (by decide) (fun hc => ?_) (fun hc => ?_)
                · replace hf := it_f hf hc
                  refine lv_lload (pc := 1752) hx hb dL_law_1752 (lv_at hl 21 rfl) ?_
                  refine lv_aload_n (pc := 1754) hx hb dL_law_1754 rfl (lv_at hl 2 rfl) ?_
                  refine lv_aload (pc := 1755) hx hb dL_law_1755 (lv_at hl 4 rfl) ?_
                  refine lv_iload (pc := 1757) hx hb dL_law_1757 (lv_at hl 24 rfl) ?_
                  obtain ⟨hrm0, hf⟩ := gd_e hf
                  refine rq_L (pc := 1759) hf hR hA (fun z hz => rn_S (As := [.ref v2, .ref v4, .int v30]) (rest := [.long v26]) hC ⟨hR.2.1, hR.2.2.2⟩ (c_L_moment hz _) m_549 m_550 m_0 m_551 hd_L_moment ⟨rfl, rfl, Nat.le_of_ble_eq_true rfl, Nat.le_of_ble_eq_true rfl⟩ rfl hl.1 rfl (Nat.le_of_ble_eq_true rfl) dL_law_1759 hrm0) (fun z63 H locs hf hR => ?_)
                  refine lv_ladd (pc := 1762) hx hb dL_law_1762 ?_
                  refine nm_l hf (fun x64 hf => ?_)
                  refine lv_lstore (pc := 1763) (lv' := [(26, .long x64), (0, .ref b), (1, .ref v1), (2, .ref v2), (3, .ref v3), (4, .ref v4), (5, .ref v5), (6, .ref v6), (7, .ref v7), (8, .ref v8), (9, .ref v9), (10, .ref v10), (11, .long v11), (13, .long v13), (15, .long v15), (17, .int v17), (18, .int v18), (19, .int v19), (20, .int v20), (21, .int v21), (22, .int v22), (24, .int v24), (28, .int v28), (29, .int v29), (30, .int v30)]) hx hb dL_law_1763 hl (by decide) rfl (fun ls hl => ?_)
                  refine lv_iload (pc := 1765) hx hb dL_law_1765 (lv_at hl 22 rfl) ?_
                  refine lv_aload (pc := 1767) hx hb dL_law_1767 (lv_at hl 5 rfl) ?_
                  refine lv_iload (pc := 1769) hx hb dL_law_1769 (lv_at hl 24 rfl) ?_
                  refine rg_iald (pc := 1771) hx hb hK ⟨hR.2.1, hR.2.2.2⟩ dL_law_1771 hf (fun hf => ?_)
                  refine lv_iadd (pc := 1772) hx hb dL_law_1772 ?_
                  refine nm_i hf (fun x65 hf => ?_)
                  refine lv_istore (pc := 1773) (lv' := [(28, .int x65), (26, .long x64), (0, .ref b), (1, .ref v1), (2, .ref v2), (3, .ref v3), (4, .ref v4), (5, .ref v5), (6, .ref v6), (7, .ref v7), (8, .ref v8), (9, .ref v9), (10, .ref v10), (11, .long v11), (13, .long v13), (15, .long v15), (17, .int v17), (18, .int v18), (19, .int v19), (20, .int v20), (21, .int v21), (22, .int v22), (24, .int v24), (29, .int v29), (30, .int v30)]) hx hb dL_law_1773 hl (by decide) rfl (fun ls hl => ?_)
                  refine rg_iinc (pc := 1775) hx hb dL_law_1775 hl (k := 23) rfl rfl (by decide) hf (fun x66 ls hf hl => ?_)
                  have hl : lv_has ls 34 [(29, .int x66), (28, .int x65), (26, .long x64), (0, .ref b), (1, .ref v1), (2, .ref v2), (3, .ref v3), (4, .ref v4), (5, .ref v5), (6, .ref v6), (7, .ref v7), (8, .ref v8), (9, .ref v9), (10, .ref v10), (11, .long v11), (13, .long v13), (15, .long v15), (17, .int v17), (18, .int v18), (19, .int v19), (20, .int v20), (21, .int v21), (22, .int v22), (24, .int v24), (30, .int v30)] := hl
                  exact b_law_1778 X k281 hk281 k1644 hk1644 v1 v2 v3 v4 v5 v6 v7 v8 v9 v10 v11 v13 v15 v17 v18 v19 v20 v21 v22 v24 x64 x65 x66 v30 M61 z63.1 (nc + 2 + 2 + 2 + 2 + 2 + 2) (ns + 12 + 12 + 12 + 12 + 12 + 12) _ _ _ hf hR (lv_sub hl [3, 4, 5, 6, 7, 8, 9, 10, 11, 12, 13, 14, 15, 16, 17, 18, 19, 20, 21, 22, 23, 2, 1, 0, 24] rfl)
                · replace hf := it_t hf hc
                  refine lv_goto (pc := 1749) (tgt := 1778) hx hb dL_law_1749 (by decide) ?_
                  exact b_law_1778 X k281 hk281 k1644 hk1644 v1 v2 v3 v4 v5 v6 v7 v8 v9 v10 v11 v13 v15 v17 v18 v19 v20 v21 v22 v24 v26 v28 v29 v30 M61 N (nc + 2 + 2 + 2 + 2 + 2 + 2) (ns + 12 + 12 + 12 + 12 + 12 + 12) _ _ _ hf hR (lv_sub hl [0, 1, 2, 3, 4, 5, 6, 7, 8, 9, 10, 11, 12, 13, 14, 15, 16, 17, 18, 19, 20, 21, 22, 23, 24] rfl)
              · replace hf := it_f hf hc
                exact b_law_1739 X  M61 N (nc + 2 + 2 + 2 + 2 + 2 + 2) (ns + 12 + 12 + 12 + 12 + 12 + 12) _ _ _ hf hR (lv_sub hl [] rfl)
theorem l_law_1644 (X : LX p l s m meth c D ca b L xs) (k281 : Nat → Nat → Nat → Nat → Nat → Nat → Nat → Nat → Nat → Nat → Int64 → Int64 → Int64 → Int32 → Int32 → Int32 → Int32 → Int32 → Int32 → Mem → Mem → Nat → Nat → Option Int32) (hk281 : ∀ (v1 : Nat) (v2 : Nat) (v3 : Nat) (v4 : Nat) (v5 : Nat) (v6 : Nat) (v7 : Nat) (v8 : Nat) (v9 : Nat) (v10 : Nat) (v11 : Int64) (v13 : Int64) (v15 : Int64) (v17 : Int32) (v18 : Int32) (v19 : Int32) (v20 : Int32) (v21 : Int32) (v22 : Int32) (M N : Mem) (nc ns : Nat) (H : Heap) (locs : List Loc) (ls : Array Slot), k281 v1 v2 v3 v4 v5 v6 v7 v8 v9 v10 v11 v13 v15 v17 v18 v19 v20 v21 v22 M N nc ns = some (1 : Int32) → H2 D ca s M N H locs → lv_has ls 34 [(0, .ref b), (1, .ref v1), (2, .ref v2), (3, .ref v3), (4, .ref v4), (5, .ref v5), (6, .ref v6), (7, .ref v7), (8, .ref v8), (9, .ref v9), (10, .ref v10), (11, .long v11), (13, .long v13), (15, .long v15), (17, .int v17), (18, .int v18), (19, .int v19), (20, .int v20), (21, .int v21), (22, .int v22)] → W p l e room_1 s m #[Value.ref b] below meth c H locs nc ns (lw_Z below #[Value.ref b] s) (F0 m 281 ls [])) (n : Nat) : ∀ (v1 : Nat) (v2 : Nat) (v3 : Nat) (v4 : Nat) (v5 : Nat) (v6 : Nat) (v7 : Nat) (v8 : Nat) (v9 : Nat) (v10 : Nat) (v11 : Int64) (v13 : Int64) (v15 : Int64) (v17 : Int32) (v18 : Int32) (v19 : Int32) (v20 : Int32) (v21 : Int32) (v22 : Int32) (v24 : Int32) (v26 : Int64) (v28 : Int32) (v29 : Int32) (v30 : Int32) (M N : Mem) (nc ns : Nat) (H : Heap) (locs : List Loc) (ls : Array Slot), f_L_law_L1644 L xs k281 n v1 v2 v3 v4 v5 v6 v7 v8 v9 v10 v11 v13 v15 v17 v18 v19 v20 v21 v22 v24 v26 v28 v29 v30 M N nc ns = some (1 : Int32) → H2 D ca s M N H locs → lv_has ls 34 [(0, .ref b), (1, .ref v1), (2, .ref v2), (3, .ref v3), (4, .ref v4), (5, .ref v5), (6, .ref v6), (7, .ref v7), (8, .ref v8), (9, .ref v9), (10, .ref v10), (11, .long v11), (13, .long v13), (15, .long v15), (17, .int v17), (18, .int v18), (19, .int v19), (20, .int v20), (21, .int v21), (22, .int v22), (24, .int v24), (26, .long v26), (28, .int v28), (29, .int v29), (30, .int v30)] → W p l e room_1 s m #[Value.ref b] below meth c H locs nc ns (lw_Z below #[Value.ref b] s) (F0 m 1644 ls []) := by
  induction n with
  | zero => intro v1 v2 v3 v4 v5 v6 v7 v8 v9 v10 v11 v13 v15 v17 v18 v19 v20 v21 v22 v24 v26 v28 v29 v30 M N nc ns H locs ls hf; exact nomatch (show (none : Option Int32) = some 1 from hf)
  | succ n ih => intro v1 v2 v3 v4 v5 v6 v7 v8 v9 v10 v11 v13 v15 v17 v18 v19 v20 v21 v22 v24 v26 v28 v29 v30 M N nc ns H locs ls hf hR hl; exact b_law_1644 X k281 hk281 (f_L_law_L1644 L xs k281 n) ih v1 v2 v3 v4 v5 v6 v7 v8 v9 v10 v11 v13 v15 v17 v18 v19 v20 v21 v22 v24 v26 v28 v29 v30 M N nc ns H locs ls hf hR hl
end LB
