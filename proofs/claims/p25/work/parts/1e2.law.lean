section LB
variable {p : Program} {l : Launch} {e : Env} {s : State} {m : MethodId} {below : List Frame} {meth : Method} {c : Code} {D : va_G} {ca : Nat → ClassId} {b L : Nat} {xs : Nat → Int32}
set_option maxHeartbeats 8000000 in
set_option maxRecDepth 100000 in
theorem b_law_1249 (X : LX p l s m meth c D ca b L xs) (k281 : Nat → Nat → Nat → Nat → Nat → Nat → Nat → Nat → Nat → Nat → Int64 → Int64 → Int64 → Int32 → Int32 → Int32 → Int32 → Int32 → Int32 → Mem → Mem → Nat → Nat → Option Int32) (hk281 : ∀ (v1 : Nat) (v2 : Nat) (v3 : Nat) (v4 : Nat) (v5 : Nat) (v6 : Nat) (v7 : Nat) (v8 : Nat) (v9 : Nat) (v10 : Nat) (v11 : Int64) (v13 : Int64) (v15 : Int64) (v17 : Int32) (v18 : Int32) (v19 : Int32) (v20 : Int32) (v21 : Int32) (v22 : Int32) (M N : Mem) (nc ns : Nat) (H : Heap) (locs : List Loc) (ls : Array Slot), k281 v1 v2 v3 v4 v5 v6 v7 v8 v9 v10 v11 v13 v15 v17 v18 v19 v20 v21 v22 M N nc ns = some (1 : Int32) → H2 D ca s M N H locs → lv_has ls 34 [(0, .ref b), (1, .ref v1), (2, .ref v2), (3, .ref v3), (4, .ref v4), (5, .ref v5), (6, .ref v6), (7, .ref v7), (8, .ref v8), (9, .ref v9), (10, .ref v10), (11, .long v11), (13, .long v13), (15, .long v15), (17, .int v17), (18, .int v18), (19, .int v19), (20, .int v20), (21, .int v21), (22, .int v22)] → W p l e room_1 s m #[Value.ref b] below meth c H locs nc ns (lw_Z below #[Value.ref b] s) (F0 m 281 ls [])) (k937 : Nat → Nat → Nat → Nat → Nat → Nat → Nat → Nat → Nat → Nat → Int64 → Int64 → Int64 → Int32 → Int32 → Int32 → Int32 → Int32 → Int32 → Int32 → Int32 → Int32 → Mem → Mem → Nat → Nat → Option Int32) (hk937 : ∀ (v1 : Nat) (v2 : Nat) (v3 : Nat) (v4 : Nat) (v5 : Nat) (v6 : Nat) (v7 : Nat) (v8 : Nat) (v9 : Nat) (v10 : Nat) (v11 : Int64) (v13 : Int64) (v15 : Int64) (v17 : Int32) (v18 : Int32) (v19 : Int32) (v20 : Int32) (v21 : Int32) (v22 : Int32) (v24 : Int32) (v26 : Int32) (v27 : Int32) (M N : Mem) (nc ns : Nat) (H : Heap) (locs : List Loc) (ls : Array Slot), k937 v1 v2 v3 v4 v5 v6 v7 v8 v9 v10 v11 v13 v15 v17 v18 v19 v20 v21 v22 v24 v26 v27 M N nc ns = some (1 : Int32) → H2 D ca s M N H locs → lv_has ls 34 [(0, .ref b), (1, .ref v1), (2, .ref v2), (3, .ref v3), (4, .ref v4), (5, .ref v5), (6, .ref v6), (7, .ref v7), (8, .ref v8), (9, .ref v9), (10, .ref v10), (11, .long v11), (13, .long v13), (15, .long v15), (17, .int v17), (18, .int v18), (19, .int v19), (20, .int v20), (21, .int v21), (22, .int v22), (24, .int v24), (26, .int v26), (27, .int v27)] → W p l e room_1 s m #[Value.ref b] below meth c H locs nc ns (lw_Z below #[Value.ref b] s) (F0 m 937 ls [])) (k950 : Nat → Nat → Nat → Nat → Nat → Nat → Nat → Nat → Nat → Nat → Int64 → Int64 → Int64 → Int32 → Int32 → Int32 → Int32 → Int32 → Int32 → Int32 → Int32 → Int32 → Int32 → Mem → Mem → Nat → Nat → Option Int32) (hk950 : ∀ (v1 : Nat) (v2 : Nat) (v3 : Nat) (v4 : Nat) (v5 : Nat) (v6 : Nat) (v7 : Nat) (v8 : Nat) (v9 : Nat) (v10 : Nat) (v11 : Int64) (v13 : Int64) (v15 : Int64) (v17 : Int32) (v18 : Int32) (v19 : Int32) (v20 : Int32) (v21 : Int32) (v22 : Int32) (v24 : Int32) (v26 : Int32) (v27 : Int32) (v28 : Int32) (M N : Mem) (nc ns : Nat) (H : Heap) (locs : List Loc) (ls : Array Slot), k950 v1 v2 v3 v4 v5 v6 v7 v8 v9 v10 v11 v13 v15 v17 v18 v19 v20 v21 v22 v24 v26 v27 v28 M N nc ns = some (1 : Int32) → H2 D ca s M N H locs → lv_has ls 34 [(0, .ref b), (1, .ref v1), (2, .ref v2), (3, .ref v3), (4, .ref v4), (5, .ref v5), (6, .ref v6), (7, .ref v7), (8, .ref v8), (9, .ref v9), (10, .ref v10), (11, .long v11), (13, .long v13), (15, .long v15), (17, .int v17), (18, .int v18), (19, .int v19), (20, .int v20), (21, .int v21), (22, .int v22), (24, .int v24), (26, .int v26), (27, .int v27), (28, .int v28)] → W p l e room_1 s m #[Value.ref b] below meth c H locs nc ns (lw_Z below #[Value.ref b] s) (F0 m 950 ls [])) (v1 : Nat) (v2 : Nat) (v3 : Nat) (v4 : Nat) (v5 : Nat) (v6 : Nat) (v7 : Nat) (v8 : Nat) (v9 : Nat) (v10 : Nat) (v11 : Int64) (v13 : Int64) (v15 : Int64) (v17 : Int32) (v18 : Int32) (v19 : Int32) (v20 : Int32) (v21 : Int32) (v22 : Int32) (v24 : Int32) (v26 : Int32) (v27 : Int32) (v28 : Int32) (M N : Mem) (nc ns : Nat) (H : Heap) (locs : List Loc) (ls : Array Slot) (hf : f_L_law_b1249 L xs k281 k937 k950 v1 v2 v3 v4 v5 v6 v7 v8 v9 v10 v11 v13 v15 v17 v18 v19 v20 v21 v22 v24 v26 v27 v28 M N nc ns = some (1 : Int32)) (hR : H2 D ca s M N H locs) (hl : lv_has ls 34 [(0, .ref b), (1, .ref v1), (2, .ref v2), (3, .ref v3), (4, .ref v4), (5, .ref v5), (6, .ref v6), (7, .ref v7), (8, .ref v8), (9, .ref v9), (10, .ref v10), (11, .long v11), (13, .long v13), (15, .long v15), (17, .int v17), (18, .int v18), (19, .int v19), (20, .int v20), (21, .int v21), (22, .int v22), (24, .int v24), (26, .int v26), (27, .int v27), (28, .int v28)]) : W p l e room_1 s m #[Value.ref b] below meth c H locs nc ns (lw_Z below #[Value.ref b] s) (F0 m 1249 ls []) := by
  obtain ⟨hx, hb, hC, hlt, hXs, hbl, hret, hL⟩ := id X
  have hts : ∀ w ∈ aw, w.before #[Value.ref b] s = true := hC.2.2.2.1
  have hown := hC.2.2.2.2.1
  have hK := hC.2.2.2.2.2.2.1.1
  have hA : ∀ q : Nat, s.heap.size ≤ q → (fun q : Nat => s.heap.size ≤ q) q := fun _ h => h
  unfold f_L_law_b1249 at hf
  refine lv_aload (pc := 1249) hx hb dL_law_1249 (lv_at hl 7 rfl) ?_
  refine lv_iload (pc := 1251) hx hb dL_law_1251 (lv_at hl 23 rfl) ?_
  refine lv_iconst (pc := 1253) (v := (0 : Int32)) hx hb dL_law_1253 (by decide) ?_
  refine rq_iast (pc := 1254) hx hb hK hR dL_law_1254 hf (fun N80 H locs hf hR => ?_)
  refine lv_aload (pc := 1255) hx hb dL_law_1255 (lv_at hl 9 rfl) ?_
  refine lv_iconst (pc := 1257) (v := (1 : Int32)) hx hb dL_law_1257 (by decide) ?_
  refine lv_dup2_11 (pc := 1258) hx hb dL_law_1258 rfl rfl ?_
  refine rg_iald (pc := 1259) hx hb hK ⟨hR.2.1, hR.2.2.2⟩ dL_law_1259 hf (fun hf => ?_)
  refine lv_iconst (pc := 1260) (v := (1 : Int32)) hx hb dL_law_1260 (by decide) ?_
  refine lv_iadd (pc := 1261) hx hb dL_law_1261 ?_
  refine rq_iast (pc := 1262) hx hb hK hR dL_law_1262 hf (fun N81 H locs hf hR => ?_)
  refine lv_lload (pc := 1263) hx hb dL_law_1263 (lv_at hl 12 rfl) ?_
  refine lv_aload_n (pc := 1265) hx hb dL_law_1265 rfl (lv_at hl 2 rfl) ?_
  refine lv_aload (pc := 1266) hx hb dL_law_1266 (lv_at hl 4 rfl) ?_
  refine lv_iload (pc := 1268) hx hb dL_law_1268 (lv_at hl 22 rfl) ?_
  obtain ⟨hrm0, hf⟩ := gd_e hf
  refine rq_L (pc := 1270) hf hR hA (fun z hz => rn_S (As := [.ref v2, .ref v4, .int v27]) (rest := [.long v13]) hC ⟨hR.2.1, hR.2.2.2⟩ (c_L_moment hz _) m_549 m_550 m_0 m_551 hd_L_moment ⟨rfl, rfl, Nat.le_of_ble_eq_true rfl, Nat.le_of_ble_eq_true rfl⟩ rfl hl.1 rfl (Nat.le_of_ble_eq_true rfl) dL_law_1270 hrm0) (fun z82 H locs hf hR => ?_)
  refine lv_lsub (pc := 1273) hx hb dL_law_1273 ?_
  refine nm_l hf (fun x83 hf => ?_)
  refine lv_lstore (pc := 1274) (lv' := [(13, .long x83), (0, .ref b), (1, .ref v1), (2, .ref v2), (3, .ref v3), (4, .ref v4), (5, .ref v5), (6, .ref v6), (7, .ref v7), (8, .ref v8), (9, .ref v9), (10, .ref v10), (11, .long v11), (15, .long v15), (17, .int v17), (18, .int v18), (19, .int v19), (20, .int v20), (21, .int v21), (22, .int v22), (24, .int v24), (26, .int v26), (27, .int v27), (28, .int v28)]) hx hb dL_law_1274 hl (by decide) rfl (fun ls hl => ?_)
  refine lv_goto (pc := 1276) (tgt := 1575) hx hb dL_law_1276 (by decide) ?_
  exact b_law_1575 X k281 hk281 k937 hk937 k950 hk950 v1 v2 v3 v4 v5 v6 v7 v8 v9 v10 v11 x83 v15 v17 v18 v19 v20 v21 v22 v24 v26 v27 v28 M z82.1 nc ns _ _ _ hf hR (lv_sub hl [1, 2, 3, 4, 5, 6, 7, 8, 9, 10, 11, 12, 0, 13, 14, 15, 16, 17, 18, 19, 20, 21, 22, 23] rfl)
set_option maxHeartbeats 8000000 in
set_option maxRecDepth 100000 in
theorem b_law_1135 (X : LX p l s m meth c D ca b L xs) (k281 : Nat → Nat → Nat → Nat → Nat → Nat → Nat → Nat → Nat → Nat → Int64 → Int64 → Int64 → Int32 → Int32 → Int32 → Int32 → Int32 → Int32 → Mem → Mem → Nat → Nat → Option Int32) (hk281 : ∀ (v1 : Nat) (v2 : Nat) (v3 : Nat) (v4 : Nat) (v5 : Nat) (v6 : Nat) (v7 : Nat) (v8 : Nat) (v9 : Nat) (v10 : Nat) (v11 : Int64) (v13 : Int64) (v15 : Int64) (v17 : Int32) (v18 : Int32) (v19 : Int32) (v20 : Int32) (v21 : Int32) (v22 : Int32) (M N : Mem) (nc ns : Nat) (H : Heap) (locs : List Loc) (ls : Array Slot), k281 v1 v2 v3 v4 v5 v6 v7 v8 v9 v10 v11 v13 v15 v17 v18 v19 v20 v21 v22 M N nc ns = some (1 : Int32) → H2 D ca s M N H locs → lv_has ls 34 [(0, .ref b), (1, .ref v1), (2, .ref v2), (3, .ref v3), (4, .ref v4), (5, .ref v5), (6, .ref v6), (7, .ref v7), (8, .ref v8), (9, .ref v9), (10, .ref v10), (11, .long v11), (13, .long v13), (15, .long v15), (17, .int v17), (18, .int v18), (19, .int v19), (20, .int v20), (21, .int v21), (22, .int v22)] → W p l e room_1 s m #[Value.ref b] below meth c H locs nc ns (lw_Z below #[Value.ref b] s) (F0 m 281 ls [])) (k937 : Nat → Nat → Nat → Nat → Nat → Nat → Nat → Nat → Nat → Nat → Int64 → Int64 → Int64 → Int32 → Int32 → Int32 → Int32 → Int32 → Int32 → Int32 → Int32 → Int32 → Mem → Mem → Nat → Nat → Option Int32) (hk937 : ∀ (v1 : Nat) (v2 : Nat) (v3 : Nat) (v4 : Nat) (v5 : Nat) (v6 : Nat) (v7 : Nat) (v8 : Nat) (v9 : Nat) (v10 : Nat) (v11 : Int64) (v13 : Int64) (v15 : Int64) (v17 : Int32) (v18 : Int32) (v19 : Int32) (v20 : Int32) (v21 : Int32) (v22 : Int32) (v24 : Int32) (v26 : Int32) (v27 : Int32) (M N : Mem) (nc ns : Nat) (H : Heap) (locs : List Loc) (ls : Array Slot), k937 v1 v2 v3 v4 v5 v6 v7 v8 v9 v10 v11 v13 v15 v17 v18 v19 v20 v21 v22 v24 v26 v27 M N nc ns = some (1 : Int32) → H2 D ca s M N H locs → lv_has ls 34 [(0, .ref b), (1, .ref v1), (2, .ref v2), (3, .ref v3), (4, .ref v4), (5, .ref v5), (6, .ref v6), (7, .ref v7), (8, .ref v8), (9, .ref v9), (10, .ref v10), (11, .long v11), (13, .long v13), (15, .long v15), (17, .int v17), (18, .int v18), (19, .int v19), (20, .int v20), (21, .int v21), (22, .int v22), (24, .int v24), (26, .int v26), (27, .int v27)] → W p l e room_1 s m #[Value.ref b] below meth c H locs nc ns (lw_Z below #[Value.ref b] s) (F0 m 937 ls [])) (k950 : Nat → Nat → Nat → Nat → Nat → Nat → Nat → Nat → Nat → Nat → Int64 → Int64 → Int64 → Int32 → Int32 → Int32 → Int32 → Int32 → Int32 → Int32 → Int32 → Int32 → Int32 → Mem → Mem → Nat → Nat → Option Int32) (hk950 : ∀ (v1 : Nat) (v2 : Nat) (v3 : Nat) (v4 : Nat) (v5 : Nat) (v6 : Nat) (v7 : Nat) (v8 : Nat) (v9 : Nat) (v10 : Nat) (v11 : Int64) (v13 : Int64) (v15 : Int64) (v17 : Int32) (v18 : Int32) (v19 : Int32) (v20 : Int32) (v21 : Int32) (v22 : Int32) (v24 : Int32) (v26 : Int32) (v27 : Int32) (v28 : Int32) (M N : Mem) (nc ns : Nat) (H : Heap) (locs : List Loc) (ls : Array Slot), k950 v1 v2 v3 v4 v5 v6 v7 v8 v9 v10 v11 v13 v15 v17 v18 v19 v20 v21 v22 v24 v26 v27 v28 M N nc ns = some (1 : Int32) → H2 D ca s M N H locs → lv_has ls 34 [(0, .ref b), (1, .ref v1), (2, .ref v2), (3, .ref v3), (4, .ref v4), (5, .ref v5), (6, .ref v6), (7, .ref v7), (8, .ref v8), (9, .ref v9), (10, .ref v10), (11, .long v11), (13, .long v13), (15, .long v15), (17, .int v17), (18, .int v18), (19, .int v19), (20, .int v20), (21, .int v21), (22, .int v22), (24, .int v24), (26, .int v26), (27, .int v27), (28, .int v28)] → W p l e room_1 s m #[Value.ref b] below meth c H locs nc ns (lw_Z below #[Value.ref b] s) (F0 m 950 ls [])) (s0 : Int32) (v1 : Nat) (v2 : Nat) (v3 : Nat) (v4 : Nat) (v5 : Nat) (v6 : Nat) (v7 : Nat) (v8 : Nat) (v9 : Nat) (v10 : Nat) (v11 : Int64) (v13 : Int64) (v15 : Int64) (v17 : Int32) (v18 : Int32) (v19 : Int32) (v20 : Int32) (v21 : Int32) (v22 : Int32) (v24 : Int32) (v26 : Int32) (v27 : Int32) (v28 : Int32) (v29 : Int32) (v31 : Int32) (M N : Mem) (nc ns : Nat) (H : Heap) (locs : List Loc) (ls : Array Slot) (hf : f_L_law_b1135 L xs k281 k937 k950 s0 v1 v2 v3 v4 v5 v6 v7 v8 v9 v10 v11 v13 v15 v17 v18 v19 v20 v21 v22 v24 v26 v27 v28 v29 v31 M N nc ns = some (1 : Int32)) (hR : H2 D ca s M N H locs) (hl : lv_has ls 34 [(0, .ref b), (1, .ref v1), (2, .ref v2), (3, .ref v3), (4, .ref v4), (5, .ref v5), (6, .ref v6), (7, .ref v7), (8, .ref v8), (9, .ref v9), (10, .ref v10), (11, .long v11), (13, .long v13), (15, .long v15), (17, .int v17), (18, .int v18), (19, .int v19), (20, .int v20), (21, .int v21), (22, .int v22), (24, .int v24), (26, .int v26), (27, .int v27), (28, .int v28), (29, .int v29), (31, .int v31)]) : W p l e room_1 s m #[Value.ref b] below meth c H locs nc ns (lw_Z below #[Value.ref b] s) (F0 m 1135 ls [.int s0]) := by
  obtain ⟨hx, hb, hC, hlt, hXs, hbl, hret, hL⟩ := id X
  have hts : ∀ w ∈ aw, w.before #[Value.ref b] s = true := hC.2.2.2.1
  have hown := hC.2.2.2.2.1
  have hK := hC.2.2.2.2.2.2.1.1
  have hA : ∀ q : Nat, s.heap.size ≤ q → (fun q : Nat => s.heap.size ≤ q) q := fun _ h => h
  unfold f_L_law_b1135 at hf
  refine lv_istore (pc := 1135) (lv' := [(32, .int s0), (0, .ref b), (1, .ref v1), (2, .ref v2), (3, .ref v3), (4, .ref v4), (5, .ref v5), (6, .ref v6), (7, .ref v7), (8, .ref v8), (9, .ref v9), (10, .ref v10), (11, .long v11), (13, .long v13), (15, .long v15), (17, .int v17), (18, .int v18), (19, .int v19), (20, .int v20), (21, .int v21), (22, .int v22), (24, .int v24), (26, .int v26), (27, .int v27), (28, .int v28), (29, .int v29), (31, .int v31)]) hx hb dL_law_1135 hl (by decide) rfl (fun ls hl => ?_)
  refine lv_iload (pc := 1137) hx hb dL_law_1137 (lv_at hl 26 rfl) ?_
  refine lv_aload (pc := 1139) hx hb dL_law_1139 (lv_at hl 10 rfl) ?_
  refine lv_bipush (pc := 1141) (v := (7 : Int32)) hx hb dL_law_1141 (by decide) ?_
  refine rg_iald (pc := 1143) hx hb hK ⟨hR.2.1, hR.2.2.2⟩ dL_law_1143 hf (fun hf => ?_)
  refine lv_icmp_gt (pc := 1144) (tgt := 1279) hx hb dL_law_1144 (by decide) (fun hc => ?_) (fun hc => ?_)
  · replace hf := it_t hf hc
    refine lv_iload (pc := 1279) hx hb dL_law_1279 (lv_at hl 26 rfl) ?_
    refine lv_aload (pc := 1281) hx hb dL_law_1281 (lv_at hl 10 rfl) ?_
    refine lv_bipush (pc := 1283) (v := (8 : Int32)) hx hb dL_law_1283 (by decide) ?_
    refine rg_iald (pc := 1285) hx hb hK ⟨hR.2.1, hR.2.2.2⟩ dL_law_1285 hf (fun hf => ?_)
    refine lv_icmp_le (pc := 1286) (tgt := 1449) hx hb dL_law_1286 (by decide) (fun hc => ?_) (fun hc => ?_)
    · replace hf := it_t hf hc
      exact b_law_1449 X k281 hk281 k937 hk937 k950 hk950 v1 v2 v3 v4 v5 v6 v7 v8 v9 v10 v11 v13 v15 v17 v18 v19 v20 v21 v22 v24 v26 v27 v28 v29 M N nc ns _ _ _ hf hR (lv_sub hl [1, 2, 3, 4, 5, 6, 7, 8, 9, 10, 11, 12, 13, 14, 15, 16, 17, 18, 19, 20, 21, 22, 23, 24, 25] rfl)
    · replace hf := it_f hf hc
      refine lv_aload (pc := 1289) hx hb dL_law_1289 (lv_at hl 5 rfl) ?_
      refine lv_iload (pc := 1291) hx hb dL_law_1291 (lv_at hl 0 rfl) ?_
      refine rg_iald (pc := 1293) hx hb hK ⟨hR.2.1, hR.2.2.2⟩ dL_law_1293 hf (fun hf => ?_)
      refine lv_iconst (pc := 1294) (v := (1 : Int32)) hx hb dL_law_1294 (by decide) ?_
      refine lv_icmp_le (pc := 1295) (tgt := 1449) hx hb dL_law_1295 (by decide) (fun hc => ?_) (fun hc => ?_)
      · replace hf := it_t hf hc
        exact b_law_1449 X k281 hk281 k937 hk937 k950 hk950 v1 v2 v3 v4 v5 v6 v7 v8 v9 v10 v11 v13 v15 v17 v18 v19 v20 v21 v22 v24 v26 v27 v28 v29 M N nc ns _ _ _ hf hR (lv_sub hl [1, 2, 3, 4, 5, 6, 7, 8, 9, 10, 11, 12, 13, 14, 15, 16, 17, 18, 19, 20, 21, 22, 23, 24, 25] rfl)
      · replace hf := it_f hf hc
        refine lv_aload_n (pc := 1298) hx hb dL_law_1298 rfl (lv_at hl 3 rfl) ?_
        refine lv_iload (pc := 1299) hx hb dL_law_1299 (lv_at hl 15 rfl) ?_
        refine lv_aload_n (pc := 1301) hx hb dL_law_1301 rfl (lv_at hl 3 rfl) ?_
        refine lv_iload (pc := 1302) hx hb dL_law_1302 (lv_at hl 0 rfl) ?_
        refine rg_iald (pc := 1304) hx hb hK ⟨hR.2.1, hR.2.2.2⟩ dL_law_1304 hf (fun hf => ?_)
        refine rq_iast (pc := 1305) hx hb hK hR dL_law_1305 hf (fun N84 H locs hf hR => ?_)
        refine lv_aload_n (pc := 1306) hx hb dL_law_1306 rfl (lv_at hl 4 rfl) ?_
        refine lv_iload (pc := 1307) hx hb dL_law_1307 (lv_at hl 15 rfl) ?_
        refine lv_aload_n (pc := 1309) hx hb dL_law_1309 rfl (lv_at hl 4 rfl) ?_
        refine lv_iload (pc := 1310) hx hb dL_law_1310 (lv_at hl 0 rfl) ?_
        refine rg_iald (pc := 1312) hx hb hK ⟨hR.2.1, hR.2.2.2⟩ dL_law_1312 hf (fun hf => ?_)
        refine rq_iast (pc := 1313) hx hb hK hR dL_law_1313 hf (fun N85 H locs hf hR => ?_)
        refine lv_aload (pc := 1314) hx hb dL_law_1314 (lv_at hl 5 rfl) ?_
        refine lv_iload (pc := 1316) hx hb dL_law_1316 (lv_at hl 15 rfl) ?_
        refine lv_aload (pc := 1318) hx hb dL_law_1318 (lv_at hl 5 rfl) ?_
        refine lv_iload (pc := 1320) hx hb dL_law_1320 (lv_at hl 0 rfl) ?_
        refine rg_iald (pc := 1322) hx hb hK ⟨hR.2.1, hR.2.2.2⟩ dL_law_1322 hf (fun hf => ?_)
        refine lv_aload (pc := 1323) hx hb dL_law_1323 (lv_at hl 5 rfl) ?_
        refine lv_iload (pc := 1325) hx hb dL_law_1325 (lv_at hl 0 rfl) ?_
        refine rg_iald (pc := 1327) hx hb hK ⟨hR.2.1, hR.2.2.2⟩ dL_law_1327 hf (fun hf => ?_)
        refine lv_iconst (pc := 1328) (v := (2 : Int32)) hx hb dL_law_1328 (by decide) ?_
        refine lv_idiv (pc := 1329) hx hb dL_law_1329 (by decide) ?_
        refine lv_isub (pc := 1330) hx hb dL_law_1330 ?_
        refine rq_iast (pc := 1331) hx hb hK hR dL_law_1331 hf (fun N86 H locs hf hR => ?_)
        refine lv_aload (pc := 1332) hx hb dL_law_1332 (lv_at hl 5 rfl) ?_
        refine lv_iload (pc := 1334) hx hb dL_law_1334 (lv_at hl 0 rfl) ?_
        refine lv_aload (pc := 1336) hx hb dL_law_1336 (lv_at hl 5 rfl) ?_
        refine lv_iload (pc := 1338) hx hb dL_law_1338 (lv_at hl 0 rfl) ?_
        refine rg_iald (pc := 1340) hx hb hK ⟨hR.2.1, hR.2.2.2⟩ dL_law_1340 hf (fun hf => ?_)
        refine lv_iconst (pc := 1341) (v := (2 : Int32)) hx hb dL_law_1341 (by decide) ?_
        refine lv_idiv (pc := 1342) hx hb dL_law_1342 (by decide) ?_
        refine rq_iast (pc := 1343) hx hb hK hR dL_law_1343 hf (fun N87 H locs hf hR => ?_)
        refine lv_aload (pc := 1344) hx hb dL_law_1344 (lv_at hl 6 rfl) ?_
        refine lv_iload (pc := 1346) hx hb dL_law_1346 (lv_at hl 15 rfl) ?_
        refine lv_iconst (pc := 1348) (v := (0 : Int32)) hx hb dL_law_1348 (by decide) ?_
        refine rq_iast (pc := 1349) hx hb hK hR dL_law_1349 hf (fun N88 H locs hf hR => ?_)
        refine lv_aload (pc := 1350) hx hb dL_law_1350 (lv_at hl 6 rfl) ?_
        refine lv_iload (pc := 1352) hx hb dL_law_1352 (lv_at hl 0 rfl) ?_
        refine lv_iconst (pc := 1354) (v := (0 : Int32)) hx hb dL_law_1354 (by decide) ?_
        refine rq_iast (pc := 1355) hx hb hK hR dL_law_1355 hf (fun N89 H locs hf hR => ?_)
        refine lv_aload (pc := 1356) hx hb dL_law_1356 (lv_at hl 7 rfl) ?_
        refine lv_iload (pc := 1358) hx hb dL_law_1358 (lv_at hl 15 rfl) ?_
        refine lv_aload (pc := 1360) hx hb dL_law_1360 (lv_at hl 7 rfl) ?_
        refine lv_iload (pc := 1362) hx hb dL_law_1362 (lv_at hl 0 rfl) ?_
        refine rg_iald (pc := 1364) hx hb hK ⟨hR.2.1, hR.2.2.2⟩ dL_law_1364 hf (fun hf => ?_)
        refine rq_iast (pc := 1365) hx hb hK hR dL_law_1365 hf (fun N90 H locs hf hR => ?_)
        refine lv_aload (pc := 1366) hx hb dL_law_1366 (lv_at hl 8 rfl) ?_
        refine lv_iload (pc := 1368) hx hb dL_law_1368 (lv_at hl 15 rfl) ?_
        refine lv_iconst (pc := 1370) (v := (1 : Int32)) hx hb dL_law_1370 (by decide) ?_
        refine rq_iast (pc := 1371) hx hb hK hR dL_law_1371 hf (fun N91 H locs hf hR => ?_)
        refine lv_lload (pc := 1372) hx hb dL_law_1372 (lv_at hl 13 rfl) ?_
        refine lv_aload_n (pc := 1374) hx hb dL_law_1374 rfl (lv_at hl 3 rfl) ?_
        refine lv_aload (pc := 1375) hx hb dL_law_1375 (lv_at hl 5 rfl) ?_
        refine lv_aload (pc := 1377) hx hb dL_law_1377 (lv_at hl 8 rfl) ?_
        refine lv_aload (pc := 1379) hx hb dL_law_1379 (lv_at hl 10 rfl) ?_
        refine lv_iload (pc := 1381) hx hb dL_law_1381 (lv_at hl 0 rfl) ?_
        refine lv_aload_n (pc := 1383) hx hb dL_law_1383 rfl (lv_at hl 3 rfl) ?_
        refine lv_iload (pc := 1384) hx hb dL_law_1384 (lv_at hl 0 rfl) ?_
        refine rg_iald (pc := 1386) hx hb hK ⟨hR.2.1, hR.2.2.2⟩ dL_law_1386 hf (fun hf => ?_)
        refine lv_iconst (pc := 1387) (v := (1 : Int32)) hx hb dL_law_1387 (by decide) ?_
        refine lv_isub (pc := 1388) hx hb dL_law_1388 ?_
        obtain ⟨hrm0, hf⟩ := gd_e hf
        refine rq_L (pc := 1389) hf hR hA (fun z hz => rn_S (As := [.ref v2, .ref v4, .ref v7, .ref v9, .int s0, .int ((mm_i N91 v2 (s0).toNatClampNeg) - (1 : Int32))]) (rest := [.long v13]) hC ⟨hR.2.1, hR.2.2.2⟩ (c_L_comes hz _) m_546 m_547 m_0 m_548 hd_L_comes ⟨rfl, rfl, Nat.le_of_ble_eq_true rfl, Nat.le_of_ble_eq_true rfl⟩ rfl hl.1 rfl (Nat.le_of_ble_eq_true rfl) dL_law_1389 hrm0) (fun z92 H locs hf hR => ?_)
        refine lv_aload_n (pc := 1392) hx hb dL_law_1392 rfl (lv_at hl 3 rfl) ?_
        refine lv_aload (pc := 1393) hx hb dL_law_1393 (lv_at hl 5 rfl) ?_
        refine lv_aload (pc := 1395) hx hb dL_law_1395 (lv_at hl 8 rfl) ?_
        refine lv_aload (pc := 1397) hx hb dL_law_1397 (lv_at hl 10 rfl) ?_
        refine lv_iload (pc := 1399) hx hb dL_law_1399 (lv_at hl 15 rfl) ?_
        refine lv_aload_n (pc := 1401) hx hb dL_law_1401 rfl (lv_at hl 3 rfl) ?_
        refine lv_iload (pc := 1402) hx hb dL_law_1402 (lv_at hl 15 rfl) ?_
        refine rg_iald (pc := 1404) hx hb hK ⟨hR.2.1, hR.2.2.2⟩ dL_law_1404 hf (fun hf => ?_)
        refine lv_iconst (pc := 1405) (v := (1 : Int32)) hx hb dL_law_1405 (by decide) ?_
        refine lv_iadd (pc := 1406) hx hb dL_law_1406 ?_
        obtain ⟨hrm0, hf⟩ := gd_e hf
        refine rq_L (pc := 1407) hf hR hA (fun z hz => rn_S (As := [.ref v2, .ref v4, .ref v7, .ref v9, .int v17, .int ((mm_i z92.1 v2 (v17).toNatClampNeg) + (1 : Int32))]) (rest := [.long z92.2, .long v13]) hC ⟨hR.2.1, hR.2.2.2⟩ (c_L_comes hz _) m_546 m_547 m_0 m_548 hd_L_comes ⟨rfl, rfl, Nat.le_of_ble_eq_true rfl, Nat.le_of_ble_eq_true rfl⟩ rfl hl.1 rfl (Nat.le_of_ble_eq_true rfl) dL_law_1407 hrm0) (fun z93 H locs hf hR => ?_)
        refine lv_ladd (pc := 1410) hx hb dL_law_1410 ?_
        refine lv_aload_n (pc := 1411) hx hb dL_law_1411 rfl (lv_at hl 3 rfl) ?_
        refine lv_aload (pc := 1412) hx hb dL_law_1412 (lv_at hl 5 rfl) ?_
        refine lv_iload (pc := 1414) hx hb dL_law_1414 (lv_at hl 0 rfl) ?_
        refine lv_iload (pc := 1416) hx hb dL_law_1416 (lv_at hl 23 rfl) ?_
        refine lv_icmp_ne (pc := 1418) (tgt := 1426) hx hb dL_law_1418 (by decide) (fun hc => ?_) (fun hc => ?_)
        · replace hf := it_f hf hc
          refine lv_iload (pc := 1426) hx hb dL_law_1426 (lv_at hl 23 rfl) ?_
          exact b_law_1428 X k281 hk281 k937 hk937 k950 hk950 v27 v4 v2 (z92.2 + z93.2) v13 v1 v2 v3 v4 v5 v6 v7 v8 v9 v10 v11 v15 v17 v18 v19 v20 v21 v22 v24 v26 v27 v28 M z93.1 nc ns _ _ _ hf hR (lv_sub hl [1, 2, 3, 4, 5, 6, 7, 8, 9, 10, 11, 12, 14, 15, 16, 17, 18, 19, 20, 21, 22, 23, 24] rfl)
        · replace hf := it_t hf hc
          refine lv_iload (pc := 1421) hx hb dL_law_1421 (lv_at hl 24 rfl) ?_
          refine lv_goto (pc := 1423) (tgt := 1428) hx hb dL_law_1423 (by decide) ?_
          exact b_law_1428 X k281 hk281 k937 hk937 k950 hk950 v28 v4 v2 (z92.2 + z93.2) v13 v1 v2 v3 v4 v5 v6 v7 v8 v9 v10 v11 v15 v17 v18 v19 v20 v21 v22 v24 v26 v27 v28 M z93.1 nc ns _ _ _ hf hR (lv_sub hl [1, 2, 3, 4, 5, 6, 7, 8, 9, 10, 11, 12, 14, 15, 16, 17, 18, 19, 20, 21, 22, 23, 24] rfl)
  · replace hf := it_f hf hc
    refine lv_aload (pc := 1147) hx hb dL_law_1147 (lv_at hl 5 rfl) ?_
    refine lv_iload (pc := 1149) hx hb dL_law_1149 (lv_at hl 23 rfl) ?_
    refine rg_iald (pc := 1151) hx hb hK ⟨hR.2.1, hR.2.2.2⟩ dL_law_1151 hf (fun hf => ?_)
    refine lv_aload (pc := 1152) hx hb dL_law_1152 (lv_at hl 5 rfl) ?_
    refine lv_iload (pc := 1154) hx hb dL_law_1154 (lv_at hl 24 rfl) ?_
    refine rg_iald (pc := 1156) hx hb hK ⟨hR.2.1, hR.2.2.2⟩ dL_law_1156 hf (fun hf => ?_)
    refine lv_iadd (pc := 1157) hx hb dL_law_1157 ?_
    refine nm_i hf (fun x94 hf => ?_)
    refine lv_istore (pc := 1158) (lv' := [(33, .int x94), (32, .int s0), (0, .ref b), (1, .ref v1), (2, .ref v2), (3, .ref v3), (4, .ref v4), (5, .ref v5), (6, .ref v6), (7, .ref v7), (8, .ref v8), (9, .ref v9), (10, .ref v10), (11, .long v11), (13, .long v13), (15, .long v15), (17, .int v17), (18, .int v18), (19, .int v19), (20, .int v20), (21, .int v21), (22, .int v22), (24, .int v24), (26, .int v26), (27, .int v27), (28, .int v28), (29, .int v29), (31, .int v31)]) hx hb dL_law_1158 hl (by decide) rfl (fun ls hl => ?_)
    refine lv_aload_n (pc := 1160) hx hb dL_law_1160 rfl (lv_at hl 4 rfl) ?_
    refine lv_iload (pc := 1161) hx hb dL_law_1161 (lv_at hl 24 rfl) ?_
    refine lv_aload (pc := 1163) hx hb dL_law_1163 (lv_at hl 6 rfl) ?_
    refine lv_iload (pc := 1165) hx hb dL_law_1165 (lv_at hl 24 rfl) ?_
    refine rg_iald (pc := 1167) hx hb hK ⟨hR.2.1, hR.2.2.2⟩ dL_law_1167 hf (fun hf => ?_)
    refine lv_aload_n (pc := 1168) hx hb dL_law_1168 rfl (lv_at hl 4 rfl) ?_
    refine lv_iload (pc := 1169) hx hb dL_law_1169 (lv_at hl 24 rfl) ?_
    refine rg_iald (pc := 1171) hx hb hK ⟨hR.2.1, hR.2.2.2⟩ dL_law_1171 hf (fun hf => ?_)
    refine lv_imul (pc := 1172) hx hb dL_law_1172 ?_
    refine lv_aload (pc := 1173) hx hb dL_law_1173 (lv_at hl 6 rfl) ?_
    refine lv_iload (pc := 1175) hx hb dL_law_1175 (lv_at hl 25 rfl) ?_
    refine rg_iald (pc := 1177) hx hb hK ⟨hR.2.1, hR.2.2.2⟩ dL_law_1177 hf (fun hf => ?_)
    refine lv_aload_n (pc := 1178) hx hb dL_law_1178 rfl (lv_at hl 4 rfl) ?_
    refine lv_iload (pc := 1179) hx hb dL_law_1179 (lv_at hl 25 rfl) ?_
    refine rg_iald (pc := 1181) hx hb hK ⟨hR.2.1, hR.2.2.2⟩ dL_law_1181 hf (fun hf => ?_)
    refine lv_imul (pc := 1182) hx hb dL_law_1182 ?_
    refine lv_iadd (pc := 1183) hx hb dL_law_1183 ?_
    refine lv_iload (pc := 1184) hx hb dL_law_1184 (lv_at hl 0 rfl) ?_
    obtain ⟨hz, hf⟩ := gd_e hf
    refine lv_idiv (pc := 1186) hx hb dL_law_1186 hz ?_
    refine rq_iast (pc := 1187) hx hb hK hR dL_law_1187 hf (fun N95 H locs hf hR => ?_)
    refine lv_aload (pc := 1188) hx hb dL_law_1188 (lv_at hl 8 rfl) ?_
    refine lv_iload (pc := 1190) hx hb dL_law_1190 (lv_at hl 24 rfl) ?_
    refine lv_aload (pc := 1192) hx hb dL_law_1192 (lv_at hl 6 rfl) ?_
    refine lv_iload (pc := 1194) hx hb dL_law_1194 (lv_at hl 24 rfl) ?_
    refine rg_iald (pc := 1196) hx hb hK ⟨hR.2.1, hR.2.2.2⟩ dL_law_1196 hf (fun hf => ?_)
    refine lv_aload (pc := 1197) hx hb dL_law_1197 (lv_at hl 8 rfl) ?_
    refine lv_iload (pc := 1199) hx hb dL_law_1199 (lv_at hl 24 rfl) ?_
    refine rg_iald (pc := 1201) hx hb hK ⟨hR.2.1, hR.2.2.2⟩ dL_law_1201 hf (fun hf => ?_)
    refine lv_imul (pc := 1202) hx hb dL_law_1202 ?_
    refine lv_aload (pc := 1203) hx hb dL_law_1203 (lv_at hl 6 rfl) ?_
    refine lv_iload (pc := 1205) hx hb dL_law_1205 (lv_at hl 25 rfl) ?_
    refine rg_iald (pc := 1207) hx hb hK ⟨hR.2.1, hR.2.2.2⟩ dL_law_1207 hf (fun hf => ?_)
    refine lv_aload (pc := 1208) hx hb dL_law_1208 (lv_at hl 8 rfl) ?_
    refine lv_iload (pc := 1210) hx hb dL_law_1210 (lv_at hl 25 rfl) ?_
    refine rg_iald (pc := 1212) hx hb hK ⟨hR.2.1, hR.2.2.2⟩ dL_law_1212 hf (fun hf => ?_)
    refine lv_imul (pc := 1213) hx hb dL_law_1213 ?_
    refine lv_iadd (pc := 1214) hx hb dL_law_1214 ?_
    refine lv_iload (pc := 1215) hx hb dL_law_1215 (lv_at hl 0 rfl) ?_
    obtain ⟨hz, hf⟩ := gd_e hf
    refine lv_idiv (pc := 1217) hx hb dL_law_1217 hz ?_
    refine rq_iast (pc := 1218) hx hb hK hR dL_law_1218 hf (fun N96 H locs hf hR => ?_)
    refine lv_aload (pc := 1219) hx hb dL_law_1219 (lv_at hl 6 rfl) ?_
    refine lv_iload (pc := 1221) hx hb dL_law_1221 (lv_at hl 24 rfl) ?_
    refine lv_iload (pc := 1223) hx hb dL_law_1223 (lv_at hl 0 rfl) ?_
    refine rq_iast (pc := 1225) hx hb hK hR dL_law_1225 hf (fun N97 H locs hf hR => ?_)
    refine lv_aload (pc := 1226) hx hb dL_law_1226 (lv_at hl 7 rfl) ?_
    refine lv_iload (pc := 1228) hx hb dL_law_1228 (lv_at hl 25 rfl) ?_
    refine rg_iald (pc := 1230) hx hb hK ⟨hR.2.1, hR.2.2.2⟩ dL_law_1230 hf (fun hf => ?_)
    refine lv_aload (pc := 1231) hx hb dL_law_1231 (lv_at hl 7 rfl) ?_
    refine lv_iload (pc := 1233) hx hb dL_law_1233 (lv_at hl 24 rfl) ?_
    refine rg_iald (pc := 1235) hx hb hK ⟨hR.2.1, hR.2.2.2⟩ dL_law_1235 hf (fun hf => ?_)
    refine lv_icmp_ge (pc := 1236) (tgt := 1249) hx hb dL_law_1236 (by decide) (fun hc => ?_) (fun hc => ?_)
    · replace hf := it_t hf hc
      exact b_law_1249 X k281 hk281 k937 hk937 k950 hk950 v1 v2 v3 v4 v5 v6 v7 v8 v9 v10 v11 v13 v15 v17 v18 v19 v20 v21 v22 v24 v26 v27 v28 M N97 nc ns _ _ _ hf hR (lv_sub hl [2, 3, 4, 5, 6, 7, 8, 9, 10, 11, 12, 13, 14, 15, 16, 17, 18, 19, 20, 21, 22, 23, 24, 25] rfl)
    · replace hf := it_f hf hc
      refine lv_aload (pc := 1239) hx hb dL_law_1239 (lv_at hl 7 rfl) ?_
      refine lv_iload (pc := 1241) hx hb dL_law_1241 (lv_at hl 24 rfl) ?_
      refine lv_aload (pc := 1243) hx hb dL_law_1243 (lv_at hl 7 rfl) ?_
      refine lv_iload (pc := 1245) hx hb dL_law_1245 (lv_at hl 25 rfl) ?_
      refine rg_iald (pc := 1247) hx hb hK ⟨hR.2.1, hR.2.2.2⟩ dL_law_1247 hf (fun hf => ?_)
      refine rq_iast (pc := 1248) hx hb hK hR dL_law_1248 hf (fun N98 H locs hf hR => ?_)
      exact b_law_1249 X k281 hk281 k937 hk937 k950 hk950 v1 v2 v3 v4 v5 v6 v7 v8 v9 v10 v11 v13 v15 v17 v18 v19 v20 v21 v22 v24 v26 v27 v28 M N98 nc ns _ _ _ hf hR (lv_sub hl [2, 3, 4, 5, 6, 7, 8, 9, 10, 11, 12, 13, 14, 15, 16, 17, 18, 19, 20, 21, 22, 23, 24, 25] rfl)
set_option maxHeartbeats 8000000 in
set_option maxRecDepth 100000 in
theorem b_law_1090 (X : LX p l s m meth c D ca b L xs) (k281 : Nat → Nat → Nat → Nat → Nat → Nat → Nat → Nat → Nat → Nat → Int64 → Int64 → Int64 → Int32 → Int32 → Int32 → Int32 → Int32 → Int32 → Mem → Mem → Nat → Nat → Option Int32) (hk281 : ∀ (v1 : Nat) (v2 : Nat) (v3 : Nat) (v4 : Nat) (v5 : Nat) (v6 : Nat) (v7 : Nat) (v8 : Nat) (v9 : Nat) (v10 : Nat) (v11 : Int64) (v13 : Int64) (v15 : Int64) (v17 : Int32) (v18 : Int32) (v19 : Int32) (v20 : Int32) (v21 : Int32) (v22 : Int32) (M N : Mem) (nc ns : Nat) (H : Heap) (locs : List Loc) (ls : Array Slot), k281 v1 v2 v3 v4 v5 v6 v7 v8 v9 v10 v11 v13 v15 v17 v18 v19 v20 v21 v22 M N nc ns = some (1 : Int32) → H2 D ca s M N H locs → lv_has ls 34 [(0, .ref b), (1, .ref v1), (2, .ref v2), (3, .ref v3), (4, .ref v4), (5, .ref v5), (6, .ref v6), (7, .ref v7), (8, .ref v8), (9, .ref v9), (10, .ref v10), (11, .long v11), (13, .long v13), (15, .long v15), (17, .int v17), (18, .int v18), (19, .int v19), (20, .int v20), (21, .int v21), (22, .int v22)] → W p l e room_1 s m #[Value.ref b] below meth c H locs nc ns (lw_Z below #[Value.ref b] s) (F0 m 281 ls [])) (k937 : Nat → Nat → Nat → Nat → Nat → Nat → Nat → Nat → Nat → Nat → Int64 → Int64 → Int64 → Int32 → Int32 → Int32 → Int32 → Int32 → Int32 → Int32 → Int32 → Int32 → Mem → Mem → Nat → Nat → Option Int32) (hk937 : ∀ (v1 : Nat) (v2 : Nat) (v3 : Nat) (v4 : Nat) (v5 : Nat) (v6 : Nat) (v7 : Nat) (v8 : Nat) (v9 : Nat) (v10 : Nat) (v11 : Int64) (v13 : Int64) (v15 : Int64) (v17 : Int32) (v18 : Int32) (v19 : Int32) (v20 : Int32) (v21 : Int32) (v22 : Int32) (v24 : Int32) (v26 : Int32) (v27 : Int32) (M N : Mem) (nc ns : Nat) (H : Heap) (locs : List Loc) (ls : Array Slot), k937 v1 v2 v3 v4 v5 v6 v7 v8 v9 v10 v11 v13 v15 v17 v18 v19 v20 v21 v22 v24 v26 v27 M N nc ns = some (1 : Int32) → H2 D ca s M N H locs → lv_has ls 34 [(0, .ref b), (1, .ref v1), (2, .ref v2), (3, .ref v3), (4, .ref v4), (5, .ref v5), (6, .ref v6), (7, .ref v7), (8, .ref v8), (9, .ref v9), (10, .ref v10), (11, .long v11), (13, .long v13), (15, .long v15), (17, .int v17), (18, .int v18), (19, .int v19), (20, .int v20), (21, .int v21), (22, .int v22), (24, .int v24), (26, .int v26), (27, .int v27)] → W p l e room_1 s m #[Value.ref b] below meth c H locs nc ns (lw_Z below #[Value.ref b] s) (F0 m 937 ls [])) (k950 : Nat → Nat → Nat → Nat → Nat → Nat → Nat → Nat → Nat → Nat → Int64 → Int64 → Int64 → Int32 → Int32 → Int32 → Int32 → Int32 → Int32 → Int32 → Int32 → Int32 → Int32 → Mem → Mem → Nat → Nat → Option Int32) (hk950 : ∀ (v1 : Nat) (v2 : Nat) (v3 : Nat) (v4 : Nat) (v5 : Nat) (v6 : Nat) (v7 : Nat) (v8 : Nat) (v9 : Nat) (v10 : Nat) (v11 : Int64) (v13 : Int64) (v15 : Int64) (v17 : Int32) (v18 : Int32) (v19 : Int32) (v20 : Int32) (v21 : Int32) (v22 : Int32) (v24 : Int32) (v26 : Int32) (v27 : Int32) (v28 : Int32) (M N : Mem) (nc ns : Nat) (H : Heap) (locs : List Loc) (ls : Array Slot), k950 v1 v2 v3 v4 v5 v6 v7 v8 v9 v10 v11 v13 v15 v17 v18 v19 v20 v21 v22 v24 v26 v27 v28 M N nc ns = some (1 : Int32) → H2 D ca s M N H locs → lv_has ls 34 [(0, .ref b), (1, .ref v1), (2, .ref v2), (3, .ref v3), (4, .ref v4), (5, .ref v5), (6, .ref v6), (7, .ref v7), (8, .ref v8), (9, .ref v9), (10, .ref v10), (11, .long v11), (13, .long v13), (15, .long v15), (17, .int v17), (18, .int v18), (19, .int v19), (20, .int v20), (21, .int v21), (22, .int v22), (24, .int v24), (26, .int v26), (27, .int v27), (28, .int v28)] → W p l e room_1 s m #[Value.ref b] below meth c H locs nc ns (lw_Z below #[Value.ref b] s) (F0 m 950 ls [])) (s0 : Int32) (s1 : Int32) (v1 : Nat) (v2 : Nat) (v3 : Nat) (v4 : Nat) (v5 : Nat) (v6 : Nat) (v7 : Nat) (v8 : Nat) (v9 : Nat) (v10 : Nat) (v11 : Int64) (v13 : Int64) (v15 : Int64) (v17 : Int32) (v18 : Int32) (v19 : Int32) (v20 : Int32) (v21 : Int32) (v22 : Int32) (v24 : Int32) (v26 : Int32) (v27 : Int32) (v28 : Int32) (v29 : Int32) (M N : Mem) (nc ns : Nat) (H : Heap) (locs : List Loc) (ls : Array Slot) (hf : f_L_law_b1090 L xs k281 k937 k950 s0 s1 v1 v2 v3 v4 v5 v6 v7 v8 v9 v10 v11 v13 v15 v17 v18 v19 v20 v21 v22 v24 v26 v27 v28 v29 M N nc ns = some (1 : Int32)) (hR : H2 D ca s M N H locs) (hl : lv_has ls 34 [(0, .ref b), (1, .ref v1), (2, .ref v2), (3, .ref v3), (4, .ref v4), (5, .ref v5), (6, .ref v6), (7, .ref v7), (8, .ref v8), (9, .ref v9), (10, .ref v10), (11, .long v11), (13, .long v13), (15, .long v15), (17, .int v17), (18, .int v18), (19, .int v19), (20, .int v20), (21, .int v21), (22, .int v22), (24, .int v24), (26, .int v26), (27, .int v27), (28, .int v28), (29, .int v29)]) : W p l e room_1 s m #[Value.ref b] below meth c H locs nc ns (lw_Z below #[Value.ref b] s) (F0 m 1090 ls [.int s0, .int s1]) := by
  obtain ⟨hx, hb, hC, hlt, hXs, hbl, hret, hL⟩ := id X
  have hts : ∀ w ∈ aw, w.before #[Value.ref b] s = true := hC.2.2.2.1
  have hown := hC.2.2.2.2.1
  have hK := hC.2.2.2.2.2.2.1.1
  have hA : ∀ q : Nat, s.heap.size ≤ q → (fun q : Nat => s.heap.size ≤ q) q := fun _ h => h
  unfold f_L_law_b1090 at hf
  refine lv_iadd (pc := 1090) hx hb dL_law_1090 ?_
  refine nm_i hf (fun x99 hf => ?_)
  refine lv_istore (pc := 1091) (lv' := [(31, .int x99), (0, .ref b), (1, .ref v1), (2, .ref v2), (3, .ref v3), (4, .ref v4), (5, .ref v5), (6, .ref v6), (7, .ref v7), (8, .ref v8), (9, .ref v9), (10, .ref v10), (11, .long v11), (13, .long v13), (15, .long v15), (17, .int v17), (18, .int v18), (19, .int v19), (20, .int v20), (21, .int v21), (22, .int v22), (24, .int v24), (26, .int v26), (27, .int v27), (28, .int v28), (29, .int v29)]) hx hb dL_law_1091 hl (by decide) rfl (fun ls hl => ?_)
  refine lv_lload (pc := 1093) hx hb dL_law_1093 (lv_at hl 13 rfl) ?_
  refine lv_aload_n (pc := 1095) hx hb dL_law_1095 rfl (lv_at hl 3 rfl) ?_
  refine lv_aload (pc := 1096) hx hb dL_law_1096 (lv_at hl 5 rfl) ?_
  refine lv_iload (pc := 1098) hx hb dL_law_1098 (lv_at hl 23 rfl) ?_
  obtain ⟨hrm0, hf⟩ := gd_e hf
  refine rq_L (pc := 1100) hf hR hA (fun z hz => rn_S (As := [.ref v2, .ref v4, .int v27]) (rest := [.long v13]) hC ⟨hR.2.1, hR.2.2.2⟩ (c_L_moment hz _) m_549 m_550 m_0 m_551 hd_L_moment ⟨rfl, rfl, Nat.le_of_ble_eq_true rfl, Nat.le_of_ble_eq_true rfl⟩ rfl hl.1 rfl (Nat.le_of_ble_eq_true rfl) dL_law_1100 hrm0) (fun z100 H locs hf hR => ?_)
  refine lv_aload_n (pc := 1103) hx hb dL_law_1103 rfl (lv_at hl 3 rfl) ?_
  refine lv_aload (pc := 1104) hx hb dL_law_1104 (lv_at hl 5 rfl) ?_
  refine lv_iload (pc := 1106) hx hb dL_law_1106 (lv_at hl 24 rfl) ?_
  obtain ⟨hrm0, hf⟩ := gd_e hf
  refine rq_L (pc := 1108) hf hR hA (fun z hz => rn_S (As := [.ref v2, .ref v4, .int v28]) (rest := [.long z100.2, .long v13]) hC ⟨hR.2.1, hR.2.2.2⟩ (c_L_moment hz _) m_549 m_550 m_0 m_551 hd_L_moment ⟨rfl, rfl, Nat.le_of_ble_eq_true rfl, Nat.le_of_ble_eq_true rfl⟩ rfl hl.1 rfl (Nat.le_of_ble_eq_true rfl) dL_law_1108 hrm0) (fun z101 H locs hf hR => ?_)
  refine lv_ladd (pc := 1111) hx hb dL_law_1111 ?_
  refine lv_ladd (pc := 1112) hx hb dL_law_1112 ?_
  refine nm_l hf (fun x102 hf => ?_)
  refine lv_lstore (pc := 1113) (lv' := [(13, .long x102), (31, .int x99), (0, .ref b), (1, .ref v1), (2, .ref v2), (3, .ref v3), (4, .ref v4), (5, .ref v5), (6, .ref v6), (7, .ref v7), (8, .ref v8), (9, .ref v9), (10, .ref v10), (11, .long v11), (15, .long v15), (17, .int v17), (18, .int v18), (19, .int v19), (20, .int v20), (21, .int v21), (22, .int v22), (24, .int v24), (26, .int v26), (27, .int v27), (28, .int v28), (29, .int v29)]) hx hb dL_law_1113 hl (by decide) rfl (fun ls hl => ?_)
  refine lv_aload (pc := 1115) hx hb dL_law_1115 (lv_at hl 6 rfl) ?_
  refine lv_iload (pc := 1117) hx hb dL_law_1117 (lv_at hl 23 rfl) ?_
  refine rg_iald (pc := 1119) hx hb hK ⟨hR.2.1, hR.2.2.2⟩ dL_law_1119 hf (fun hf => ?_)
  refine lv_aload (pc := 1120) hx hb dL_law_1120 (lv_at hl 6 rfl) ?_
  refine lv_iload (pc := 1122) hx hb dL_law_1122 (lv_at hl 24 rfl) ?_
  refine rg_iald (pc := 1124) hx hb hK ⟨hR.2.1, hR.2.2.2⟩ dL_law_1124 hf (fun hf => ?_)
  refine lv_icmp_ge (pc := 1125) (tgt := 1133) hx hb dL_law_1125 (by decide) (fun hc => ?_) (fun hc => ?_)
  · replace hf := it_t hf hc
    refine lv_iload (pc := 1133) hx hb dL_law_1133 (lv_at hl 24 rfl) ?_
    exact b_law_1135 X k281 hk281 k937 hk937 k950 hk950 v28 v1 v2 v3 v4 v5 v6 v7 v8 v9 v10 v11 x102 v15 v17 v18 v19 v20 v21 v22 v24 v26 v27 v28 v29 x99 M z101.1 nc ns _ _ _ hf hR (lv_sub hl [2, 3, 4, 5, 6, 7, 8, 9, 10, 11, 12, 13, 0, 14, 15, 16, 17, 18, 19, 20, 21, 22, 23, 24, 25, 1] rfl)
  · replace hf := it_f hf hc
    refine lv_iload (pc := 1128) hx hb dL_law_1128 (lv_at hl 23 rfl) ?_
    refine lv_goto (pc := 1130) (tgt := 1135) hx hb dL_law_1130 (by decide) ?_
    exact b_law_1135 X k281 hk281 k937 hk937 k950 hk950 v27 v1 v2 v3 v4 v5 v6 v7 v8 v9 v10 v11 x102 v15 v17 v18 v19 v20 v21 v22 v24 v26 v27 v28 v29 x99 M z101.1 nc ns _ _ _ hf hR (lv_sub hl [2, 3, 4, 5, 6, 7, 8, 9, 10, 11, 12, 13, 0, 14, 15, 16, 17, 18, 19, 20, 21, 22, 23, 24, 25, 1] rfl)
set_option maxHeartbeats 8000000 in
set_option maxRecDepth 100000 in
theorem b_law_950 (X : LX p l s m meth c D ca b L xs) (k281 : Nat → Nat → Nat → Nat → Nat → Nat → Nat → Nat → Nat → Nat → Int64 → Int64 → Int64 → Int32 → Int32 → Int32 → Int32 → Int32 → Int32 → Mem → Mem → Nat → Nat → Option Int32) (hk281 : ∀ (v1 : Nat) (v2 : Nat) (v3 : Nat) (v4 : Nat) (v5 : Nat) (v6 : Nat) (v7 : Nat) (v8 : Nat) (v9 : Nat) (v10 : Nat) (v11 : Int64) (v13 : Int64) (v15 : Int64) (v17 : Int32) (v18 : Int32) (v19 : Int32) (v20 : Int32) (v21 : Int32) (v22 : Int32) (M N : Mem) (nc ns : Nat) (H : Heap) (locs : List Loc) (ls : Array Slot), k281 v1 v2 v3 v4 v5 v6 v7 v8 v9 v10 v11 v13 v15 v17 v18 v19 v20 v21 v22 M N nc ns = some (1 : Int32) → H2 D ca s M N H locs → lv_has ls 34 [(0, .ref b), (1, .ref v1), (2, .ref v2), (3, .ref v3), (4, .ref v4), (5, .ref v5), (6, .ref v6), (7, .ref v7), (8, .ref v8), (9, .ref v9), (10, .ref v10), (11, .long v11), (13, .long v13), (15, .long v15), (17, .int v17), (18, .int v18), (19, .int v19), (20, .int v20), (21, .int v21), (22, .int v22)] → W p l e room_1 s m #[Value.ref b] below meth c H locs nc ns (lw_Z below #[Value.ref b] s) (F0 m 281 ls [])) (k937 : Nat → Nat → Nat → Nat → Nat → Nat → Nat → Nat → Nat → Nat → Int64 → Int64 → Int64 → Int32 → Int32 → Int32 → Int32 → Int32 → Int32 → Int32 → Int32 → Int32 → Mem → Mem → Nat → Nat → Option Int32) (hk937 : ∀ (v1 : Nat) (v2 : Nat) (v3 : Nat) (v4 : Nat) (v5 : Nat) (v6 : Nat) (v7 : Nat) (v8 : Nat) (v9 : Nat) (v10 : Nat) (v11 : Int64) (v13 : Int64) (v15 : Int64) (v17 : Int32) (v18 : Int32) (v19 : Int32) (v20 : Int32) (v21 : Int32) (v22 : Int32) (v24 : Int32) (v26 : Int32) (v27 : Int32) (M N : Mem) (nc ns : Nat) (H : Heap) (locs : List Loc) (ls : Array Slot), k937 v1 v2 v3 v4 v5 v6 v7 v8 v9 v10 v11 v13 v15 v17 v18 v19 v20 v21 v22 v24 v26 v27 M N nc ns = some (1 : Int32) → H2 D ca s M N H locs → lv_has ls 34 [(0, .ref b), (1, .ref v1), (2, .ref v2), (3, .ref v3), (4, .ref v4), (5, .ref v5), (6, .ref v6), (7, .ref v7), (8, .ref v8), (9, .ref v9), (10, .ref v10), (11, .long v11), (13, .long v13), (15, .long v15), (17, .int v17), (18, .int v18), (19, .int v19), (20, .int v20), (21, .int v21), (22, .int v22), (24, .int v24), (26, .int v26), (27, .int v27)] → W p l e room_1 s m #[Value.ref b] below meth c H locs nc ns (lw_Z below #[Value.ref b] s) (F0 m 937 ls [])) (k950 : Nat → Nat → Nat → Nat → Nat → Nat → Nat → Nat → Nat → Nat → Int64 → Int64 → Int64 → Int32 → Int32 → Int32 → Int32 → Int32 → Int32 → Int32 → Int32 → Int32 → Int32 → Mem → Mem → Nat → Nat → Option Int32) (hk950 : ∀ (v1 : Nat) (v2 : Nat) (v3 : Nat) (v4 : Nat) (v5 : Nat) (v6 : Nat) (v7 : Nat) (v8 : Nat) (v9 : Nat) (v10 : Nat) (v11 : Int64) (v13 : Int64) (v15 : Int64) (v17 : Int32) (v18 : Int32) (v19 : Int32) (v20 : Int32) (v21 : Int32) (v22 : Int32) (v24 : Int32) (v26 : Int32) (v27 : Int32) (v28 : Int32) (M N : Mem) (nc ns : Nat) (H : Heap) (locs : List Loc) (ls : Array Slot), k950 v1 v2 v3 v4 v5 v6 v7 v8 v9 v10 v11 v13 v15 v17 v18 v19 v20 v21 v22 v24 v26 v27 v28 M N nc ns = some (1 : Int32) → H2 D ca s M N H locs → lv_has ls 34 [(0, .ref b), (1, .ref v1), (2, .ref v2), (3, .ref v3), (4, .ref v4), (5, .ref v5), (6, .ref v6), (7, .ref v7), (8, .ref v8), (9, .ref v9), (10, .ref v10), (11, .long v11), (13, .long v13), (15, .long v15), (17, .int v17), (18, .int v18), (19, .int v19), (20, .int v20), (21, .int v21), (22, .int v22), (24, .int v24), (26, .int v26), (27, .int v27), (28, .int v28)] → W p l e room_1 s m #[Value.ref b] below meth c H locs nc ns (lw_Z below #[Value.ref b] s) (F0 m 950 ls [])) (v1 : Nat) (v2 : Nat) (v3 : Nat) (v4 : Nat) (v5 : Nat) (v6 : Nat) (v7 : Nat) (v8 : Nat) (v9 : Nat) (v10 : Nat) (v11 : Int64) (v13 : Int64) (v15 : Int64) (v17 : Int32) (v18 : Int32) (v19 : Int32) (v20 : Int32) (v21 : Int32) (v22 : Int32) (v24 : Int32) (v26 : Int32) (v27 : Int32) (v28 : Int32) (M N : Mem) (nc ns : Nat) (H : Heap) (locs : List Loc) (ls : Array Slot) (hf : f_L_law_b950 L xs k281 k937 k950 v1 v2 v3 v4 v5 v6 v7 v8 v9 v10 v11 v13 v15 v17 v18 v19 v20 v21 v22 v24 v26 v27 v28 M N nc ns = some (1 : Int32)) (hR : H2 D ca s M N H locs) (hl : lv_has ls 34 [(0, .ref b), (1, .ref v1), (2, .ref v2), (3, .ref v3), (4, .ref v4), (5, .ref v5), (6, .ref v6), (7, .ref v7), (8, .ref v8), (9, .ref v9), (10, .ref v10), (11, .long v11), (13, .long v13), (15, .long v15), (17, .int v17), (18, .int v18), (19, .int v19), (20, .int v20), (21, .int v21), (22, .int v22), (24, .int v24), (26, .int v26), (27, .int v27), (28, .int v28)]) : W p l e room_1 s m #[Value.ref b] below meth c H locs nc ns (lw_Z below #[Value.ref b] s) (F0 m 950 ls []) := by
  obtain ⟨hx, hb, hC, hlt, hXs, hbl, hret, hL⟩ := id X
  have hts : ∀ w ∈ aw, w.before #[Value.ref b] s = true := hC.2.2.2.1
  have hown := hC.2.2.2.2.1
  have hK := hC.2.2.2.2.2.2.1.1
  have hA : ∀ q : Nat, s.heap.size ≤ q → (fun q : Nat => s.heap.size ≤ q) q := fun _ h => h
  unfold f_L_law_b950 at hf
  refine lv_iload (pc := 950) hx hb dL_law_950 (lv_at hl 23 rfl) ?_
  refine lv_iload (pc := 952) hx hb dL_law_952 (lv_at hl 21 rfl) ?_
  refine lv_icmp_ge (pc := 954) (tgt := 1581) hx hb dL_law_954 (by decide) (fun hc => ?_) (fun hc => ?_)
  · replace hf := it_t hf hc
    refine rg_iinc (pc := 1581) hx hb dL_law_1581 hl (k := 22) rfl rfl (by decide) hf (fun x103 ls hf hl => ?_)
    have hl : lv_has ls 34 [(27, .int x103), (0, .ref b), (1, .ref v1), (2, .ref v2), (3, .ref v3), (4, .ref v4), (5, .ref v5), (6, .ref v6), (7, .ref v7), (8, .ref v8), (9, .ref v9), (10, .ref v10), (11, .long v11), (13, .long v13), (15, .long v15), (17, .int v17), (18, .int v18), (19, .int v19), (20, .int v20), (21, .int v21), (22, .int v22), (24, .int v24), (26, .int v26), (28, .int v28)] := hl
    refine lv_goto (pc := 1584) (tgt := 937) hx hb dL_law_1584 (by decide) ?_
    exact hk937 v1 v2 v3 v4 v5 v6 v7 v8 v9 v10 v11 v13 v15 v17 v18 v19 v20 v21 v22 v24 v26 x103 M N nc ns _ _ _ hf hR (lv_sub hl [1, 2, 3, 4, 5, 6, 7, 8, 9, 10, 11, 12, 13, 14, 15, 16, 17, 18, 19, 20, 21, 22, 0] rfl)
  · replace hf := it_f hf hc
    refine lv_aload_n (pc := 957) hx hb dL_law_957 rfl (lv_at hl 2 rfl) ?_
    refine lv_iload (pc := 958) hx hb dL_law_958 (lv_at hl 23 rfl) ?_
    refine rg_iald (pc := 960) hx hb hK ⟨hR.2.1, hR.2.2.2⟩ dL_law_960 hf (fun hf => ?_)
    refine lv_aload_n (pc := 961) hx hb dL_law_961 rfl (lv_at hl 2 rfl) ?_
    refine lv_iload (pc := 962) hx hb dL_law_962 (lv_at hl 22 rfl) ?_
    refine rg_iald (pc := 964) hx hb hK ⟨hR.2.1, hR.2.2.2⟩ dL_law_964 hf (fun hf => ?_)
    refine lv_isub (pc := 965) hx hb dL_law_965 ?_
    refine nm_i hf (fun x104 hf => ?_)
    refine lv_istore (pc := 966) (lv' := [(29, .int x104), (0, .ref b), (1, .ref v1), (2, .ref v2), (3, .ref v3), (4, .ref v4), (5, .ref v5), (6, .ref v6), (7, .ref v7), (8, .ref v8), (9, .ref v9), (10, .ref v10), (11, .long v11), (13, .long v13), (15, .long v15), (17, .int v17), (18, .int v18), (19, .int v19), (20, .int v20), (21, .int v21), (22, .int v22), (24, .int v24), (26, .int v26), (27, .int v27), (28, .int v28)]) hx hb dL_law_966 hl (by decide) rfl (fun ls hl => ?_)
    refine lv_aload (pc := 968) hx hb dL_law_968 (lv_at hl 8 rfl) ?_
    refine lv_iload (pc := 970) hx hb dL_law_970 (lv_at hl 23 rfl) ?_
    refine rg_iald (pc := 972) hx hb hK ⟨hR.2.1, hR.2.2.2⟩ dL_law_972 hf (fun hf => ?_)
    refine lv_if_eq (pc := 973) (tgt := 1575) hx hb dL_law_973 (by decide) (fun hc => ?_) (fun hc => ?_)
    · replace hf := it_t hf hc
      exact b_law_1575 X k281 hk281 k937 hk937 k950 hk950 v1 v2 v3 v4 v5 v6 v7 v8 v9 v10 v11 v13 v15 v17 v18 v19 v20 v21 v22 v24 v26 v27 v28 M N nc ns _ _ _ hf hR (lv_sub hl [1, 2, 3, 4, 5, 6, 7, 8, 9, 10, 11, 12, 13, 14, 15, 16, 17, 18, 19, 20, 21, 22, 23, 24] rfl)
    · replace hf := it_f hf hc
      refine lv_aload (pc := 976) hx hb dL_law_976 (lv_at hl 8 rfl) ?_
      refine lv_iload (pc := 978) hx hb dL_law_978 (lv_at hl 24 rfl) ?_
      refine rg_iald (pc := 980) hx hb hK ⟨hR.2.1, hR.2.2.2⟩ dL_law_980 hf (fun hf => ?_)
      refine lv_if_eq (pc := 981) (tgt := 1575) hx hb dL_law_981 (by decide) (fun hc => ?_) (fun hc => ?_)
      · replace hf := it_t hf hc
        exact b_law_1575 X k281 hk281 k937 hk937 k950 hk950 v1 v2 v3 v4 v5 v6 v7 v8 v9 v10 v11 v13 v15 v17 v18 v19 v20 v21 v22 v24 v26 v27 v28 M N nc ns _ _ _ hf hR (lv_sub hl [1, 2, 3, 4, 5, 6, 7, 8, 9, 10, 11, 12, 13, 14, 15, 16, 17, 18, 19, 20, 21, 22, 23, 24] rfl)
      · replace hf := it_f hf hc
        refine lv_aload (pc := 984) hx hb dL_law_984 (lv_at hl 9 rfl) ?_
        refine lv_iload (pc := 986) hx hb dL_law_986 (lv_at hl 23 rfl) ?_
        refine rg_iald (pc := 988) hx hb hK ⟨hR.2.1, hR.2.2.2⟩ dL_law_988 hf (fun hf => ?_)
        refine lv_iconst (pc := 989) (v := (1 : Int32)) hx hb dL_law_989 (by decide) ?_
        refine lv_icmp_eq (pc := 990) (tgt := 1575) hx hb dL_law_990 (by decide) (fun hc => ?_) (fun hc => ?_)
        · replace hf := it_t hf hc
          exact b_law_1575 X k281 hk281 k937 hk937 k950 hk950 v1 v2 v3 v4 v5 v6 v7 v8 v9 v10 v11 v13 v15 v17 v18 v19 v20 v21 v22 v24 v26 v27 v28 M N nc ns _ _ _ hf hR (lv_sub hl [1, 2, 3, 4, 5, 6, 7, 8, 9, 10, 11, 12, 13, 14, 15, 16, 17, 18, 19, 20, 21, 22, 23, 24] rfl)
        · replace hf := it_f hf hc
          refine lv_aload (pc := 993) hx hb dL_law_993 (lv_at hl 9 rfl) ?_
          refine lv_iload (pc := 995) hx hb dL_law_995 (lv_at hl 24 rfl) ?_
          refine rg_iald (pc := 997) hx hb hK ⟨hR.2.1, hR.2.2.2⟩ dL_law_997 hf (fun hf => ?_)
          refine lv_iconst (pc := 998) (v := (1 : Int32)) hx hb dL_law_998 (by decide) ?_
          refine lv_icmp_eq (pc := 999) (tgt := 1575) hx hb dL_law_999 (by decide) (fun hc => ?_) (fun hc => ?_)
          · replace hf := it_t hf hc
            exact b_law_1575 X k281 hk281 k937 hk937 k950 hk950 v1 v2 v3 v4 v5 v6 v7 v8 v9 v10 v11 v13 v15 v17 v18 v19 v20 v21 v22 v24 v26 v27 v28 M N nc ns _ _ _ hf hR (lv_sub hl [1, 2, 3, 4, 5, 6, 7, 8, 9, 10, 11, 12, 13, 14, 15, 16, 17, 18, 19, 20, 21, 22, 23, 24] rfl)
          · replace hf := it_f hf hc
            refine lv_iload (pc := 1002) hx hb dL_law_1002 (lv_at hl 0 rfl) ?_
            refine lv_iconst (pc := 1004) (v := (1 : Int32)) hx hb dL_law_1004 (by decide) ?_
            refine lv_icmp_gt (pc := 1005) (tgt := 1575) hx hb dL_law_1005 (by decide) (fun hc => ?_) (fun hc => ?_)
            · replace hf := it_t hf hc
              exact b_law_1575 X k281 hk281 k937 hk937 k950 hk950 v1 v2 v3 v4 v5 v6 v7 v8 v9 v10 v11 v13 v15 v17 v18 v19 v20 v21 v22 v24 v26 v27 v28 M N nc ns _ _ _ hf hR (lv_sub hl [1, 2, 3, 4, 5, 6, 7, 8, 9, 10, 11, 12, 13, 14, 15, 16, 17, 18, 19, 20, 21, 22, 23, 24] rfl)
            · replace hf := it_f hf hc
              refine lv_iload (pc := 1008) hx hb dL_law_1008 (lv_at hl 0 rfl) ?_
              refine lv_iconst (pc := 1010) (v := (-1 : Int32)) hx hb dL_law_1010 (by decide) ?_
              refine lv_icmp_lt (pc := 1011) (tgt := 1575) hx hb dL_law_1011 (by decide) (fun hc => ?_) (fun hc => ?_)
              · replace hf := it_t hf hc
                exact b_law_1575 X k281 hk281 k937 hk937 k950 hk950 v1 v2 v3 v4 v5 v6 v7 v8 v9 v10 v11 v13 v15 v17 v18 v19 v20 v21 v22 v24 v26 v27 v28 M N nc ns _ _ _ hf hR (lv_sub hl [1, 2, 3, 4, 5, 6, 7, 8, 9, 10, 11, 12, 13, 14, 15, 16, 17, 18, 19, 20, 21, 22, 23, 24] rfl)
              · replace hf := it_f hf hc
                refine lv_aload_n (pc := 1014) hx hb dL_law_1014 rfl (lv_at hl 4 rfl) ?_
                refine lv_iload (pc := 1015) hx hb dL_law_1015 (lv_at hl 23 rfl) ?_
                refine rg_iald (pc := 1017) hx hb hK ⟨hR.2.1, hR.2.2.2⟩ dL_law_1017 hf (fun hf => ?_)
                refine lv_aload_n (pc := 1018) hx hb dL_law_1018 rfl (lv_at hl 4 rfl) ?_
                refine lv_iload (pc := 1019) hx hb dL_law_1019 (lv_at hl 24 rfl) ?_
                refine rg_iald (pc := 1021) hx hb hK ⟨hR.2.1, hR.2.2.2⟩ dL_law_1021 hf (fun hf => ?_)
                obtain ⟨hrm0, hf⟩ := gd_e hf
                refine rq_I (pc := 1022) hf hR hA (fun z hz => rn_S (As := [.int (mm_i N v3 (v27).toNatClampNeg), .int (mm_i N v3 (v28).toNatClampNeg)]) (rest := []) hC ⟨hR.2.1, hR.2.2.2⟩ (c_L_apart hz _) m_543 m_544 m_0 m_545 hd_L_apart ⟨rfl, rfl, Nat.le_of_ble_eq_true rfl, Nat.le_of_ble_eq_true rfl⟩ rfl hl.1 rfl (Nat.le_of_ble_eq_true rfl) dL_law_1022 hrm0) (fun z105 H locs hf hR => ?_)
                refine lv_bipush (pc := 1025) (v := (100 : Int32)) hx hb dL_law_1025 (by decide) ?_
                refine lv_icmp_le (pc := 1027) (tgt := 1033) hx hb dL_law_1027 (by decide) (fun hc => ?_) (fun hc => ?_)
                · replace hf := it_t hf hc
                  refine lv_aload (pc := 1033) hx hb dL_law_1033 (lv_at hl 9 rfl) ?_
                  refine lv_iload (pc := 1035) hx hb dL_law_1035 (lv_at hl 23 rfl) ?_
                  refine lv_iconst (pc := 1037) (v := (1 : Int32)) hx hb dL_law_1037 (by decide) ?_
                  refine rq_iast (pc := 1038) hx hb hK hR dL_law_1038 hf (fun N106 H locs hf hR => ?_)
                  refine lv_aload (pc := 1039) hx hb dL_law_1039 (lv_at hl 9 rfl) ?_
                  refine lv_iload (pc := 1041) hx hb dL_law_1041 (lv_at hl 24 rfl) ?_
                  refine lv_iconst (pc := 1043) (v := (1 : Int32)) hx hb dL_law_1043 (by decide) ?_
                  refine rq_iast (pc := 1044) hx hb hK hR dL_law_1044 hf (fun N107 H locs hf hR => ?_)
                  refine lv_aload (pc := 1045) hx hb dL_law_1045 (lv_at hl 10 rfl) ?_
                  refine lv_aload_n (pc := 1047) hx hb dL_law_1047 rfl (lv_at hl 3 rfl) ?_
                  refine lv_iload (pc := 1048) hx hb dL_law_1048 (lv_at hl 23 rfl) ?_
                  refine rg_iald (pc := 1050) hx hb hK ⟨hR.2.1, hR.2.2.2⟩ dL_law_1050 hf (fun hf => ?_)
                  obtain ⟨hrm0, hf⟩ := gd_e hf
                  refine rq_I (pc := 1051) hf hR hA (fun z hz => rn_S (As := [.ref v9, .int (mm_i N107 v2 (v27).toNatClampNeg)]) (rest := []) hC ⟨hR.2.1, hR.2.2.2⟩ (c_L_speed hz _) m_539 m_540 m_0 m_541 hd_L_speed ⟨rfl, rfl, Nat.le_of_ble_eq_true rfl, Nat.le_of_ble_eq_true rfl⟩ rfl hl.1 rfl (Nat.le_of_ble_eq_true rfl) dL_law_1051 hrm0) (fun z108 H locs hf hR => ?_)
                  refine lv_aload (pc := 1054) hx hb dL_law_1054 (lv_at hl 10 rfl) ?_
                  refine lv_aload_n (pc := 1056) hx hb dL_law_1056 rfl (lv_at hl 3 rfl) ?_
                  refine lv_iload (pc := 1057) hx hb dL_law_1057 (lv_at hl 24 rfl) ?_
                  refine rg_iald (pc := 1059) hx hb hK ⟨hR.2.1, hR.2.2.2⟩ dL_law_1059 hf (fun hf => ?_)
                  obtain ⟨hrm0, hf⟩ := gd_e hf
                  refine rq_I (pc := 1060) hf hR hA (fun z hz => rn_S (As := [.ref v9, .int (mm_i z108.1 v2 (v28).toNatClampNeg)]) (rest := [.int z108.2]) hC ⟨hR.2.1, hR.2.2.2⟩ (c_L_speed hz _) m_539 m_540 m_0 m_541 hd_L_speed ⟨rfl, rfl, Nat.le_of_ble_eq_true rfl, Nat.le_of_ble_eq_true rfl⟩ rfl hl.1 rfl (Nat.le_of_ble_eq_true rfl) dL_law_1060 hrm0) (fun z109 H locs hf hR => ?_)
                  refine lv_isub (pc := 1063) hx hb dL_law_1063 ?_
                  refine nm_i hf (fun x110 hf => ?_)
                  refine lv_istore (pc := 1064) (lv' := [(30, .int x110), (29, .int x104), (0, .ref b), (1, .ref v1), (2, .ref v2), (3, .ref v3), (4, .ref v4), (5, .ref v5), (6, .ref v6), (7, .ref v7), (8, .ref v8), (9, .ref v9), (10, .ref v10), (11, .long v11), (13, .long v13), (15, .long v15), (17, .int v17), (18, .int v18), (19, .int v19), (20, .int v20), (21, .int v21), (22, .int v22), (24, .int v24), (26, .int v26), (27, .int v27), (28, .int v28)]) hx hb dL_law_1064 hl (by decide) rfl (fun ls hl => ?_)
                  refine lv_aload (pc := 1066) hx hb dL_law_1066 (lv_at hl 7 rfl) ?_
                  refine lv_iload (pc := 1068) hx hb dL_law_1068 (lv_at hl 24 rfl) ?_
                  refine rg_iald (pc := 1070) hx hb hK ⟨hR.2.1, hR.2.2.2⟩ dL_law_1070 hf (fun hf => ?_)
                  refine lv_aload (pc := 1071) hx hb dL_law_1071 (lv_at hl 7 rfl) ?_
                  refine lv_iload (pc := 1073) hx hb dL_law_1073 (lv_at hl 25 rfl) ?_
                  refine rg_iald (pc := 1075) hx hb hK ⟨hR.2.1, hR.2.2.2⟩ dL_law_1075 hf (fun hf => ?_)
                  refine lv_iadd (pc := 1076) hx hb dL_law_1076 ?_
                  refine lv_iload (pc := 1077) hx hb dL_law_1077 (lv_at hl 0 rfl) ?_
                  refine lv_if_ge (pc := 1079) (tgt := 1088) hx hb dL_law_1079 (by decide) (fun hc => ?_) (fun hc => ?_)
                  · replace hf := it_t hf hc
                    refine lv_iload (pc := 1088) hx hb dL_law_1088 (lv_at hl 0 rfl) ?_
                    exact b_law_1090 X k281 hk281 k937 hk937 k950 hk950 x110 ((mm_i z109.1 v5 (v27).toNatClampNeg) + (mm_i z109.1 v5 (v28).toNatClampNeg)) v1 v2 v3 v4 v5 v6 v7 v8 v9 v10 v11 v13 v15 v17 v18 v19 v20 v21 v22 v24 v26 v27 v28 x104 M z109.1 nc ns _ _ _ hf hR (lv_sub hl [2, 3, 4, 5, 6, 7, 8, 9, 10, 11, 12, 13, 14, 15, 16, 17, 18, 19, 20, 21, 22, 23, 24, 25, 1] rfl)
                  · replace hf := it_f hf hc
                    refine lv_iload (pc := 1082) hx hb dL_law_1082 (lv_at hl 0 rfl) ?_
                    refine lv_ineg (pc := 1084) hx hb dL_law_1084 ?_
                    refine lv_goto (pc := 1085) (tgt := 1090) hx hb dL_law_1085 (by decide) ?_
                    exact b_law_1090 X k281 hk281 k937 hk937 k950 hk950 (-x110) ((mm_i z109.1 v5 (v27).toNatClampNeg) + (mm_i z109.1 v5 (v28).toNatClampNeg)) v1 v2 v3 v4 v5 v6 v7 v8 v9 v10 v11 v13 v15 v17 v18 v19 v20 v21 v22 v24 v26 v27 v28 x104 M z109.1 nc ns _ _ _ hf hR (lv_sub hl [2, 3, 4, 5, 6, 7, 8, 9, 10, 11, 12, 13, 14, 15, 16, 17, 18, 19, 20, 21, 22, 23, 24, 25, 1] rfl)
                · replace hf := it_f hf hc
                  refine lv_goto (pc := 1030) (tgt := 1575) hx hb dL_law_1030 (by decide) ?_
                  exact b_law_1575 X k281 hk281 k937 hk937 k950 hk950 v1 v2 v3 v4 v5 v6 v7 v8 v9 v10 v11 v13 v15 v17 v18 v19 v20 v21 v22 v24 v26 v27 v28 M z105.1 nc ns _ _ _ hf hR (lv_sub hl [1, 2, 3, 4, 5, 6, 7, 8, 9, 10, 11, 12, 13, 14, 15, 16, 17, 18, 19, 20, 21, 22, 23, 24] rfl)
theorem l_law_950 (X : LX p l s m meth c D ca b L xs) (k281 : Nat → Nat → Nat → Nat → Nat → Nat → Nat → Nat → Nat → Nat → Int64 → Int64 → Int64 → Int32 → Int32 → Int32 → Int32 → Int32 → Int32 → Mem → Mem → Nat → Nat → Option Int32) (hk281 : ∀ (v1 : Nat) (v2 : Nat) (v3 : Nat) (v4 : Nat) (v5 : Nat) (v6 : Nat) (v7 : Nat) (v8 : Nat) (v9 : Nat) (v10 : Nat) (v11 : Int64) (v13 : Int64) (v15 : Int64) (v17 : Int32) (v18 : Int32) (v19 : Int32) (v20 : Int32) (v21 : Int32) (v22 : Int32) (M N : Mem) (nc ns : Nat) (H : Heap) (locs : List Loc) (ls : Array Slot), k281 v1 v2 v3 v4 v5 v6 v7 v8 v9 v10 v11 v13 v15 v17 v18 v19 v20 v21 v22 M N nc ns = some (1 : Int32) → H2 D ca s M N H locs → lv_has ls 34 [(0, .ref b), (1, .ref v1), (2, .ref v2), (3, .ref v3), (4, .ref v4), (5, .ref v5), (6, .ref v6), (7, .ref v7), (8, .ref v8), (9, .ref v9), (10, .ref v10), (11, .long v11), (13, .long v13), (15, .long v15), (17, .int v17), (18, .int v18), (19, .int v19), (20, .int v20), (21, .int v21), (22, .int v22)] → W p l e room_1 s m #[Value.ref b] below meth c H locs nc ns (lw_Z below #[Value.ref b] s) (F0 m 281 ls [])) (k937 : Nat → Nat → Nat → Nat → Nat → Nat → Nat → Nat → Nat → Nat → Int64 → Int64 → Int64 → Int32 → Int32 → Int32 → Int32 → Int32 → Int32 → Int32 → Int32 → Int32 → Mem → Mem → Nat → Nat → Option Int32) (hk937 : ∀ (v1 : Nat) (v2 : Nat) (v3 : Nat) (v4 : Nat) (v5 : Nat) (v6 : Nat) (v7 : Nat) (v8 : Nat) (v9 : Nat) (v10 : Nat) (v11 : Int64) (v13 : Int64) (v15 : Int64) (v17 : Int32) (v18 : Int32) (v19 : Int32) (v20 : Int32) (v21 : Int32) (v22 : Int32) (v24 : Int32) (v26 : Int32) (v27 : Int32) (M N : Mem) (nc ns : Nat) (H : Heap) (locs : List Loc) (ls : Array Slot), k937 v1 v2 v3 v4 v5 v6 v7 v8 v9 v10 v11 v13 v15 v17 v18 v19 v20 v21 v22 v24 v26 v27 M N nc ns = some (1 : Int32) → H2 D ca s M N H locs → lv_has ls 34 [(0, .ref b), (1, .ref v1), (2, .ref v2), (3, .ref v3), (4, .ref v4), (5, .ref v5), (6, .ref v6), (7, .ref v7), (8, .ref v8), (9, .ref v9), (10, .ref v10), (11, .long v11), (13, .long v13), (15, .long v15), (17, .int v17), (18, .int v18), (19, .int v19), (20, .int v20), (21, .int v21), (22, .int v22), (24, .int v24), (26, .int v26), (27, .int v27)] → W p l e room_1 s m #[Value.ref b] below meth c H locs nc ns (lw_Z below #[Value.ref b] s) (F0 m 937 ls [])) (n : Nat) : ∀ (v1 : Nat) (v2 : Nat) (v3 : Nat) (v4 : Nat) (v5 : Nat) (v6 : Nat) (v7 : Nat) (v8 : Nat) (v9 : Nat) (v10 : Nat) (v11 : Int64) (v13 : Int64) (v15 : Int64) (v17 : Int32) (v18 : Int32) (v19 : Int32) (v20 : Int32) (v21 : Int32) (v22 : Int32) (v24 : Int32) (v26 : Int32) (v27 : Int32) (v28 : Int32) (M N : Mem) (nc ns : Nat) (H : Heap) (locs : List Loc) (ls : Array Slot), f_L_law_L950 L xs k281 k937 n v1 v2 v3 v4 v5 v6 v7 v8 v9 v10 v11 v13 v15 v17 v18 v19 v20 v21 v22 v24 v26 v27 v28 M N nc ns = some (1 : Int32) → H2 D ca s M N H locs → lv_has ls 34 [(0, .ref b), (1, .ref v1), (2, .ref v2), (3, .ref v3), (4, .ref v4), (5, .ref v5), (6, .ref v6), (7, .ref v7), (8, .ref v8), (9, .ref v9), (10, .ref v10), (11, .long v11), (13, .long v13), (15, .long v15), (17, .int v17), (18, .int v18), (19, .int v19), (20, .int v20), (21, .int v21), (22, .int v22), (24, .int v24), (26, .int v26), (27, .int v27), (28, .int v28)] → W p l e room_1 s m #[Value.ref b] below meth c H locs nc ns (lw_Z below #[Value.ref b] s) (F0 m 950 ls []) := by
  induction n with
  | zero => intro v1 v2 v3 v4 v5 v6 v7 v8 v9 v10 v11 v13 v15 v17 v18 v19 v20 v21 v22 v24 v26 v27 v28 M N nc ns H locs ls hf; exact nomatch (show (none : Option Int32) = some 1 from hf)
  | succ n ih => intro v1 v2 v3 v4 v5 v6 v7 v8 v9 v10 v11 v13 v15 v17 v18 v19 v20 v21 v22 v24 v26 v27 v28 M N nc ns H locs ls hf hR hl; exact b_law_950 X k281 hk281 k937 hk937 (f_L_law_L950 L xs k281 k937 n) ih v1 v2 v3 v4 v5 v6 v7 v8 v9 v10 v11 v13 v15 v17 v18 v19 v20 v21 v22 v24 v26 v27 v28 M N nc ns H locs ls hf hR hl
set_option maxHeartbeats 8000000 in
set_option maxRecDepth 100000 in
theorem b_law_937 (X : LX p l s m meth c D ca b L xs) (k281 : Nat → Nat → Nat → Nat → Nat → Nat → Nat → Nat → Nat → Nat → Int64 → Int64 → Int64 → Int32 → Int32 → Int32 → Int32 → Int32 → Int32 → Mem → Mem → Nat → Nat → Option Int32) (hk281 : ∀ (v1 : Nat) (v2 : Nat) (v3 : Nat) (v4 : Nat) (v5 : Nat) (v6 : Nat) (v7 : Nat) (v8 : Nat) (v9 : Nat) (v10 : Nat) (v11 : Int64) (v13 : Int64) (v15 : Int64) (v17 : Int32) (v18 : Int32) (v19 : Int32) (v20 : Int32) (v21 : Int32) (v22 : Int32) (M N : Mem) (nc ns : Nat) (H : Heap) (locs : List Loc) (ls : Array Slot), k281 v1 v2 v3 v4 v5 v6 v7 v8 v9 v10 v11 v13 v15 v17 v18 v19 v20 v21 v22 M N nc ns = some (1 : Int32) → H2 D ca s M N H locs → lv_has ls 34 [(0, .ref b), (1, .ref v1), (2, .ref v2), (3, .ref v3), (4, .ref v4), (5, .ref v5), (6, .ref v6), (7, .ref v7), (8, .ref v8), (9, .ref v9), (10, .ref v10), (11, .long v11), (13, .long v13), (15, .long v15), (17, .int v17), (18, .int v18), (19, .int v19), (20, .int v20), (21, .int v21), (22, .int v22)] → W p l e room_1 s m #[Value.ref b] below meth c H locs nc ns (lw_Z below #[Value.ref b] s) (F0 m 281 ls [])) (k937 : Nat → Nat → Nat → Nat → Nat → Nat → Nat → Nat → Nat → Nat → Int64 → Int64 → Int64 → Int32 → Int32 → Int32 → Int32 → Int32 → Int32 → Int32 → Int32 → Int32 → Mem → Mem → Nat → Nat → Option Int32) (hk937 : ∀ (v1 : Nat) (v2 : Nat) (v3 : Nat) (v4 : Nat) (v5 : Nat) (v6 : Nat) (v7 : Nat) (v8 : Nat) (v9 : Nat) (v10 : Nat) (v11 : Int64) (v13 : Int64) (v15 : Int64) (v17 : Int32) (v18 : Int32) (v19 : Int32) (v20 : Int32) (v21 : Int32) (v22 : Int32) (v24 : Int32) (v26 : Int32) (v27 : Int32) (M N : Mem) (nc ns : Nat) (H : Heap) (locs : List Loc) (ls : Array Slot), k937 v1 v2 v3 v4 v5 v6 v7 v8 v9 v10 v11 v13 v15 v17 v18 v19 v20 v21 v22 v24 v26 v27 M N nc ns = some (1 : Int32) → H2 D ca s M N H locs → lv_has ls 34 [(0, .ref b), (1, .ref v1), (2, .ref v2), (3, .ref v3), (4, .ref v4), (5, .ref v5), (6, .ref v6), (7, .ref v7), (8, .ref v8), (9, .ref v9), (10, .ref v10), (11, .long v11), (13, .long v13), (15, .long v15), (17, .int v17), (18, .int v18), (19, .int v19), (20, .int v20), (21, .int v21), (22, .int v22), (24, .int v24), (26, .int v26), (27, .int v27)] → W p l e room_1 s m #[Value.ref b] below meth c H locs nc ns (lw_Z below #[Value.ref b] s) (F0 m 937 ls [])) (v1 : Nat) (v2 : Nat) (v3 : Nat) (v4 : Nat) (v5 : Nat) (v6 : Nat) (v7 : Nat) (v8 : Nat) (v9 : Nat) (v10 : Nat) (v11 : Int64) (v13 : Int64) (v15 : Int64) (v17 : Int32) (v18 : Int32) (v19 : Int32) (v20 : Int32) (v21 : Int32) (v22 : Int32) (v24 : Int32) (v26 : Int32) (v27 : Int32) (M N : Mem) (nc ns : Nat) (H : Heap) (locs : List Loc) (ls : Array Slot) (hf : f_L_law_b937 L xs k281 k937 v1 v2 v3 v4 v5 v6 v7 v8 v9 v10 v11 v13 v15 v17 v18 v19 v20 v21 v22 v24 v26 v27 M N nc ns = some (1 : Int32)) (hR : H2 D ca s M N H locs) (hl : lv_has ls 34 [(0, .ref b), (1, .ref v1), (2, .ref v2), (3, .ref v3), (4, .ref v4), (5, .ref v5), (6, .ref v6), (7, .ref v7), (8, .ref v8), (9, .ref v9), (10, .ref v10), (11, .long v11), (13, .long v13), (15, .long v15), (17, .int v17), (18, .int v18), (19, .int v19), (20, .int v20), (21, .int v21), (22, .int v22), (24, .int v24), (26, .int v26), (27, .int v27)]) : W p l e room_1 s m #[Value.ref b] below meth c H locs nc ns (lw_Z below #[Value.ref b] s) (F0 m 937 ls []) := by
  obtain ⟨hx, hb, hC, hlt, hXs, hbl, hret, hL⟩ := id X
  have hts : ∀ w ∈ aw, w.before #[Value.ref b] s = true := hC.2.2.2.1
  have hown := hC.2.2.2.2.1
  have hK := hC.2.2.2.2.2.2.1.1
  have hA : ∀ q : Nat, s.heap.size ≤ q → (fun q : Nat => s.heap.size ≤ q) q := fun _ h => h
  unfold f_L_law_b937 at hf
  refine lv_iload (pc := 937) hx hb dL_law_937 (lv_at hl 22 rfl) ?_
  refine lv_iload (pc := 939) hx hb dL_law_939 (lv_at hl 21 rfl) ?_
  refine lv_icmp_ge (pc := 941) (tgt := 1587) hx hb dL_law_941 (by decide) (fun hc => ?_) (fun hc => ?_)
  · replace hf := it_t hf hc
    refine lv_iconst (pc := 1587) (v := (0 : Int32)) hx hb dL_law_1587 (by decide) ?_
    refine lv_istore (pc := 1588) (lv' := [(27, .int (0 : Int32)), (0, .ref b), (1, .ref v1), (2, .ref v2), (3, .ref v3), (4, .ref v4), (5, .ref v5), (6, .ref v6), (7, .ref v7), (8, .ref v8), (9, .ref v9), (10, .ref v10), (11, .long v11), (13, .long v13), (15, .long v15), (17, .int v17), (18, .int v18), (19, .int v19), (20, .int v20), (21, .int v21), (22, .int v22), (24, .int v24), (26, .int v26)]) hx hb dL_law_1588 hl (by decide) rfl (fun ls hl => ?_)
    exact l_law_1590 X k281 hk281 200 v1 v2 v3 v4 v5 v6 v7 v8 v9 v10 v11 v13 v15 v17 v18 v19 v20 v21 v22 v24 (0 : Int32) M N nc ns _ _ _ hf hR (lv_sub hl [1, 2, 3, 4, 5, 6, 7, 8, 9, 10, 11, 12, 13, 14, 15, 16, 17, 18, 19, 20, 21, 0] rfl)
  · replace hf := it_f hf hc
    refine lv_iload (pc := 944) hx hb dL_law_944 (lv_at hl 22 rfl) ?_
    refine lv_iconst (pc := 946) (v := (1 : Int32)) hx hb dL_law_946 (by decide) ?_
    refine lv_iadd (pc := 947) hx hb dL_law_947 ?_
    refine nm_i hf (fun x111 hf => ?_)
    refine lv_istore (pc := 948) (lv' := [(28, .int x111), (0, .ref b), (1, .ref v1), (2, .ref v2), (3, .ref v3), (4, .ref v4), (5, .ref v5), (6, .ref v6), (7, .ref v7), (8, .ref v8), (9, .ref v9), (10, .ref v10), (11, .long v11), (13, .long v13), (15, .long v15), (17, .int v17), (18, .int v18), (19, .int v19), (20, .int v20), (21, .int v21), (22, .int v22), (24, .int v24), (26, .int v26), (27, .int v27)]) hx hb dL_law_948 hl (by decide) rfl (fun ls hl => ?_)
    exact l_law_950 X k281 hk281 k937 hk937 200 v1 v2 v3 v4 v5 v6 v7 v8 v9 v10 v11 v13 v15 v17 v18 v19 v20 v21 v22 v24 v26 v27 x111 M N nc ns _ _ _ hf hR (lv_sub hl [1, 2, 3, 4, 5, 6, 7, 8, 9, 10, 11, 12, 13, 14, 15, 16, 17, 18, 19, 20, 21, 22, 23, 0] rfl)
theorem l_law_937 (X : LX p l s m meth c D ca b L xs) (k281 : Nat → Nat → Nat → Nat → Nat → Nat → Nat → Nat → Nat → Nat → Int64 → Int64 → Int64 → Int32 → Int32 → Int32 → Int32 → Int32 → Int32 → Mem → Mem → Nat → Nat → Option Int32) (hk281 : ∀ (v1 : Nat) (v2 : Nat) (v3 : Nat) (v4 : Nat) (v5 : Nat) (v6 : Nat) (v7 : Nat) (v8 : Nat) (v9 : Nat) (v10 : Nat) (v11 : Int64) (v13 : Int64) (v15 : Int64) (v17 : Int32) (v18 : Int32) (v19 : Int32) (v20 : Int32) (v21 : Int32) (v22 : Int32) (M N : Mem) (nc ns : Nat) (H : Heap) (locs : List Loc) (ls : Array Slot), k281 v1 v2 v3 v4 v5 v6 v7 v8 v9 v10 v11 v13 v15 v17 v18 v19 v20 v21 v22 M N nc ns = some (1 : Int32) → H2 D ca s M N H locs → lv_has ls 34 [(0, .ref b), (1, .ref v1), (2, .ref v2), (3, .ref v3), (4, .ref v4), (5, .ref v5), (6, .ref v6), (7, .ref v7), (8, .ref v8), (9, .ref v9), (10, .ref v10), (11, .long v11), (13, .long v13), (15, .long v15), (17, .int v17), (18, .int v18), (19, .int v19), (20, .int v20), (21, .int v21), (22, .int v22)] → W p l e room_1 s m #[Value.ref b] below meth c H locs nc ns (lw_Z below #[Value.ref b] s) (F0 m 281 ls [])) (n : Nat) : ∀ (v1 : Nat) (v2 : Nat) (v3 : Nat) (v4 : Nat) (v5 : Nat) (v6 : Nat) (v7 : Nat) (v8 : Nat) (v9 : Nat) (v10 : Nat) (v11 : Int64) (v13 : Int64) (v15 : Int64) (v17 : Int32) (v18 : Int32) (v19 : Int32) (v20 : Int32) (v21 : Int32) (v22 : Int32) (v24 : Int32) (v26 : Int32) (v27 : Int32) (M N : Mem) (nc ns : Nat) (H : Heap) (locs : List Loc) (ls : Array Slot), f_L_law_L937 L xs k281 n v1 v2 v3 v4 v5 v6 v7 v8 v9 v10 v11 v13 v15 v17 v18 v19 v20 v21 v22 v24 v26 v27 M N nc ns = some (1 : Int32) → H2 D ca s M N H locs → lv_has ls 34 [(0, .ref b), (1, .ref v1), (2, .ref v2), (3, .ref v3), (4, .ref v4), (5, .ref v5), (6, .ref v6), (7, .ref v7), (8, .ref v8), (9, .ref v9), (10, .ref v10), (11, .long v11), (13, .long v13), (15, .long v15), (17, .int v17), (18, .int v18), (19, .int v19), (20, .int v20), (21, .int v21), (22, .int v22), (24, .int v24), (26, .int v26), (27, .int v27)] → W p l e room_1 s m #[Value.ref b] below meth c H locs nc ns (lw_Z below #[Value.ref b] s) (F0 m 937 ls []) := by
  induction n with
  | zero => intro v1 v2 v3 v4 v5 v6 v7 v8 v9 v10 v11 v13 v15 v17 v18 v19 v20 v21 v22 v24 v26 v27 M N nc ns H locs ls hf; exact nomatch (show (none : Option Int32) = some 1 from hf)
  | succ n ih => intro v1 v2 v3 v4 v5 v6 v7 v8 v9 v10 v11 v13 v15 v17 v18 v19 v20 v21 v22 v24 v26 v27 M N nc ns H locs ls hf hR hl; exact b_law_937 X k281 hk281 (f_L_law_L937 L xs k281 n) ih v1 v2 v3 v4 v5 v6 v7 v8 v9 v10 v11 v13 v15 v17 v18 v19 v20 v21 v22 v24 v26 v27 M N nc ns H locs ls hf hR hl
end LB
