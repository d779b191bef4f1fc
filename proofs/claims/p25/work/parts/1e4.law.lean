section LB
variable {p : Program} {l : Launch} {e : Env} {s : State} {m : MethodId} {below : List Frame} {meth : Method} {c : Code} {D : va_G} {ca : Nat → ClassId} {b L : Nat} {xs : Nat → Int32}
set_option maxHeartbeats 8000000 in
set_option maxRecDepth 100000 in
theorem b_law_646 (X : LX p l s m meth c D ca b L xs) (k281 : Nat → Nat → Nat → Nat → Nat → Nat → Nat → Nat → Nat → Nat → Int64 → Int64 → Int64 → Int32 → Int32 → Int32 → Int32 → Int32 → Int32 → Mem → Mem → Nat → Nat → Option Int32) (hk281 : ∀ (v1 : Nat) (v2 : Nat) (v3 : Nat) (v4 : Nat) (v5 : Nat) (v6 : Nat) (v7 : Nat) (v8 : Nat) (v9 : Nat) (v10 : Nat) (v11 : Int64) (v13 : Int64) (v15 : Int64) (v17 : Int32) (v18 : Int32) (v19 : Int32) (v20 : Int32) (v21 : Int32) (v22 : Int32) (M N : Mem) (nc ns : Nat) (H : Heap) (locs : List Loc) (ls : Array Slot), k281 v1 v2 v3 v4 v5 v6 v7 v8 v9 v10 v11 v13 v15 v17 v18 v19 v20 v21 v22 M N nc ns = some (1 : Int32) → H2 D ca s M N H locs → lv_has ls 34 [(0, .ref b), (1, .ref v1), (2, .ref v2), (3, .ref v3), (4, .ref v4), (5, .ref v5), (6, .ref v6), (7, .ref v7), (8, .ref v8), (9, .ref v9), (10, .ref v10), (11, .long v11), (13, .long v13), (15, .long v15), (17, .int v17), (18, .int v18), (19, .int v19), (20, .int v20), (21, .int v21), (22, .int v22)] → W p l e room_1 s m #[Value.ref b] below meth c H locs nc ns (lw_Z below #[Value.ref b] s) (F0 m 281 ls [])) (k646 : Nat → Nat → Nat → Nat → Nat → Nat → Nat → Nat → Nat → Nat → Int64 → Int64 → Int64 → Int32 → Int32 → Int32 → Int32 → Int32 → Int32 → Int32 → Int32 → Mem → Mem → Nat → Nat → Option Int32) (hk646 : ∀ (v1 : Nat) (v2 : Nat) (v3 : Nat) (v4 : Nat) (v5 : Nat) (v6 : Nat) (v7 : Nat) (v8 : Nat) (v9 : Nat) (v10 : Nat) (v11 : Int64) (v13 : Int64) (v15 : Int64) (v17 : Int32) (v18 : Int32) (v19 : Int32) (v20 : Int32) (v21 : Int32) (v22 : Int32) (v24 : Int32) (v26 : Int32) (M N : Mem) (nc ns : Nat) (H : Heap) (locs : List Loc) (ls : Array Slot), k646 v1 v2 v3 v4 v5 v6 v7 v8 v9 v10 v11 v13 v15 v17 v18 v19 v20 v21 v22 v24 v26 M N nc ns = some (1 : Int32) → H2 D ca s M N H locs → lv_has ls 34 [(0, .ref b), (1, .ref v1), (2, .ref v2), (3, .ref v3), (4, .ref v4), (5, .ref v5), (6, .ref v6), (7, .ref v7), (8, .ref v8), (9, .ref v9), (10, .ref v10), (11, .long v11), (13, .long v13), (15, .long v15), (17, .int v17), (18, .int v18), (19, .int v19), (20, .int v20), (21, .int v21), (22, .int v22), (24, .int v24), (26, .int v26)] → W p l e room_1 s m #[Value.ref b] below meth c H locs nc ns (lw_Z below #[Value.ref b] s) (F0 m 646 ls [])) (v1 : Nat) (v2 : Nat) (v3 : Nat) (v4 : Nat) (v5 : Nat) (v6 : Nat) (v7 : Nat) (v8 : Nat) (v9 : Nat) (v10 : Nat) (v11 : Int64) (v13 : Int64) (v15 : Int64) (v17 : Int32) (v18 : Int32) (v19 : Int32) (v20 : Int32) (v21 : Int32) (v22 : Int32) (v24 : Int32) (v26 : Int32) (M N : Mem) (nc ns : Nat) (H : Heap) (locs : List Loc) (ls : Array Slot) (hf : f_L_law_b646 L xs k281 k646 v1 v2 v3 v4 v5 v6 v7 v8 v9 v10 v11 v13 v15 v17 v18 v19 v20 v21 v22 v24 v26 M N nc ns = some (1 : Int32)) (hR : H2 D ca s M N H locs) (hl : lv_has ls 34 [(0, .ref b), (1, .ref v1), (2, .ref v2), (3, .ref v3), (4, .ref v4), (5, .ref v5), (6, .ref v6), (7, .ref v7), (8, .ref v8), (9, .ref v9), (10, .ref v10), (11, .long v11), (13, .long v13), (15, .long v15), (17, .int v17), (18, .int v18), (19, .int v19), (20, .int v20), (21, .int v21), (22, .int v22), (24, .int v24), (26, .int v26)]) : W p l e room_1 s m #[Value.ref b] below meth c H locs nc ns (lw_Z below #[Value.ref b] s) (F0 m 646 ls []) := by
  obtain ⟨hx, hb, hC, hlt, hXs, hbl, hret, hL⟩ := id X
  have hts : ∀ w ∈ aw, w.before #[Value.ref b] s = true := hC.2.2.2.1
  have hown := hC.2.2.2.2.1
  have hK := hC.2.2.2.2.2.2.1.1
  have hA : ∀ q : Nat, s.heap.size ≤ q → (fun q : Nat => s.heap.size ≤ q) q := fun _ h => h
  unfold f_L_law_b646 at hf
  refine lv_iload (pc := 646) hx hb dL_law_646 (lv_at hl 21 rfl) ?_
  refine lv_iload (pc := 648) hx hb dL_law_648 (lv_at hl 14 rfl) ?_
  refine lv_icmp_ge (pc := 650) (tgt := 695) hx hb dL_law_650 (by decide) (fun hc => ?_) (fun hc => ?_)
  · replace hf := it_t hf hc
    refine lv_iconst (pc := 695) (v := (0 : Int32)) hx hb dL_law_695 (by decide) ?_
    refine lv_istore (pc := 696) (lv' := [(26, .int (0 : Int32)), (0, .ref b), (1, .ref v1), (2, .ref v2), (3, .ref v3), (4, .ref v4), (5, .ref v5), (6, .ref v6), (7, .ref v7), (8, .ref v8), (9, .ref v9), (10, .ref v10), (11, .long v11), (13, .long v13), (15, .long v15), (17, .int v17), (18, .int v18), (19, .int v19), (20, .int v20), (21, .int v21), (22, .int v22), (24, .int v24)]) hx hb dL_law_696 hl (by decide) rfl (fun ls hl => ?_)
    exact l_law_698 X k281 hk281 200 v1 v2 v3 v4 v5 v6 v7 v8 v9 v10 v11 v13 v15 v17 v18 v19 v20 v21 v22 v24 (0 : Int32) M N nc ns _ _ _ hf hR (lv_sub hl [1, 2, 3, 4, 5, 6, 7, 8, 9, 10, 11, 12, 13, 14, 15, 16, 17, 18, 19, 20, 21, 0] rfl)
  · replace hf := it_f hf hc
    refine lv_aload (pc := 653) hx hb dL_law_653 (lv_at hl 7 rfl) ?_
    refine lv_iload (pc := 655) hx hb dL_law_655 (lv_at hl 21 rfl) ?_
    refine rg_iald (pc := 657) hx hb hK ⟨hR.2.1, hR.2.2.2⟩ dL_law_657 hf (fun hf => ?_)
    refine lv_iconst (pc := 658) (v := (1 : Int32)) hx hb dL_law_658 (by decide) ?_
    refine lv_icmp_ne (pc := 659) (tgt := 683) hx hb dL_law_659 (by decide) (fun hc => ?_) (fun hc => ?_)
    · replace hf := it_f hf hc
      exact b_law_683 X k281 hk281 k646 hk646 v1 v2 v3 v4 v5 v6 v7 v8 v9 v10 v11 v13 v15 v17 v18 v19 v20 v21 v22 v24 v26 M N nc ns _ _ _ hf hR (lv_sub hl [0, 1, 2, 3, 4, 5, 6, 7, 8, 9, 10, 11, 12, 13, 14, 15, 16, 17, 18, 19, 20, 21] rfl)
    · replace hf := it_t hf hc
      refine lv_aload_n (pc := 662) hx hb dL_law_662 rfl (lv_at hl 3 rfl) ?_
      refine lv_iload (pc := 663) hx hb dL_law_663 (lv_at hl 21 rfl) ?_
      refine lv_aload_n (pc := 665) hx hb dL_law_665 rfl (lv_at hl 3 rfl) ?_
      refine lv_iload (pc := 666) hx hb dL_law_666 (lv_at hl 21 rfl) ?_
      refine rg_iald (pc := 668) hx hb hK ⟨hR.2.1, hR.2.2.2⟩ dL_law_668 hf (fun hf => ?_)
      refine lv_aload (pc := 669) hx hb dL_law_669 (lv_at hl 9 rfl) ?_
      refine lv_aload_n (pc := 671) hx hb dL_law_671 rfl (lv_at hl 2 rfl) ?_
      refine lv_iload (pc := 672) hx hb dL_law_672 (lv_at hl 21 rfl) ?_
      refine rg_iald (pc := 674) hx hb hK ⟨hR.2.1, hR.2.2.2⟩ dL_law_674 hf (fun hf => ?_)
      obtain ⟨hrm0, hf⟩ := gd_e hf
      refine rq_I (pc := 675) hf hR hA (fun z hz => rn_S (As := [.ref v9, .int (mm_i N v2 (v26).toNatClampNeg)]) (rest := [.int (mm_i N v3 (v26).toNatClampNeg), .int v26, .ref v3]) hC ⟨hR.2.1, hR.2.2.2⟩ (c_L_speed hz _) m_539 m_540 m_0 m_541 hd_L_speed ⟨rfl, rfl, Nat.le_of_ble_eq_true rfl, Nat.le_of_ble_eq_true rfl⟩ rfl hl.1 rfl (Nat.le_of_ble_eq_true rfl) dL_law_675 hrm0) (fun z126 H locs hf hR => ?_)
      refine lv_iadd (pc := 678) hx hb dL_law_678 ?_
      refine lv_ldc (pc := 679) hx hb hown (hts _ m_542) dL_law_679 ?_
      refine lv_irem (pc := 681) hx hb dL_law_681 (by decide) ?_
      refine rq_iast (pc := 682) hx hb hK hR dL_law_682 hf (fun N127 H locs hf hR => ?_)
      exact b_law_683 X k281 hk281 k646 hk646 v1 v2 v3 v4 v5 v6 v7 v8 v9 v10 v11 v13 v15 v17 v18 v19 v20 v21 v22 v24 v26 M N127 nc ns _ _ _ hf hR (lv_sub hl [0, 1, 2, 3, 4, 5, 6, 7, 8, 9, 10, 11, 12, 13, 14, 15, 16, 17, 18, 19, 20, 21] rfl)
theorem l_law_646 (X : LX p l s m meth c D ca b L xs) (k281 : Nat → Nat → Nat → Nat → Nat → Nat → Nat → Nat → Nat → Nat → Int64 → Int64 → Int64 → Int32 → Int32 → Int32 → Int32 → Int32 → Int32 → Mem → Mem → Nat → Nat → Option Int32) (hk281 : ∀ (v1 : Nat) (v2 : Nat) (v3 : Nat) (v4 : Nat) (v5 : Nat) (v6 : Nat) (v7 : Nat) (v8 : Nat) (v9 : Nat) (v10 : Nat) (v11 : Int64) (v13 : Int64) (v15 : Int64) (v17 : Int32) (v18 : Int32) (v19 : Int32) (v20 : Int32) (v21 : Int32) (v22 : Int32) (M N : Mem) (nc ns : Nat) (H : Heap) (locs : List Loc) (ls : Array Slot), k281 v1 v2 v3 v4 v5 v6 v7 v8 v9 v10 v11 v13 v15 v17 v18 v19 v20 v21 v22 M N nc ns = some (1 : Int32) → H2 D ca s M N H locs → lv_has ls 34 [(0, .ref b), (1, .ref v1), (2, .ref v2), (3, .ref v3), (4, .ref v4), (5, .ref v5), (6, .ref v6), (7, .ref v7), (8, .ref v8), (9, .ref v9), (10, .ref v10), (11, .long v11), (13, .long v13), (15, .long v15), (17, .int v17), (18, .int v18), (19, .int v19), (20, .int v20), (21, .int v21), (22, .int v22)] → W p l e room_1 s m #[Value.ref b] below meth c H locs nc ns (lw_Z below #[Value.ref b] s) (F0 m 281 ls [])) (n : Nat) : ∀ (v1 : Nat) (v2 : Nat) (v3 : Nat) (v4 : Nat) (v5 : Nat) (v6 : Nat) (v7 : Nat) (v8 : Nat) (v9 : Nat) (v10 : Nat) (v11 : Int64) (v13 : Int64) (v15 : Int64) (v17 : Int32) (v18 : Int32) (v19 : Int32) (v20 : Int32) (v21 : Int32) (v22 : Int32) (v24 : Int32) (v26 : Int32) (M N : Mem) (nc ns : Nat) (H : Heap) (locs : List Loc) (ls : Array Slot), f_L_law_L646 L xs k281 n v1 v2 v3 v4 v5 v6 v7 v8 v9 v10 v11 v13 v15 v17 v18 v19 v20 v21 v22 v24 v26 M N nc ns = some (1 : Int32) → H2 D ca s M N H locs → lv_has ls 34 [(0, .ref b), (1, .ref v1), (2, .ref v2), (3, .ref v3), (4, .ref v4), (5, .ref v5), (6, .ref v6), (7, .ref v7), (8, .ref v8), (9, .ref v9), (10, .ref v10), (11, .long v11), (13, .long v13), (15, .long v15), (17, .int v17), (18, .int v18), (19, .int v19), (20, .int v20), (21, .int v21), (22, .int v22), (24, .int v24), (26, .int v26)] → W p l e room_1 s m #[Value.ref b] below meth c H locs nc ns (lw_Z below #[Value.ref b] s) (F0 m 646 ls []) := by
  induction n with
  | zero => intro v1 v2 v3 v4 v5 v6 v7 v8 v9 v10 v11 v13 v15 v17 v18 v19 v20 v21 v22 v24 v26 M N nc ns H locs ls hf; exact nomatch (show (none : Option Int32) = some 1 from hf)
  | succ n ih => intro v1 v2 v3 v4 v5 v6 v7 v8 v9 v10 v11 v13 v15 v17 v18 v19 v20 v21 v22 v24 v26 M N nc ns H locs ls hf hR hl; exact b_law_646 X k281 hk281 (f_L_law_L646 L xs k281 n) ih v1 v2 v3 v4 v5 v6 v7 v8 v9 v10 v11 v13 v15 v17 v18 v19 v20 v21 v22 v24 v26 M N nc ns H locs ls hf hR hl
set_option maxHeartbeats 8000000 in
set_option maxRecDepth 100000 in
theorem b_law_443 (X : LX p l s m meth c D ca b L xs) (k281 : Nat → Nat → Nat → Nat → Nat → Nat → Nat → Nat → Nat → Nat → Int64 → Int64 → Int64 → Int32 → Int32 → Int32 → Int32 → Int32 → Int32 → Mem → Mem → Nat → Nat → Option Int32) (hk281 : ∀ (v1 : Nat) (v2 : Nat) (v3 : Nat) (v4 : Nat) (v5 : Nat) (v6 : Nat) (v7 : Nat) (v8 : Nat) (v9 : Nat) (v10 : Nat) (v11 : Int64) (v13 : Int64) (v15 : Int64) (v17 : Int32) (v18 : Int32) (v19 : Int32) (v20 : Int32) (v21 : Int32) (v22 : Int32) (M N : Mem) (nc ns : Nat) (H : Heap) (locs : List Loc) (ls : Array Slot), k281 v1 v2 v3 v4 v5 v6 v7 v8 v9 v10 v11 v13 v15 v17 v18 v19 v20 v21 v22 M N nc ns = some (1 : Int32) → H2 D ca s M N H locs → lv_has ls 34 [(0, .ref b), (1, .ref v1), (2, .ref v2), (3, .ref v3), (4, .ref v4), (5, .ref v5), (6, .ref v6), (7, .ref v7), (8, .ref v8), (9, .ref v9), (10, .ref v10), (11, .long v11), (13, .long v13), (15, .long v15), (17, .int v17), (18, .int v18), (19, .int v19), (20, .int v20), (21, .int v21), (22, .int v22)] → W p l e room_1 s m #[Value.ref b] below meth c H locs nc ns (lw_Z below #[Value.ref b] s) (F0 m 281 ls [])) (s0 : Int32) (s1 : Int32) (s2 : Int32) (v1 : Nat) (v2 : Nat) (v3 : Nat) (v4 : Nat) (v5 : Nat) (v6 : Nat) (v7 : Nat) (v8 : Nat) (v9 : Nat) (v10 : Nat) (v11 : Int64) (v13 : Int64) (v15 : Int64) (v17 : Int32) (v18 : Int32) (v19 : Int32) (v20 : Int32) (v21 : Int32) (v22 : Int32) (v23 : Int32) (v24 : Int32) (v27 : Int32) (v28 : Int32) (M N : Mem) (nc ns : Nat) (H : Heap) (locs : List Loc) (ls : Array Slot) (hf : f_L_law_b443 L xs k281 s0 s1 s2 v1 v2 v3 v4 v5 v6 v7 v8 v9 v10 v11 v13 v15 v17 v18 v19 v20 v21 v22 v23 v24 v27 v28 M N nc ns = some (1 : Int32)) (hR : H2 D ca s M N H locs) (hl : lv_has ls 34 [(0, .ref b), (1, .ref v1), (2, .ref v2), (3, .ref v3), (4, .ref v4), (5, .ref v5), (6, .ref v6), (7, .ref v7), (8, .ref v8), (9, .ref v9), (10, .ref v10), (11, .long v11), (13, .long v13), (15, .long v15), (17, .int v17), (18, .int v18), (19, .int v19), (20, .int v20), (21, .int v21), (22, .int v22), (23, .int v23), (24, .int v24), (27, .int v27), (28, .int v28)]) : W p l e room_1 s m #[Value.ref b] below meth c H locs nc ns (lw_Z below #[Value.ref b] s) (F0 m 443 ls [.int s0, .int s1, .int s2]) := by
  obtain ⟨hx, hb, hC, hlt, hXs, hbl, hret, hL⟩ := id X
  have hts : ∀ w ∈ aw, w.before #[Value.ref b] s = true := hC.2.2.2.1
  have hown := hC.2.2.2.2.1
  have hK := hC.2.2.2.2.2.2.1.1
  have hA : ∀ q : Nat, s.heap.size ≤ q → (fun q : Nat => s.heap.size ≤ q) q := fun _ h => h
  unfold f_L_law_b443 at hf
  obtain ⟨hrm0, hf⟩ := gd_e hf
  refine rq_I (pc := 443) hf hR hA (fun z hz => rn_S (As := [.int s1, .int s0]) (rest := [.int s2]) hC ⟨hR.2.1, hR.2.2.2⟩ (c_L_low hz _) m_535 m_536 m_0 m_537 hd_L_low ⟨rfl, rfl, Nat.le_of_ble_eq_true rfl, Nat.le_of_ble_eq_true rfl⟩ rfl hl.1 rfl (Nat.le_of_ble_eq_true rfl) dL_law_443 hrm0) (fun z128 H locs hf hR => ?_)
  refine lv_iadd (pc := 446) hx hb dL_law_446 ?_
  refine nm_i hf (fun x129 hf => ?_)
  refine lv_istore (pc := 447) (lv' := [(29, .int x129), (0, .ref b), (1, .ref v1), (2, .ref v2), (3, .ref v3), (4, .ref v4), (5, .ref v5), (6, .ref v6), (7, .ref v7), (8, .ref v8), (9, .ref v9), (10, .ref v10), (11, .long v11), (13, .long v13), (15, .long v15), (17, .int v17), (18, .int v18), (19, .int v19), (20, .int v20), (21, .int v21), (22, .int v22), (23, .int v23), (24, .int v24), (27, .int v27), (28, .int v28)]) hx hb dL_law_447 hl (by decide) rfl (fun ls hl => ?_)
  refine lv_iload (pc := 449) hx hb dL_law_449 (lv_at hl 21 rfl) ?_
  refine lv_bipush (pc := 451) (v := (7 : Int32)) hx hb dL_law_451 (by decide) ?_
  refine lv_ishr (pc := 453) hx hb dL_law_453 ?_
  refine lv_bipush (pc := 454) (v := (100 : Int32)) hx hb dL_law_454 (by decide) ?_
  obtain ⟨hrm0, hf⟩ := gd_e hf
  refine rq_I (pc := 456) hf hR hA (fun z hz => rn_S (As := [.int (v23 >>> ((7 : Int32) &&& 31)), .int (100 : Int32)]) (rest := []) hC ⟨hR.2.1, hR.2.2.2⟩ (c_L_low hz _) m_535 m_536 m_0 m_537 hd_L_low ⟨rfl, rfl, Nat.le_of_ble_eq_true rfl, Nat.le_of_ble_eq_true rfl⟩ rfl hl.1 rfl (Nat.le_of_ble_eq_true rfl) dL_law_456 hrm0) (fun z130 H locs hf hR => ?_)
  refine lv_istore (pc := 459) (lv' := [(30, .int z130.2), (29, .int x129), (0, .ref b), (1, .ref v1), (2, .ref v2), (3, .ref v3), (4, .ref v4), (5, .ref v5), (6, .ref v6), (7, .ref v7), (8, .ref v8), (9, .ref v9), (10, .ref v10), (11, .long v11), (13, .long v13), (15, .long v15), (17, .int v17), (18, .int v18), (19, .int v19), (20, .int v20), (21, .int v21), (22, .int v22), (23, .int v23), (24, .int v24), (27, .int v27), (28, .int v28)]) hx hb dL_law_459 hl (by decide) rfl (fun ls hl => ?_)
  refine lv_aload_n (pc := 461) hx hb dL_law_461 rfl (lv_at hl 3 rfl) ?_
  refine lv_iload (pc := 462) hx hb dL_law_462 (lv_at hl 24 rfl) ?_
  refine lv_iload (pc := 464) hx hb dL_law_464 (lv_at hl 25 rfl) ?_
  refine lv_iload (pc := 466) hx hb dL_law_466 (lv_at hl 1 rfl) ?_
  refine lv_iload (pc := 468) hx hb dL_law_468 (lv_at hl 0 rfl) ?_
  obtain ⟨hq, hf⟩ := gd_e hf
  obtain ⟨hrm, hf⟩ := gd_e hf
  refine rq_xI (pc := 470) hf hR hA (fun z hz => xn_V (κ := 7) (As := [.int v27, .int v28, .int x129, .int z130.2]) (rest := []) hC ⟨hR.1, hR.2.2.2⟩ rfl (by decide) hq (c_X7_grain hlt hz _) m_251 m_252 m_253 m_1 m_254 hd_X7_grain ⟨rfl, rfl, Nat.le_of_ble_eq_true rfl, Nat.le_of_ble_eq_true rfl⟩ rfl hl.1 rfl (Nat.le_of_ble_eq_true rfl) dL_law_470 hrm) (fun M131 x132 H locs hf hR => ?_)
  refine lv_iload (pc := 473) hx hb dL_law_473 (lv_at hl 16 rfl) ?_
  refine lv_icmp_eq (pc := 475) (tgt := 480) hx hb dL_law_475 (by decide) (fun hc => ?_) (fun hc => ?_)
  · replace hf := it_t hf hc
    refine lv_aload_n (pc := 480) hx hb dL_law_480 rfl (lv_at hl 4 rfl) ?_
    refine lv_iload (pc := 481) hx hb dL_law_481 (lv_at hl 16 rfl) ?_
    refine lv_iload (pc := 483) hx hb dL_law_483 (lv_at hl 24 rfl) ?_
    refine rq_iast (pc := 485) hx hb hK hR dL_law_485 hf (fun N133 H locs hf hR => ?_)
    refine lv_aload_n (pc := 486) hx hb dL_law_486 rfl (lv_at hl 5 rfl) ?_
    refine lv_iload (pc := 487) hx hb dL_law_487 (lv_at hl 16 rfl) ?_
    refine lv_iload (pc := 489) hx hb dL_law_489 (lv_at hl 25 rfl) ?_
    refine rq_iast (pc := 491) hx hb hK hR dL_law_491 hf (fun N134 H locs hf hR => ?_)
    refine lv_aload (pc := 492) hx hb dL_law_492 (lv_at hl 6 rfl) ?_
    refine lv_iload (pc := 494) hx hb dL_law_494 (lv_at hl 16 rfl) ?_
    refine lv_iload (pc := 496) hx hb dL_law_496 (lv_at hl 1 rfl) ?_
    refine rq_iast (pc := 498) hx hb hK hR dL_law_498 hf (fun N135 H locs hf hR => ?_)
    refine lv_aload (pc := 499) hx hb dL_law_499 (lv_at hl 7 rfl) ?_
    refine lv_iload (pc := 501) hx hb dL_law_501 (lv_at hl 16 rfl) ?_
    refine lv_iload (pc := 503) hx hb dL_law_503 (lv_at hl 0 rfl) ?_
    refine rq_iast (pc := 505) hx hb hK hR dL_law_505 hf (fun N136 H locs hf hR => ?_)
    refine lv_aload (pc := 506) hx hb dL_law_506 (lv_at hl 9 rfl) ?_
    refine lv_iload (pc := 508) hx hb dL_law_508 (lv_at hl 16 rfl) ?_
    refine lv_iconst (pc := 510) (v := (1 : Int32)) hx hb dL_law_510 (by decide) ?_
    refine rq_iast (pc := 511) hx hb hK hR dL_law_511 hf (fun N137 H locs hf hR => ?_)
    refine lv_lload (pc := 512) hx hb dL_law_512 (lv_at hl 15 rfl) ?_
    refine lv_aload_n (pc := 514) hx hb dL_law_514 rfl (lv_at hl 4 rfl) ?_
    refine lv_aload (pc := 515) hx hb dL_law_515 (lv_at hl 6 rfl) ?_
    refine lv_iload (pc := 517) hx hb dL_law_517 (lv_at hl 16 rfl) ?_
    obtain ⟨hrm0, hf⟩ := gd_e hf
    refine rq_L (pc := 519) hf hR hA (fun z hz => rn_S (As := [.ref v2, .ref v4, .int v17]) (rest := [.long v15]) hC ⟨hR.2.1, hR.2.2.2⟩ (c_L_moment hz _) m_549 m_550 m_0 m_551 hd_L_moment ⟨rfl, rfl, Nat.le_of_ble_eq_true rfl, Nat.le_of_ble_eq_true rfl⟩ rfl hl.1 rfl (Nat.le_of_ble_eq_true rfl) dL_law_519 hrm0) (fun z138 H locs hf hR => ?_)
    refine lv_ladd (pc := 522) hx hb dL_law_522 ?_
    refine nm_l hf (fun x139 hf => ?_)
    refine lv_lstore (pc := 523) (lv' := [(15, .long x139), (30, .int z130.2), (29, .int x129), (0, .ref b), (1, .ref v1), (2, .ref v2), (3, .ref v3), (4, .ref v4), (5, .ref v5), (6, .ref v6), (7, .ref v7), (8, .ref v8), (9, .ref v9), (10, .ref v10), (11, .long v11), (13, .long v13), (17, .int v17), (18, .int v18), (19, .int v19), (20, .int v20), (21, .int v21), (22, .int v22), (23, .int v23), (24, .int v24), (27, .int v27), (28, .int v28)]) hx hb dL_law_523 hl (by decide) rfl (fun ls hl => ?_)
    refine rg_iinc (pc := 525) hx hb dL_law_525 hl (k := 16) rfl rfl (by decide) hf (fun x140 ls hf hl => ?_)
    have hl : lv_has ls 34 [(17, .int x140), (15, .long x139), (30, .int z130.2), (29, .int x129), (0, .ref b), (1, .ref v1), (2, .ref v2), (3, .ref v3), (4, .ref v4), (5, .ref v5), (6, .ref v6), (7, .ref v7), (8, .ref v8), (9, .ref v9), (10, .ref v10), (11, .long v11), (13, .long v13), (18, .int v18), (19, .int v19), (20, .int v20), (21, .int v21), (22, .int v22), (23, .int v23), (24, .int v24), (27, .int v27), (28, .int v28)] := hl
    refine lv_goto (pc := 528) (tgt := 1632) hx hb dL_law_528 (by decide) ?_
    exact b_law_1632 X k281 hk281 v1 v2 v3 v4 v5 v6 v7 v8 v9 v10 v11 v13 x139 x140 v18 v19 v20 v21 v22 v24 M131 z138.1 (nc + 5) (ns + 30) _ _ _ hf hR (lv_sub hl [4, 5, 6, 7, 8, 9, 10, 11, 12, 13, 14, 15, 16, 1, 0, 17, 18, 19, 20, 21, 23] rfl)
  · replace hf := it_f hf hc
    exact nomatch hf
set_option maxHeartbeats 8000000 in
set_option maxRecDepth 100000 in
theorem b_law_417 (X : LX p l s m meth c D ca b L xs) (k281 : Nat → Nat → Nat → Nat → Nat → Nat → Nat → Nat → Nat → Nat → Int64 → Int64 → Int64 → Int32 → Int32 → Int32 → Int32 → Int32 → Int32 → Mem → Mem → Nat → Nat → Option Int32) (hk281 : ∀ (v1 : Nat) (v2 : Nat) (v3 : Nat) (v4 : Nat) (v5 : Nat) (v6 : Nat) (v7 : Nat) (v8 : Nat) (v9 : Nat) (v10 : Nat) (v11 : Int64) (v13 : Int64) (v15 : Int64) (v17 : Int32) (v18 : Int32) (v19 : Int32) (v20 : Int32) (v21 : Int32) (v22 : Int32) (M N : Mem) (nc ns : Nat) (H : Heap) (locs : List Loc) (ls : Array Slot), k281 v1 v2 v3 v4 v5 v6 v7 v8 v9 v10 v11 v13 v15 v17 v18 v19 v20 v21 v22 M N nc ns = some (1 : Int32) → H2 D ca s M N H locs → lv_has ls 34 [(0, .ref b), (1, .ref v1), (2, .ref v2), (3, .ref v3), (4, .ref v4), (5, .ref v5), (6, .ref v6), (7, .ref v7), (8, .ref v8), (9, .ref v9), (10, .ref v10), (11, .long v11), (13, .long v13), (15, .long v15), (17, .int v17), (18, .int v18), (19, .int v19), (20, .int v20), (21, .int v21), (22, .int v22)] → W p l e room_1 s m #[Value.ref b] below meth c H locs nc ns (lw_Z below #[Value.ref b] s) (F0 m 281 ls [])) (s0 : Int32) (v1 : Nat) (v2 : Nat) (v3 : Nat) (v4 : Nat) (v5 : Nat) (v6 : Nat) (v7 : Nat) (v8 : Nat) (v9 : Nat) (v10 : Nat) (v11 : Int64) (v13 : Int64) (v15 : Int64) (v17 : Int32) (v18 : Int32) (v19 : Int32) (v20 : Int32) (v21 : Int32) (v22 : Int32) (v23 : Int32) (v24 : Int32) (v27 : Int32) (M N : Mem) (nc ns : Nat) (H : Heap) (locs : List Loc) (ls : Array Slot) (hf : f_L_law_b417 L xs k281 s0 v1 v2 v3 v4 v5 v6 v7 v8 v9 v10 v11 v13 v15 v17 v18 v19 v20 v21 v22 v23 v24 v27 M N nc ns = some (1 : Int32)) (hR : H2 D ca s M N H locs) (hl : lv_has ls 34 [(0, .ref b), (1, .ref v1), (2, .ref v2), (3, .ref v3), (4, .ref v4), (5, .ref v5), (6, .ref v6), (7, .ref v7), (8, .ref v8), (9, .ref v9), (10, .ref v10), (11, .long v11), (13, .long v13), (15, .long v15), (17, .int v17), (18, .int v18), (19, .int v19), (20, .int v20), (21, .int v21), (22, .int v22), (23, .int v23), (24, .int v24), (27, .int v27)]) : W p l e room_1 s m #[Value.ref b] below meth c H locs nc ns (lw_Z below #[Value.ref b] s) (F0 m 417 ls [.int s0]) := by
  obtain ⟨hx, hb, hC, hlt, hXs, hbl, hret, hL⟩ := id X
  have hts : ∀ w ∈ aw, w.before #[Value.ref b] s = true := hC.2.2.2.1
  have hown := hC.2.2.2.2.1
  have hK := hC.2.2.2.2.2.2.1.1
  have hA : ∀ q : Nat, s.heap.size ≤ q → (fun q : Nat => s.heap.size ≤ q) q := fun _ h => h
  unfold f_L_law_b417 at hf
  refine lv_istore (pc := 417) (lv' := [(28, .int s0), (0, .ref b), (1, .ref v1), (2, .ref v2), (3, .ref v3), (4, .ref v4), (5, .ref v5), (6, .ref v6), (7, .ref v7), (8, .ref v8), (9, .ref v9), (10, .ref v10), (11, .long v11), (13, .long v13), (15, .long v15), (17, .int v17), (18, .int v18), (19, .int v19), (20, .int v20), (21, .int v21), (22, .int v22), (23, .int v23), (24, .int v24), (27, .int v27)]) hx hb dL_law_417 hl (by decide) rfl (fun ls hl => ?_)
  refine lv_iconst (pc := 419) (v := (1 : Int32)) hx hb dL_law_419 (by decide) ?_
  refine lv_iload (pc := 420) hx hb dL_law_420 (lv_at hl 22 rfl) ?_
  refine lv_bipush (pc := 422) (v := (13 : Int32)) hx hb dL_law_422 (by decide) ?_
  refine lv_ishr (pc := 424) hx hb dL_law_424 ?_
  refine lv_iload (pc := 425) hx hb dL_law_425 (lv_at hl 21 rfl) ?_
  refine lv_iconst (pc := 427) (v := (5 : Int32)) hx hb dL_law_427 (by decide) ?_
  refine lv_ishr (pc := 428) hx hb dL_law_428 ?_
  refine lv_iconst (pc := 429) (v := (2 : Int32)) hx hb dL_law_429 (by decide) ?_
  obtain ⟨hrm0, hf⟩ := gd_e hf
  refine rq_I (pc := 430) hf hR hA (fun z hz => rn_S (As := [.int (v23 >>> ((5 : Int32) &&& 31)), .int (2 : Int32)]) (rest := [.int (v24 >>> ((13 : Int32) &&& 31)), .int (1 : Int32)]) hC ⟨hR.2.1, hR.2.2.2⟩ (c_L_low hz _) m_535 m_536 m_0 m_537 hd_L_low ⟨rfl, rfl, Nat.le_of_ble_eq_true rfl, Nat.le_of_ble_eq_true rfl⟩ rfl hl.1 rfl (Nat.le_of_ble_eq_true rfl) dL_law_430 hrm0) (fun z141 H locs hf hR => ?_)
  refine lv_if_ne (pc := 433) (tgt := 440) hx hb dL_law_433 (by decide) (fun hc => ?_) (fun hc => ?_)
  · replace hf := it_f hf hc
    refine lv_sipush (pc := 440) (v := (10000 : Int32)) hx hb dL_law_440 (by decide) ?_
    exact b_law_443 X k281 hk281 (10000 : Int32) (v24 >>> ((13 : Int32) &&& 31)) (1 : Int32) v1 v2 v3 v4 v5 v6 v7 v8 v9 v10 v11 v13 v15 v17 v18 v19 v20 v21 v22 v23 v24 v27 s0 M z141.1 nc ns _ _ _ hf hR (lv_sub hl [1, 2, 3, 4, 5, 6, 7, 8, 9, 10, 11, 12, 13, 14, 15, 16, 17, 18, 19, 20, 21, 22, 23, 0] rfl)
  · replace hf := it_t hf hc
    refine lv_iconst (pc := 436) (v := (5 : Int32)) hx hb dL_law_436 (by decide) ?_
    refine lv_goto (pc := 437) (tgt := 443) hx hb dL_law_437 (by decide) ?_
    exact b_law_443 X k281 hk281 (5 : Int32) (v24 >>> ((13 : Int32) &&& 31)) (1 : Int32) v1 v2 v3 v4 v5 v6 v7 v8 v9 v10 v11 v13 v15 v17 v18 v19 v20 v21 v22 v23 v24 v27 s0 M z141.1 nc ns _ _ _ hf hR (lv_sub hl [1, 2, 3, 4, 5, 6, 7, 8, 9, 10, 11, 12, 13, 14, 15, 16, 17, 18, 19, 20, 21, 22, 23, 0] rfl)
set_option maxHeartbeats 8000000 in
set_option maxRecDepth 100000 in
theorem b_law_380 (X : LX p l s m meth c D ca b L xs) (k281 : Nat → Nat → Nat → Nat → Nat → Nat → Nat → Nat → Nat → Nat → Int64 → Int64 → Int64 → Int32 → Int32 → Int32 → Int32 → Int32 → Int32 → Mem → Mem → Nat → Nat → Option Int32) (hk281 : ∀ (v1 : Nat) (v2 : Nat) (v3 : Nat) (v4 : Nat) (v5 : Nat) (v6 : Nat) (v7 : Nat) (v8 : Nat) (v9 : Nat) (v10 : Nat) (v11 : Int64) (v13 : Int64) (v15 : Int64) (v17 : Int32) (v18 : Int32) (v19 : Int32) (v20 : Int32) (v21 : Int32) (v22 : Int32) (M N : Mem) (nc ns : Nat) (H : Heap) (locs : List Loc) (ls : Array Slot), k281 v1 v2 v3 v4 v5 v6 v7 v8 v9 v10 v11 v13 v15 v17 v18 v19 v20 v21 v22 M N nc ns = some (1 : Int32) → H2 D ca s M N H locs → lv_has ls 34 [(0, .ref b), (1, .ref v1), (2, .ref v2), (3, .ref v3), (4, .ref v4), (5, .ref v5), (6, .ref v6), (7, .ref v7), (8, .ref v8), (9, .ref v9), (10, .ref v10), (11, .long v11), (13, .long v13), (15, .long v15), (17, .int v17), (18, .int v18), (19, .int v19), (20, .int v20), (21, .int v21), (22, .int v22)] → W p l e room_1 s m #[Value.ref b] below meth c H locs nc ns (lw_Z below #[Value.ref b] s) (F0 m 281 ls [])) (s0 : Int32) (v1 : Nat) (v2 : Nat) (v3 : Nat) (v4 : Nat) (v5 : Nat) (v6 : Nat) (v7 : Nat) (v8 : Nat) (v9 : Nat) (v10 : Nat) (v11 : Int64) (v13 : Int64) (v15 : Int64) (v17 : Int32) (v18 : Int32) (v19 : Int32) (v20 : Int32) (v21 : Int32) (v22 : Int32) (v23 : Int32) (v24 : Int32) (v26 : Int32) (M N : Mem) (nc ns : Nat) (H : Heap) (locs : List Loc) (ls : Array Slot) (hf : f_L_law_b380 L xs k281 s0 v1 v2 v3 v4 v5 v6 v7 v8 v9 v10 v11 v13 v15 v17 v18 v19 v20 v21 v22 v23 v24 v26 M N nc ns = some (1 : Int32)) (hR : H2 D ca s M N H locs) (hl : lv_has ls 34 [(0, .ref b), (1, .ref v1), (2, .ref v2), (3, .ref v3), (4, .ref v4), (5, .ref v5), (6, .ref v6), (7, .ref v7), (8, .ref v8), (9, .ref v9), (10, .ref v10), (11, .long v11), (13, .long v13), (15, .long v15), (17, .int v17), (18, .int v18), (19, .int v19), (20, .int v20), (21, .int v21), (22, .int v22), (23, .int v23), (24, .int v24), (26, .int v26)]) : W p l e room_1 s m #[Value.ref b] below meth c H locs nc ns (lw_Z below #[Value.ref b] s) (F0 m 380 ls [.int s0]) := by
  obtain ⟨hx, hb, hC, hlt, hXs, hbl, hret, hL⟩ := id X
  have hts : ∀ w ∈ aw, w.before #[Value.ref b] s = true := hC.2.2.2.1
  have hown := hC.2.2.2.2.1
  have hK := hC.2.2.2.2.2.2.1.1
  have hA : ∀ q : Nat, s.heap.size ≤ q → (fun q : Nat => s.heap.size ≤ q) q := fun _ h => h
  unfold f_L_law_b380 at hf
  refine lv_istore (pc := 380) (lv' := [(27, .int s0), (0, .ref b), (1, .ref v1), (2, .ref v2), (3, .ref v3), (4, .ref v4), (5, .ref v5), (6, .ref v6), (7, .ref v7), (8, .ref v8), (9, .ref v9), (10, .ref v10), (11, .long v11), (13, .long v13), (15, .long v15), (17, .int v17), (18, .int v18), (19, .int v19), (20, .int v20), (21, .int v21), (22, .int v22), (23, .int v23), (24, .int v24), (26, .int v26)]) hx hb dL_law_380 hl (by decide) rfl (fun ls hl => ?_)
  refine lv_iload (pc := 382) hx hb dL_law_382 (lv_at hl 23 rfl) ?_
  refine lv_if_ne (pc := 384) (tgt := 400) hx hb dL_law_384 (by decide) (fun hc => ?_) (fun hc => ?_)
  · replace hf := it_f hf hc
    refine lv_iload (pc := 400) hx hb dL_law_400 (lv_at hl 18 rfl) ?_
    refine lv_iload (pc := 402) hx hb dL_law_402 (lv_at hl 22 rfl) ?_
    refine lv_bipush (pc := 404) (v := (6 : Int32)) hx hb dL_law_404 (by decide) ?_
    refine lv_ishr (pc := 406) hx hb dL_law_406 ?_
    refine lv_sipush (pc := 407) (v := (150 : Int32)) hx hb dL_law_407 (by decide) ?_
    obtain ⟨hrm0, hf⟩ := gd_e hf
    refine rq_I (pc := 410) hf hR hA (fun z hz => rn_S (As := [.int (v24 >>> ((6 : Int32) &&& 31)), .int (150 : Int32)]) (rest := [.int v20]) hC ⟨hR.2.1, hR.2.2.2⟩ (c_L_low hz _) m_535 m_536 m_0 m_537 hd_L_low ⟨rfl, rfl, Nat.le_of_ble_eq_true rfl, Nat.le_of_ble_eq_true rfl⟩ rfl hl.1 rfl (Nat.le_of_ble_eq_true rfl) dL_law_410 hrm0) (fun z142 H locs hf hR => ?_)
    refine lv_iadd (pc := 413) hx hb dL_law_413 ?_
    refine lv_ldc (pc := 414) hx hb hown (hts _ m_542) dL_law_414 ?_
    refine lv_irem (pc := 416) hx hb dL_law_416 (by decide) ?_
    exact b_law_417 X k281 hk281 ((v20 + z142.2) - (v20 + z142.2) / (36000 : Int32) * (36000 : Int32)) v1 v2 v3 v4 v5 v6 v7 v8 v9 v10 v11 v13 v15 v17 v18 v19 v20 v21 v22 v23 v24 s0 M z142.1 nc ns _ _ _ hf hR (lv_sub hl [1, 2, 3, 4, 5, 6, 7, 8, 9, 10, 11, 12, 13, 14, 15, 16, 17, 18, 19, 20, 21, 22, 0] rfl)
  · replace hf := it_t hf hc
    refine lv_iload (pc := 387) hx hb dL_law_387 (lv_at hl 22 rfl) ?_
    refine lv_bipush (pc := 389) (v := (6 : Int32)) hx hb dL_law_389 (by decide) ?_
    refine lv_ishr (pc := 391) hx hb dL_law_391 ?_
    refine lv_ldc (pc := 392) hx hb hown (hts _ m_542) dL_law_392 ?_
    obtain ⟨hrm0, hf⟩ := gd_e hf
    refine rq_I (pc := 394) hf hR hA (fun z hz => rn_S (As := [.int (v24 >>> ((6 : Int32) &&& 31)), .int (36000 : Int32)]) (rest := []) hC ⟨hR.2.1, hR.2.2.2⟩ (c_L_low hz _) m_535 m_536 m_0 m_537 hd_L_low ⟨rfl, rfl, Nat.le_of_ble_eq_true rfl, Nat.le_of_ble_eq_true rfl⟩ rfl hl.1 rfl (Nat.le_of_ble_eq_true rfl) dL_law_394 hrm0) (fun z143 H locs hf hR => ?_)
    refine lv_goto (pc := 397) (tgt := 417) hx hb dL_law_397 (by decide) ?_
    exact b_law_417 X k281 hk281 z143.2 v1 v2 v3 v4 v5 v6 v7 v8 v9 v10 v11 v13 v15 v17 v18 v19 v20 v21 v22 v23 v24 s0 M z143.1 nc ns _ _ _ hf hR (lv_sub hl [1, 2, 3, 4, 5, 6, 7, 8, 9, 10, 11, 12, 13, 14, 15, 16, 17, 18, 19, 20, 21, 22, 0] rfl)
set_option maxHeartbeats 8000000 in
set_option maxRecDepth 100000 in
theorem b_law_343 (X : LX p l s m meth c D ca b L xs) (k281 : Nat → Nat → Nat → Nat → Nat → Nat → Nat → Nat → Nat → Nat → Int64 → Int64 → Int64 → Int32 → Int32 → Int32 → Int32 → Int32 → Int32 → Mem → Mem → Nat → Nat → Option Int32) (hk281 : ∀ (v1 : Nat) (v2 : Nat) (v3 : Nat) (v4 : Nat) (v5 : Nat) (v6 : Nat) (v7 : Nat) (v8 : Nat) (v9 : Nat) (v10 : Nat) (v11 : Int64) (v13 : Int64) (v15 : Int64) (v17 : Int32) (v18 : Int32) (v19 : Int32) (v20 : Int32) (v21 : Int32) (v22 : Int32) (M N : Mem) (nc ns : Nat) (H : Heap) (locs : List Loc) (ls : Array Slot), k281 v1 v2 v3 v4 v5 v6 v7 v8 v9 v10 v11 v13 v15 v17 v18 v19 v20 v21 v22 M N nc ns = some (1 : Int32) → H2 D ca s M N H locs → lv_has ls 34 [(0, .ref b), (1, .ref v1), (2, .ref v2), (3, .ref v3), (4, .ref v4), (5, .ref v5), (6, .ref v6), (7, .ref v7), (8, .ref v8), (9, .ref v9), (10, .ref v10), (11, .long v11), (13, .long v13), (15, .long v15), (17, .int v17), (18, .int v18), (19, .int v19), (20, .int v20), (21, .int v21), (22, .int v22)] → W p l e room_1 s m #[Value.ref b] below meth c H locs nc ns (lw_Z below #[Value.ref b] s) (F0 m 281 ls [])) (v1 : Nat) (v2 : Nat) (v3 : Nat) (v4 : Nat) (v5 : Nat) (v6 : Nat) (v7 : Nat) (v8 : Nat) (v9 : Nat) (v10 : Nat) (v11 : Int64) (v13 : Int64) (v15 : Int64) (v17 : Int32) (v18 : Int32) (v19 : Int32) (v20 : Int32) (v21 : Int32) (v22 : Int32) (v23 : Int32) (v24 : Int32) (M N : Mem) (nc ns : Nat) (H : Heap) (locs : List Loc) (ls : Array Slot) (hf : f_L_law_b343 L xs k281 v1 v2 v3 v4 v5 v6 v7 v8 v9 v10 v11 v13 v15 v17 v18 v19 v20 v21 v22 v23 v24 M N nc ns = some (1 : Int32)) (hR : H2 D ca s M N H locs) (hl : lv_has ls 34 [(0, .ref b), (1, .ref v1), (2, .ref v2), (3, .ref v3), (4, .ref v4), (5, .ref v5), (6, .ref v6), (7, .ref v7), (8, .ref v8), (9, .ref v9), (10, .ref v10), (11, .long v11), (13, .long v13), (15, .long v15), (17, .int v17), (18, .int v18), (19, .int v19), (20, .int v20), (21, .int v21), (22, .int v22), (23, .int v23), (24, .int v24)]) : W p l e room_1 s m #[Value.ref b] below meth c H locs nc ns (lw_Z below #[Value.ref b] s) (F0 m 343 ls []) := by
  obtain ⟨hx, hb, hC, hlt, hXs, hbl, hret, hL⟩ := id X
  have hts : ∀ w ∈ aw, w.before #[Value.ref b] s = true := hC.2.2.2.1
  have hown := hC.2.2.2.2.1
  have hK := hC.2.2.2.2.2.2.1.1
  have hA : ∀ q : Nat, s.heap.size ≤ q → (fun q : Nat => s.heap.size ≤ q) q := fun _ h => h
  unfold f_L_law_b343 at hf
  refine lv_iload (pc := 343) hx hb dL_law_343 (lv_at hl 20 rfl) ?_
  refine lv_iconst (pc := 345) (v := (3 : Int32)) hx hb dL_law_345 (by decide) ?_
  refine lv_ishr (pc := 346) hx hb dL_law_346 ?_
  refine lv_iconst (pc := 347) (v := (4 : Int32)) hx hb dL_law_347 (by decide) ?_
  obtain ⟨hrm0, hf⟩ := gd_e hf
  refine rq_I (pc := 348) hf hR hA (fun z hz => rn_S (As := [.int (v23 >>> ((3 : Int32) &&& 31)), .int (4 : Int32)]) (rest := []) hC ⟨hR.2.1, hR.2.2.2⟩ (c_L_low hz _) m_535 m_536 m_0 m_537 hd_L_low ⟨rfl, rfl, Nat.le_of_ble_eq_true rfl, Nat.le_of_ble_eq_true rfl⟩ rfl hl.1 rfl (Nat.le_of_ble_eq_true rfl) dL_law_348 hrm0) (fun z144 H locs hf hR => ?_)
  refine lv_istore (pc := 351) (lv' := [(26, .int z144.2), (0, .ref b), (1, .ref v1), (2, .ref v2), (3, .ref v3), (4, .ref v4), (5, .ref v5), (6, .ref v6), (7, .ref v7), (8, .ref v8), (9, .ref v9), (10, .ref v10), (11, .long v11), (13, .long v13), (15, .long v15), (17, .int v17), (18, .int v18), (19, .int v19), (20, .int v20), (21, .int v21), (22, .int v22), (23, .int v23), (24, .int v24)]) hx hb dL_law_351 hl (by decide) rfl (fun ls hl => ?_)
  refine lv_iload (pc := 353) hx hb dL_law_353 (lv_at hl 0 rfl) ?_
  refine lv_if_ne (pc := 355) (tgt := 368) hx hb dL_law_355 (by decide) (fun hc => ?_) (fun hc => ?_)
  · replace hf := it_f hf hc
    refine lv_iload (pc := 368) hx hb dL_law_368 (lv_at hl 19 rfl) ?_
    refine lv_iload (pc := 370) hx hb dL_law_370 (lv_at hl 22 rfl) ?_
    refine lv_iconst (pc := 372) (v := (4 : Int32)) hx hb dL_law_372 (by decide) ?_
    obtain ⟨hrm0, hf⟩ := gd_e hf
    refine rq_I (pc := 373) hf hR hA (fun z hz => rn_S (As := [.int v24, .int (4 : Int32)]) (rest := [.int v21]) hC ⟨hR.2.1, hR.2.2.2⟩ (c_L_low hz _) m_535 m_536 m_0 m_537 hd_L_low ⟨rfl, rfl, Nat.le_of_ble_eq_true rfl, Nat.le_of_ble_eq_true rfl⟩ rfl hl.1 rfl (Nat.le_of_ble_eq_true rfl) dL_law_373 hrm0) (fun z145 H locs hf hR => ?_)
    refine lv_iadd (pc := 376) hx hb dL_law_376 ?_
    refine lv_bipush (pc := 377) (v := (64 : Int32)) hx hb dL_law_377 (by decide) ?_
    refine lv_irem (pc := 379) hx hb dL_law_379 (by decide) ?_
    exact b_law_380 X k281 hk281 ((v21 + z145.2) - (v21 + z145.2) / (64 : Int32) * (64 : Int32)) v1 v2 v3 v4 v5 v6 v7 v8 v9 v10 v11 v13 v15 v17 v18 v19 v20 v21 v22 v23 v24 z144.2 M z145.1 nc ns _ _ _ hf hR (lv_sub hl [1, 2, 3, 4, 5, 6, 7, 8, 9, 10, 11, 12, 13, 14, 15, 16, 17, 18, 19, 20, 21, 22, 0] rfl)
  · replace hf := it_t hf hc
    refine lv_iload (pc := 358) hx hb dL_law_358 (lv_at hl 22 rfl) ?_
    refine lv_bipush (pc := 360) (v := (64 : Int32)) hx hb dL_law_360 (by decide) ?_
    obtain ⟨hrm0, hf⟩ := gd_e hf
    refine rq_I (pc := 362) hf hR hA (fun z hz => rn_S (As := [.int v24, .int (64 : Int32)]) (rest := []) hC ⟨hR.2.1, hR.2.2.2⟩ (c_L_low hz _) m_535 m_536 m_0 m_537 hd_L_low ⟨rfl, rfl, Nat.le_of_ble_eq_true rfl, Nat.le_of_ble_eq_true rfl⟩ rfl hl.1 rfl (Nat.le_of_ble_eq_true rfl) dL_law_362 hrm0) (fun z146 H locs hf hR => ?_)
    refine lv_goto (pc := 365) (tgt := 380) hx hb dL_law_365 (by decide) ?_
    exact b_law_380 X k281 hk281 z146.2 v1 v2 v3 v4 v5 v6 v7 v8 v9 v10 v11 v13 v15 v17 v18 v19 v20 v21 v22 v23 v24 z144.2 M z146.1 nc ns _ _ _ hf hR (lv_sub hl [1, 2, 3, 4, 5, 6, 7, 8, 9, 10, 11, 12, 13, 14, 15, 16, 17, 18, 19, 20, 21, 22, 0] rfl)
set_option maxHeartbeats 8000000 in
set_option maxRecDepth 100000 in
theorem b_law_338 (X : LX p l s m meth c D ca b L xs) (k281 : Nat → Nat → Nat → Nat → Nat → Nat → Nat → Nat → Nat → Nat → Int64 → Int64 → Int64 → Int32 → Int32 → Int32 → Int32 → Int32 → Int32 → Mem → Mem → Nat → Nat → Option Int32) (hk281 : ∀ (v1 : Nat) (v2 : Nat) (v3 : Nat) (v4 : Nat) (v5 : Nat) (v6 : Nat) (v7 : Nat) (v8 : Nat) (v9 : Nat) (v10 : Nat) (v11 : Int64) (v13 : Int64) (v15 : Int64) (v17 : Int32) (v18 : Int32) (v19 : Int32) (v20 : Int32) (v21 : Int32) (v22 : Int32) (M N : Mem) (nc ns : Nat) (H : Heap) (locs : List Loc) (ls : Array Slot), k281 v1 v2 v3 v4 v5 v6 v7 v8 v9 v10 v11 v13 v15 v17 v18 v19 v20 v21 v22 M N nc ns = some (1 : Int32) → H2 D ca s M N H locs → lv_has ls 34 [(0, .ref b), (1, .ref v1), (2, .ref v2), (3, .ref v3), (4, .ref v4), (5, .ref v5), (6, .ref v6), (7, .ref v7), (8, .ref v8), (9, .ref v9), (10, .ref v10), (11, .long v11), (13, .long v13), (15, .long v15), (17, .int v17), (18, .int v18), (19, .int v19), (20, .int v20), (21, .int v21), (22, .int v22)] → W p l e room_1 s m #[Value.ref b] below meth c H locs nc ns (lw_Z below #[Value.ref b] s) (F0 m 281 ls [])) (v1 : Nat) (v2 : Nat) (v3 : Nat) (v4 : Nat) (v5 : Nat) (v6 : Nat) (v7 : Nat) (v8 : Nat) (v9 : Nat) (v10 : Nat) (v11 : Int64) (v13 : Int64) (v15 : Int64) (v17 : Int32) (v18 : Int32) (v19 : Int32) (v20 : Int32) (v21 : Int32) (v22 : Int32) (v23 : Int32) (v24 : Int32) (v25 : Int32) (M N : Mem) (nc ns : Nat) (H : Heap) (locs : List Loc) (ls : Array Slot) (hf : f_L_law_b338 L xs k281 v1 v2 v3 v4 v5 v6 v7 v8 v9 v10 v11 v13 v15 v17 v18 v19 v20 v21 v22 v23 v24 v25 M N nc ns = some (1 : Int32)) (hR : H2 D ca s M N H locs) (hl : lv_has ls 34 [(0, .ref b), (1, .ref v1), (2, .ref v2), (3, .ref v3), (4, .ref v4), (5, .ref v5), (6, .ref v6), (7, .ref v7), (8, .ref v8), (9, .ref v9), (10, .ref v10), (11, .long v11), (13, .long v13), (15, .long v15), (17, .int v17), (18, .int v18), (19, .int v19), (20, .int v20), (21, .int v21), (22, .int v22), (23, .int v23), (24, .int v24), (25, .int v25)]) : W p l e room_1 s m #[Value.ref b] below meth c H locs nc ns (lw_Z below #[Value.ref b] s) (F0 m 338 ls []) := by
  obtain ⟨hx, hb, hC, hlt, hXs, hbl, hret, hL⟩ := id X
  have hts : ∀ w ∈ aw, w.before #[Value.ref b] s = true := hC.2.2.2.1
  have hown := hC.2.2.2.2.1
  have hK := hC.2.2.2.2.2.2.1.1
  have hA : ∀ q : Nat, s.heap.size ≤ q → (fun q : Nat => s.heap.size ≤ q) q := fun _ h => h
  unfold f_L_law_b338 at hf
  refine lv_iload (pc := 338) hx hb dL_law_338 (lv_at hl 14 rfl) ?_
  refine lv_if_ne (pc := 340) (tgt := 531) hx hb dL_law_340 (by decide) (fun hc => ?_) (fun hc => ?_)
  · replace hf := it_f hf hc
    refine lv_iload (pc := 531) hx hb dL_law_531 (lv_at hl 22 rfl) ?_
    refine lv_iconst (pc := 533) (v := (3 : Int32)) hx hb dL_law_533 (by decide) ?_
    refine lv_icmp_ne (pc := 534) (tgt := 632) hx hb dL_law_534 (by decide) (fun hc => ?_) (fun hc => ?_)
    · replace hf := it_f hf hc
      refine lv_aload_n (pc := 632) hx hb dL_law_632 rfl (lv_at hl 1 rfl) ?_
      refine lv_iconst (pc := 633) (v := (1 : Int32)) hx hb dL_law_633 (by decide) ?_
      obtain ⟨hq, hf⟩ := gd_e hf
      obtain ⟨hrm, hf⟩ := gd_e hf
      refine rq_xI (pc := 634) hf hR hA (fun z hz => xn_V (κ := 7) (As := [.int (1 : Int32)]) (rest := []) hC ⟨hR.1, hR.2.2.2⟩ rfl (by decide) hq (c_X7_tick hlt hz _) m_373 m_374 m_375 m_1 m_376 hd_X7_tick ⟨rfl, rfl, Nat.le_of_ble_eq_true rfl, Nat.le_of_ble_eq_true rfl⟩ rfl hl.1 rfl (Nat.le_of_ble_eq_true rfl) dL_law_634 hrm) (fun M147 x148 H locs hf hR => ?_)
      refine lv_iconst (pc := 637) (v := (1 : Int32)) hx hb dL_law_637 (by decide) ?_
      refine lv_icmp_ge (pc := 638) (tgt := 643) hx hb dL_law_638 (by decide) (fun hc => ?_) (fun hc => ?_)
      · replace hf := it_t hf hc
        refine lv_iconst (pc := 643) (v := (0 : Int32)) hx hb dL_law_643 (by decide) ?_
        refine lv_istore (pc := 644) (lv' := [(26, .int (0 : Int32)), (0, .ref b), (1, .ref v1), (2, .ref v2), (3, .ref v3), (4, .ref v4), (5, .ref v5), (6, .ref v6), (7, .ref v7), (8, .ref v8), (9, .ref v9), (10, .ref v10), (11, .long v11), (13, .long v13), (15, .long v15), (17, .int v17), (18, .int v18), (19, .int v19), (20, .int v20), (21, .int v21), (22, .int v22), (23, .int v23), (24, .int v24), (25, .int v25)]) hx hb dL_law_644 hl (by decide) rfl (fun ls hl => ?_)
        exact l_law_646 X k281 hk281 200 v1 v2 v3 v4 v5 v6 v7 v8 v9 v10 v11 v13 v15 v17 v18 v19 v20 v21 v22 v24 (0 : Int32) M147 N (nc + 2) (ns + 12) _ _ _ hf hR (lv_sub hl [1, 2, 3, 4, 5, 6, 7, 8, 9, 10, 11, 12, 13, 14, 15, 16, 17, 18, 19, 20, 22, 0] rfl)
      · replace hf := it_f hf hc
        exact nomatch hf
    · replace hf := it_t hf hc
      refine lv_aload (pc := 537) hx hb dL_law_537 (lv_at hl 9 rfl) ?_
      refine lv_bipush (pc := 539) (v := (6 : Int32)) hx hb dL_law_539 (by decide) ?_
      refine lv_iload (pc := 541) hx hb dL_law_541 (lv_at hl 21 rfl) ?_
      refine lv_sipush (pc := 543) (v := (1001 : Int32)) hx hb dL_law_543 (by decide) ?_
      obtain ⟨hrm0, hf⟩ := gd_e hf
      refine rq_I (pc := 546) hf hR hA (fun z hz => rn_S (As := [.int v24, .int (1001 : Int32)]) (rest := [.int (6 : Int32), .ref v9]) hC ⟨hR.2.1, hR.2.2.2⟩ (c_L_low hz _) m_535 m_536 m_0 m_537 hd_L_low ⟨rfl, rfl, Nat.le_of_ble_eq_true rfl, Nat.le_of_ble_eq_true rfl⟩ rfl hl.1 rfl (Nat.le_of_ble_eq_true rfl) dL_law_546 hrm0) (fun z149 H locs hf hR => ?_)
      refine rq_iast (pc := 549) hx hb hK hR dL_law_549 hf (fun N150 H locs hf hR => ?_)
      refine lv_aload_n (pc := 550) hx hb dL_law_550 rfl (lv_at hl 1 rfl) ?_
      refine lv_aload (pc := 551) hx hb dL_law_551 (lv_at hl 9 rfl) ?_
      refine lv_bipush (pc := 553) (v := (6 : Int32)) hx hb dL_law_553 (by decide) ?_
      refine rg_iald (pc := 555) hx hb hK ⟨hR.2.1, hR.2.2.2⟩ dL_law_555 hf (fun hf => ?_)
      obtain ⟨hq, hf⟩ := gd_e hf
      obtain ⟨hrm, hf⟩ := gd_e hf
      refine rq_xI (pc := 556) hf hR hA (fun z hz => xn_V (κ := 7) (As := [.int (mm_i N150 v9 ((6 : Int32)).toNatClampNeg)]) (rest := []) hC ⟨hR.1, hR.2.2.2⟩ rfl (by decide) hq (c_X7_flatness hlt hz _) m_365 m_366 m_367 m_1 m_368 hd_X7_flatness ⟨rfl, rfl, Nat.le_of_ble_eq_true rfl, Nat.le_of_ble_eq_true rfl⟩ rfl hl.1 rfl (Nat.le_of_ble_eq_true rfl) dL_law_556 hrm) (fun M151 x152 H locs hf hR => ?_)
      refine lv_pop (pc := 559) hx hb dL_law_559 rfl ?_
      refine lv_aload (pc := 560) hx hb dL_law_560 (lv_at hl 9 rfl) ?_
      refine lv_bipush (pc := 562) (v := (7 : Int32)) hx hb dL_law_562 (by decide) ?_
      refine lv_iload (pc := 564) hx hb dL_law_564 (lv_at hl 21 rfl) ?_
      refine lv_iconst (pc := 566) (v := (4 : Int32)) hx hb dL_law_566 (by decide) ?_
      refine lv_ishr (pc := 567) hx hb dL_law_567 ?_
      refine lv_bipush (pc := 568) (v := (120 : Int32)) hx hb dL_law_568 (by decide) ?_
      obtain ⟨hrm0, hf⟩ := gd_e hf
      refine rq_I (pc := 570) hf hR hA (fun z hz => rn_S (As := [.int (v24 >>> ((4 : Int32) &&& 31)), .int (120 : Int32)]) (rest := [.int (7 : Int32), .ref v9]) hC ⟨hR.2.1, hR.2.2.2⟩ (c_L_low hz _) m_535 m_536 m_0 m_537 hd_L_low ⟨rfl, rfl, Nat.le_of_ble_eq_true rfl, Nat.le_of_ble_eq_true rfl⟩ rfl hl.1 rfl (Nat.le_of_ble_eq_true rfl) dL_law_570 hrm0) (fun z153 H locs hf hR => ?_)
      refine rq_iast (pc := 573) hx hb hK hR dL_law_573 hf (fun N154 H locs hf hR => ?_)
      refine lv_aload (pc := 574) hx hb dL_law_574 (lv_at hl 9 rfl) ?_
      refine lv_bipush (pc := 576) (v := (8 : Int32)) hx hb dL_law_576 (by decide) ?_
      refine lv_aload (pc := 578) hx hb dL_law_578 (lv_at hl 9 rfl) ?_
      refine lv_bipush (pc := 580) (v := (7 : Int32)) hx hb dL_law_580 (by decide) ?_
      refine rg_iald (pc := 582) hx hb hK ⟨hR.2.1, hR.2.2.2⟩ dL_law_582 hf (fun hf => ?_)
      refine lv_iload (pc := 583) hx hb dL_law_583 (lv_at hl 21 rfl) ?_
      refine lv_bipush (pc := 585) (v := (11 : Int32)) hx hb dL_law_585 (by decide) ?_
      refine lv_ishr (pc := 587) hx hb dL_law_587 ?_
      refine lv_bipush (pc := 588) (v := (120 : Int32)) hx hb dL_law_588 (by decide) ?_
      obtain ⟨hrm0, hf⟩ := gd_e hf
      refine rq_I (pc := 590) hf hR hA (fun z hz => rn_S (As := [.int (v24 >>> ((11 : Int32) &&& 31)), .int (120 : Int32)]) (rest := [.int (mm_i N154 v9 ((7 : Int32)).toNatClampNeg), .int (8 : Int32), .ref v9]) hC ⟨hR.2.1, hR.2.2.2⟩ (c_L_low hz _) m_535 m_536 m_0 m_537 hd_L_low ⟨rfl, rfl, Nat.le_of_ble_eq_true rfl, Nat.le_of_ble_eq_true rfl⟩ rfl hl.1 rfl (Nat.le_of_ble_eq_true rfl) dL_law_590 hrm0) (fun z155 H locs hf hR => ?_)
      refine lv_iadd (pc := 593) hx hb dL_law_593 ?_
      refine rq_iast (pc := 594) hx hb hK hR dL_law_594 hf (fun N156 H locs hf hR => ?_)
      refine lv_aload (pc := 595) hx hb dL_law_595 (lv_at hl 9 rfl) ?_
      refine lv_bipush (pc := 597) (v := (9 : Int32)) hx hb dL_law_597 (by decide) ?_
      refine lv_iload (pc := 599) hx hb dL_law_599 (lv_at hl 21 rfl) ?_
      refine lv_bipush (pc := 601) (v := (18 : Int32)) hx hb dL_law_601 (by decide) ?_
      refine lv_ishr (pc := 603) hx hb dL_law_603 ?_
      refine lv_bipush (pc := 604) (v := (101 : Int32)) hx hb dL_law_604 (by decide) ?_
      obtain ⟨hrm0, hf⟩ := gd_e hf
      refine rq_I (pc := 606) hf hR hA (fun z hz => rn_S (As := [.int (v24 >>> ((18 : Int32) &&& 31)), .int (101 : Int32)]) (rest := [.int (9 : Int32), .ref v9]) hC ⟨hR.2.1, hR.2.2.2⟩ (c_L_low hz _) m_535 m_536 m_0 m_537 hd_L_low ⟨rfl, rfl, Nat.le_of_ble_eq_true rfl, Nat.le_of_ble_eq_true rfl⟩ rfl hl.1 rfl (Nat.le_of_ble_eq_true rfl) dL_law_606 hrm0) (fun z157 H locs hf hR => ?_)
      refine rq_iast (pc := 609) hx hb hK hR dL_law_609 hf (fun N158 H locs hf hR => ?_)
      refine lv_aload_n (pc := 610) hx hb dL_law_610 rfl (lv_at hl 1 rfl) ?_
      refine lv_aload (pc := 611) hx hb dL_law_611 (lv_at hl 9 rfl) ?_
      refine lv_bipush (pc := 613) (v := (7 : Int32)) hx hb dL_law_613 (by decide) ?_
      refine rg_iald (pc := 615) hx hb hK ⟨hR.2.1, hR.2.2.2⟩ dL_law_615 hf (fun hf => ?_)
      refine lv_aload (pc := 616) hx hb dL_law_616 (lv_at hl 9 rfl) ?_
      refine lv_bipush (pc := 618) (v := (8 : Int32)) hx hb dL_law_618 (by decide) ?_
      refine rg_iald (pc := 620) hx hb hK ⟨hR.2.1, hR.2.2.2⟩ dL_law_620 hf (fun hf => ?_)
      refine lv_aload (pc := 621) hx hb dL_law_621 (lv_at hl 9 rfl) ?_
      refine lv_bipush (pc := 623) (v := (9 : Int32)) hx hb dL_law_623 (by decide) ?_
      refine rg_iald (pc := 625) hx hb hK ⟨hR.2.1, hR.2.2.2⟩ dL_law_625 hf (fun hf => ?_)
      obtain ⟨hq, hf⟩ := gd_e hf
      obtain ⟨hrm, hf⟩ := gd_e hf
      refine rq_xV (pc := 626) hf hR hA (fun z hz => xn_V (κ := 7) (As := [.int (mm_i N158 v9 ((7 : Int32)).toNatClampNeg), .int (mm_i N158 v9 ((8 : Int32)).toNatClampNeg), .int (mm_i N158 v9 ((9 : Int32)).toNatClampNeg)]) (rest := []) hC ⟨hR.1, hR.2.2.2⟩ rfl (by decide) hq (c_X7_bounds hlt hz _) m_369 m_370 m_371 m_1 m_372 hd_X7_bounds ⟨rfl, rfl, Nat.le_of_ble_eq_true rfl, Nat.le_of_ble_eq_true rfl⟩ rfl hl.1 rfl (Nat.le_of_ble_eq_true rfl) dL_law_626 hrm) (fun M159 H locs hf hR => ?_)
      refine lv_goto (pc := 629) (tgt := 1632) hx hb dL_law_629 (by decide) ?_
      exact b_law_1632 X k281 hk281 v1 v2 v3 v4 v5 v6 v7 v8 v9 v10 v11 v13 v15 v17 v18 v19 v20 v21 v22 v24 M159 N158 (nc + 1 + 3) (ns + 6 + 18) _ _ _ hf hR (lv_sub hl [0, 1, 2, 3, 4, 5, 6, 7, 8, 9, 10, 11, 12, 13, 14, 15, 16, 17, 18, 19, 21] rfl)
  · replace hf := it_t hf hc
    exact b_law_343 X k281 hk281 v1 v2 v3 v4 v5 v6 v7 v8 v9 v10 v11 v13 v15 v17 v18 v19 v20 v21 v22 v23 v24 M N nc ns _ _ _ hf hR (lv_sub hl [0, 1, 2, 3, 4, 5, 6, 7, 8, 9, 10, 11, 12, 13, 14, 15, 16, 17, 18, 19, 20, 21] rfl)
set_option maxHeartbeats 8000000 in
set_option maxRecDepth 100000 in
theorem b_law_281 (X : LX p l s m meth c D ca b L xs) (k281 : Nat → Nat → Nat → Nat → Nat → Nat → Nat → Nat → Nat → Nat → Int64 → Int64 → Int64 → Int32 → Int32 → Int32 → Int32 → Int32 → Int32 → Mem → Mem → Nat → Nat → Option Int32) (hk281 : ∀ (v1 : Nat) (v2 : Nat) (v3 : Nat) (v4 : Nat) (v5 : Nat) (v6 : Nat) (v7 : Nat) (v8 : Nat) (v9 : Nat) (v10 : Nat) (v11 : Int64) (v13 : Int64) (v15 : Int64) (v17 : Int32) (v18 : Int32) (v19 : Int32) (v20 : Int32) (v21 : Int32) (v22 : Int32) (M N : Mem) (nc ns : Nat) (H : Heap) (locs : List Loc) (ls : Array Slot), k281 v1 v2 v3 v4 v5 v6 v7 v8 v9 v10 v11 v13 v15 v17 v18 v19 v20 v21 v22 M N nc ns = some (1 : Int32) → H2 D ca s M N H locs → lv_has ls 34 [(0, .ref b), (1, .ref v1), (2, .ref v2), (3, .ref v3), (4, .ref v4), (5, .ref v5), (6, .ref v6), (7, .ref v7), (8, .ref v8), (9, .ref v9), (10, .ref v10), (11, .long v11), (13, .long v13), (15, .long v15), (17, .int v17), (18, .int v18), (19, .int v19), (20, .int v20), (21, .int v21), (22, .int v22)] → W p l e room_1 s m #[Value.ref b] below meth c H locs nc ns (lw_Z below #[Value.ref b] s) (F0 m 281 ls [])) (v1 : Nat) (v2 : Nat) (v3 : Nat) (v4 : Nat) (v5 : Nat) (v6 : Nat) (v7 : Nat) (v8 : Nat) (v9 : Nat) (v10 : Nat) (v11 : Int64) (v13 : Int64) (v15 : Int64) (v17 : Int32) (v18 : Int32) (v19 : Int32) (v20 : Int32) (v21 : Int32) (v22 : Int32) (M N : Mem) (nc ns : Nat) (H : Heap) (locs : List Loc) (ls : Array Slot) (hf : f_L_law_b281 L xs k281 v1 v2 v3 v4 v5 v6 v7 v8 v9 v10 v11 v13 v15 v17 v18 v19 v20 v21 v22 M N nc ns = some (1 : Int32)) (hR : H2 D ca s M N H locs) (hl : lv_has ls 34 [(0, .ref b), (1, .ref v1), (2, .ref v2), (3, .ref v3), (4, .ref v4), (5, .ref v5), (6, .ref v6), (7, .ref v7), (8, .ref v8), (9, .ref v9), (10, .ref v10), (11, .long v11), (13, .long v13), (15, .long v15), (17, .int v17), (18, .int v18), (19, .int v19), (20, .int v20), (21, .int v21), (22, .int v22)]) : W p l e room_1 s m #[Value.ref b] below meth c H locs nc ns (lw_Z below #[Value.ref b] s) (F0 m 281 ls []) := by
  obtain ⟨hx, hb, hC, hlt, hXs, hbl, hret, hL⟩ := id X
  have hts : ∀ w ∈ aw, w.before #[Value.ref b] s = true := hC.2.2.2.1
  have hown := hC.2.2.2.2.1
  have hK := hC.2.2.2.2.2.2.1.1
  have hA : ∀ q : Nat, s.heap.size ≤ q → (fun q : Nat => s.heap.size ≤ q) q := fun _ h => h
  unfold f_L_law_b281 at hf
  refine lv_iload (pc := 281) hx hb dL_law_281 (lv_at hl 19 rfl) ?_
  refine lv_bipush (pc := 283) (v := (36 : Int32)) hx hb dL_law_283 (by decide) ?_
  refine lv_icmp_ge (pc := 285) (tgt := 2114) hx hb dL_law_285 (by decide) (fun hc => ?_) (fun hc => ?_)
  · replace hf := it_t hf hc
    exact b_law_2114 X  M N nc ns _ _ _ hf hR (lv_sub hl [] rfl)
  · replace hf := it_f hf hc
    refine lv_iload (pc := 288) hx hb dL_law_288 (lv_at hl 14 rfl) ?_
    refine lv_bipush (pc := 290) (v := (34 : Int32)) hx hb dL_law_290 (by decide) ?_
    refine lv_icmp_ge (pc := 292) (tgt := 2114) hx hb dL_law_292 (by decide) (fun hc => ?_) (fun hc => ?_)
    · replace hf := it_t hf hc
      exact b_law_2114 X  M N nc ns _ _ _ hf hR (lv_sub hl [] rfl)
    · replace hf := it_f hf hc
      refine lv_aload_n (pc := 295) hx hb dL_law_295 rfl (lv_at hl 0 rfl) ?_
      refine lv_iload (pc := 296) hx hb dL_law_296 (lv_at hl 16 rfl) ?_
      refine rq_cell (pc := 298) (rest := []) X hR (by decide +kernel) m_530 m_531 m_0 m_532 rfl hl.1 rfl (Nat.le_of_ble_eq_true rfl) dL_law_298 hf (fun x161 H locs hf hR => ?_)
      refine lv_istore (pc := 301) (lv' := [(23, .int x161), (0, .ref b), (1, .ref v1), (2, .ref v2), (3, .ref v3), (4, .ref v4), (5, .ref v5), (6, .ref v6), (7, .ref v7), (8, .ref v8), (9, .ref v9), (10, .ref v10), (11, .long v11), (13, .long v13), (15, .long v15), (17, .int v17), (18, .int v18), (19, .int v19), (20, .int v20), (21, .int v21), (22, .int v22)]) hx hb dL_law_301 hl (by decide) rfl (fun ls hl => ?_)
      refine lv_aload_n (pc := 303) hx hb dL_law_303 rfl (lv_at hl 1 rfl) ?_
      refine lv_iload (pc := 304) hx hb dL_law_304 (lv_at hl 17 rfl) ?_
      refine lv_iconst (pc := 306) (v := (1 : Int32)) hx hb dL_law_306 (by decide) ?_
      refine lv_iadd (pc := 307) hx hb dL_law_307 ?_
      refine rq_cell (pc := 308) (rest := []) X hR (by decide +kernel) m_530 m_531 m_0 m_532 rfl hl.1 rfl (Nat.le_of_ble_eq_true rfl) dL_law_308 hf (fun x162 H locs hf hR => ?_)
      refine lv_istore (pc := 311) (lv' := [(24, .int x162), (23, .int x161), (0, .ref b), (1, .ref v1), (2, .ref v2), (3, .ref v3), (4, .ref v4), (5, .ref v5), (6, .ref v6), (7, .ref v7), (8, .ref v8), (9, .ref v9), (10, .ref v10), (11, .long v11), (13, .long v13), (15, .long v15), (17, .int v17), (18, .int v18), (19, .int v19), (20, .int v20), (21, .int v21), (22, .int v22)]) hx hb dL_law_311 hl (by decide) rfl (fun ls hl => ?_)
      refine rg_iinc (pc := 313) hx hb dL_law_313 hl (k := 18) rfl rfl (by decide) hf (fun x163 ls hf hl => ?_)
      have hl : lv_has ls 34 [(19, .int x163), (24, .int x162), (23, .int x161), (0, .ref b), (1, .ref v1), (2, .ref v2), (3, .ref v3), (4, .ref v4), (5, .ref v5), (6, .ref v6), (7, .ref v7), (8, .ref v8), (9, .ref v9), (10, .ref v10), (11, .long v11), (13, .long v13), (15, .long v15), (17, .int v17), (18, .int v18), (20, .int v20), (21, .int v21), (22, .int v22)] := hl
      refine lv_iload (pc := 316) hx hb dL_law_316 (lv_at hl 2 rfl) ?_
      refine lv_bipush (pc := 318) (v := (8 : Int32)) hx hb dL_law_318 (by decide) ?_
      obtain ⟨hrm0, hf⟩ := gd_e hf
      refine rq_I (pc := 320) hf hR hA (fun z hz => rn_S (As := [.int x161, .int (8 : Int32)]) (rest := []) hC ⟨hR.2.1, hR.2.2.2⟩ (c_L_low hz _) m_535 m_536 m_0 m_537 hd_L_low ⟨rfl, rfl, Nat.le_of_ble_eq_true rfl, Nat.le_of_ble_eq_true rfl⟩ rfl hl.1 rfl (Nat.le_of_ble_eq_true rfl) dL_law_320 hrm0) (fun z164 H locs hf hR => ?_)
      refine lv_istore (pc := 323) (lv' := [(25, .int z164.2), (19, .int x163), (24, .int x162), (23, .int x161), (0, .ref b), (1, .ref v1), (2, .ref v2), (3, .ref v3), (4, .ref v4), (5, .ref v5), (6, .ref v6), (7, .ref v7), (8, .ref v8), (9, .ref v9), (10, .ref v10), (11, .long v11), (13, .long v13), (15, .long v15), (17, .int v17), (18, .int v18), (20, .int v20), (21, .int v21), (22, .int v22)]) hx hb dL_law_323 hl (by decide) rfl (fun ls hl => ?_)
      refine lv_iload (pc := 325) hx hb dL_law_325 (lv_at hl 0 rfl) ?_
      refine lv_iconst (pc := 327) (v := (3 : Int32)) hx hb dL_law_327 (by decide) ?_
      refine lv_icmp_ge (pc := 328) (tgt := 338) hx hb dL_law_328 (by decide) (fun hc => ?_) (fun hc => ?_)
      · replace hf := it_t hf hc
        exact b_law_338 X k281 hk281 v1 v2 v3 v4 v5 v6 v7 v8 v9 v10 v11 v13 v15 v17 v18 x163 v20 v21 v22 x161 x162 z164.2 M z164.1 nc ns _ _ _ hf hR (lv_sub hl [4, 5, 6, 7, 8, 9, 10, 11, 12, 13, 14, 15, 16, 17, 18, 19, 1, 20, 21, 22, 3, 2, 0] rfl)
      · replace hf := it_f hf hc
        refine lv_iload (pc := 331) hx hb dL_law_331 (lv_at hl 18 rfl) ?_
        refine lv_bipush (pc := 333) (v := (24 : Int32)) hx hb dL_law_333 (by decide) ?_
        refine lv_icmp_lt (pc := 335) (tgt := 343) hx hb dL_law_335 (by decide) (fun hc => ?_) (fun hc => ?_)
        · replace hf := it_t hf hc
          exact b_law_343 X k281 hk281 v1 v2 v3 v4 v5 v6 v7 v8 v9 v10 v11 v13 v15 v17 v18 x163 v20 v21 v22 x161 x162 M z164.1 nc ns _ _ _ hf hR (lv_sub hl [4, 5, 6, 7, 8, 9, 10, 11, 12, 13, 14, 15, 16, 17, 18, 19, 1, 20, 21, 22, 3, 2] rfl)
        · replace hf := it_f hf hc
          exact b_law_338 X k281 hk281 v1 v2 v3 v4 v5 v6 v7 v8 v9 v10 v11 v13 v15 v17 v18 x163 v20 v21 v22 x161 x162 z164.2 M z164.1 nc ns _ _ _ hf hR (lv_sub hl [4, 5, 6, 7, 8, 9, 10, 11, 12, 13, 14, 15, 16, 17, 18, 19, 1, 20, 21, 22, 3, 2, 0] rfl)
theorem l_law_281 (X : LX p l s m meth c D ca b L xs)  (n : Nat) : ∀ (v1 : Nat) (v2 : Nat) (v3 : Nat) (v4 : Nat) (v5 : Nat) (v6 : Nat) (v7 : Nat) (v8 : Nat) (v9 : Nat) (v10 : Nat) (v11 : Int64) (v13 : Int64) (v15 : Int64) (v17 : Int32) (v18 : Int32) (v19 : Int32) (v20 : Int32) (v21 : Int32) (v22 : Int32) (M N : Mem) (nc ns : Nat) (H : Heap) (locs : List Loc) (ls : Array Slot), f_L_law_L281 L xs  n v1 v2 v3 v4 v5 v6 v7 v8 v9 v10 v11 v13 v15 v17 v18 v19 v20 v21 v22 M N nc ns = some (1 : Int32) → H2 D ca s M N H locs → lv_has ls 34 [(0, .ref b), (1, .ref v1), (2, .ref v2), (3, .ref v3), (4, .ref v4), (5, .ref v5), (6, .ref v6), (7, .ref v7), (8, .ref v8), (9, .ref v9), (10, .ref v10), (11, .long v11), (13, .long v13), (15, .long v15), (17, .int v17), (18, .int v18), (19, .int v19), (20, .int v20), (21, .int v21), (22, .int v22)] → W p l e room_1 s m #[Value.ref b] below meth c H locs nc ns (lw_Z below #[Value.ref b] s) (F0 m 281 ls []) := by
  induction n with
  | zero => intro v1 v2 v3 v4 v5 v6 v7 v8 v9 v10 v11 v13 v15 v17 v18 v19 v20 v21 v22 M N nc ns H locs ls hf; exact nomatch (show (none : Option Int32) = some 1 from hf)
  | succ n ih => intro v1 v2 v3 v4 v5 v6 v7 v8 v9 v10 v11 v13 v15 v17 v18 v19 v20 v21 v22 M N nc ns H locs ls hf hR hl; exact b_law_281 X  (f_L_law_L281 L xs  n) ih v1 v2 v3 v4 v5 v6 v7 v8 v9 v10 v11 v13 v15 v17 v18 v19 v20 v21 v22 M N nc ns H locs ls hf hR hl
set_option maxHeartbeats 8000000 in
set_option maxRecDepth 100000 in
theorem b_law_177 (X : LX p l s m meth c D ca b L xs) (k109 : Nat → Nat → Nat → Nat → Nat → Nat → Nat → Nat → Nat → Nat → Int64 → Int64 → Int64 → Int32 → Int32 → Int32 → Mem → Mem → Nat → Nat → Option Int32) (hk109 : ∀ (v1 : Nat) (v2 : Nat) (v3 : Nat) (v4 : Nat) (v5 : Nat) (v6 : Nat) (v7 : Nat) (v8 : Nat) (v9 : Nat) (v10 : Nat) (v11 : Int64) (v13 : Int64) (v15 : Int64) (v17 : Int32) (v18 : Int32) (v19 : Int32) (M N : Mem) (nc ns : Nat) (H : Heap) (locs : List Loc) (ls : Array Slot), k109 v1 v2 v3 v4 v5 v6 v7 v8 v9 v10 v11 v13 v15 v17 v18 v19 M N nc ns = some (1 : Int32) → H2 D ca s M N H locs → lv_has ls 34 [(0, .ref b), (1, .ref v1), (2, .ref v2), (3, .ref v3), (4, .ref v4), (5, .ref v5), (6, .ref v6), (7, .ref v7), (8, .ref v8), (9, .ref v9), (10, .ref v10), (11, .long v11), (13, .long v13), (15, .long v15), (17, .int v17), (18, .int v18), (19, .int v19)] → W p l e room_1 s m #[Value.ref b] below meth c H locs nc ns (lw_Z below #[Value.ref b] s) (F0 m 109 ls [])) (k177 : Nat → Nat → Nat → Nat → Nat → Nat → Nat → Nat → Nat → Nat → Int64 → Int64 → Int64 → Int32 → Int32 → Int32 → Int32 → Int32 → Mem → Mem → Nat → Nat → Option Int32) (hk177 : ∀ (v1 : Nat) (v2 : Nat) (v3 : Nat) (v4 : Nat) (v5 : Nat) (v6 : Nat) (v7 : Nat) (v8 : Nat) (v9 : Nat) (v10 : Nat) (v11 : Int64) (v13 : Int64) (v15 : Int64) (v17 : Int32) (v18 : Int32) (v19 : Int32) (v21 : Int32) (v22 : Int32) (M N : Mem) (nc ns : Nat) (H : Heap) (locs : List Loc) (ls : Array Slot), k177 v1 v2 v3 v4 v5 v6 v7 v8 v9 v10 v11 v13 v15 v17 v18 v19 v21 v22 M N nc ns = some (1 : Int32) → H2 D ca s M N H locs → lv_has ls 34 [(0, .ref b), (1, .ref v1), (2, .ref v2), (3, .ref v3), (4, .ref v4), (5, .ref v5), (6, .ref v6), (7, .ref v7), (8, .ref v8), (9, .ref v9), (10, .ref v10), (11, .long v11), (13, .long v13), (15, .long v15), (17, .int v17), (18, .int v18), (19, .int v19), (21, .int v21), (22, .int v22)] → W p l e room_1 s m #[Value.ref b] below meth c H locs nc ns (lw_Z below #[Value.ref b] s) (F0 m 177 ls [])) (v1 : Nat) (v2 : Nat) (v3 : Nat) (v4 : Nat) (v5 : Nat) (v6 : Nat) (v7 : Nat) (v8 : Nat) (v9 : Nat) (v10 : Nat) (v11 : Int64) (v13 : Int64) (v15 : Int64) (v17 : Int32) (v18 : Int32) (v19 : Int32) (v21 : Int32) (v22 : Int32) (M N : Mem) (nc ns : Nat) (H : Heap) (locs : List Loc) (ls : Array Slot) (hf : f_L_law_b177 L xs k109 k177 v1 v2 v3 v4 v5 v6 v7 v8 v9 v10 v11 v13 v15 v17 v18 v19 v21 v22 M N nc ns = some (1 : Int32)) (hR : H2 D ca s M N H locs) (hl : lv_has ls 34 [(0, .ref b), (1, .ref v1), (2, .ref v2), (3, .ref v3), (4, .ref v4), (5, .ref v5), (6, .ref v6), (7, .ref v7), (8, .ref v8), (9, .ref v9), (10, .ref v10), (11, .long v11), (13, .long v13), (15, .long v15), (17, .int v17), (18, .int v18), (19, .int v19), (21, .int v21), (22, .int v22)]) : W p l e room_1 s m #[Value.ref b] below meth c H locs nc ns (lw_Z below #[Value.ref b] s) (F0 m 177 ls []) := by
  obtain ⟨hx, hb, hC, hlt, hXs, hbl, hret, hL⟩ := id X
  have hts : ∀ w ∈ aw, w.before #[Value.ref b] s = true := hC.2.2.2.1
  have hown := hC.2.2.2.2.1
  have hK := hC.2.2.2.2.2.2.1.1
  have hA : ∀ q : Nat, s.heap.size ≤ q → (fun q : Nat => s.heap.size ≤ q) q := fun _ h => h
  unfold f_L_law_b177 at hf
  refine lv_iload (pc := 177) hx hb dL_law_177 (lv_at hl 18 rfl) ?_
  refine lv_iload (pc := 179) hx hb dL_law_179 (lv_at hl 18 rfl) ?_
  refine lv_imul (pc := 181) hx hb dL_law_181 ?_
  refine lv_iload (pc := 182) hx hb dL_law_182 (lv_at hl 17 rfl) ?_
  refine lv_icmp_gt (pc := 184) (tgt := 193) hx hb dL_law_184 (by decide) (fun hc => ?_) (fun hc => ?_)
  · replace hf := it_t hf hc
    refine lv_aload (pc := 193) hx hb dL_law_193 (lv_at hl 10 rfl) ?_
    refine lv_iconst (pc := 195) (v := (3 : Int32)) hx hb dL_law_195 (by decide) ?_
    refine lv_iload (pc := 196) hx hb dL_law_196 (lv_at hl 16 rfl) ?_
    refine lv_imul (pc := 198) hx hb dL_law_198 ?_
    refine lv_iconst (pc := 199) (v := (2 : Int32)) hx hb dL_law_199 (by decide) ?_
    refine lv_iadd (pc := 200) hx hb dL_law_200 ?_
    refine lv_iload (pc := 201) hx hb dL_law_201 (lv_at hl 18 rfl) ?_
    refine lv_iconst (pc := 203) (v := (1 : Int32)) hx hb dL_law_203 (by decide) ?_
    refine lv_isub (pc := 204) hx hb dL_law_204 ?_
    refine lv_bipush (pc := 205) (v := (20 : Int32)) hx hb dL_law_205 (by decide) ?_
    refine lv_idiv (pc := 207) hx hb dL_law_207 (by decide) ?_
    refine rq_iast (pc := 208) hx hb hK hR dL_law_208 hf (fun N165 H locs hf hR => ?_)
    refine lv_aload_n (pc := 209) hx hb dL_law_209 rfl (lv_at hl 1 rfl) ?_
    refine lv_aload (pc := 210) hx hb dL_law_210 (lv_at hl 10 rfl) ?_
    refine lv_iconst (pc := 212) (v := (3 : Int32)) hx hb dL_law_212 (by decide) ?_
    refine lv_iload (pc := 213) hx hb dL_law_213 (lv_at hl 16 rfl) ?_
    refine lv_imul (pc := 215) hx hb dL_law_215 ?_
    refine rg_iald (pc := 216) hx hb hK ⟨hR.2.1, hR.2.2.2⟩ dL_law_216 hf (fun hf => ?_)
    refine lv_aload (pc := 217) hx hb dL_law_217 (lv_at hl 10 rfl) ?_
    refine lv_iconst (pc := 219) (v := (3 : Int32)) hx hb dL_law_219 (by decide) ?_
    refine lv_iload (pc := 220) hx hb dL_law_220 (lv_at hl 16 rfl) ?_
    refine lv_imul (pc := 222) hx hb dL_law_222 ?_
    refine lv_iconst (pc := 223) (v := (1 : Int32)) hx hb dL_law_223 (by decide) ?_
    refine lv_iadd (pc := 224) hx hb dL_law_224 ?_
    refine rg_iald (pc := 225) hx hb hK ⟨hR.2.1, hR.2.2.2⟩ dL_law_225 hf (fun hf => ?_)
    refine lv_iload (pc := 226) hx hb dL_law_226 (lv_at hl 17 rfl) ?_
    obtain ⟨hq, hf⟩ := gd_e hf
    obtain ⟨hrm, hf⟩ := gd_e hf
    refine rq_xI (pc := 228) hf hR hA (fun z hz => xn_V (κ := 7) (As := [.int (mm_i N165 v10 (((3 : Int32) * v19)).toNatClampNeg), .int (mm_i N165 v10 ((((3 : Int32) * v19) + (1 : Int32))).toNatClampNeg), .int v21]) (rest := []) hC ⟨hR.1, hR.2.2.2⟩ rfl (by decide) hq (c_X7_moon hlt hz _) m_357 m_358 m_359 m_1 m_360 hd_X7_moon ⟨rfl, rfl, Nat.le_of_ble_eq_true rfl, Nat.le_of_ble_eq_true rfl⟩ rfl hl.1 rfl (Nat.le_of_ble_eq_true rfl) dL_law_228 hrm) (fun M166 x167 H locs hf hR => ?_)
    refine lv_iload (pc := 231) hx hb dL_law_231 (lv_at hl 16 rfl) ?_
    refine lv_icmp_eq (pc := 233) (tgt := 238) hx hb dL_law_233 (by decide) (fun hc => ?_) (fun hc => ?_)
    · replace hf := it_t hf hc
      refine rg_iinc (pc := 238) hx hb dL_law_238 hl (k := 16) rfl rfl (by decide) hf (fun x168 ls hf hl => ?_)
      have hl : lv_has ls 34 [(19, .int x168), (0, .ref b), (1, .ref v1), (2, .ref v2), (3, .ref v3), (4, .ref v4), (5, .ref v5), (6, .ref v6), (7, .ref v7), (8, .ref v8), (9, .ref v9), (10, .ref v10), (11, .long v11), (13, .long v13), (15, .long v15), (17, .int v17), (18, .int v18), (21, .int v21), (22, .int v22)] := hl
      refine lv_goto (pc := 241) (tgt := 109) hx hb dL_law_241 (by decide) ?_
      exact hk109 v1 v2 v3 v4 v5 v6 v7 v8 v9 v10 v11 v13 v15 v17 v18 x168 M166 N165 (nc + 4) (ns + 24) _ _ _ hf hR (lv_sub hl [1, 2, 3, 4, 5, 6, 7, 8, 9, 10, 11, 12, 13, 14, 15, 16, 0] rfl)
    · replace hf := it_f hf hc
      exact nomatch hf
  · replace hf := it_f hf hc
    refine rg_iinc (pc := 187) hx hb dL_law_187 hl (k := 18) rfl rfl (by decide) hf (fun x169 ls hf hl => ?_)
    have hl : lv_has ls 34 [(22, .int x169), (0, .ref b), (1, .ref v1), (2, .ref v2), (3, .ref v3), (4, .ref v4), (5, .ref v5), (6, .ref v6), (7, .ref v7), (8, .ref v8), (9, .ref v9), (10, .ref v10), (11, .long v11), (13, .long v13), (15, .long v15), (17, .int v17), (18, .int v18), (19, .int v19), (21, .int v21)] := hl
    refine lv_goto (pc := 190) (tgt := 177) hx hb dL_law_190 (by decide) ?_
    exact hk177 v1 v2 v3 v4 v5 v6 v7 v8 v9 v10 v11 v13 v15 v17 v18 v19 v21 x169 M N nc ns _ _ _ hf hR (lv_sub hl [1, 2, 3, 4, 5, 6, 7, 8, 9, 10, 11, 12, 13, 14, 15, 16, 17, 18, 0] rfl)
theorem l_law_177 (X : LX p l s m meth c D ca b L xs) (k109 : Nat → Nat → Nat → Nat → Nat → Nat → Nat → Nat → Nat → Nat → Int64 → Int64 → Int64 → Int32 → Int32 → Int32 → Mem → Mem → Nat → Nat → Option Int32) (hk109 : ∀ (v1 : Nat) (v2 : Nat) (v3 : Nat) (v4 : Nat) (v5 : Nat) (v6 : Nat) (v7 : Nat) (v8 : Nat) (v9 : Nat) (v10 : Nat) (v11 : Int64) (v13 : Int64) (v15 : Int64) (v17 : Int32) (v18 : Int32) (v19 : Int32) (M N : Mem) (nc ns : Nat) (H : Heap) (locs : List Loc) (ls : Array Slot), k109 v1 v2 v3 v4 v5 v6 v7 v8 v9 v10 v11 v13 v15 v17 v18 v19 M N nc ns = some (1 : Int32) → H2 D ca s M N H locs → lv_has ls 34 [(0, .ref b), (1, .ref v1), (2, .ref v2), (3, .ref v3), (4, .ref v4), (5, .ref v5), (6, .ref v6), (7, .ref v7), (8, .ref v8), (9, .ref v9), (10, .ref v10), (11, .long v11), (13, .long v13), (15, .long v15), (17, .int v17), (18, .int v18), (19, .int v19)] → W p l e room_1 s m #[Value.ref b] below meth c H locs nc ns (lw_Z below #[Value.ref b] s) (F0 m 109 ls [])) (n : Nat) : ∀ (v1 : Nat) (v2 : Nat) (v3 : Nat) (v4 : Nat) (v5 : Nat) (v6 : Nat) (v7 : Nat) (v8 : Nat) (v9 : Nat) (v10 : Nat) (v11 : Int64) (v13 : Int64) (v15 : Int64) (v17 : Int32) (v18 : Int32) (v19 : Int32) (v21 : Int32) (v22 : Int32) (M N : Mem) (nc ns : Nat) (H : Heap) (locs : List Loc) (ls : Array Slot), f_L_law_L177 L xs k109 n v1 v2 v3 v4 v5 v6 v7 v8 v9 v10 v11 v13 v15 v17 v18 v19 v21 v22 M N nc ns = some (1 : Int32) → H2 D ca s M N H locs → lv_has ls 34 [(0, .ref b), (1, .ref v1), (2, .ref v2), (3, .ref v3), (4, .ref v4), (5, .ref v5), (6, .ref v6), (7, .ref v7), (8, .ref v8), (9, .ref v9), (10, .ref v10), (11, .long v11), (13, .long v13), (15, .long v15), (17, .int v17), (18, .int v18), (19, .int v19), (21, .int v21), (22, .int v22)] → W p l e room_1 s m #[Value.ref b] below meth c H locs nc ns (lw_Z below #[Value.ref b] s) (F0 m 177 ls []) := by
  induction n with
  | zero => intro v1 v2 v3 v4 v5 v6 v7 v8 v9 v10 v11 v13 v15 v17 v18 v19 v21 v22 M N nc ns H locs ls hf; exact nomatch (show (none : Option Int32) = some 1 from hf)
  | succ n ih => intro v1 v2 v3 v4 v5 v6 v7 v8 v9 v10 v11 v13 v15 v17 v18 v19 v21 v22 M N nc ns H locs ls hf hR hl; exact b_law_177 X k109 hk109 (f_L_law_L177 L xs k109 n) ih v1 v2 v3 v4 v5 v6 v7 v8 v9 v10 v11 v13 v15 v17 v18 v19 v21 v22 M N nc ns H locs ls hf hR hl
end LB
