section LB
variable {p : Program} {l : Launch} {e : Env} {s : State} {m : MethodId} {below : List Frame} {meth : Method} {c : Code} {D : va_G} {ca : Nat → ClassId} {b L : Nat} {xs : Nat → Int32}
set_option maxHeartbeats 8000000 in
set_option maxRecDepth 100000 in
theorem b_law_109 (X : LX p l s m meth c D ca b L xs) (k109 : Nat → Nat → Nat → Nat → Nat → Nat → Nat → Nat → Nat → Nat → Int64 → Int64 → Int64 → Int32 → Int32 → Int32 → Mem → Mem → Nat → Nat → Option Int32) (hk109 : ∀ (v1 : Nat) (v2 : Nat) (v3 : Nat) (v4 : Nat) (v5 : Nat) (v6 : Nat) (v7 : Nat) (v8 : Nat) (v9 : Nat) (v10 : Nat) (v11 : Int64) (v13 : Int64) (v15 : Int64) (v17 : Int32) (v18 : Int32) (v19 : Int32) (M N : Mem) (nc ns : Nat) (H : Heap) (locs : List Loc) (ls : Array Slot), k109 v1 v2 v3 v4 v5 v6 v7 v8 v9 v10 v11 v13 v15 v17 v18 v19 M N nc ns = some (1 : Int32) → H2 D ca s M N H locs → lv_has ls 34 [(0, .ref b), (1, .ref v1), (2, .ref v2), (3, .ref v3), (4, .ref v4), (5, .ref v5), (6, .ref v6), (7, .ref v7), (8, .ref v8), (9, .ref v9), (10, .ref v10), (11, .long v11), (13, .long v13), (15, .long v15), (17, .int v17), (18, .int v18), (19, .int v19)] → W p l e room_1 s m #[Value.ref b] below meth c H locs nc ns (lw_Z below #[Value.ref b] s) (F0 m 109 ls [])) (v1 : Nat) (v2 : Nat) (v3 : Nat) (v4 : Nat) (v5 : Nat) (v6 : Nat) (v7 : Nat) (v8 : Nat) (v9 : Nat) (v10 : Nat) (v11 : Int64) (v13 : Int64) (v15 : Int64) (v17 : Int32) (v18 : Int32) (v19 : Int32) (M N : Mem) (nc ns : Nat) (H : Heap) (locs : List Loc) (ls : Array Slot) (hf : f_L_law_b109 L xs k109 v1 v2 v3 v4 v5 v6 v7 v8 v9 v10 v11 v13 v15 v17 v18 v19 M N nc ns = some (1 : Int32)) (hR : H2 D ca s M N H locs) (hl : lv_has ls 34 [(0, .ref b), (1, .ref v1), (2, .ref v2), (3, .ref v3), (4, .ref v4), (5, .ref v5), (6, .ref v6), (7, .ref v7), (8, .ref v8), (9, .ref v9), (10, .ref v10), (11, .long v11), (13, .long v13), (15, .long v15), (17, .int v17), (18, .int v18), (19, .int v19)]) : W p l e room_1 s m #[Value.ref b] below meth c H locs nc ns (lw_Z below #[Value.ref b] s) (F0 m 109 ls []) := by
  obtain ⟨hx, hb, hC, hlt, hXs, hbl, hret, hL⟩ := id X
  have hts : ∀ w ∈ aw, w.before #[Value.ref b] s = true := hC.2.2.2.1
  have hown := hC.2.2.2.2.1
  have hK := hC.2.2.2.2.2.2.1.1
  have hA : ∀ q : Nat, s.heap.size ≤ q → (fun q : Nat => s.heap.size ≤ q) q := fun _ h => h
  unfold f_L_law_b109 at hf
  refine lv_iload (pc := 109) hx hb dL_law_109 (lv_at hl 16 rfl) ?_
  refine lv_iload (pc := 111) hx hb dL_law_111 (lv_at hl 15 rfl) ?_
  refine lv_icmp_ge (pc := 113) (tgt := 244) hx hb dL_law_113 (by decide) (fun hc => ?_) (fun hc => ?_)
  · replace hf := it_t hf hc
    refine lv_iconst (pc := 244) (v := (4 : Int32)) hx hb dL_law_244 (by decide) ?_
    refine lv_istore (pc := 245) (lv' := [(19, .int (4 : Int32)), (0, .ref b), (1, .ref v1), (2, .ref v2), (3, .ref v3), (4, .ref v4), (5, .ref v5), (6, .ref v6), (7, .ref v7), (8, .ref v8), (9, .ref v9), (10, .ref v10), (11, .long v11), (13, .long v13), (15, .long v15), (17, .int v17), (18, .int v18)]) hx hb dL_law_245 hl (by decide) rfl (fun ls hl => ?_)
    refine lv_aload_n (pc := 247) hx hb dL_law_247 rfl (lv_at hl 1 rfl) ?_
    refine lv_iload (pc := 248) hx hb dL_law_248 (lv_at hl 0 rfl) ?_
    refine rq_cell (pc := 250) (rest := []) X hR (by decide +kernel) m_530 m_531 m_0 m_532 rfl hl.1 rfl (Nat.le_of_ble_eq_true rfl) dL_law_250 hf (fun x170 H locs hf hR => ?_)
    refine lv_ldc (pc := 253) hx hb hown (hts _ m_542) dL_law_253 ?_
    obtain ⟨hrm0, hf⟩ := gd_e hf
    refine rq_I (pc := 255) hf hR hA (fun z hz => rn_S (As := [.int x170, .int (36000 : Int32)]) (rest := []) hC ⟨hR.2.1, hR.2.2.2⟩ (c_L_low hz _) m_535 m_536 m_0 m_537 hd_L_low ⟨rfl, rfl, Nat.le_of_ble_eq_true rfl, Nat.le_of_ble_eq_true rfl⟩ rfl hl.1 rfl (Nat.le_of_ble_eq_true rfl) dL_law_255 hrm0) (fun z171 H locs hf hR => ?_)
    refine lv_istore (pc := 258) (lv' := [(20, .int z171.2), (19, .int (4 : Int32)), (0, .ref b), (1, .ref v1), (2, .ref v2), (3, .ref v3), (4, .ref v4), (5, .ref v5), (6, .ref v6), (7, .ref v7), (8, .ref v8), (9, .ref v9), (10, .ref v10), (11, .long v11), (13, .long v13), (15, .long v15), (17, .int v17), (18, .int v18)]) hx hb dL_law_258 hl (by decide) rfl (fun ls hl => ?_)
    refine lv_aload_n (pc := 260) hx hb dL_law_260 rfl (lv_at hl 2 rfl) ?_
    refine lv_iload (pc := 261) hx hb dL_law_261 (lv_at hl 1 rfl) ?_
    refine rq_cell (pc := 263) (rest := []) X hR (by decide +kernel) m_530 m_531 m_0 m_532 rfl hl.1 rfl (Nat.le_of_ble_eq_true rfl) dL_law_263 hf (fun x172 H locs hf hR => ?_)
    refine lv_iconst (pc := 266) (v := (5 : Int32)) hx hb dL_law_266 (by decide) ?_
    refine lv_ishr (pc := 267) hx hb dL_law_267 ?_
    refine lv_bipush (pc := 268) (v := (64 : Int32)) hx hb dL_law_268 (by decide) ?_
    obtain ⟨hrm0, hf⟩ := gd_e hf
    refine rq_I (pc := 270) hf hR hA (fun z hz => rn_S (As := [.int (x172 >>> ((5 : Int32) &&& 31)), .int (64 : Int32)]) (rest := []) hC ⟨hR.2.1, hR.2.2.2⟩ (c_L_low hz _) m_535 m_536 m_0 m_537 hd_L_low ⟨rfl, rfl, Nat.le_of_ble_eq_true rfl, Nat.le_of_ble_eq_true rfl⟩ rfl hl.1 rfl (Nat.le_of_ble_eq_true rfl) dL_law_270 hrm0) (fun z173 H locs hf hR => ?_)
    refine lv_istore (pc := 273) (lv' := [(21, .int z173.2), (20, .int z171.2), (19, .int (4 : Int32)), (0, .ref b), (1, .ref v1), (2, .ref v2), (3, .ref v3), (4, .ref v4), (5, .ref v5), (6, .ref v6), (7, .ref v7), (8, .ref v8), (9, .ref v9), (10, .ref v10), (11, .long v11), (13, .long v13), (15, .long v15), (17, .int v17), (18, .int v18)]) hx hb dL_law_273 hl (by decide) rfl (fun ls hl => ?_)
    refine rg_iinc (pc := 275) hx hb dL_law_275 hl (k := 2) rfl rfl (by decide) hf (fun x174 ls hf hl => ?_)
    have hl : lv_has ls 34 [(19, .int x174), (21, .int z173.2), (20, .int z171.2), (0, .ref b), (1, .ref v1), (2, .ref v2), (3, .ref v3), (4, .ref v4), (5, .ref v5), (6, .ref v6), (7, .ref v7), (8, .ref v8), (9, .ref v9), (10, .ref v10), (11, .long v11), (13, .long v13), (15, .long v15), (17, .int v17), (18, .int v18)] := hl
    refine lv_iconst (pc := 278) (v := (0 : Int32)) hx hb dL_law_278 (by decide) ?_
    refine lv_istore (pc := 279) (lv' := [(22, .int (0 : Int32)), (19, .int x174), (21, .int z173.2), (20, .int z171.2), (0, .ref b), (1, .ref v1), (2, .ref v2), (3, .ref v3), (4, .ref v4), (5, .ref v5), (6, .ref v6), (7, .ref v7), (8, .ref v8), (9, .ref v9), (10, .ref v10), (11, .long v11), (13, .long v13), (15, .long v15), (17, .int v17), (18, .int v18)]) hx hb dL_law_279 hl (by decide) rfl (fun ls hl => ?_)
    exact l_law_281 X 200 v1 v2 v3 v4 v5 v6 v7 v8 v9 v10 v11 v13 v15 v17 v18 x174 z171.2 z173.2 (0 : Int32) M z173.1 nc ns _ _ _ hf hR (lv_sub hl [4, 5, 6, 7, 8, 9, 10, 11, 12, 13, 14, 15, 16, 17, 18, 19, 1, 3, 2, 0] rfl)
  · replace hf := it_f hf hc
    refine lv_aload_n (pc := 116) hx hb dL_law_116 rfl (lv_at hl 0 rfl) ?_
    refine lv_iconst (pc := 117) (v := (1 : Int32)) hx hb dL_law_117 (by decide) ?_
    refine lv_iload (pc := 118) hx hb dL_law_118 (lv_at hl 16 rfl) ?_
    refine lv_iadd (pc := 120) hx hb dL_law_120 ?_
    refine rq_cell (pc := 121) (rest := []) X hR (by decide +kernel) m_530 m_531 m_0 m_532 rfl hl.1 rfl (Nat.le_of_ble_eq_true rfl) dL_law_121 hf (fun x175 H locs hf hR => ?_)
    refine lv_istore (pc := 124) (lv' := [(20, .int x175), (0, .ref b), (1, .ref v1), (2, .ref v2), (3, .ref v3), (4, .ref v4), (5, .ref v5), (6, .ref v6), (7, .ref v7), (8, .ref v8), (9, .ref v9), (10, .ref v10), (11, .long v11), (13, .long v13), (15, .long v15), (17, .int v17), (18, .int v18), (19, .int v19)]) hx hb dL_law_124 hl (by decide) rfl (fun ls hl => ?_)
    refine lv_aload (pc := 126) hx hb dL_law_126 (lv_at hl 11 rfl) ?_
    refine lv_iconst (pc := 128) (v := (3 : Int32)) hx hb dL_law_128 (by decide) ?_
    refine lv_iload (pc := 129) hx hb dL_law_129 (lv_at hl 17 rfl) ?_
    refine lv_imul (pc := 131) hx hb dL_law_131 ?_
    refine lv_iload (pc := 132) hx hb dL_law_132 (lv_at hl 0 rfl) ?_
    refine lv_bipush (pc := 134) (v := (64 : Int32)) hx hb dL_law_134 (by decide) ?_
    obtain ⟨hrm0, hf⟩ := gd_e hf
    refine rq_I (pc := 136) hf hR hA (fun z hz => rn_S (As := [.int x175, .int (64 : Int32)]) (rest := [.int ((3 : Int32) * v19), .ref v10]) hC ⟨hR.2.1, hR.2.2.2⟩ (c_L_low hz _) m_535 m_536 m_0 m_537 hd_L_low ⟨rfl, rfl, Nat.le_of_ble_eq_true rfl, Nat.le_of_ble_eq_true rfl⟩ rfl hl.1 rfl (Nat.le_of_ble_eq_true rfl) dL_law_136 hrm0) (fun z176 H locs hf hR => ?_)
    refine rq_iast (pc := 139) hx hb hK hR dL_law_139 hf (fun N177 H locs hf hR => ?_)
    refine lv_aload (pc := 140) hx hb dL_law_140 (lv_at hl 11 rfl) ?_
    refine lv_iconst (pc := 142) (v := (3 : Int32)) hx hb dL_law_142 (by decide) ?_
    refine lv_iload (pc := 143) hx hb dL_law_143 (lv_at hl 17 rfl) ?_
    refine lv_imul (pc := 145) hx hb dL_law_145 ?_
    refine lv_iconst (pc := 146) (v := (1 : Int32)) hx hb dL_law_146 (by decide) ?_
    refine lv_iadd (pc := 147) hx hb dL_law_147 ?_
    refine lv_iload (pc := 148) hx hb dL_law_148 (lv_at hl 0 rfl) ?_
    refine lv_bipush (pc := 150) (v := (6 : Int32)) hx hb dL_law_150 (by decide) ?_
    refine lv_ishr (pc := 152) hx hb dL_law_152 ?_
    refine lv_ldc (pc := 153) hx hb hown (hts _ m_542) dL_law_153 ?_
    obtain ⟨hrm0, hf⟩ := gd_e hf
    refine rq_I (pc := 155) hf hR hA (fun z hz => rn_S (As := [.int (x175 >>> ((6 : Int32) &&& 31)), .int (36000 : Int32)]) (rest := [.int (((3 : Int32) * v19) + (1 : Int32)), .ref v10]) hC ⟨hR.2.1, hR.2.2.2⟩ (c_L_low hz _) m_535 m_536 m_0 m_537 hd_L_low ⟨rfl, rfl, Nat.le_of_ble_eq_true rfl, Nat.le_of_ble_eq_true rfl⟩ rfl hl.1 rfl (Nat.le_of_ble_eq_true rfl) dL_law_155 hrm0) (fun z178 H locs hf hR => ?_)
    refine rq_iast (pc := 158) hx hb hK hR dL_law_158 hf (fun N179 H locs hf hR => ?_)
    refine lv_iconst (pc := 159) (v := (1 : Int32)) hx hb dL_law_159 (by decide) ?_
    refine lv_iload (pc := 160) hx hb dL_law_160 (lv_at hl 0 rfl) ?_
    refine lv_bipush (pc := 162) (v := (9 : Int32)) hx hb dL_law_162 (by decide) ?_
    refine lv_ishr (pc := 164) hx hb dL_law_164 ?_
    refine lv_sipush (pc := 165) (v := (10000 : Int32)) hx hb dL_law_165 (by decide) ?_
    obtain ⟨hrm0, hf⟩ := gd_e hf
    refine rq_I (pc := 168) hf hR hA (fun z hz => rn_S (As := [.int (x175 >>> ((9 : Int32) &&& 31)), .int (10000 : Int32)]) (rest := [.int (1 : Int32)]) hC ⟨hR.2.1, hR.2.2.2⟩ (c_L_low hz _) m_535 m_536 m_0 m_537 hd_L_low ⟨rfl, rfl, Nat.le_of_ble_eq_true rfl, Nat.le_of_ble_eq_true rfl⟩ rfl hl.1 rfl (Nat.le_of_ble_eq_true rfl) dL_law_168 hrm0) (fun z180 H locs hf hR => ?_)
    refine lv_iadd (pc := 171) hx hb dL_law_171 ?_
    refine nm_i hf (fun x181 hf => ?_)
    refine lv_istore (pc := 172) (lv' := [(21, .int x181), (20, .int x175), (0, .ref b), (1, .ref v1), (2, .ref v2), (3, .ref v3), (4, .ref v4), (5, .ref v5), (6, .ref v6), (7, .ref v7), (8, .ref v8), (9, .ref v9), (10, .ref v10), (11, .long v11), (13, .long v13), (15, .long v15), (17, .int v17), (18, .int v18), (19, .int v19)]) hx hb dL_law_172 hl (by decide) rfl (fun ls hl => ?_)
    refine lv_iconst (pc := 174) (v := (0 : Int32)) hx hb dL_law_174 (by decide) ?_
    refine lv_istore (pc := 175) (lv' := [(22, .int (0 : Int32)), (21, .int x181), (20, .int x175), (0, .ref b), (1, .ref v1), (2, .ref v2), (3, .ref v3), (4, .ref v4), (5, .ref v5), (6, .ref v6), (7, .ref v7), (8, .ref v8), (9, .ref v9), (10, .ref v10), (11, .long v11), (13, .long v13), (15, .long v15), (17, .int v17), (18, .int v18), (19, .int v19)]) hx hb dL_law_175 hl (by decide) rfl (fun ls hl => ?_)
    exact l_law_177 X k109 hk109 200 v1 v2 v3 v4 v5 v6 v7 v8 v9 v10 v11 v13 v15 v17 v18 v19 x181 (0 : Int32) M z180.1 nc ns _ _ _ hf hR (lv_sub hl [3, 4, 5, 6, 7, 8, 9, 10, 11, 12, 13, 14, 15, 16, 17, 18, 19, 1, 0] rfl)
theorem l_law_109 (X : LX p l s m meth c D ca b L xs)  (n : Nat) : ∀ (v1 : Nat) (v2 : Nat) (v3 : Nat) (v4 : Nat) (v5 : Nat) (v6 : Nat) (v7 : Nat) (v8 : Nat) (v9 : Nat) (v10 : Nat) (v11 : Int64) (v13 : Int64) (v15 : Int64) (v17 : Int32) (v18 : Int32) (v19 : Int32) (M N : Mem) (nc ns : Nat) (H : Heap) (locs : List Loc) (ls : Array Slot), f_L_law_L109 L xs  n v1 v2 v3 v4 v5 v6 v7 v8 v9 v10 v11 v13 v15 v17 v18 v19 M N nc ns = some (1 : Int32) → H2 D ca s M N H locs → lv_has ls 34 [(0, .ref b), (1, .ref v1), (2, .ref v2), (3, .ref v3), (4, .ref v4), (5, .ref v5), (6, .ref v6), (7, .ref v7), (8, .ref v8), (9, .ref v9), (10, .ref v10), (11, .long v11), (13, .long v13), (15, .long v15), (17, .int v17), (18, .int v18), (19, .int v19)] → W p l e room_1 s m #[Value.ref b] below meth c H locs nc ns (lw_Z below #[Value.ref b] s) (F0 m 109 ls []) := by
  induction n with
  | zero => intro v1 v2 v3 v4 v5 v6 v7 v8 v9 v10 v11 v13 v15 v17 v18 v19 M N nc ns H locs ls hf; exact nomatch (show (none : Option Int32) = some 1 from hf)
  | succ n ih => intro v1 v2 v3 v4 v5 v6 v7 v8 v9 v10 v11 v13 v15 v17 v18 v19 M N nc ns H locs ls hf hR hl; exact b_law_109 X  (f_L_law_L109 L xs  n) ih v1 v2 v3 v4 v5 v6 v7 v8 v9 v10 v11 v13 v15 v17 v18 v19 M N nc ns H locs ls hf hR hl
set_option maxHeartbeats 8000000 in
set_option maxRecDepth 100000 in
theorem c_L_law (X : LX p l s m meth c D ca b L xs) (v1 : Nat) (v2 : Nat) (v3 : Nat) (v4 : Nat) (v5 : Nat) (v6 : Nat) (v7 : Nat) (v8 : Nat) (v9 : Nat) (v10 : Nat) (M N : Mem) (nc ns : Nat) (H : Heap) (locs : List Loc) (ls : Array Slot) (hf : f_L_law L xs b v1 v2 v3 v4 v5 v6 v7 v8 v9 v10 M N nc ns = some (1 : Int32)) (hR : H2 D ca s M N H locs) (hl : lv_has ls 34 [(0, .ref b), (1, .ref v1), (2, .ref v2), (3, .ref v3), (4, .ref v4), (5, .ref v5), (6, .ref v6), (7, .ref v7), (8, .ref v8), (9, .ref v9), (10, .ref v10)]) : W p l e room_1 s m #[Value.ref b] below meth c H locs nc ns (lw_Z below #[Value.ref b] s) (F0 m 60 ls []) := by
  obtain ⟨hx, hb, hC, hlt, hXs, hbl, hret, hL⟩ := id X
  have hts : ∀ w ∈ aw, w.before #[Value.ref b] s = true := hC.2.2.2.1
  have hown := hC.2.2.2.2.1
  have hK := hC.2.2.2.2.2.2.1.1
  have hA : ∀ q : Nat, s.heap.size ≤ q → (fun q : Nat => s.heap.size ≤ q) q := fun _ h => h
  unfold f_L_law at hf
  refine lv_lconst (pc := 60) (v := (0 : Int64)) hx hb dL_law_60 (by decide) ?_
  refine lv_lstore (pc := 61) (lv' := [(11, .long (0 : Int64)), (0, .ref b), (1, .ref v1), (2, .ref v2), (3, .ref v3), (4, .ref v4), (5, .ref v5), (6, .ref v6), (7, .ref v7), (8, .ref v8), (9, .ref v9), (10, .ref v10)]) hx hb dL_law_61 hl (by decide) rfl (fun ls hl => ?_)
  refine lv_lconst (pc := 63) (v := (0 : Int64)) hx hb dL_law_63 (by decide) ?_
  refine lv_lstore (pc := 64) (lv' := [(13, .long (0 : Int64)), (11, .long (0 : Int64)), (0, .ref b), (1, .ref v1), (2, .ref v2), (3, .ref v3), (4, .ref v4), (5, .ref v5), (6, .ref v6), (7, .ref v7), (8, .ref v8), (9, .ref v9), (10, .ref v10)]) hx hb dL_law_64 hl (by decide) rfl (fun ls hl => ?_)
  refine lv_lconst (pc := 66) (v := (0 : Int64)) hx hb dL_law_66 (by decide) ?_
  refine lv_lstore (pc := 67) (lv' := [(15, .long (0 : Int64)), (13, .long (0 : Int64)), (11, .long (0 : Int64)), (0, .ref b), (1, .ref v1), (2, .ref v2), (3, .ref v3), (4, .ref v4), (5, .ref v5), (6, .ref v6), (7, .ref v7), (8, .ref v8), (9, .ref v9), (10, .ref v10)]) hx hb dL_law_67 hl (by decide) rfl (fun ls hl => ?_)
  refine lv_aload (pc := 69) hx hb dL_law_69 (lv_at hl 12 rfl) ?_
  refine lv_bipush (pc := 71) (v := (7 : Int32)) hx hb dL_law_71 (by decide) ?_
  refine lv_bipush (pc := 73) (v := (20 : Int32)) hx hb dL_law_73 (by decide) ?_
  refine rq_iast (pc := 75) hx hb hK hR dL_law_75 hf (fun N182 H locs hf hR => ?_)
  refine lv_aload (pc := 76) hx hb dL_law_76 (lv_at hl 12 rfl) ?_
  refine lv_bipush (pc := 78) (v := (8 : Int32)) hx hb dL_law_78 (by decide) ?_
  refine lv_bipush (pc := 80) (v := (80 : Int32)) hx hb dL_law_80 (by decide) ?_
  refine rq_iast (pc := 82) hx hb hK hR dL_law_82 hf (fun N183 H locs hf hR => ?_)
  refine lv_aload (pc := 83) hx hb dL_law_83 (lv_at hl 12 rfl) ?_
  refine lv_bipush (pc := 85) (v := (9 : Int32)) hx hb dL_law_85 (by decide) ?_
  refine lv_bipush (pc := 87) (v := (50 : Int32)) hx hb dL_law_87 (by decide) ?_
  refine rq_iast (pc := 89) hx hb hK hR dL_law_89 hf (fun N184 H locs hf hR => ?_)
  refine lv_iconst (pc := 90) (v := (0 : Int32)) hx hb dL_law_90 (by decide) ?_
  refine lv_istore (pc := 91) (lv' := [(17, .int (0 : Int32)), (15, .long (0 : Int64)), (13, .long (0 : Int64)), (11, .long (0 : Int64)), (0, .ref b), (1, .ref v1), (2, .ref v2), (3, .ref v3), (4, .ref v4), (5, .ref v5), (6, .ref v6), (7, .ref v7), (8, .ref v8), (9, .ref v9), (10, .ref v10)]) hx hb dL_law_91 hl (by decide) rfl (fun ls hl => ?_)
  refine lv_iconst (pc := 93) (v := (1 : Int32)) hx hb dL_law_93 (by decide) ?_
  refine lv_aload_n (pc := 94) hx hb dL_law_94 rfl (lv_at hl 4 rfl) ?_
  refine lv_iconst (pc := 95) (v := (0 : Int32)) hx hb dL_law_95 (by decide) ?_
  refine rq_cell (pc := 96) (rest := [.int (1 : Int32)]) X hR (by decide +kernel) m_530 m_531 m_0 m_532 rfl hl.1 rfl (Nat.le_of_ble_eq_true rfl) dL_law_96 hf (fun x185 H locs hf hR => ?_)
  refine lv_iconst (pc := 99) (v := (3 : Int32)) hx hb dL_law_99 (by decide) ?_
  obtain ⟨hrm0, hf⟩ := gd_e hf
  refine rq_I (pc := 100) hf hR hA (fun z hz => rn_S (As := [.int x185, .int (3 : Int32)]) (rest := [.int (1 : Int32)]) hC ⟨hR.2.1, hR.2.2.2⟩ (c_L_low hz _) m_535 m_536 m_0 m_537 hd_L_low ⟨rfl, rfl, Nat.le_of_ble_eq_true rfl, Nat.le_of_ble_eq_true rfl⟩ rfl hl.1 rfl (Nat.le_of_ble_eq_true rfl) dL_law_100 hrm0) (fun z186 H locs hf hR => ?_)
  refine lv_iadd (pc := 103) hx hb dL_law_103 ?_
  refine nm_i hf (fun x187 hf => ?_)
  refine lv_istore (pc := 104) (lv' := [(18, .int x187), (17, .int (0 : Int32)), (15, .long (0 : Int64)), (13, .long (0 : Int64)), (11, .long (0 : Int64)), (0, .ref b), (1, .ref v1), (2, .ref v2), (3, .ref v3), (4, .ref v4), (5, .ref v5), (6, .ref v6), (7, .ref v7), (8, .ref v8), (9, .ref v9), (10, .ref v10)]) hx hb dL_law_104 hl (by decide) rfl (fun ls hl => ?_)
  refine lv_iconst (pc := 106) (v := (0 : Int32)) hx hb dL_law_106 (by decide) ?_
  refine lv_istore (pc := 107) (lv' := [(19, .int (0 : Int32)), (18, .int x187), (17, .int (0 : Int32)), (15, .long (0 : Int64)), (13, .long (0 : Int64)), (11, .long (0 : Int64)), (0, .ref b), (1, .ref v1), (2, .ref v2), (3, .ref v3), (4, .ref v4), (5, .ref v5), (6, .ref v6), (7, .ref v7), (8, .ref v8), (9, .ref v9), (10, .ref v10)]) hx hb dL_law_107 hl (by decide) rfl (fun ls hl => ?_)
  exact l_law_109 X 200 v1 v2 v3 v4 v5 v6 v7 v8 v9 v10 (0 : Int64) (0 : Int64) (0 : Int64) (0 : Int32) x187 (0 : Int32) M z186.1 nc ns _ _ _ hf hR (lv_sub hl [6, 7, 8, 9, 10, 11, 12, 13, 14, 15, 16, 5, 4, 3, 2, 1, 0] rfl)
end LB
