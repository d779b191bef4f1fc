/-! ===== the first memories; the law's prologue ===== -/
theorem kdC_in {b q : Nat} (h : kdC b q < 16) : b ≤ q ∧ q < b + 177 := by
  unfold kdC at h
  grind (splits := 40)
theorem kdM_in {b q : Nat} (h : kdM b q < 16) : b ≤ q ∧ q < b + 9 := by
  unfold kdM at h
  grind (splits := 40)
def dA (M : Mem) : Mem := (ms_n (ms_n (ms_n (ms_n (ms_n (ms_n (ms_n (ms_n (ms_n M 9 64) 9 64) 9 64) 9 64) 9 64) 9 64) 9 64) 9 16) 9 16)
theorem kA {M : Mem} {d : Nat} (hd : mm_x M = d) (q : Nat) : (dA M).1 q = if q = d + 8 then 9 else if q = d + 7 then 9 else if q = d + 6 then 9 else if q = d + 5 then 9 else if q = d + 4 then 9 else if q = d + 3 then 9 else if q = d + 2 then 9 else if q = d + 1 then 9 else if q = d then 9 else M.1 q := by
  simp only [dA, kn_, xn_, hd, Nat.reduceAdd, Nat.add_assoc]
theorem nA {M : Mem} {d : Nat} (hd : mm_x M = d) (q : Nat) : mm_N (dA M) q = if q = d + 8 then 16 else if q = d + 7 then 16 else if q = d + 6 then 64 else if q = d + 5 then 64 else if q = d + 4 then 64 else if q = d + 3 then 64 else if q = d + 2 then 64 else if q = d + 1 then 64 else if q = d then 64 else mm_N M q := by
  simp only [dA, nn_, xn_, hd, Nat.reduceAdd, Nat.add_assoc]
theorem iA {M : Mem} {d : Nat} (hd : mm_x M = d) (q k : Nat) : mm_i (dA M) q k = if q = d + 8 then 0 else if q = d + 7 then 0 else if q = d + 6 then 0 else if q = d + 5 then 0 else if q = d + 4 then 0 else if q = d + 3 then 0 else if q = d + 2 then 0 else if q = d + 1 then 0 else if q = d then 0 else mm_i M q k := by
  simp only [dA, in_, xn_, hd, Nat.reduceAdd, Nat.add_assoc]
theorem lA {M : Mem} {d : Nat} (hd : mm_x M = d) (q k : Nat) : mm_l (dA M) q k = if q = d + 8 then 0 else if q = d + 7 then 0 else if q = d + 6 then 0 else if q = d + 5 then 0 else if q = d + 4 then 0 else if q = d + 3 then 0 else if q = d + 2 then 0 else if q = d + 1 then 0 else if q = d then 0 else mm_l M q k := by
  simp only [dA, ln_, xn_, hd, Nat.reduceAdd, Nat.add_assoc]
theorem rA {M : Mem} {d : Nat} (hd : mm_x M = d) (q k : Nat) : mm_r (dA M) q k = if q = d + 8 then none else if q = d + 7 then none else if q = d + 6 then none else if q = d + 5 then none else if q = d + 4 then none else if q = d + 3 then none else if q = d + 2 then none else if q = d + 1 then none else if q = d then none else mm_r M q k := by
  simp only [dA, rn_, xn_, hd, Nat.reduceAdd, Nat.add_assoc]
theorem belA {M : Mem} {d : Nat} (hd : mm_x M = d) (q : Nat) (h : q < d) : (dA M).1 q = M.1 q ∧ mm_N (dA M) q = mm_N M q ∧ ∀ k, mm_i (dA M) q k = mm_i M q k ∧ mm_l (dA M) q k = mm_l M q k ∧ mm_r (dA M) q k = mm_r M q k := by
  refine ⟨?_, ?_, fun k => ⟨?_, ?_, ?_⟩⟩
  · rw [kA hd]; repeat rw [if_neg (by omega)]
  · rw [nA hd]; repeat rw [if_neg (by omega)]
  · rw [iA hd]; repeat rw [if_neg (by omega)]
  · rw [lA hd]; repeat rw [if_neg (by omega)]
  · rw [rA hd]; repeat rw [if_neg (by omega)]
theorem inA {M : Mem} {d : Nat} (hd : mm_x M = d) (q : Nat) (h : d ≤ q ∧ q < d + 9) : (dA M).1 q = kdM d q ∧ mm_N (dA M) q = lnM d q ∧ ∀ k, mm_i (dA M) q k = 0 ∧ mm_l (dA M) q k = 0 ∧ mm_r (dA M) q k = none := by
  refine ⟨?_, ?_, fun k => ⟨?_, ?_, ?_⟩⟩
  · rw [kA hd]
    unfold kdM
    grind (splits := 40)
  · rw [nA hd]
    unfold lnM
    grind (splits := 40)
  · rw [iA hd]
    grind (splits := 40)
  · rw [lA hd]
    grind (splits := 40)
  · rw [rA hd]
    grind (splits := 40)
theorem sg0_1 (c i : Nat) : sg0.1 c i = if c = 10 ∧ i = 3 then 20 else if c = 10 ∧ i = 4 then 80 else if c = 10 ∧ i = 5 then 50 else 0 := by
  show (if c = 10 then (if i = 3 then (20 : Int32) else if i = 4 then 80 else if i = 5 then 50 else 0) else 0) = _
  grind
theorem iC_sg0 {b : Nat} (q k : Nat) : mm_i (memC b sg0) q k = if q = b + 1 ∧ k = 6 then 50 else if q = b + 1 ∧ k = 5 then 80 else if q = b + 1 ∧ k = 4 then 20 else 0 := by
  by_cases h5 : q = b + 1 ∧ k = 6
  · rw [if_pos h5, h5.1, h5.2, show b + 1 = xH b from rfl, xH_i6]; rfl
  rw [if_neg h5]
  by_cases h4 : q = b + 1 ∧ k = 5
  · rw [if_pos h4, h4.1, h4.2, show b + 1 = xH b from rfl, xH_i5]; rfl
  rw [if_neg h4]
  by_cases h3 : q = b + 1 ∧ k = 4
  · rw [if_pos h3, h3.1, h3.2, show b + 1 = xH b from rfl, xH_i4]; rfl
  rw [if_neg h3]
  show (if (itC b q k).1 = 99 then (0 : Int32) else sg0.1 (itC b q k).1 (itC b q k).2) = 0
  by_cases h : (itC b q k).1 = 99
  · rw [if_pos h]
  rw [if_neg h, sg0_1]
  have hz : ∀ i, (itC b q k).1 = 10 ∧ (itC b q k).2 = i → q = iqC b 10 i ∧ k = ikC 10 i := fun i hi => itC_inv (Prod.ext hi.1 hi.2) (by decide)
  rw [if_neg (fun z => h3 (hz 3 z)), if_neg (fun z => h4 (hz 4 z)), if_neg (fun z => h5 (hz 5 z))]
theorem l0_C {b q k : Nat} : mm_l (memC b sg0) q k = 0 := by
  show (if lgC b q k = 99 then (0 : Int64) else 0) = 0
  split <;> rfl
theorem i0_M {d q k : Nat} : mm_i (memM d zz) q k = 0 := by
  show (if (itM d q k).1 = 99 then (0 : Int32) else 0) = 0
  split <;> rfl
theorem l0_M {d q k : Nat} : mm_l (memM d zz) q k = 0 := by
  show (if lgM d q k = 99 then (0 : Int64) else 0) = 0
  split <;> rfl
theorem mAll_C {D : va_G} {ca : Nat → ClassId} {M : Mem} {b : Nat} {H : Heap} (hb : mm_x M = b) (h : Rg D ca (dA (cT10 M b)) H) : Rg D ca (memC b sg0) H := by
  have xd := x_T10 (M := M) hb
  refine h.to (fun q hq => ?_)
  have hr := kdC_in (b := b) (q := q) hq
  obtain ⟨c1, c2, c3⟩ := belA xd q (by omega)
  refine ⟨?_, ?_, fun k => ⟨?_, ?_, ?_⟩⟩
  · rw [c1]; exact kC_T10 hb q hr
  · rw [c2]; exact nC_T10 hb q hr
  · rw [(c3 k).1, iC_T10 hb q k hr, iC_sg0]
  · rw [(c3 k).2.1, lC_T10 hb q k hr, l0_C]
  · rw [(c3 k).2.2]; exact rC_T10 hb q k hr
theorem mAll_M {D : va_G} {ca : Nat → ClassId} {M : Mem} {b : Nat} {H : Heap} (hb : mm_x M = b) (h : Rg D ca (dA (cT10 M b)) H) : Rg D ca (memM (b + 177) zz) H := by
  have xd := x_T10 (M := M) hb
  refine h.to (fun q hq => ?_)
  have hr := kdM_in (b := b + 177) (q := q) hq
  obtain ⟨c1, c2, c3⟩ := inA xd q hr
  refine ⟨?_, ?_, fun k => ⟨?_, ?_, ?_⟩⟩
  · rw [c1]; rfl
  · rw [c2]; rfl
  · rw [(c3 k).1, i0_M]
  · rw [(c3 k).2.1, l0_M]
  · rw [(c3 k).2.2]; rfl
def M00 (n : Nat) : Mem := (fun _ => 16, fun _ => 0, fun _ _ => 0, fun _ _ => 0, fun _ _ => none, n)
theorem pro_f (n : Nat) : lt_ (mm_x (M00 n)) (fun a => lt_ (ms_n (M00 n) 7 0) fun M0 => bd (f_X7_init a M0) fun z7 => lt_ (mm_x z7) fun a1 => lt_ (ms_n z7 9 64) fun M1 => lt_ (mm_x M1) fun a2 => lt_ (ms_n M1 9 64) fun M2 => lt_ (mm_x M2) fun a3 => lt_ (ms_n M2 9 64) fun M3 => lt_ (mm_x M3) fun a4 => lt_ (ms_n M3 9 64) fun M4 => lt_ (mm_x M4) fun a5 => lt_ (ms_n M4 9 64) fun M5 => lt_ (mm_x M5) fun a6 => lt_ (ms_n M5 9 64) fun M6 => lt_ (mm_x M6) fun a7 => lt_ (ms_n M6 9 64) fun M7 => lt_ (mm_x M7) fun a8 => lt_ (ms_n M7 9 16) fun M8 => lt_ (mm_x M8) fun a9 => lt_ (ms_n M8 9 16) fun M9 => some (a, a1, a2, a3, a4, a5, a6, a7, a8, a9, M9)) = some (n, n + 177, n + 178, n + 179, n + 180, n + 181, n + 182, n + 183, n + 184, n + 185, dA (cT10 (M00 n) n)) := by
  have hb : mm_x (M00 n) = n := rfl
  have xd := x_T10 (M := M00 n) hb
  simp only [lt_, e_X7_init hb, hb, bd_s, xn_, xd, dA, Nat.reduceAdd, Nat.add_assoc]

set_option maxHeartbeats 8000000 in
set_option maxRecDepth 100000 in
theorem whole_start {p : Program} {e : Env} {s : State} {m : MethodId} {below : List Frame} {meth : Method} {c : Code} (l : Launch) (hflags : l.flags = flags0) {b L : Nat} {xs : Nat → Int32} (hL : L ≤ 260) (C0 : lw_At p s m meth c b L xs) : W p l e room_1 s m #[Value.ref b] below meth c s.heap [] 0 0 (lw_Z below #[Value.ref b] s) (entryFrame m ([Value.ref b] : List Value).toArray 34) := by
  obtain ⟨hx, hb, hr, hml, hown, hts0, hX, hbl, hlocks, hgv⟩ := id C0
  obtain ⟨D, ca, hXe⟩ := mk_Xe hts0 hgv
  have hts : ∀ w ∈ aw, w.before #[Value.ref b] s = true := fun w hw => hts0 w (aw_tbl hw)
  have hC : Cx cL_law 34 yL_law D ca s.heap.size (fun q => s.heap.size ≤ q) p s m #[Value.ref b] meth c := ⟨hx, hb, hml, hts, hown, hlocks, hXe, fun q h => h, fun q h => h, fun h => absurd h (by decide)⟩
  have hK := hXe.1
  have hA : ∀ q : Nat, s.heap.size ≤ q → (fun q : Nat => s.heap.size ≤ q) q := fun _ h => h
  have hR : Hp D ca true (fun q => s.heap.size ≤ q) s (M00 s.heap.size) s.heap [] := ⟨⟨fun q => ⟨fun h => absurd h (by show ¬ 16 < 9; decide), fun _ h => absurd h (by show ¬ 16 < 16; decide)⟩, fun _ => rfl, fun q h => absurd h (by show ¬ 16 < 16; decide)⟩, va_S.rf⟩
  have hf := pro_f s.heap.size
  have hl := lv_entry [Value.ref b] (n := 34) (Nat.le_of_ble_eq_true rfl)
  rw [lg_entry_eq]
  generalize ((lg_sl [Value.ref b] ++ List.replicate (34 - (lg_sl [Value.ref b]).length) Slot.unset).toArray) = ls at hl ⊢
  have hl : lv_has ls 34 [(0, .ref b)] := hl
  refine rg_new (pc := 0) (C := RX7) (T := TX7) (N := 11) (κ := 7) hx hb hts hK hR hA hown in_7 rfl (by decide) tyX7 tyX7_ok df_7 m_16 m_17 m_1 (Nat.le_of_ble_eq_true rfl) (Nat.le_of_ble_eq_true rfl) dL_law_0 hf (fun a M0 H hf hR => ?_)
  refine lv_dup (pc := 3) hx hb dL_law_3 rfl ?_
  refine rg_V (pc := 4) hf hR hA (fun z hz => rn_Ic (As := []) (rest := [.ref a]) hC hR (c_X7_init hz _) m_18 m_19 m_1 m_20 rfl hd_X7_init ⟨rfl, rfl, Nat.le_of_ble_eq_true rfl, Nat.le_of_ble_eq_true rfl⟩ rfl hl.1 rfl (Nat.le_of_ble_eq_true rfl) dL_law_4 ⟨Nat.le_of_ble_eq_true rfl, Nat.le_of_ble_eq_true rfl⟩) (fun z7 H locs hf hR => ?_)
  refine lv_astore_n (pc := 7) (lv' := [(1, .ref a), (0, .ref b)]) hx hb dL_law_7 rfl hl (by decide) rfl (fun ls hl => ?_)
  refine lv_bipush (pc := 8) (v := (64 : Int32)) hx hb dL_law_8 (by decide) ?_
  refine rg_newa (pc := 10) (atype := .int) (κ := 9) (N := 64) hx hb hts hK hR hA 0 rfl (by decide) m_202 (by decide) (by decide) (by decide) (Nat.le_of_ble_eq_true rfl) (Nat.le_of_ble_eq_true rfl) dL_law_10 hf (fun a1 M1 H hf hR => ?_)
  refine lv_astore_n (pc := 12) (lv' := [(2, .ref a1), (1, .ref a), (0, .ref b)]) hx hb dL_law_12 rfl hl (by decide) rfl (fun ls hl => ?_)
  refine lv_bipush (pc := 13) (v := (64 : Int32)) hx hb dL_law_13 (by decide) ?_
  refine rg_newa (pc := 15) (atype := .int) (κ := 9) (N := 64) hx hb hts hK hR hA 0 rfl (by decide) m_202 (by decide) (by decide) (by decide) (Nat.le_of_ble_eq_true rfl) (Nat.le_of_ble_eq_true rfl) dL_law_15 hf (fun a2 M2 H hf hR => ?_)
  refine lv_astore_n (pc := 17) (lv' := [(3, .ref a2), (2, .ref a1), (1, .ref a), (0, .ref b)]) hx hb dL_law_17 rfl hl (by decide) rfl (fun ls hl => ?_)
  refine lv_bipush (pc := 18) (v := (64 : Int32)) hx hb dL_law_18 (by decide) ?_
  refine rg_newa (pc := 20) (atype := .int) (κ := 9) (N := 64) hx hb hts hK hR hA 0 rfl (by decide) m_202 (by decide) (by decide) (by decide) (Nat.le_of_ble_eq_true rfl) (Nat.le_of_ble_eq_true rfl) dL_law_20 hf (fun a3 M3 H hf hR => ?_)
  refine lv_astore (pc := 22) (lv' := [(4, .ref a3), (3, .ref a2), (2, .ref a1), (1, .ref a), (0, .ref b)]) hx hb dL_law_22 hl (by decide) rfl (fun ls hl => ?_)
  refine lv_bipush (pc := 24) (v := (64 : Int32)) hx hb dL_law_24 (by decide) ?_
  refine rg_newa (pc := 26) (atype := .int) (κ := 9) (N := 64) hx hb hts hK hR hA 0 rfl (by decide) m_202 (by decide) (by decide) (by decide) (Nat.le_of_ble_eq_true rfl) (Nat.le_of_ble_eq_true rfl) dL_law_26 hf (fun a4 M4 H hf hR => ?_)
  refine lv_astore (pc := 28) (lv' := [(5, .ref a4), (4, .ref a3), (3, .ref a2), (2, .ref a1), (1, .ref a), (0, .ref b)]) hx hb dL_law_28 hl (by decide) rfl (fun ls hl => ?_)
  refine lv_bipush (pc := 30) (v := (64 : Int32)) hx hb dL_law_30 (by decide) ?_
  refine rg_newa (pc := 32) (atype := .int) (κ := 9) (N := 64) hx hb hts hK hR hA 0 rfl (by decide) m_202 (by decide) (by decide) (by decide) (Nat.le_of_ble_eq_true rfl) (Nat.le_of_ble_eq_true rfl) dL_law_32 hf (fun a5 M5 H hf hR => ?_)
  refine lv_astore (pc := 34) (lv' := [(6, .ref a5), (5, .ref a4), (4, .ref a3), (3, .ref a2), (2, .ref a1), (1, .ref a), (0, .ref b)]) hx hb dL_law_34 hl (by decide) rfl (fun ls hl => ?_)
  refine lv_bipush (pc := 36) (v := (64 : Int32)) hx hb dL_law_36 (by decide) ?_
  refine rg_newa (pc := 38) (atype := .int) (κ := 9) (N := 64) hx hb hts hK hR hA 0 rfl (by decide) m_202 (by decide) (by decide) (by decide) (Nat.le_of_ble_eq_true rfl) (Nat.le_of_ble_eq_true rfl) dL_law_38 hf (fun a6 M6 H hf hR => ?_)
  refine lv_astore (pc := 40) (lv' := [(7, .ref a6), (6, .ref a5), (5, .ref a4), (4, .ref a3), (3, .ref a2), (2, .ref a1), (1, .ref a), (0, .ref b)]) hx hb dL_law_40 hl (by decide) rfl (fun ls hl => ?_)
  refine lv_bipush (pc := 42) (v := (64 : Int32)) hx hb dL_law_42 (by decide) ?_
  refine rg_newa (pc := 44) (atype := .int) (κ := 9) (N := 64) hx hb hts hK hR hA 0 rfl (by decide) m_202 (by decide) (by decide) (by decide) (Nat.le_of_ble_eq_true rfl) (Nat.le_of_ble_eq_true rfl) dL_law_44 hf (fun a7 M7 H hf hR => ?_)
  refine lv_astore (pc := 46) (lv' := [(8, .ref a7), (7, .ref a6), (6, .ref a5), (5, .ref a4), (4, .ref a3), (3, .ref a2), (2, .ref a1), (1, .ref a), (0, .ref b)]) hx hb dL_law_46 hl (by decide) rfl (fun ls hl => ?_)
  refine lv_bipush (pc := 48) (v := (16 : Int32)) hx hb dL_law_48 (by decide) ?_
  refine rg_newa (pc := 50) (atype := .int) (κ := 9) (N := 16) hx hb hts hK hR hA 0 rfl (by decide) m_202 (by decide) (by decide) (by decide) (Nat.le_of_ble_eq_true rfl) (Nat.le_of_ble_eq_true rfl) dL_law_50 hf (fun a8 M8 H hf hR => ?_)
  refine lv_astore (pc := 52) (lv' := [(9, .ref a8), (8, .ref a7), (7, .ref a6), (6, .ref a5), (5, .ref a4), (4, .ref a3), (3, .ref a2), (2, .ref a1), (1, .ref a), (0, .ref b)]) hx hb dL_law_52 hl (by decide) rfl (fun ls hl => ?_)
  refine lv_bipush (pc := 54) (v := (16 : Int32)) hx hb dL_law_54 (by decide) ?_
  refine rg_newa (pc := 56) (atype := .int) (κ := 9) (N := 16) hx hb hts hK hR hA 0 rfl (by decide) m_202 (by decide) (by decide) (by decide) (Nat.le_of_ble_eq_true rfl) (Nat.le_of_ble_eq_true rfl) dL_law_56 hf (fun a9 M9 H hf hR => ?_)
  refine lv_astore (pc := 58) (lv' := [(10, .ref a9), (9, .ref a8), (8, .ref a7), (7, .ref a6), (6, .ref a5), (5, .ref a4), (4, .ref a3), (3, .ref a2), (2, .ref a1), (1, .ref a), (0, .ref b)]) hx hb dL_law_58 hl (by decide) rfl (fun ls hl => ?_)
  simp only [Option.some.injEq, Prod.mk.injEq] at hf
  obtain ⟨rfl, rfl, rfl, rfl, rfl, rfl, rfl, rfl, rfl, rfl, rfl⟩ := hf
  have hW1 : Wr D ca false (fun q => s.heap.size ≤ q) (memC s.heap.size sg0) H := ⟨mAll_C rfl hR.1.1, fun h => (by cases h), fun q h => (kdC_in (b := s.heap.size) (q := q) h).1⟩
  have hW2 : Wr D ca false (fun q => s.heap.size ≤ q) (memM (s.heap.size + 177) zz) H := ⟨mAll_M rfl hR.1.1, fun h => (by cases h), fun q h => by
    have := kdM_in (b := s.heap.size + 177) (q := q) h
    show s.heap.size ≤ q
    omega⟩
  have hdis : ∀ q, (memM (s.heap.size + 177) zz).1 q < 16 → ¬ (memC s.heap.size sg0).1 q < 16 := fun q h1 h2 => by
    have a1 := kdC_in (b := s.heap.size) (q := q) h2
    have a2 := kdM_in (b := s.heap.size + 177) (q := q) h1
    omega
  have X : LX p l s m meth c D ca b L xs := ⟨hx, hb, hC, no_traces hflags, hX, hbl, hr, hL⟩
  exact c_L_law X s.heap.size (s.heap.size + 177) (s.heap.size + 178) (s.heap.size + 179) (s.heap.size + 180) (s.heap.size + 181) (s.heap.size + 182) (s.heap.size + 183) (s.heap.size + 184) (s.heap.size + 185) _ _ _ _ H locs ls (law_1 (d := s.heap.size + 177) ⟨Nat.le_of_ble_eq_true rfl, Nat.le_of_ble_eq_true rfl⟩) ⟨hW1, hW2, hdis, hR.2⟩ (lv_sub hl [10, 9, 8, 7, 6, 5, 4, 3, 2, 1, 0] rfl)
