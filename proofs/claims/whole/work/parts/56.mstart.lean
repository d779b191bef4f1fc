/-! ===== PURE: the reference's first memory, and both in one heap (written by gen_mstart.py) ===== -/
theorem nM_T {M : Mem} {d : Nat} (hd : mm_x M = d) (q : Nat) : mm_N (dT16 M d) q = if q = d + 16 then 40 else if q = d + 15 then 40 else if q = d + 14 then 40 else if q = d + 13 then 40 else if q = d + 12 then 20 else if q = d + 11 then 1280 else if q = d + 10 then 6 else if q = d + 9 then 6 else if q = d + 8 then 6 else if q = d + 7 then 80 else if q = d + 6 then 80 else if q = d + 5 then 80 else if q = d + 4 then 80 else if q = d + 3 then 80 else if q = d + 2 then 80 else if q = d + 1 then 80 else if q = d then 0 else mm_N M q := by
  rw [dT16, nr_, nn_, xd_T15 hd]
  rw [dT15, nr_, nn_, xd_T14 hd]
  rw [dT14, nr_, nn_, xd_T13 hd]
  rw [dT13, nr_, nn_, xd_T12 hd]
  rw [dT12, nr_, nn_, xd_T11 hd]
  rw [dT11, nr_, nn_, xd_T10 hd]
  rw [dT10, nr_, nn_, xd_T9 hd]
  rw [dT9, nr_, nn_, xd_T8 hd]
  rw [dT8, nr_, nn_, xd_T7 hd]
  rw [dT7, nr_, nn_, xd_T6 hd]
  rw [dT6, nr_, nn_, xd_T5 hd]
  rw [dT5, nr_, nn_, xd_T4 hd]
  rw [dT4, nr_, nn_, xd_T3 hd]
  rw [dT3, nr_, nn_, xd_T2 hd]
  rw [dT2, nr_, nn_, xd_T1 hd]
  rw [dT1, nr_, nn_, xd_T0 hd]
  rw [dT0, ni_, ni_, ni_, nn_, hd]
theorem iM_T {M : Mem} {d : Nat} (hd : mm_x M = d) (q k : Nat) : mm_i (dT16 M d) q k = if q = d + 16 then 0 else if q = d + 15 then 0 else if q = d + 14 then 0 else if q = d + 13 then 0 else if q = d + 12 then 0 else if q = d + 11 then 0 else if q = d + 10 then 0 else if q = d + 9 then 0 else if q = d + 8 then 0 else if q = d + 7 then 0 else if q = d + 6 then 0 else if q = d + 5 then 0 else if q = d + 4 then 0 else if q = d + 3 then 0 else if q = d + 2 then 0 else if q = d + 1 then 0 else if q = d ∧ k = 5 then 50 else if q = d ∧ k = 4 then 80 else if q = d ∧ k = 3 then 20 else if q = d then 0 else mm_i M q k := by
  rw [dT16, ir_, in_, xd_T15 hd]
  rw [dT15, ir_, in_, xd_T14 hd]
  rw [dT14, ir_, in_, xd_T13 hd]
  rw [dT13, ir_, in_, xd_T12 hd]
  rw [dT12, ir_, in_, xd_T11 hd]
  rw [dT11, ir_, in_, xd_T10 hd]
  rw [dT10, ir_, in_, xd_T9 hd]
  rw [dT9, ir_, in_, xd_T8 hd]
  rw [dT8, ir_, in_, xd_T7 hd]
  rw [dT7, ir_, in_, xd_T6 hd]
  rw [dT6, ir_, in_, xd_T5 hd]
  rw [dT5, ir_, in_, xd_T4 hd]
  rw [dT4, ir_, in_, xd_T3 hd]
  rw [dT3, ir_, in_, xd_T2 hd]
  rw [dT2, ir_, in_, xd_T1 hd]
  rw [dT1, ir_, in_, xd_T0 hd]
  rw [dT0, ii_, ii_, ii_, in_, hd]
theorem lM_T {M : Mem} {d : Nat} (hd : mm_x M = d) (q k : Nat) : mm_l (dT16 M d) q k = if q = d + 16 then 0 else if q = d + 15 then 0 else if q = d + 14 then 0 else if q = d + 13 then 0 else if q = d + 12 then 0 else if q = d + 11 then 0 else if q = d + 10 then 0 else if q = d + 9 then 0 else if q = d + 8 then 0 else if q = d + 7 then 0 else if q = d + 6 then 0 else if q = d + 5 then 0 else if q = d + 4 then 0 else if q = d + 3 then 0 else if q = d + 2 then 0 else if q = d + 1 then 0 else if q = d then 0 else mm_l M q k := by
  rw [dT16, lr_, ln_, xd_T15 hd]
  rw [dT15, lr_, ln_, xd_T14 hd]
  rw [dT14, lr_, ln_, xd_T13 hd]
  rw [dT13, lr_, ln_, xd_T12 hd]
  rw [dT12, lr_, ln_, xd_T11 hd]
  rw [dT11, lr_, ln_, xd_T10 hd]
  rw [dT10, lr_, ln_, xd_T9 hd]
  rw [dT9, lr_, ln_, xd_T8 hd]
  rw [dT8, lr_, ln_, xd_T7 hd]
  rw [dT7, lr_, ln_, xd_T6 hd]
  rw [dT6, lr_, ln_, xd_T5 hd]
  rw [dT5, lr_, ln_, xd_T4 hd]
  rw [dT4, lr_, ln_, xd_T3 hd]
  rw [dT3, lr_, ln_, xd_T2 hd]
  rw [dT2, lr_, ln_, xd_T1 hd]
  rw [dT1, lr_, ln_, xd_T0 hd]
  rw [dT0, li_, li_, li_, ln_, hd]
theorem rM_T {M : Mem} {d : Nat} (hd : mm_x M = d) (q k : Nat) : mm_r (dT16 M d) q k = if q = d ∧ k = 36 then some (d + 16) else if q = d + 16 then none else if q = d ∧ k = 35 then some (d + 15) else if q = d + 15 then none else if q = d ∧ k = 34 then some (d + 14) else if q = d + 14 then none else if q = d ∧ k = 33 then some (d + 13) else if q = d + 13 then none else if q = d ∧ k = 31 then some (d + 12) else if q = d + 12 then none else if q = d ∧ k = 30 then some (d + 11) else if q = d + 11 then none else if q = d ∧ k = 17 then some (d + 10) else if q = d + 10 then none else if q = d ∧ k = 16 then some (d + 9) else if q = d + 9 then none else if q = d ∧ k = 15 then some (d + 8) else if q = d + 8 then none else if q = d ∧ k = 13 then some (d + 7) else if q = d + 7 then none else if q = d ∧ k = 12 then some (d + 6) else if q = d + 6 then none else if q = d ∧ k = 11 then some (d + 5) else if q = d + 5 then none else if q = d ∧ k = 10 then some (d + 4) else if q = d + 4 then none else if q = d ∧ k = 9 then some (d + 3) else if q = d + 3 then none else if q = d ∧ k = 8 then some (d + 2) else if q = d + 2 then none else if q = d ∧ k = 7 then some (d + 1) else if q = d + 1 then none else if q = d then none else mm_r M q k := by
  rw [dT16, rr_, rn_, xd_T15 hd]
  rw [dT15, rr_, rn_, xd_T14 hd]
  rw [dT14, rr_, rn_, xd_T13 hd]
  rw [dT13, rr_, rn_, xd_T12 hd]
  rw [dT12, rr_, rn_, xd_T11 hd]
  rw [dT11, rr_, rn_, xd_T10 hd]
  rw [dT10, rr_, rn_, xd_T9 hd]
  rw [dT9, rr_, rn_, xd_T8 hd]
  rw [dT8, rr_, rn_, xd_T7 hd]
  rw [dT7, rr_, rn_, xd_T6 hd]
  rw [dT6, rr_, rn_, xd_T5 hd]
  rw [dT5, rr_, rn_, xd_T4 hd]
  rw [dT4, rr_, rn_, xd_T3 hd]
  rw [dT3, rr_, rn_, xd_T2 hd]
  rw [dT2, rr_, rn_, xd_T1 hd]
  rw [dT1, rr_, rn_, xd_T0 hd]
  rw [dT0, ri_, ri_, ri_, rn_, hd]
theorem kM_T {M : Mem} {d : Nat} (hd : mm_x M = d) (q : Nat) : (dT16 M d).1 q = if q = d + 16 then 9 else if q = d + 15 then 9 else if q = d + 14 then 9 else if q = d + 13 then 9 else if q = d + 12 then 9 else if q = d + 11 then 9 else if q = d + 10 then 9 else if q = d + 9 then 9 else if q = d + 8 then 9 else if q = d + 7 then 10 else if q = d + 6 then 10 else if q = d + 5 then 9 else if q = d + 4 then 9 else if q = d + 3 then 9 else if q = d + 2 then 9 else if q = d + 1 then 9 else if q = d then 8 else M.1 q := by
  rw [kd_T16 hd, kd_T15 hd, kd_T14 hd, kd_T13 hd, kd_T12 hd, kd_T11 hd, kd_T10 hd, kd_T9 hd, kd_T8 hd, kd_T7 hd, kd_T6 hd, kd_T5 hd, kd_T4 hd, kd_T3 hd, kd_T2 hd, kd_T1 hd, kd_T0 hd]
/-- below the reference nothing changes -/
theorem bel_T {M : Mem} {d : Nat} (hd : mm_x M = d) (q : Nat) (h : q < d) : (dT16 M d).1 q = M.1 q ∧ mm_N (dT16 M d) q = mm_N M q ∧ ∀ k, mm_i (dT16 M d) q k = mm_i M q k ∧ mm_l (dT16 M d) q k = mm_l M q k ∧ mm_r (dT16 M d) q k = mm_r M q k := by
  refine ⟨?_, ?_, fun k => ⟨?_, ?_, ?_⟩⟩
  · rw [kM_T hd]; repeat rw [if_neg (by omega)]
  · rw [nM_T hd]; repeat rw [if_neg (by omega)]
  · rw [iM_T hd]; repeat rw [if_neg (by omega)]
  · rw [lM_T hd]; repeat rw [if_neg (by omega)]
  · rw [rM_T hd]; repeat rw [if_neg (by omega)]
theorem mM_T {M : Mem} {d : Nat} (hd : mm_x M = d) (q : Nat) (h : d ≤ q ∧ q < d + 17) : (dT16 M d).1 q = kdM d q ∧ mm_N (dT16 M d) q = lnM d q ∧ ∀ k, mm_l (dT16 M d) q k = 0 ∧ mm_r (dT16 M d) q k = rfM d q k ∧ mm_i (dT16 M d) q k = if q = d ∧ k = 5 then 50 else if q = d ∧ k = 4 then 80 else if q = d ∧ k = 3 then 20 else 0 := by
  refine ⟨?_, ?_, fun k => ⟨?_, ?_, ?_⟩⟩
  · rw [kM_T hd]
    unfold kdM
    grind (splits := 80)
  · rw [nM_T hd]
    unfold lnM
    grind (splits := 80)
  · rw [lM_T hd]
    grind (splits := 80)
  · rw [rM_T hd]
    unfold rfM yLa yAn yMa yUn yDa yTh yHm yML yMn yMm yFr yFt yCf yCo yCt yCm
    grind (splits := 80)
  · rw [iM_T hd]
    grind (splits := 80)
theorem sg0_1 (c i : Nat) : sg0.1 c i = if c = 10 ∧ i = 3 then 20 else if c = 10 ∧ i = 4 then 80 else if c = 10 ∧ i = 5 then 50 else 0 := by
  show (if c = 10 then (if i = 3 then (20 : Int32) else if i = 4 then 80 else if i = 5 then 50 else 0) else 0) = _
  grind
theorem iM_sg0 {d : Nat} (q k : Nat) : mm_i (memM d sg0) q k = if q = d ∧ k = 5 then 50 else if q = d ∧ k = 4 then 80 else if q = d ∧ k = 3 then 20 else 0 := by
  by_cases h5 : q = d ∧ k = 5
  · rw [if_pos h5, h5.1, h5.2, yB_i5]; rfl
  rw [if_neg h5]
  by_cases h4 : q = d ∧ k = 4
  · rw [if_pos h4, h4.1, h4.2, yB_i4]; rfl
  rw [if_neg h4]
  by_cases h3 : q = d ∧ k = 3
  · rw [if_pos h3, h3.1, h3.2, yB_i3]; rfl
  rw [if_neg h3]
  show (if (itM d q k).1 = 99 then (0 : Int32) else sg0.1 (itM d q k).1 (itM d q k).2) = 0
  by_cases h : (itM d q k).1 = 99
  · rw [if_pos h]
  rw [if_neg h, sg0_1]
  have hz : ∀ i, (itM d q k).1 = 10 ∧ (itM d q k).2 = i → q = iqM d 10 i ∧ k = ikM 10 i := fun i hi => itM_inv (Prod.ext hi.1 hi.2) (by decide)
  rw [if_neg (fun z => h3 (hz 3 z)), if_neg (fun z => h4 (hz 4 z)), if_neg (fun z => h5 (hz 5 z))]
theorem iC_sg0 {b : Nat} (q k : Nat) : mm_i (memC b sg0) q k = if q = b + 1 ∧ k = 6 then 50 else if q = b + 1 ∧ k = 5 then 80 else if q = b + 1 ∧ k = 4 then 20 else 0 := by
  by_cases h5 : q = b + 1 ∧ k = 6
  · rw [if_pos h5, h5.1, h5.2, show b + 1 = xH b from rfl, xH_i6]; rfl
  rw [if_neg h5]
  by_cases h4 : q = b + 1 ∧ k = 5
  · rw [if_pos h4, h4.1, h4.2, show b + 1 = xH b from rfl, xH_i5]; rfl
  rw [if_neg h4]
  by_cases h3 : q = b + 1 ∧ k = 4
  · rw [if_pos h3, h3.1, h3.2, show b + 1 = xH b from rfl, xH_i4]; rfl
  rw [if_neg h3]
  show (if (itC b q k).1 = 99 then (0 : Int32) else sg0.1 (itC b q k).1 (itC b q k).2) = 0
  by_cases h : (itC b q k).1 = 99
  · rw [if_pos h]
  rw [if_neg h, sg0_1]
  have hz : ∀ i, (itC b q k).1 = 10 ∧ (itC b q k).2 = i → q = iqC b 10 i ∧ k = ikC 10 i := fun i hi => itC_inv (Prod.ext hi.1 hi.2) (by decide)
  rw [if_neg (fun z => h3 (hz 3 z)), if_neg (fun z => h4 (hz 4 z)), if_neg (fun z => h5 (hz 5 z))]
theorem l0_C {b q k : Nat} : mm_l (memC b sg0) q k = 0 := by
  show (if lgC b q k = 99 then (0 : Int64) else 0) = 0
  split <;> rfl
theorem l0_M {d q k : Nat} : mm_l (memM d sg0) q k = 0 := by
  show (if lgM d q k = 99 then (0 : Int64) else 0) = 0
  split <;> rfl
/-- the whole heap's memory when the loop begins -/
def mAll (M : Mem) (b : Nat) : Mem := ms_n (dT16 (cT10 M b) (b + 177)) 15 1
theorem mAll_C {D : va_G} {ca : Nat → ClassId} {M : Mem} {b : Nat} {H : Heap} (hb : mm_x M = b) (h : Rg D ca (mAll M b) H) : Rg D ca (memC b sg0) H := by
  have xd := x_T10 (M := M) hb
  have xe := xd_T16 (M := cT10 M b) xd
  refine h.to (fun q hq => ?_)
  rcases kdC_in (b := b) (q := q) hq with hr | hr
  · obtain ⟨c1, c2, c3⟩ := bel_T xd q (by omega)
    unfold mAll
    have hne : ¬ q = mm_x (dT16 (cT10 M b) (b + 177)) := by rw [xe]; omega
    refine ⟨?_, ?_, fun k => ⟨?_, ?_, ?_⟩⟩
    · rw [kn_, if_neg hne, c1]; exact kC_T10 hb q hr
    · rw [nn_, if_neg hne, c2]; exact nC_T10 hb q hr
    · rw [in_, if_neg hne, (c3 k).1, iC_T10 hb q k hr, iC_sg0]
    · rw [ln_, if_neg hne, (c3 k).2.1, lC_T10 hb q k hr, l0_C]
    · rw [rn_, if_neg hne, (c3 k).2.2]; exact rC_T10 hb q k hr
  · have he : q = mm_x (dT16 (cT10 M b) (b + 177)) := by rw [xe, hr]
    unfold mAll
    have kO : (memC b sg0).1 q = 15 := by rw [hr]; exact xO_k
    have nO : mm_N (memC b sg0) q = 1 := by rw [hr]; exact xO_n
    refine ⟨?_, ?_, fun k => ⟨?_, ?_, ?_⟩⟩
    · rw [kn_, if_pos he, kO]
    · rw [nn_, if_pos he, nO]
    · rw [in_, if_pos he, iC_sg0, if_neg (by omega), if_neg (by omega), if_neg (by omega)]
    · rw [ln_, if_pos he, l0_C]
    · rw [rn_, if_pos he]
      show none = rfC b q k
      unfold rfC
      repeat rw [if_neg (by omega)]
theorem mAll_M {D : va_G} {ca : Nat → ClassId} {M : Mem} {b : Nat} {H : Heap} (hb : mm_x M = b) (h : Rg D ca (mAll M b) H) : Rg D ca (memM (b + 177) sg0) H := by
  have xd := x_T10 (M := M) hb
  have xe := xd_T16 (M := cT10 M b) xd
  refine h.to (fun q hq => ?_)
  have hr := kdM_in (b := b + 177) (q := q) hq
  obtain ⟨c1, c2, c3⟩ := mM_T xd q hr
  unfold mAll
  have hne : ¬ q = mm_x (dT16 (cT10 M b) (b + 177)) := by rw [xe]; omega
  refine ⟨?_, ?_, fun k => ⟨?_, ?_, ?_⟩⟩
  · rw [kn_, if_neg hne, c1]; rfl
  · rw [nn_, if_neg hne, c2]; rfl
  · rw [in_, if_neg hne, (c3 k).2.2, iM_sg0]
  · rw [ln_, if_neg hne, (c3 k).1, l0_M]
  · rw [rn_, if_neg hne, (c3 k).2.1]; rfl
theorem Inv0 : Inv sg0 := by
  refine ⟨0, 0, 0, 0, ⟨rfl, by omega, fun i _ => Or.inl rfl, fun i _ _ => rfl, ?_, by decide, by decide, by decide, by decide, by decide⟩, ⟨rfl, by omega, fun j hj => by omega⟩, ⟨rfl, by omega, rfl, by omega, fun k hk => by omega⟩, fun k _ _ => rfl⟩
  have h : ∀ n, smZ (wt sg0) n = 0 := by
    intro n
    induction n with
    | zero => rfl
    | succ n ih => rw [smZ, ih]; rfl
  rw [h 80]
  decide
theorem I2_0 {b : Nat} : I2 b (memC b sg0) (memM (b + 177) sg0) := ⟨sg0, rfl, rfl, Inv0⟩
