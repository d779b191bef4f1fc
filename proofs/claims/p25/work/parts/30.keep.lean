/-! ===== PURE: what meetings keep ===== -/
theorem ln_all : ∀ m : Nat, m < 64 → (nI m).toInt = m := by decide +kernel
theorem lnOk_iff {x : Int32} : lnOk x ↔ 0 ≤ x.toInt ∧ x.toInt < 64 := by
  constructor
  · rintro ⟨m, hm, rfl⟩
    rw [ln_all m hm]
    omega
  · rintro ⟨h1, h2⟩
    refine ⟨x.toInt.toNat, by omega, ?_⟩
    apply Int32.toInt_inj.mp
    rw [ln_all _ (by omega)]
    omega
theorem blS_in {σ : Sg} {c i j : Nat} {B : Int} (hB : B ≤ 1000) (hm : msP σ i j) (h1 : 0 ≤ (σ.1 c i).toInt ∧ (σ.1 c i).toInt ≤ B) (h2 : 0 ≤ (σ.1 c j).toInt ∧ (σ.1 c j).toInt ≤ B) : 0 ≤ (blS σ c i j).toInt ∧ (blS σ c i j).toInt ≤ B := by
  have hs := msP_sum hm
  obtain ⟨m1, m2, m3⟩ := hm
  have p1 : 0 ≤ (σ.1 2 i).toInt * (σ.1 c i).toInt := Int.mul_nonneg (by omega) h1.1
  have p2 : 0 ≤ (σ.1 2 j).toInt * (σ.1 c j).toInt := Int.mul_nonneg (by omega) h2.1
  have q1 : (σ.1 2 i).toInt * (σ.1 c i).toInt ≤ (σ.1 2 i).toInt * B := Int.mul_le_mul_of_nonneg_left h1.2 (by omega)
  have q2 : (σ.1 2 j).toInt * (σ.1 c j).toInt ≤ (σ.1 2 j).toInt * B := Int.mul_le_mul_of_nonneg_left h2.2 (by omega)
  have r1 : (σ.1 2 i).toInt * B ≤ (σ.1 2 i).toInt * 1000 := Int.mul_le_mul_of_nonneg_left hB (by omega)
  have r2 : (σ.1 2 j).toInt * B ≤ (σ.1 2 j).toInt * 1000 := Int.mul_le_mul_of_nonneg_left hB (by omega)
  have e1 : ((σ.1 2 i).toInt64 * (σ.1 c i).toInt64 + (σ.1 2 j).toInt64 * (σ.1 c j).toInt64).toInt = (σ.1 2 i).toInt * (σ.1 c i).toInt + (σ.1 2 j).toInt * (σ.1 c j).toInt := by
    rw [Int64.toInt_add, Int64.toInt_mul, Int64.toInt_mul, i64_of, i64_of, i64_of, i64_of]
    rw [show ((σ.1 2 i).toInt * (σ.1 c i).toInt).bmod (2 ^ 64) = (σ.1 2 i).toInt * (σ.1 c i).toInt from Int.bmod_eq_of_le (by omega) (by omega)]
    rw [show ((σ.1 2 j).toInt * (σ.1 c j).toInt).bmod (2 ^ 64) = (σ.1 2 j).toInt * (σ.1 c j).toInt from Int.bmod_eq_of_le (by omega) (by omega)]
    exact Int.bmod_eq_of_le (by omega) (by omega)
  have e2 : (((σ.1 2 i).toInt64 * (σ.1 c i).toInt64 + (σ.1 2 j).toInt64 * (σ.1 c j).toInt64) / ((σ.1 2 i).toInt64 + (σ.1 2 j).toInt64)).toInt = ((σ.1 2 i).toInt * (σ.1 c i).toInt + (σ.1 2 j).toInt * (σ.1 c j).toInt) / ((σ.1 2 i).toInt + (σ.1 2 j).toInt) := by
    rw [Int64.toInt_div, e1, hs, Int.tdiv_eq_ediv_of_nonneg (by omega)]
    have d1 := Int.ediv_nonneg (a := (σ.1 2 i).toInt * (σ.1 c i).toInt + (σ.1 2 j).toInt * (σ.1 c j).toInt) (b := (σ.1 2 i).toInt + (σ.1 2 j).toInt) (by omega) (by omega)
    have d2 := Int.ediv_le_self (a := (σ.1 2 i).toInt * (σ.1 c i).toInt + (σ.1 2 j).toInt * (σ.1 c j).toInt) ((σ.1 2 i).toInt + (σ.1 2 j).toInt) (by omega)
    exact Int.bmod_eq_of_le (by omega) (by omega)
  have d1 := Int.ediv_nonneg (a := (σ.1 2 i).toInt * (σ.1 c i).toInt + (σ.1 2 j).toInt * (σ.1 c j).toInt) (b := (σ.1 2 i).toInt + (σ.1 2 j).toInt) (by omega) (by omega)
  have d3 : ((σ.1 2 i).toInt * (σ.1 c i).toInt + (σ.1 2 j).toInt * (σ.1 c j).toInt) / ((σ.1 2 i).toInt + (σ.1 2 j).toInt) ≤ B := by
    apply Int.ediv_le_of_le_mul (by omega)
    have c1 : (σ.1 2 i).toInt * B = B * (σ.1 2 i).toInt := Int.mul_comm _ _
    have c2 : (σ.1 2 j).toInt * B = B * (σ.1 2 j).toInt := Int.mul_comm _ _
    rw [Int.mul_add]
    omega
  unfold blS
  rw [Int64.toInt_toInt32, e2, Int.bmod_eq_of_le (by omega) (by omega)]
  exact ⟨d1, d3⟩
theorem InvG.stick {nn : Nat} {σ : Sg} {i j : Nat} (h : InvG nn σ) (hi : i < 80) (hj : j < 80) (hij : i ≠ j) (h5 : σ.1 5 i = 1) (h6 : σ.1 5 j = 1) : InvG nn (tStick σ i j) := by
  have hji : j ≠ i := fun e => hij e.symm
  have m12 := h.ms2 hi hj hij h5 h6
  have mi := (h.ms hi h5).1
  have mj := (h.ms hj h6).1
  have hm : msP σ i j := ⟨mi, mj, m12⟩
  obtain ⟨a1, a2, a3, a4, a5, a6, a7, a8, a9, a10⟩ := h
  obtain ⟨-, g1, -, g2, g3⟩ := (a3 i hi).resolve_left (by rw [h5]; decide)
  obtain ⟨-, k1, -, k2, k3⟩ := (a3 j hj).resolve_left (by rw [h6]; decide)
  rw [lnOk_iff] at g1 k1
  have b0 := blS_in (c := 0) (B := 63) (by omega) hm (by omega) (by omega)
  have b4 := blS_in (c := 4) (B := 1000) (by omega) hm ⟨g2, g3⟩ ⟨k2, k3⟩
  have hadd := i32_add (x := σ.1 2 i) (y := σ.1 2 j) (by omega) (by omega) (by omega)
  have wi : wt σ i = (σ.1 2 i).toInt := by unfold wt; rw [if_neg (by rw [h5]; decide)]
  have wj : wt σ j = (σ.1 2 j).toInt := by unfold wt; rw [if_neg (by rw [h6]; decide)]
  have e0 : ∀ k, (tStick σ i j).1 0 k = if k = i then blS σ 0 i j else σ.1 0 k := fun k => by simp only [tStick, sI_1, sI_2, sL_1, sL_2, false_and, and_false, Nat.reduceEqDiff, reduceCtorEq, ↓reduceIte, eq_self, and_self, true_and, and_true]
  have e2 : ∀ k, (tStick σ i j).1 2 k = if k = i then σ.1 2 i + σ.1 2 j else σ.1 2 k := fun k => by simp only [tStick, sI_1, sI_2, sL_1, sL_2, false_and, and_false, Nat.reduceEqDiff, reduceCtorEq, ↓reduceIte, eq_self, and_self, true_and, and_true]
  have e4 : ∀ k, (tStick σ i j).1 4 k = if k = i then blS σ 4 i j else σ.1 4 k := fun k => by simp only [tStick, sI_1, sI_2, sL_1, sL_2, false_and, and_false, Nat.reduceEqDiff, reduceCtorEq, ↓reduceIte, eq_self, and_self, true_and, and_true]
  have e5 : ∀ k, (tStick σ i j).1 5 k = if k = j then 0 else σ.1 5 k := fun k => by simp only [tStick, sI_1, sI_2, sL_1, sL_2, false_and, and_false, Nat.reduceEqDiff, reduceCtorEq, ↓reduceIte, eq_self, and_self, true_and, and_true]
  have e10 : ∀ k, k ≠ 6 → (tStick σ i j).1 10 k = σ.1 10 k := fun k hk => by simp only [tStick, sI_1, sI_2, sL_1, sL_2, false_and, and_false, Nat.reduceEqDiff, reduceCtorEq, ↓reduceIte, eq_self, and_self, true_and, and_true, hk]
  have el : ∀ k, k ≠ 2 → (tStick σ i j).2 k = σ.2 k := fun k hk => by simp only [tStick, sI_1, sI_2, sL_1, sL_2, false_and, and_false, Nat.reduceEqDiff, reduceCtorEq, ↓reduceIte, eq_self, and_self, true_and, and_true, hk]
  generalize tStick σ i j = τ at e0 e2 e4 e5 e10 el ⊢
  have hsum : smZ (wt τ) 80 = smZ (wt σ) 80 := by
    have u1 := smZ_upd (f := wt σ) (g := fun k => if k = i then (σ.1 2 i).toInt + (σ.1 2 j).toInt else wt σ k) (i := i) 80 hi (fun k hk hne => if_neg hne)
    have u2 := smZ_upd (f := fun k => if k = i then (σ.1 2 i).toInt + (σ.1 2 j).toInt else wt σ k) (g := wt τ) (i := j) 80 hj (fun k hk hne => by
      unfold wt
      rw [e5, e2, if_neg hne]
      by_cases hki : k = i
      · subst hki
        simp only [if_true]
        rw [if_neg (by rw [h5]; decide), hadd]
      · rw [if_neg hki, if_neg hki])
    have wz : wt τ j = 0 := by unfold wt; rw [e5, if_pos rfl, if_pos rfl]
    rw [u2, u1, wz]
    simp only [if_true, if_neg hji]
    omega
  refine ⟨(e10 0 (by decide)).trans a1, a2, fun k hk => ?_, fun k h1 h2 => ?_, ?_, by rw [e10 11 (by decide)]; exact a6, by rw [e10 12 (by decide)]; exact a7, by rw [e10 13 (by decide)]; exact a8, by rw [e10 11 (by decide), el 3 (by decide)]; exact a9, by rw [e10 12 (by decide), el 4 (by decide)]; exact a10⟩
  · unfold grOk
    rw [e5, e0, e2, e4]
    by_cases hkj : k = j
    · exact Or.inl (if_pos hkj)
    rw [if_neg hkj]
    by_cases hki : k = i
    · rw [if_pos hki, if_pos hki, if_pos hki, hki]
      exact Or.inr ⟨h5, lnOk_iff.mpr (by omega), by omega, b4.1, b4.2⟩
    · rw [if_neg hki, if_neg hki, if_neg hki]
      exact a3 k hk
  · rw [e5]
    by_cases hkj : k = j
    · exact if_pos hkj
    · rw [if_neg hkj]; exact a4 k h1 h2
  · rw [hsum, e10 11 (by decide), e10 12 (by decide), e10 13 (by decide)]
    exact a5
theorem tGo_5 {σ : Sg} {i j : Nat} {v : Int32} (hij : j ≠ i) : (tGo σ i v).1 5 j = σ.1 5 j := by
  unfold tGo
  split
  · split <;> simp only [sI_1, sI_2, sL_1, sL_2, false_and, and_false, Nat.reduceEqDiff, reduceCtorEq, ↓reduceIte, eq_self, and_self, true_and, and_true, hij]
  · simp only [sI_1, sI_2, sL_1, sL_2, false_and, and_false, Nat.reduceEqDiff, reduceCtorEq, ↓reduceIte, eq_self, and_self, true_and, and_true, hij]
theorem InvG.buE {nn : Nat} {τ : Sg} {i j : Nat} {m0 : Int64} (h : InvG nn τ) : InvG nn (tBuE τ i j m0) := by
  refine h.same (fun k hk => ?_) ?_ ?_ <;> simp only [tBuE, sI_1, sI_2, sL_1, sL_2, false_and, and_false, Nat.reduceEqDiff, reduceCtorEq, ↓reduceIte, eq_self, and_self, true_and, and_true]
theorem InvG.bump {nn : Nat} {σ : Sg} {i j : Nat} (h : InvG nn σ) (hi : i < 80) (hj : j < 80) (hij : i ≠ j) (h5 : σ.1 5 i = 1) (h6 : σ.1 5 j = 1) : InvG nn (tBump σ i j) := by
  have hji : j ≠ i := fun e => hij e.symm
  have li := ((h.okG i hi).resolve_left (by rw [h5]; decide)).2
  have lj := ((h.okG j hj).resolve_left (by rw [h6]; decide)).2
  unfold tBump
  split
  · exact ((h.go hi h5 (vOk_up li)).go hj (by rw [tGo_5 hji]; exact h6) (vOk_dn lj)).buE
  · exact ((h.go hi h5 (vOk_dn li)).go hj (by rw [tGo_5 hji]; exact h6) (vOk_up lj)).buE
theorem i32_half {x : Int32} (h : 2 ≤ x.toInt) : (x / (2 : Int32)).toInt = x.toInt / 2 ∧ (x - x / (2 : Int32)).toInt = x.toInt - x.toInt / 2 := by
  have h2 : (2 : Int32).toInt = 2 := rfl
  have hx := Int32.toInt_lt x
  have e : (x / (2 : Int32)).toInt = x.toInt / 2 := by
    rw [Int32.toInt_div, h2, Int.tdiv_eq_ediv_of_nonneg (by omega)]
    exact Int.bmod_eq_of_le (by omega) (by omega)
  refine ⟨e, ?_⟩
  rw [Int32.toInt_sub, e]
  exact Int.bmod_eq_of_le (by omega) (by omega)
theorem InvG.br0 {n : Nat} {σ : Sg} {g : Nat} (h : InvG n σ) (hg : g < n) (hn : n < 80) (h5 : σ.1 5 g = 1) (h2 : 2 ≤ (σ.1 2 g).toInt) : InvG (n + 1) (tBr0 σ g n) := by
  have hgn : g ≠ n := by omega
  obtain ⟨m1, m2⟩ := i32_half h2
  obtain ⟨a1, a2, a3, a4, a5, a6, a7, a8, a9, a10⟩ := h
  obtain ⟨-, g1, -, g2, g3⟩ := (a3 g (by omega)).resolve_left (by rw [h5]; decide)
  have wg : wt σ g = (σ.1 2 g).toInt := by unfold wt; rw [if_neg (by rw [h5]; decide)]
  have wn : wt σ n = 0 := by unfold wt; rw [if_pos (a4 n (by omega) hn)]
  have e0 : ∀ k, (tBr0 σ g n).1 0 k = if k = n then σ.1 0 g else σ.1 0 k := fun k => by simp only [tBr0, sI_1, sI_2, sL_1, sL_2, false_and, and_false, Nat.reduceEqDiff, reduceCtorEq, ↓reduceIte, eq_self, and_self, true_and, and_true]
  have e2 : ∀ k, (tBr0 σ g n).1 2 k = if k = g then σ.1 2 g / (2 : Int32) else if k = n then σ.1 2 g - σ.1 2 g / (2 : Int32) else σ.1 2 k := fun k => by simp only [tBr0, sI_1, sI_2, sL_1, sL_2, false_and, and_false, Nat.reduceEqDiff, reduceCtorEq, ↓reduceIte, eq_self, and_self, true_and, and_true]
  have e4 : ∀ k, (tBr0 σ g n).1 4 k = if k = n then σ.1 4 g else σ.1 4 k := fun k => by simp only [tBr0, sI_1, sI_2, sL_1, sL_2, false_and, and_false, Nat.reduceEqDiff, reduceCtorEq, ↓reduceIte, eq_self, and_self, true_and, and_true]
  have e5 : ∀ k, (tBr0 σ g n).1 5 k = if k = n then 1 else σ.1 5 k := fun k => by simp only [tBr0, sI_1, sI_2, sL_1, sL_2, false_and, and_false, Nat.reduceEqDiff, reduceCtorEq, ↓reduceIte, eq_self, and_self, true_and, and_true]
  have e00 : (tBr0 σ g n).1 10 0 = nI (n + 1) := by simp only [tBr0, sI_1, sI_2, sL_1, sL_2, false_and, and_false, Nat.reduceEqDiff, reduceCtorEq, ↓reduceIte, eq_self, and_self, true_and, and_true]
  have e10 : ∀ k, k ≠ 0 → (tBr0 σ g n).1 10 k = σ.1 10 k := fun k hk => by simp only [tBr0, sI_1, sI_2, sL_1, sL_2, false_and, and_false, Nat.reduceEqDiff, reduceCtorEq, ↓reduceIte, eq_self, and_self, true_and, and_true, hk]
  have el : ∀ k, (tBr0 σ g n).2 k = σ.2 k := fun k => rfl
  generalize tBr0 σ g n = τ at e0 e2 e4 e5 e00 e10 el ⊢
  have hsum : smZ (wt τ) 80 = smZ (wt σ) 80 := by
    have u1 := smZ_upd (f := wt σ) (g := fun k => if k = g then (σ.1 2 g).toInt / 2 else wt σ k) (i := g) 80 (by omega) (fun k hk hne => if_neg hne)
    have u2 := smZ_upd (f := fun k => if k = g then (σ.1 2 g).toInt / 2 else wt σ k) (g := wt τ) (i := n) 80 hn (fun k hk hne => by
      unfold wt
      rw [e5, e2, if_neg hne]
      by_cases hki : k = g
      · subst hki
        simp only [if_true]
        rw [if_neg (by rw [h5]; decide), m1]
      · rw [if_neg hki, if_neg hki, if_neg hne])
    have wz : wt τ n = (σ.1 2 g).toInt - (σ.1 2 g).toInt / 2 := by unfold wt; rw [e5, e2, if_pos rfl, if_neg (by decide), if_neg (fun e => hgn e.symm), if_pos rfl, m2]
    rw [u2, u1, wz]
    simp only [if_true, if_neg (show ¬ n = g from fun e => hgn e.symm)]
    omega
  refine ⟨e00, by omega, fun k hk => ?_, fun k h1 h2 => ?_, ?_, by rw [e10 11 (by decide)]; exact a6, by rw [e10 12 (by decide)]; exact a7, by rw [e10 13 (by decide)]; omega, by rw [e10 11 (by decide), el 3]; exact a9, by rw [e10 12 (by decide), el 4]; exact a10⟩
  · unfold grOk
    rw [e5, e0, e2, e4]
    by_cases hkn : k = n
    · rw [if_pos hkn, if_pos hkn, if_pos hkn, if_neg (by omega), if_pos hkn]
      exact Or.inr ⟨rfl, g1, by omega, g2, g3⟩
    · rw [if_neg hkn, if_neg hkn, if_neg hkn, if_neg hkn]
      by_cases hkg : k = g
      · rw [if_pos hkg, hkg]
        exact Or.inr ⟨h5, g1, by omega, g2, g3⟩
      · rw [if_neg hkg]; exact a3 k hk
  · rw [e5, if_neg (by omega)]; exact a4 k (by omega) h2
  · rw [hsum, e10 11 (by decide), e10 12 (by decide), e10 13 (by decide)]
    exact a5
theorem InvG.brE {nn : Nat} {τ : Sg} {g n : Nat} {m0 : Int64} (h : InvG nn τ) : InvG nn (tBrE τ g n m0) := by
  refine h.same (fun k hk => ?_) ?_ ?_ <;> simp only [tBrE, sI_1, sI_2, sL_1, sL_2, false_and, and_false, Nat.reduceEqDiff, reduceCtorEq, ↓reduceIte, eq_self, and_self, true_and, and_true]
theorem InvG.s22 {nn : Nat} {τ : Sg} {i : Nat} {v : Int32} (h : InvG nn τ) : InvG nn (sI τ 22 i v) := by
  refine h.same (fun k hk => ?_) ?_ ?_ <;> simp only [sI_1, sI_2, sL_1, sL_2, false_and, and_false, Nat.reduceEqDiff, reduceCtorEq, ↓reduceIte, eq_self, and_self, true_and, and_true]
theorem InvG.s6 {nn : Nat} {τ : Sg} {i : Nat} {v : Int32} (h : InvG nn τ) : InvG nn (sI τ 6 i v) := by
  refine h.same (fun k hk => ?_) ?_ ?_ <;> simp only [sI_1, sI_2, sL_1, sL_2, false_and, and_false, Nat.reduceEqDiff, reduceCtorEq, ↓reduceIte, eq_self, and_self, true_and, and_true]
theorem InvG.break {n : Nat} {σ : Sg} {g : Nat} (h : InvG n σ) (hg : g < n) (hn : n < 80) (h5 : σ.1 5 g = 1) (h2 : 2 ≤ (σ.1 2 g).toInt) : InvG (n + 1) (tBreak σ g n) := by
  have lg := ((h.okG g (by omega)).resolve_left (by rw [h5]; decide)).2
  have hgn : g ≠ n := by omega
  have hng : n ≠ g := fun e => hgn e.symm
  have x5 : (tBr0 σ g n).1 5 g = 1 := by rw [← h5]; simp only [tBr0, sI_1, sI_2, sL_1, sL_2, false_and, and_false, Nat.reduceEqDiff, reduceCtorEq, ↓reduceIte, eq_self, and_self, true_and, and_true, hgn]
  have y5 : (tBr0 σ g n).1 5 n = 1 := by simp only [tBr0, sI_1, sI_2, sL_1, sL_2, false_and, and_false, Nat.reduceEqDiff, reduceCtorEq, ↓reduceIte, eq_self, and_self, true_and, and_true]
  unfold tBreak
  exact (((h.br0 hg hn h5 h2).go (by omega) x5 (vOk_dn lg)).go hn (by rw [tGo_5 hng]; exact y5) (vOk_up lg)).brE.s22
theorem InvG.met {nn : Nat} {σ : Sg} {i j : Nat} (h : InvG nn σ) : InvG nn (tMet σ i j) := h.s6.s6.s22.s22
def gn (σ : Sg) : Nat := (σ.1 10 0).toNatClampNeg
theorem gn_eq {nn : Nat} {σ : Sg} (h : InvG nn σ) : gn σ = nn := by
  show (σ.1 10 0).toNatClampNeg = nn
  rw [h.1]
  exact nI_clamp (by have := h.2.1; omega)
theorem tBump_4 {σ : Sg} {i j k : Nat} : (tBump σ i j).1 4 k = σ.1 4 k := by
  unfold tBump tBuE
  split <;> simp only [sI_1, sI_2, sL_1, sL_2, false_and, and_false, Nat.reduceEqDiff, reduceCtorEq, ↓reduceIte, eq_self, and_self, true_and, and_true, tGo_c _ _ _ 4 _ (by decide)]
theorem tBreak_4 {σ : Sg} {g n k : Nat} (hk : k ≠ n) : (tBreak σ g n).1 4 k = σ.1 4 k := by
  unfold tBreak tBrE
  simp only [sI_1, sI_2, sL_1, sL_2, false_and, and_false, Nat.reduceEqDiff, reduceCtorEq, ↓reduceIte, eq_self, and_self, true_and, and_true, tGo_c _ _ _ 4 _ (by decide), tBr0, hk]
theorem InvG.meet {n : Nat} {σ : Sg} {i j : Nat} (h : InvG n σ) (hi : i < n) (hj : j < n) (hij : i ≠ j) (h5 : σ.1 5 i = 1) (h6 : σ.1 5 j = 1) : ∃ n', n ≤ n' ∧ InvG n' (tMeet σ i j n) ∧ (∀ k, n ≤ k → k < n' → (tMeet σ i j n).1 22 k = 1) ∧ ∀ k, n' ≤ k → (tMeet σ i j n).1 4 k = σ.1 4 k := by
  have hn := h.2.1
  have m := h.met (i := i) (j := j)
  have x5 : (tMet σ i j).1 5 i = 1 := h5
  have y5 : (tMet σ i j).1 5 j = 1 := h6
  have hb := m.bump (by omega) (by omega) hij x5 y5
  have hg : ∀ p : Prop, ∀ _ : Decidable p, ((if p then j else i) = i ∨ (if p then j else i) = j) := fun p _ => by
    by_cases hp : p
    · exact Or.inr (if_pos hp)
    · exact Or.inl (if_neg hp)
  have hg := hg (σ.1 2 j ≤ σ.1 2 i) inferInstance
  unfold tMeet
  generalize (if σ.1 2 j ≤ σ.1 2 i then j else i) = g at hg ⊢
  by_cases h1 : σ.1 10 3 < clS σ i j
  · rw [if_pos h1]
    by_cases h2 : clS σ i j ≤ σ.1 10 4
    · rw [if_pos h2]; exact ⟨n, Nat.le_refl _, hb, fun k h1 h2 => by omega, fun k _ => tBump_4⟩
    rw [if_neg h2]
    by_cases h3 : σ.1 2 g < 2
    · rw [if_pos h3]; exact ⟨n, Nat.le_refl _, hb, fun k h1 h2 => by omega, fun k _ => tBump_4⟩
    rw [if_neg h3]
    by_cases h4 : 80 ≤ n
    · rw [if_pos h4]; exact ⟨n, Nat.le_refl _, hb, fun k h1 h2 => by omega, fun k _ => tBump_4⟩
    rw [if_neg h4]
    refine ⟨n + 1, by omega, m.break ?_ (by omega) ?_ ?_, fun k h1 h2 => ?_, fun k h1 => tBreak_4 (by omega)⟩
    · omega
    · rcases hg with rfl | rfl
      · exact x5
      · exact y5
    · rw [Int32.lt_iff_toInt_lt] at h3
      have e2 : (2 : Int32).toInt = 2 := rfl
      rw [e2] at h3
      show 2 ≤ (σ.1 2 g).toInt
      omega
    · obtain rfl : k = n := (by omega)
      simp only [tBreak, sI_1, sI_2, sL_1, sL_2, false_and, and_false, Nat.reduceEqDiff, reduceCtorEq, ↓reduceIte, eq_self, and_self, true_and, and_true]
  · rw [if_neg h1]; exact ⟨n, Nat.le_refl _, m.stick (by omega) (by omega) hij x5 y5, fun k h1 h2 => by omega, fun k h1 => by
      have hk : k ≠ i := by omega
      simp only [tStick, tMet, sI_1, sI_2, sL_1, sL_2, false_and, and_false, Nat.reduceEqDiff, reduceCtorEq, ↓reduceIte, eq_self, and_self, true_and, and_true, hk]⟩
