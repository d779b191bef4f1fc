/-! ===== PURE: what holds of the grains all the time ===== -/
def wt (σ : Sg) (i : Nat) : Int := if σ.1 5 i = 0 then 0 else (σ.1 2 i).toInt
def smZ (f : Nat → Int) : Nat → Int
  | 0 => 0
  | n + 1 => smZ f n + f n
theorem smZ_congr {f g : Nat → Int} : ∀ n, (∀ k, k < n → f k = g k) → smZ f n = smZ g n := by
  intro n
  induction n with
  | zero => intro _; rfl
  | succ n ih => intro h; rw [smZ, smZ, ih (fun k hk => h k (by omega)), h n (by omega)]
theorem smZ_upd {f g : Nat → Int} {i : Nat} : ∀ n, i < n → (∀ k, k < n → k ≠ i → g k = f k) → smZ g n = smZ f n - f i + g i := by
  intro n
  induction n with
  | zero => intro h; omega
  | succ n ih =>
    intro h1 h2
    by_cases hin : i = n
    · subst hin
      rw [smZ, smZ, smZ_congr i (fun k hk => h2 k (by omega) (by omega))]
      omega
    · rw [smZ, smZ, ih (by omega) (fun k hk hne => h2 k (by omega) hne), h2 n (by omega) (fun e => hin e.symm)]
      omega
theorem smZ_ge {f : Nat → Int} : ∀ n, (∀ k, k < n → 0 ≤ f k) → 0 ≤ smZ f n ∧ ∀ i, i < n → f i ≤ smZ f n := by
  intro n
  induction n with
  | zero => intro _; exact ⟨Int.le_refl _, fun i h => by omega⟩
  | succ n ih =>
    intro h
    obtain ⟨h1, h2⟩ := ih (fun k hk => h k (by omega))
    have h3 := h n (by omega)
    refine ⟨by rw [smZ]; omega, fun i hi => ?_⟩
    rw [smZ]
    by_cases hin : i = n
    · subst hin; omega
    · have := h2 i (by omega); omega
theorem smZ_ge2 {f : Nat → Int} : ∀ n, (∀ k, k < n → 0 ≤ f k) → ∀ i j, i < n → j < n → i ≠ j → f i + f j ≤ smZ f n := by
  intro n
  induction n with
  | zero => intro _ i j h; omega
  | succ n ih =>
    intro h i j hi hj hne
    have h1 := (smZ_ge n (fun k hk => h k (by omega))).2
    have h3 := h n (by omega)
    rw [smZ]
    by_cases hin : i = n
    · subst hin; have := h1 j (by omega); omega
    · by_cases hjn : j = n
      · subst hjn; have := h1 i (by omega); omega
      · have := ih (fun k hk => h k (by omega)) i j (by omega) (by omega) hne; omega
def grOk (σ : Sg) (i : Nat) : Prop := σ.1 5 i = 0 ∨ (σ.1 5 i = 1 ∧ lnOk (σ.1 0 i) ∧ 1 ≤ (σ.1 2 i).toInt ∧ 0 ≤ (σ.1 4 i).toInt ∧ (σ.1 4 i).toInt ≤ 1000)
def InvG (nn : Nat) (σ : Sg) : Prop :=
  σ.1 10 0 = nI nn ∧ nn ≤ 80 ∧ (∀ i, i < 80 → grOk σ i) ∧ (∀ i, nn ≤ i → i < 80 → σ.1 5 i = 0) ∧
  smZ (wt σ) 80 + (σ.1 10 11).toInt + (σ.1 10 12).toInt = (σ.1 10 13).toInt ∧ 0 ≤ (σ.1 10 11).toInt ∧ 0 ≤ (σ.1 10 12).toInt ∧ (σ.1 10 13).toInt ≤ 10000 * nn ∧
  σ.2 3 = (σ.1 10 11).toInt64 * 19 ∧ σ.2 4 = (σ.1 10 12).toInt64 * 84
theorem wt_ge {σ : Sg} {i : Nat} (h : grOk σ i) : 0 ≤ wt σ i := by
  unfold wt
  rcases h with h | ⟨h, -, h1, -⟩
  · rw [if_pos h]; omega
  · rw [if_neg (by rw [h]; decide)]; omega
theorem InvG.okG {nn : Nat} {σ : Sg} (h : InvG nn σ) : okG σ := fun i hi => (h.2.2.1 i hi).imp id (fun h => ⟨h.1, h.2.1⟩)
theorem InvG.ms {nn : Nat} {σ : Sg} (h : InvG nn σ) {i : Nat} (hi : i < 80) (h5 : σ.1 5 i = 1) : 1 ≤ (σ.1 2 i).toInt ∧ (σ.1 2 i).toInt + (σ.1 10 11).toInt + (σ.1 10 12).toInt ≤ 800000 := by
  obtain ⟨-, hn, hg, -, hs, hr, he, hp, -⟩ := h
  have h1 := (smZ_ge (f := wt σ) 80 (fun k hk => wt_ge (hg k hk))).2 i hi
  have w1 : wt σ i = (σ.1 2 i).toInt := by unfold wt; rw [if_neg (by rw [h5]; decide)]
  rcases hg i hi with h | ⟨-, -, h2, -⟩
  · rw [h5] at h; exact absurd h (by decide)
  · exact ⟨h2, by omega⟩
theorem InvG.ms2 {nn : Nat} {σ : Sg} (h : InvG nn σ) {i j : Nat} (hi : i < 80) (hj : j < 80) (hne : i ≠ j) (h5 : σ.1 5 i = 1) (h6 : σ.1 5 j = 1) : (σ.1 2 i).toInt + (σ.1 2 j).toInt ≤ 800000 := by
  obtain ⟨-, hn, hg, -, hs, hr, he, hp, -⟩ := h
  have h1 := smZ_ge2 (f := wt σ) 80 (fun k hk => wt_ge (hg k hk)) i j hi hj hne
  have w1 : wt σ i = (σ.1 2 i).toInt := by unfold wt; rw [if_neg (by rw [h5]; decide)]
  have w2 : wt σ j = (σ.1 2 j).toInt := by unfold wt; rw [if_neg (by rw [h6]; decide)]
  omega
theorem InvG.same {nn : Nat} {σ τ : Sg} (h : InvG nn σ) (h0 : ∀ i, i < 80 → τ.1 0 i = σ.1 0 i ∧ τ.1 2 i = σ.1 2 i ∧ τ.1 4 i = σ.1 4 i ∧ τ.1 5 i = σ.1 5 i)
    (h10 : τ.1 10 0 = σ.1 10 0 ∧ τ.1 10 11 = σ.1 10 11 ∧ τ.1 10 12 = σ.1 10 12 ∧ τ.1 10 13 = σ.1 10 13) (hl : τ.2 3 = σ.2 3 ∧ τ.2 4 = σ.2 4) : InvG nn τ := by
  obtain ⟨a1, a2, a3, a4, a5, a6, a7, a8, a9, a10⟩ := h
  obtain ⟨b1, b2, b3, b4⟩ := h10
  obtain ⟨c1, c2⟩ := hl
  refine ⟨b1.trans a1, a2, fun i hi => ?_, fun i h1 h2 => ?_, ?_, by rw [b2]; exact a6, by rw [b3]; exact a7, by rw [b4]; exact a8, by rw [b2, c1]; exact a9, by rw [b3, c2]; exact a10⟩
  · obtain ⟨e0, e2, e4, e5⟩ := h0 i hi
    unfold grOk
    rw [e0, e2, e4, e5]
    exact a3 i hi
  · rw [(h0 i h2).2.2.2]; exact a4 i h1 h2
  · rw [b2, b3, b4, ← a5, smZ_congr 80 (fun k hk => ?_)]
    obtain ⟨e0, e2, e4, e5⟩ := h0 k hk
    unfold wt
    rw [e2, e5]
theorem i32_add {x y : Int32} (h1 : 0 ≤ x.toInt) (h2 : 0 ≤ y.toInt) (h3 : x.toInt + y.toInt < 2147483648) : (x + y).toInt = x.toInt + y.toInt := by
  rw [Int32.toInt_add]
  exact Int.bmod_eq_of_le (by omega) (by omega)
theorem i64_of {x : Int32} : x.toInt64.toInt = x.toInt := by simp
theorem i64_add {x y : Int32} (h1 : 0 ≤ x.toInt) (h2 : 0 ≤ y.toInt) (h3 : x.toInt + y.toInt < 2147483648) : (x + y).toInt64 = x.toInt64 + y.toInt64 := by
  apply Int64.toInt_inj.mp
  rw [Int64.toInt_add, i64_of, i64_of, i64_of, i32_add h1 h2 h3]
  exact (Int.bmod_eq_of_le (by omega) (by omega)).symm
def vOk (v : Int32) : Prop := v = -1 ∨ v = 64 ∨ lnOk v
theorem ln_lt : ∀ m : Nat, m < 64 → (0 : Int32) ≤ nI m ∧ nI m < (64 : Int32) := by decide +kernel
theorem tGo_in {σ : Sg} {i : Nat} {v : Int32} (h : lnOk v) : tGo σ i v = sI σ 0 i v := by
  obtain ⟨m, hm, rfl⟩ := h
  unfold tGo
  rw [if_pos (ln_lt m hm).1, if_pos (ln_lt m hm).2]
theorem tGo_m1 {σ : Sg} {i : Nat} : tGo σ i (-1) = sL (sI (sI (sI (sI σ 0 i (-1)) 5 i 0) 10 9 (σ.1 10 9 + 1)) 10 11 (σ.1 10 11 + σ.1 2 i)) 3 (σ.2 3 + (σ.1 2 i).toInt64 * 19) := by
  unfold tGo
  rw [if_neg (by decide)]
  rfl
theorem tGo_64 {σ : Sg} {i : Nat} : tGo σ i 64 = sL (sI (sI (sI (sI σ 0 i 64) 5 i 0) 10 10 (σ.1 10 10 + 1)) 10 12 (σ.1 10 12 + σ.1 2 i)) 4 (σ.2 4 + (σ.1 2 i).toInt64 * 84) := by
  unfold tGo
  rw [if_pos (by decide), if_neg (by decide)]
  rfl
theorem i64_dist (x y z : Int64) : x * z + y * z = (x + y) * z := (Int64.add_mul).symm
theorem InvG.go {nn : Nat} {σ : Sg} {i : Nat} {v : Int32} (h : InvG nn σ) (hi : i < 80) (h5 : σ.1 5 i = 1) (hv : vOk v) : InvG nn (tGo σ i v) := by
  obtain ⟨m1, m2⟩ := h.ms hi h5
  obtain ⟨a1, a2, a3, a4, a5, a6, a7, a8, a9, a10⟩ := h
  have hw : wt σ i = (σ.1 2 i).toInt := by unfold wt; rw [if_neg (by rw [h5]; decide)]
  rcases hv with rfl | rfl | hv
  · rw [tGo_m1]
    have hadd := i32_add (x := σ.1 10 11) (y := σ.1 2 i) a6 (by omega) (by omega)
    have hadd64 := i64_add (x := σ.1 10 11) (y := σ.1 2 i) a6 (by omega) (by omega)
    have hsum : smZ (wt (sL (sI (sI (sI (sI σ 0 i (-1)) 5 i 0) 10 9 (σ.1 10 9 + 1)) 10 11 (σ.1 10 11 + σ.1 2 i)) 3 (σ.2 3 + (σ.1 2 i).toInt64 * 19))) 80 = smZ (wt σ) 80 - wt σ i + 0 := by
      rw [smZ_upd (f := wt σ) 80 hi (fun k hk hne => by simp only [wt, sI_1, sI_2, sL_1, sL_2, false_and, and_false, Nat.reduceEqDiff, reduceCtorEq, ↓reduceIte, eq_self, and_self, true_and, and_true, hne])]
      refine congrArg (fun z => smZ (wt σ) 80 - wt σ i + z) ?_
      simp only [wt, sI_1, sI_2, sL_1, sL_2, false_and, and_false, Nat.reduceEqDiff, reduceCtorEq, ↓reduceIte, eq_self, and_self, true_and, and_true]
    refine ⟨by simp only [sI_1, sI_2, sL_1, sL_2, false_and, and_false, Nat.reduceEqDiff, reduceCtorEq, ↓reduceIte, eq_self, and_self, true_and, and_true]; exact a1, a2, fun k hk => ?_, fun k h1 h2 => ?_, ?_, ?_, ?_, ?_, ?_, ?_⟩
    · by_cases hki : k = i
      · subst hki; exact Or.inl (by simp only [sI_1, sI_2, sL_1, sL_2, false_and, and_false, Nat.reduceEqDiff, reduceCtorEq, ↓reduceIte, eq_self, and_self, true_and, and_true])
      · have := a3 k hk
        simp only [grOk, sI_1, sI_2, sL_1, sL_2, false_and, and_false, Nat.reduceEqDiff, reduceCtorEq, ↓reduceIte, eq_self, and_self, true_and, and_true, hki]
        exact this
    · by_cases hki : k = i
      · subst hki; simp only [sI_1, sI_2, sL_1, sL_2, false_and, and_false, Nat.reduceEqDiff, reduceCtorEq, ↓reduceIte, eq_self, and_self, true_and, and_true]
      · simp only [sI_1, sI_2, sL_1, sL_2, false_and, and_false, Nat.reduceEqDiff, reduceCtorEq, ↓reduceIte, eq_self, and_self, true_and, and_true, hki]; exact a4 k h1 h2
    · rw [hsum, hw]; simp only [sI_1, sI_2, sL_1, sL_2, false_and, and_false, Nat.reduceEqDiff, reduceCtorEq, ↓reduceIte, eq_self, and_self, true_and, and_true, Nat.reduceEqDiff]; rw [hadd]; omega
    · simp only [sI_1, sI_2, sL_1, sL_2, false_and, and_false, Nat.reduceEqDiff, reduceCtorEq, ↓reduceIte, eq_self, and_self, true_and, and_true]; rw [hadd]; omega
    · simp only [sI_1, sI_2, sL_1, sL_2, false_and, and_false, Nat.reduceEqDiff, reduceCtorEq, ↓reduceIte, eq_self, and_self, true_and, and_true]; exact a7
    · simp only [sI_1, sI_2, sL_1, sL_2, false_and, and_false, Nat.reduceEqDiff, reduceCtorEq, ↓reduceIte, eq_self, and_self, true_and, and_true]; exact a8
    · simp only [sI_1, sI_2, sL_1, sL_2, false_and, and_false, Nat.reduceEqDiff, reduceCtorEq, ↓reduceIte, eq_self, and_self, true_and, and_true]; rw [hadd64, a9, i64_dist]
    · simp only [sI_1, sI_2, sL_1, sL_2, false_and, and_false, Nat.reduceEqDiff, reduceCtorEq, ↓reduceIte, eq_self, and_self, true_and, and_true]; exact a10
  · rw [tGo_64]
    have hadd := i32_add (x := σ.1 10 12) (y := σ.1 2 i) a7 (by omega) (by omega)
    have hadd64 := i64_add (x := σ.1 10 12) (y := σ.1 2 i) a7 (by omega) (by omega)
    have hsum : smZ (wt (sL (sI (sI (sI (sI σ 0 i 64) 5 i 0) 10 10 (σ.1 10 10 + 1)) 10 12 (σ.1 10 12 + σ.1 2 i)) 4 (σ.2 4 + (σ.1 2 i).toInt64 * 84))) 80 = smZ (wt σ) 80 - wt σ i + 0 := by
      rw [smZ_upd (f := wt σ) 80 hi (fun k hk hne => by simp only [wt, sI_1, sI_2, sL_1, sL_2, false_and, and_false, Nat.reduceEqDiff, reduceCtorEq, ↓reduceIte, eq_self, and_self, true_and, and_true, hne])]
      refine congrArg (fun z => smZ (wt σ) 80 - wt σ i + z) ?_
      simp only [wt, sI_1, sI_2, sL_1, sL_2, false_and, and_false, Nat.reduceEqDiff, reduceCtorEq, ↓reduceIte, eq_self, and_self, true_and, and_true]
    refine ⟨by simp only [sI_1, sI_2, sL_1, sL_2, false_and, and_false, Nat.reduceEqDiff, reduceCtorEq, ↓reduceIte, eq_self, and_self, true_and, and_true]; exact a1, a2, fun k hk => ?_, fun k h1 h2 => ?_, ?_, ?_, ?_, ?_, ?_, ?_⟩
    · by_cases hki : k = i
      · subst hki; exact Or.inl (by simp only [sI_1, sI_2, sL_1, sL_2, false_and, and_false, Nat.reduceEqDiff, reduceCtorEq, ↓reduceIte, eq_self, and_self, true_and, and_true])
      · have := a3 k hk
        simp only [grOk, sI_1, sI_2, sL_1, sL_2, false_and, and_false, Nat.reduceEqDiff, reduceCtorEq, ↓reduceIte, eq_self, and_self, true_and, and_true, hki]
        exact this
    · by_cases hki : k = i
      · subst hki; simp only [sI_1, sI_2, sL_1, sL_2, false_and, and_false, Nat.reduceEqDiff, reduceCtorEq, ↓reduceIte, eq_self, and_self, true_and, and_true]
      · simp only [sI_1, sI_2, sL_1, sL_2, false_and, and_false, Nat.reduceEqDiff, reduceCtorEq, ↓reduceIte, eq_self, and_self, true_and, and_true, hki]; exact a4 k h1 h2
    · rw [hsum, hw]; simp only [sI_1, sI_2, sL_1, sL_2, false_and, and_false, Nat.reduceEqDiff, reduceCtorEq, ↓reduceIte, eq_self, and_self, true_and, and_true, Nat.reduceEqDiff]; rw [hadd]; omega
    · simp only [sI_1, sI_2, sL_1, sL_2, false_and, and_false, Nat.reduceEqDiff, reduceCtorEq, ↓reduceIte, eq_self, and_self, true_and, and_true]; exact a6
    · simp only [sI_1, sI_2, sL_1, sL_2, false_and, and_false, Nat.reduceEqDiff, reduceCtorEq, ↓reduceIte, eq_self, and_self, true_and, and_true]; rw [hadd]; omega
    · simp only [sI_1, sI_2, sL_1, sL_2, false_and, and_false, Nat.reduceEqDiff, reduceCtorEq, ↓reduceIte, eq_self, and_self, true_and, and_true]; exact a8
    · simp only [sI_1, sI_2, sL_1, sL_2, false_and, and_false, Nat.reduceEqDiff, reduceCtorEq, ↓reduceIte, eq_self, and_self, true_and, and_true]; exact a9
    · simp only [sI_1, sI_2, sL_1, sL_2, false_and, and_false, Nat.reduceEqDiff, reduceCtorEq, ↓reduceIte, eq_self, and_self, true_and, and_true]; rw [hadd64, a10, i64_dist]
  · rw [tGo_in hv]
    have hsum : smZ (wt (sI σ 0 i v)) 80 = smZ (wt σ) 80 := smZ_congr 80 (fun k hk => by simp only [wt, sI_1, sI_2, sL_1, sL_2, false_and, and_false, Nat.reduceEqDiff, reduceCtorEq, ↓reduceIte, eq_self, and_self, true_and, and_true])
    refine ⟨by simp only [sI_1, sI_2, sL_1, sL_2, false_and, and_false, Nat.reduceEqDiff, reduceCtorEq, ↓reduceIte, eq_self, and_self, true_and, and_true]; exact a1, a2, fun k hk => ?_, fun k h1 h2 => by simp only [sI_1, sI_2, sL_1, sL_2, false_and, and_false, Nat.reduceEqDiff, reduceCtorEq, ↓reduceIte, eq_self, and_self, true_and, and_true]; exact a4 k h1 h2, by rw [hsum]; simp only [sI_1, sI_2, sL_1, sL_2, false_and, and_false, Nat.reduceEqDiff, reduceCtorEq, ↓reduceIte, eq_self, and_self, true_and, and_true]; exact a5, by simp only [sI_1, sI_2, sL_1, sL_2, false_and, and_false, Nat.reduceEqDiff, reduceCtorEq, ↓reduceIte, eq_self, and_self, true_and, and_true]; exact a6, by simp only [sI_1, sI_2, sL_1, sL_2, false_and, and_false, Nat.reduceEqDiff, reduceCtorEq, ↓reduceIte, eq_self, and_self, true_and, and_true]; exact a7, by simp only [sI_1, sI_2, sL_1, sL_2, false_and, and_false, Nat.reduceEqDiff, reduceCtorEq, ↓reduceIte, eq_self, and_self, true_and, and_true]; exact a8, by simp only [sI_1, sI_2, sL_1, sL_2, false_and, and_false, Nat.reduceEqDiff, reduceCtorEq, ↓reduceIte, eq_self, and_self, true_and, and_true]; exact a9, by simp only [sI_1, sI_2, sL_1, sL_2, false_and, and_false, Nat.reduceEqDiff, reduceCtorEq, ↓reduceIte, eq_self, and_self, true_and, and_true]; exact a10⟩
    by_cases hki : k = i
    · subst hki
      rcases a3 k hk with h | ⟨b1, b2, b3⟩
      · exact Or.inl (by simp only [sI_1, sI_2, sL_1, sL_2, false_and, and_false, Nat.reduceEqDiff, reduceCtorEq, ↓reduceIte, eq_self, and_self, true_and, and_true]; exact h)
      · exact Or.inr ⟨by simp only [sI_1, sI_2, sL_1, sL_2, false_and, and_false, Nat.reduceEqDiff, reduceCtorEq, ↓reduceIte, eq_self, and_self, true_and, and_true]; exact b1, by simp only [sI_1, sI_2, sL_1, sL_2, false_and, and_false, Nat.reduceEqDiff, reduceCtorEq, ↓reduceIte, eq_self, and_self, true_and, and_true]; exact hv, by simp only [sI_1, sI_2, sL_1, sL_2, false_and, and_false, Nat.reduceEqDiff, reduceCtorEq, ↓reduceIte, eq_self, and_self, true_and, and_true]; exact b3⟩
    · have := a3 k hk
      simp only [grOk, sI_1, sI_2, sL_1, sL_2, false_and, and_false, Nat.reduceEqDiff, reduceCtorEq, ↓reduceIte, eq_self, and_self, true_and, and_true, hki]
      exact this
theorem ln_up : ∀ m : Nat, m < 64 → (nI m + 1 = 64 ∨ m + 1 < 64) ∧ (nI m + -1 = -1 ∨ 1 ≤ m) := by decide +kernel
theorem vOk_up {x : Int32} (h : lnOk x) : vOk (x + 1) := by
  obtain ⟨m, hm, rfl⟩ := h
  rcases (ln_up m hm).1 with h | h
  · exact Or.inr (Or.inl h)
  · exact Or.inr (Or.inr ⟨m + 1, h, nI_1 m⟩)
theorem vOk_dn {x : Int32} (h : lnOk x) : vOk (x + -1) := by
  obtain ⟨m, hm, rfl⟩ := h
  rcases (ln_up m hm).2 with h | h
  · exact Or.inl h
  · obtain ⟨k, rfl⟩ : ∃ k, m = k + 1 := ⟨m - 1, by omega⟩
    exact Or.inr (Or.inr ⟨k, by omega, pk_m1 k⟩)
theorem InvG.puE {nn : Nat} {τ : Sg} {i : Nat} {m0 : Int64} (h : InvG nn τ) : InvG nn (tPuE τ i m0) := by
  refine h.same (fun k hk => ?_) ?_ ?_ <;> simp only [tPuE, sI_1, sI_2, sL_1, sL_2, false_and, and_false, Nat.reduceEqDiff, reduceCtorEq, ↓reduceIte, eq_self, and_self, true_and, and_true]
theorem InvG.push {nn : Nat} {σ : Sg} {i j : Nat} (h : InvG nn σ) (hi : i < 80) : InvG nn (tPush σ j i) := by
  unfold tPush
  split
  · exact h
  split
  · exact h
  rename_i h1 h2
  obtain h5 := (h.okG i hi).elim (fun h => absurd h h1) id
  refine (h.go hi h5.1 ?_).puE
  split
  · exact vOk_up h5.2
  · exact vOk_dn h5.2
theorem InvG.pushN {nn : Nat} {σ : Sg} {j : Nat} (h : InvG nn σ) : ∀ k, k ≤ 80 → InvG nn (tPushN σ j k) := by
  intro k
  induction k with
  | zero => intro _; exact h
  | succ k ih => intro hk; exact (ih (by omega)).push (by omega)
theorem tPush_c (σ : Sg) (j i : Nat) (c k : Nat) (hc : c ≠ 0 ∧ c ≠ 3 ∧ c ≠ 5 ∧ c ≠ 10) : (tPush σ j i).1 c k = σ.1 c k := by
  unfold tPush
  split
  · rfl
  split
  · rfl
  have h3 := hc.2.1
  simp only [tPuE, sI_1, sI_2, sL_1, sL_2, false_and, and_false, Nat.reduceEqDiff, reduceCtorEq, ↓reduceIte, eq_self, and_self, true_and, and_true, h3, tGo_c _ _ _ _ _ ⟨hc.1, hc.2.2.1, hc.2.2.2⟩]
theorem tPushN_c (σ : Sg) (j : Nat) (c k : Nat) (hc : c ≠ 0 ∧ c ≠ 3 ∧ c ≠ 5 ∧ c ≠ 10) : ∀ n, (tPushN σ j n).1 c k = σ.1 c k := by
  intro n
  induction n with
  | zero => rfl
  | succ n ih => exact (tPush_c _ _ _ _ _ hc).trans ih
theorem tPushN_end {j nn : Nat} {σ : Sg} (hG : InvG nn σ) : ∀ k, nn ≤ k → k ≤ 80 → tPushN σ j k = tPushN σ j nn := by
  intro k
  induction k with
  | zero =>
    intro h1 h2
    obtain rfl : nn = 0 := (by omega)
    rfl
  | succ k ih =>
    intro h1 h2
    rcases Nat.lt_or_ge k nn with h | h
    · obtain rfl : nn = k + 1 := (by omega)
      rfl
    · have := (hG.pushN (j := j) k (by omega)).2.2.2.1 k h (by omega)
      show tPush (tPushN σ j k) j k = _
      rw [show tPush (tPushN σ j k) j k = tPushN σ j k from by unfold tPush; rw [if_pos this]]
      exact ih h (by omega)
