/-! ===== PURE: what the law's tick keeps: ranges, marks, how many, the momentum ===== -/
def Sp (σ : Sg) : Prop := 0 ≤ (σ.1 10 5).toInt ∧ (σ.1 10 5).toInt ≤ 100
theorem un_sp {x y : Int32} (h1 : 0 ≤ x.toInt) (h2 : x.toInt ≤ 99) (h3 : 0 ≤ y.toInt) (h4 : y.toInt ≤ 100) : 0 ≤ (x * y / (100 : Int32)).toInt ∧ (x * y / (100 : Int32)).toInt ≤ 99 := by
  have p1 : 0 ≤ x.toInt * y.toInt := Int.mul_nonneg h1 h3
  have p2 : x.toInt * y.toInt ≤ 99 * y.toInt := Int.mul_le_mul_of_nonneg_right h2 h3
  have e : (x * y).toInt = x.toInt * y.toInt := i32_mul (by omega) (by omega)
  have e2 : (100 : Int32).toInt = 100 := rfl
  rw [Int32.toInt_div, e, e2, Int.tdiv_eq_ediv_of_nonneg p1, Int.bmod_eq_of_le (by omega) (by omega)]
  omega
theorem Rn.met {σ : Sg} {i j : Nat} (h : Rn σ) : Rn (tMet σ i j) := h.same (fun k _ => ⟨mt_c (by decide) (by decide), mt_c (by decide) (by decide)⟩)
theorem Rn.stick {σ : Sg} {i j : Nat} (h : Rn σ) (hi : i < 80) (hj : j < 80) : Rn (tStick σ i j) := fun k hk => by
  have e1 : (tStick σ i j).1 1 k = σ.1 1 k := by simp only [tStick, sI_1, sI_2, sL_1, sL_2, false_and, and_false, Nat.reduceEqDiff, reduceCtorEq, ↓reduceIte, eq_self, and_self, true_and, and_true]
  have e3 : (tStick σ i j).1 3 k = if k = i then (if σ.1 3 j < σ.1 3 i then σ.1 3 j else σ.1 3 i) else σ.1 3 k := by simp only [tStick, sI_1, sI_2, sL_1, sL_2, false_and, and_false, Nat.reduceEqDiff, reduceCtorEq, ↓reduceIte, eq_self, and_self, true_and, and_true]
  rw [e1, e3]
  refine ⟨(h k hk).1, ?_⟩
  by_cases hki : k = i
  · rw [if_pos hki]
    split
    · exact (h j hj).2
    · exact (h i hi).2
  · rw [if_neg hki]; exact (h k hk).2
theorem Rn.buE {τ : Sg} {i j : Nat} {m0 : Int64} (h : Rn τ) (hs : Sp τ) (hi : i < 80) (hj : j < 80) : Rn (tBuE τ i j m0) := fun k hk => by
  have e1 : (tBuE τ i j m0).1 1 k = τ.1 1 k := by simp only [tBuE, sI_1, sI_2, sL_1, sL_2, false_and, and_false, Nat.reduceEqDiff, reduceCtorEq, ↓reduceIte, eq_self, and_self, true_and, and_true]
  have e3 : (tBuE τ i j m0).1 3 k = if k = j then τ.1 3 j * τ.1 10 5 / (100 : Int32) else if k = i then τ.1 3 i * τ.1 10 5 / (100 : Int32) else τ.1 3 k := by simp only [tBuE, sI_1, sI_2, sL_1, sL_2, false_and, and_false, Nat.reduceEqDiff, reduceCtorEq, ↓reduceIte, eq_self, and_self, true_and, and_true]
  rw [e1, e3]
  refine ⟨(h k hk).1, ?_⟩
  split
  · exact un_sp (h j hj).2.1 (h j hj).2.2 hs.1 hs.2
  split
  · exact un_sp (h i hi).2.1 (h i hi).2.2 hs.1 hs.2
  · exact (h k hk).2
theorem Rn.bump {σ : Sg} {i j : Nat} (h : Rn σ) (hs : Sp σ) (hi : i < 80) (hj : j < 80) : Rn (tBump σ i j) := by
  have s2 : ∀ v w, Sp (tGo (tGo σ i v) j w) := fun v w => by unfold Sp; rw [go_105, go_105]; exact hs
  unfold tBump
  split
  · exact h.go.go.buE (s2 _ _) hi hj
  · exact h.go.go.buE (s2 _ _) hi hj
theorem Rn.break {σ : Sg} {g n : Nat} (h : Rn σ) (hg : g < 80) : Rn (tBreak σ g n) := fun k hk => by
  have e1 : (tBreak σ g n).1 1 k = if k = n then σ.1 1 g else σ.1 1 k := by
    unfold tBreak tBrE
    simp only [sI_1, sI_2, sL_1, sL_2, false_and, and_false, Nat.reduceEqDiff, reduceCtorEq, ↓reduceIte, eq_self, and_self, true_and, and_true, tGo_c _ _ _ 1 _ (by decide), tBr0]
  have e3 : (tBreak σ g n).1 3 k = if k = g then 0 else if k = n then 0 else σ.1 3 k := by
    unfold tBreak tBrE
    simp only [sI_1, sI_2, sL_1, sL_2, false_and, and_false, Nat.reduceEqDiff, reduceCtorEq, ↓reduceIte, eq_self, and_self, true_and, and_true, tGo_c _ _ _ 3 _ (by decide), tBr0]
  rw [e1, e3]
  refine ⟨?_, ?_⟩
  · split
    · exact (h g hg).1
    · exact (h k hk).1
  · split
    · decide
    split
    · decide
    · exact (h k hk).2
theorem Sp.met {σ : Sg} {i j : Nat} (h : Sp σ) : Sp (tMet σ i j) := by
  unfold Sp
  rw [mt_c (by decide) (by decide)]
  exact h
/-- a meeting, case by case -/
theorem meet_cases {P : Sg → Prop} {σ : Sg} {i j n : Nat} (hb : P (tBump (tMet σ i j) i j)) (hk : ∀ g, (g = i ∨ g = j) → ¬ σ.1 2 g < 2 → ¬ 80 ≤ n → P (tBreak (tMet σ i j) g n)) (hs : P (tStick (tMet σ i j) i j)) : P (tMeet σ i j n) := by
  have hg : ∀ p : Prop, ∀ _ : Decidable p, ((if p then j else i) = i ∨ (if p then j else i) = j) := fun p _ => by
    by_cases hp : p
    · exact Or.inr (if_pos hp)
    · exact Or.inl (if_neg hp)
  have hg := hg (σ.1 2 j ≤ σ.1 2 i) inferInstance
  unfold tMeet
  generalize (if σ.1 2 j ≤ σ.1 2 i then j else i) = g at hg ⊢
  by_cases h1 : σ.1 10 3 < clS σ i j
  · rw [if_pos h1]
    by_cases h2 : clS σ i j ≤ σ.1 10 4
    · rw [if_pos h2]; exact hb
    rw [if_neg h2]
    by_cases h3 : σ.1 2 g < 2
    · rw [if_pos h3]; exact hb
    rw [if_neg h3]
    by_cases h4 : 80 ≤ n
    · rw [if_pos h4]; exact hb
    rw [if_neg h4]; exact hk g hg h3 h4
  · rw [if_neg h1]; exact hs
theorem Rn.meet {σ : Sg} {i j n : Nat} (h : Rn σ) (hs : Sp σ) (hi : i < 80) (hj : j < 80) : Rn (tMeet σ i j n) :=
  meet_cases (h.met.bump hs.met hi hj) (fun g hg _ _ => h.met.break (by omega)) (h.met.stick hi hj)
theorem Rn.step {σ : Sg} {i j : Nat} (h : Rn σ) (hs : Sp σ) (hi : i < 80) (hj : j < 80) : Rn (tStep σ i j) := by
  unfold tStep
  split
  · exact h.meet hs hi hj
  · exact h
theorem Sp.step {σ : Sg} {i j : Nat} (h : Sp σ) : Sp (tStep σ i j) := by
  unfold Sp
  rw [(Sm.step (σ := σ) (i := i) (j := j)).1 10 5 (by omega)]
  exact h
theorem M01.step {σ : Sg} {i j : Nat} (h : M01 σ) : M01 (tStep σ i j) := by
  unfold tStep
  split
  · intro k hk
    rw [tMeet_m (Or.inl rfl)]
    split
    · exact Or.inr rfl
    · exact h k hk
  · exact h
/-! how many: each meeting takes two unmarked ones and brings at most one -/
def um (σ : Sg) : Nat → Int := smZ (fun k => if σ.1 22 k = 0 then 1 else 0)
theorem meet_n {σ : Sg} {i j n : Nat} (hG : InvG n σ) : (tMeet σ i j n).1 10 0 = nI n ∨ (tMeet σ i j n).1 10 0 = nI (n + 1) := by
  have e : (tMet σ i j).1 10 0 = nI n := (mt_c (by decide) (by decide)).trans hG.1
  exact meet_cases (P := fun τ => τ.1 10 0 = nI n ∨ τ.1 10 0 = nI (n + 1)) (Or.inl (tBump_n.trans e)) (fun g _ _ _ => Or.inr tBreak_n) (Or.inl (stick_n.trans e))
def Nm (n0 : Nat) (σ : Sg) : Prop := 2 * (gn σ : Int) + um σ n0 ≤ 3 * n0
theorem Nm.step {n0 : Nat} {σ : Sg} {i j : Nat} (h : Nm n0 σ) (hM : MI n0 σ) (hi : i < n0) (hj : j < n0) (hij : i ≠ j) : Nm n0 (tStep σ i j) := by
  by_cases hc : cmS σ i j
  · obtain ⟨nn, hG, hn, h6, h22⟩ := hM
    have hnn := hG.2.1
    have et : tStep σ i j = tMeet σ i j nn := by unfold tStep; rw [if_pos hc, gn_eq hG]
    have c3 := hc.2.2.1
    have c4 := hc.2.2.2.1
    unfold Nm at h ⊢
    rw [gn_eq hG] at h
    have eg : (gn (tMeet σ i j nn) : Int) ≤ nn + 1 := by
      have hcl : ∀ k : Nat, k ≤ 81 → (nI k).toNatClampNeg = k := fun k hk => nI_clamp (by omega)
      unfold gn
      rcases meet_n (i := i) (j := j) hG with e | e
      · rw [e, hcl _ (by omega)]; omega
      · rw [e, hcl _ (by omega)]; omega
    have e22 : ∀ k, k < n0 → (tMeet σ i j nn).1 22 k = if k = i ∨ k = j then 1 else σ.1 22 k := fun k hk => tMeet_m (Or.inr ⟨rfl, by omega⟩)
    have u1 := smZ_upd (f := fun k => if σ.1 22 k = 0 then (1 : Int) else 0) (g := fun k => if k = i then (0 : Int) else if σ.1 22 k = 0 then 1 else 0) (i := i) n0 hi (fun k hk hne => if_neg hne)
    have u2 := smZ_upd (f := fun k => if k = i then (0 : Int) else if σ.1 22 k = 0 then 1 else 0) (g := fun k => if (tMeet σ i j nn).1 22 k = 0 then (1 : Int) else 0) (i := j) n0 hj (fun k hk hne => by
      show (if (tMeet σ i j nn).1 22 k = 0 then (1 : Int) else 0) = if k = i then (0 : Int) else if σ.1 22 k = 0 then 1 else 0
      rw [e22 k hk]
      by_cases hki : k = i
      · rw [if_pos (Or.inl hki), if_pos hki, if_neg (by decide)]
      · have q : (if k = i ∨ k = j then (1 : Int32) else σ.1 22 k) = σ.1 22 k := if_neg (fun q => q.elim hki hne)
        rw [q, if_neg hki])
    simp only [if_true, c3] at u1
    have hji : ¬ j = i := fun e => hij e.symm
    simp only [e22 j hj, or_true, if_true, hji, if_false, c4, show ¬ (1 : Int32) = 0 by decide] at u2
    rw [et]
    unfold um at h ⊢
    omega
  · have et : tStep σ i j = σ := by unfold tStep; rw [if_neg hc]
    rw [et]; exact h
theorem Nm.lt {n0 nn : Nat} {σ : Sg} (h : Nm n0 σ) (hG : InvG nn σ) : 2 * nn ≤ 3 * n0 := by
  unfold Nm at h
  rw [gn_eq hG] at h
  have := (smZ_ge (f := fun k => if σ.1 22 k = 0 then (1 : Int) else 0) n0 (fun k _ => by split <;> omega)).1
  unfold um at h
  omega
