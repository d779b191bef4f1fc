/-! ===== PURE: who meets whom ===== -/
/-- what the life of grains leaves alone -/
def Sm (σ τ : Sg) : Prop := (∀ c k, ¬ (c ≤ 6 ∨ c = 22 ∨ (c = 10 ∧ (k = 0 ∨ (6 ≤ k ∧ k ≤ 12)))) → τ.1 c k = σ.1 c k) ∧ τ.2 0 = σ.2 0 ∧ τ.2 5 = σ.2 5
theorem Sm.rfl' (σ : Sg) : Sm σ σ := ⟨fun _ _ _ => rfl, rfl, rfl⟩
theorem Sm.trans {σ τ υ : Sg} (h : Sm σ τ) (h2 : Sm τ υ) : Sm σ υ := ⟨fun c k hc => (h2.1 c k hc).trans (h.1 c k hc), h2.2.1.trans h.2.1, h2.2.2.trans h.2.2⟩
theorem Sm.sI {σ τ : Sg} (h : Sm σ τ) {c k : Nat} {v : Int32} (hc : c ≤ 6 ∨ c = 22 ∨ (c = 10 ∧ (k = 0 ∨ (6 ≤ k ∧ k ≤ 12)))) : Sm σ (sI τ c k v) := by
  refine h.trans ⟨fun a j ha => ?_, rfl, rfl⟩
  rw [sI_1, if_neg (fun e => ha (by rw [e.1, e.2]; exact hc))]
theorem Sm.sL {σ τ : Sg} (h : Sm σ τ) {j : Nat} {v : Int64} (hj : 0 ≠ j ∧ 5 ≠ j) : Sm σ (sL τ j v) := by
  refine h.trans ⟨fun a j ha => rfl, ?_, ?_⟩
  · rw [sL_2, if_neg hj.1]
  · rw [sL_2, if_neg hj.2]
theorem Sm.go {σ : Sg} {i : Nat} {v : Int32} : Sm σ (tGo σ i v) := by
  have h := Sm.rfl' σ
  unfold tGo
  split
  · split
    · exact h.sI (by omega)
    · exact ((((h.sI (by omega)).sI (by omega)).sI (by omega)).sI (by omega)).sL (by omega)
  · exact ((((h.sI (by omega)).sI (by omega)).sI (by omega)).sI (by omega)).sL (by omega)
theorem Sm.push {σ : Sg} {j i : Nat} : Sm σ (tPush σ j i) := by
  have h := Sm.rfl' σ
  unfold tPush
  split
  · exact h
  split
  · exact h
  exact ((h.trans Sm.go).sI (by omega)).sL (by omega)
theorem Sm.pushN {σ : Sg} {j : Nat} : ∀ n, Sm σ (tPushN σ j n) := by
  intro n
  induction n with
  | zero => exact Sm.rfl' σ
  | succ n ih => exact ih.trans Sm.push
theorem Sm.met {σ : Sg} {i j : Nat} : Sm σ (tMet σ i j) := ((((Sm.rfl' σ).sI (by omega)).sI (by omega)).sI (by omega)).sI (by omega)
theorem Sm.stick {σ : Sg} {i j : Nat} : Sm σ (tStick σ i j) := (((((((Sm.rfl' σ).sI (by omega)).sI (by omega)).sI (by omega)).sI (by omega)).sI (by omega)).sI (by omega)).sL (by omega)
theorem Sm.bump {σ : Sg} {i j : Nat} : Sm σ (tBump σ i j) := by
  unfold tBump
  split
  · exact (((((Sm.go).trans Sm.go).sI (by omega)).sI (by omega)).sI (by omega)).sL (by omega)
  · exact (((((Sm.go).trans Sm.go).sI (by omega)).sI (by omega)).sI (by omega)).sL (by omega)
theorem Sm.br0 {σ : Sg} {g n : Nat} : Sm σ (tBr0 σ g n) := ((((((((((Sm.rfl' σ).sI (by omega)).sI (by omega)).sI (by omega)).sI (by omega)).sI (by omega)).sI (by omega)).sI (by omega)).sI (by omega)).sI (by omega))
theorem Sm.break {σ : Sg} {g n : Nat} : Sm σ (tBreak σ g n) := ((((Sm.br0.trans Sm.go).trans Sm.go).sI (by omega)).sL (by omega)).sI (by omega)
theorem Sm.meet {σ : Sg} {i j n : Nat} : Sm σ (tMeet σ i j n) := by
  unfold tMeet
  by_cases h1 : σ.1 10 3 < clS σ i j
  · rw [if_pos h1]
    by_cases h2 : clS σ i j ≤ σ.1 10 4
    · rw [if_pos h2]; exact Sm.met.trans Sm.bump
    rw [if_neg h2]
    by_cases h3 : σ.1 2 (if σ.1 2 j ≤ σ.1 2 i then j else i) < 2
    · rw [if_pos h3]; exact Sm.met.trans Sm.bump
    rw [if_neg h3]
    by_cases h4 : 80 ≤ n
    · rw [if_pos h4]; exact Sm.met.trans Sm.bump
    rw [if_neg h4]; exact Sm.met.trans Sm.break
  · rw [if_neg h1]; exact Sm.met.trans Sm.stick
/-- the marks after a meeting -/
theorem tBump_m {σ : Sg} {i j c k : Nat} (hc : c = 6 ∨ c = 22) : (tBump σ i j).1 c k = σ.1 c k := by
  have h := tGo_c
  unfold tBump tBuE
  rcases hc with rfl | rfl
  · split <;> simp only [sI_1, sI_2, sL_1, sL_2, false_and, and_false, Nat.reduceEqDiff, reduceCtorEq, ↓reduceIte, eq_self, and_self, true_and, and_true, tGo_c _ _ _ 6 _ (by decide)]
  · split <;> simp only [sI_1, sI_2, sL_1, sL_2, false_and, and_false, Nat.reduceEqDiff, reduceCtorEq, ↓reduceIte, eq_self, and_self, true_and, and_true, tGo_c _ _ _ 22 _ (by decide)]
theorem tBreak_m {σ : Sg} {g n c k : Nat} (hc : c = 6 ∨ (c = 22 ∧ k ≠ n)) : (tBreak σ g n).1 c k = σ.1 c k := by
  unfold tBreak tBrE
  rcases hc with rfl | ⟨rfl, hk⟩
  · simp only [sI_1, sI_2, sL_1, sL_2, false_and, and_false, Nat.reduceEqDiff, reduceCtorEq, ↓reduceIte, eq_self, and_self, true_and, and_true, tGo_c _ _ _ 6 _ (by decide), tBr0]
  · simp only [sI_1, sI_2, sL_1, sL_2, false_and, and_false, Nat.reduceEqDiff, reduceCtorEq, ↓reduceIte, eq_self, and_self, true_and, and_true, tGo_c _ _ _ 22 _ (by decide), tBr0, hk]
theorem tMeet_m {σ : Sg} {i j n c k : Nat} (hc : c = 6 ∨ (c = 22 ∧ k ≠ n)) : (tMeet σ i j n).1 c k = if k = i ∨ k = j then 1 else σ.1 c k := by
  have hb : (tBump (tMet σ i j) i j).1 c k = (tMet σ i j).1 c k := tBump_m (by omega)
  have hs : (tStick (tMet σ i j) i j).1 c k = (tMet σ i j).1 c k := by
    rcases hc with rfl | ⟨rfl, hk⟩ <;> simp only [tStick, sI_1, sI_2, sL_1, sL_2, false_and, and_false, Nat.reduceEqDiff, reduceCtorEq, ↓reduceIte, eq_self, and_self, true_and, and_true]
  have hm : (tMet σ i j).1 c k = if k = i ∨ k = j then 1 else σ.1 c k := by
    rcases hc with rfl | ⟨rfl, hk⟩ <;> simp only [tMet, sI_1] <;> grind
  rw [← hm]
  unfold tMeet
  by_cases h1 : σ.1 10 3 < clS σ i j
  · rw [if_pos h1]
    by_cases h2 : clS σ i j ≤ σ.1 10 4
    · rw [if_pos h2]; exact hb
    rw [if_neg h2]
    by_cases h3 : σ.1 2 (if σ.1 2 j ≤ σ.1 2 i then j else i) < 2
    · rw [if_pos h3]; exact hb
    rw [if_neg h3]
    by_cases h4 : 80 ≤ n
    · rw [if_pos h4]; exact hb
    rw [if_neg h4]; exact tBreak_m hc
  · rw [if_neg h1]; exact hs
def nearS (σ : Sg) (i j : Nat) : Int32 := nrS σ i (σ.1 0 j) (σ.1 1 j) (1 : Int32) (100 : Int32)
abbrev cmS (σ : Sg) (i j : Nat) : Prop := ¬ σ.1 5 i = 0 ∧ ¬ σ.1 5 j = 0 ∧ σ.1 22 i = 0 ∧ σ.1 22 j = 0 ∧ ¬ nearS σ i j = 0
def tStep (σ : Sg) (i j : Nat) : Sg := if cmS σ i j then tMeet σ i j (gn σ) else σ
def tRow (σ : Sg) (i : Nat) : Nat → Sg
  | 0 => σ
  | m + 1 => tStep (tRow σ i m) i (i + 1 + m)
def tRows (σ : Sg) (n : Nat) : Nat → Sg
  | 0 => σ
  | i + 1 => tRow (tRows σ n i) i (n - (i + 1))
/-- while they meet -/
def MI (n0 : Nat) (σ : Sg) : Prop := ∃ nn, InvG nn σ ∧ n0 ≤ nn ∧ (∀ k, k < n0 → σ.1 6 k = σ.1 22 k) ∧ ∀ k, n0 ≤ k → k < nn → σ.1 22 k = 1
theorem InvG.one {nn : Nat} {σ : Sg} (h : InvG nn σ) {i : Nat} (hi : i < 80) (h5 : ¬ σ.1 5 i = 0) : σ.1 5 i = 1 ∧ lnOk (σ.1 0 i) ∧ i < nn := by
  refine ⟨((h.okG i hi).resolve_left h5).1, ((h.okG i hi).resolve_left h5).2, ?_⟩
  rcases Nat.lt_or_ge i nn with hl | hl
  · exact hl
  · exact absurd (h.2.2.2.1 i hl hi) h5
theorem MI.step {n0 : Nat} {σ : Sg} {i j : Nat} (h : MI n0 σ) (hi : i < n0) (hj : j < n0) (hij : i ≠ j) : MI n0 (tStep σ i j) := by
  unfold tStep
  by_cases hc : cmS σ i j
  · rw [if_pos hc]
    obtain ⟨nn, hG, hn, h6, h22⟩ := h
    have hnn := hG.2.1
    rw [gn_eq hG]
    obtain ⟨x5, -, -⟩ := hG.one (by omega) hc.1
    obtain ⟨y5, -, -⟩ := hG.one (by omega) hc.2.1
    obtain ⟨n', g1, g2, g3, -⟩ := hG.meet (i := i) (j := j) (by omega) (by omega) hij x5 y5
    refine ⟨n', g2, by omega, fun k hk => ?_, fun k k1 k2 => ?_⟩
    · rw [tMeet_m (Or.inl rfl), tMeet_m (Or.inr ⟨rfl, by omega⟩), h6 k hk]
    · rcases Nat.lt_or_ge k nn with hl | hl
      · rw [tMeet_m (Or.inr ⟨rfl, by omega⟩), h22 k k1 hl]
        split <;> rfl
      · exact g3 k hl k2
  · rw [if_neg hc]; exact h
theorem Sm.step {σ : Sg} {i j : Nat} : Sm σ (tStep σ i j) := by
  unfold tStep
  split
  · exact Sm.meet
  · exact Sm.rfl' σ
theorem MI.row {n0 : Nat} {σ : Sg} {i : Nat} (h : MI n0 σ) (hi : i < n0) : ∀ m, i + 1 + m ≤ n0 → MI n0 (tRow σ i m) := by
  intro m
  induction m with
  | zero => intro _; exact h
  | succ m ih => intro hm; exact (ih (by omega)).step hi (by omega) (by omega)
theorem Sm.row {σ : Sg} {i : Nat} : ∀ m, Sm σ (tRow σ i m) := by
  intro m
  induction m with
  | zero => exact Sm.rfl' σ
  | succ m ih => exact ih.trans Sm.step
theorem MI.rows {n0 : Nat} {σ : Sg} (h : MI n0 σ) : ∀ i, i ≤ n0 → MI n0 (tRows σ n0 i) := by
  intro i
  induction i with
  | zero => intro _; exact h
  | succ i ih => intro hi; exact (ih (by omega)).row (by omega) _ (by omega)
theorem Sm.rows {σ : Sg} {n0 : Nat} : ∀ i, Sm σ (tRows σ n0 i) := by
  intro i
  induction i with
  | zero => exact Sm.rfl' σ
  | succ i ih => exact ih.trans (Sm.row _)
theorem tRow_id {σ : Sg} {i : Nat} : ∀ m, (∀ j, i + 1 ≤ j → j < i + 1 + m → ¬ cmS σ i j) → tRow σ i m = σ := by
  intro m
  induction m with
  | zero => intro _; rfl
  | succ m ih =>
    intro h
    show tStep (tRow σ i m) i (i + 1 + m) = σ
    rw [ih (fun j h1 h2 => h j h1 (by omega))]
    exact if_neg (h _ (by omega) (by omega))
theorem tRow_stay {σ : Sg} {i k : Nat} (h : ¬ (tRow σ i k).1 22 i = 0) : ∀ m, tRow σ i (k + m) = tRow σ i k := by
  intro m
  induction m with
  | zero => rfl
  | succ m ih =>
    show tStep (tRow σ i (k + m)) i (i + 1 + (k + m)) = _
    rw [ih]
    exact if_neg (fun hc => h hc.2.2.1)
def InvD (σ : Sg) : Prop := ∀ k, gn σ ≤ k → k < 80 → σ.1 4 k = 0
theorem InvD.step {n0 : Nat} {σ : Sg} {i j : Nat} (hD : InvD σ) (h : MI n0 σ) (hi : i < n0) (hj : j < n0) (hij : i ≠ j) : InvD (tStep σ i j) := by
  unfold tStep
  by_cases hc : cmS σ i j
  · rw [if_pos hc]
    obtain ⟨nn, hG, hn, h6, h22⟩ := h
    have hnn := hG.2.1
    unfold InvD at hD ⊢
    rw [gn_eq hG] at hD ⊢
    obtain ⟨x5, -, -⟩ := hG.one (by omega) hc.1
    obtain ⟨y5, -, -⟩ := hG.one (by omega) hc.2.1
    obtain ⟨n', g1, g2, g3, g4⟩ := hG.meet (i := i) (j := j) (by omega) (by omega) hij x5 y5
    rw [gn_eq g2]
    intro k h1 h2
    rw [g4 k h1]
    exact hD k (by omega) h2
  · rw [if_neg hc]; exact hD
theorem InvD.row {n0 : Nat} {σ : Sg} {i : Nat} (hD : InvD σ) (h : MI n0 σ) (hi : i < n0) : ∀ m, i + 1 + m ≤ n0 → InvD (tRow σ i m) := by
  intro m
  induction m with
  | zero => intro _; exact hD
  | succ m ih => intro hm; exact (ih (by omega)).step (h.row hi m (by omega)) hi (by omega) (by omega)
theorem InvD.rows {n0 : Nat} {σ : Sg} (hD : InvD σ) (h : MI n0 σ) : ∀ i, i ≤ n0 → InvD (tRows σ n0 i) := by
  intro i
  induction i with
  | zero => intro _; exact hD
  | succ i ih => intro hi; exact (ih (by omega)).row (h.rows i (by omega)) (by omega) _ (by omega)
