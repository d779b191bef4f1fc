/-! ===== PURE: bounds, now, tick, grain, moon, claim ===== -/
/-! tick -/
def gm (σ : Sg) : Nat := (σ.1 10 1).toNatClampNeg
theorem gm_eq {mm : Nat} {σ : Sg} (h : InvM mm σ) : gm σ = mm := by
  show (σ.1 10 1).toNatClampNeg = mm
  rw [h.1]
  exact nI_clamp (by have := h.2.1; omega)
def tP (σ : Sg) : Sg := tPass σ (gn σ) (gm σ)
def tTick (σ : Sg) : Nat → Sg
  | 0 => σ
  | k + 1 => tP (tTick σ k)
theorem Inv.p {σ : Sg} (h : Inv σ) : Inv (tP σ) := by
  obtain ⟨nn, mm, ff, cc, h1, h2, h3, h4⟩ := h
  obtain ⟨n2, g⟩ := h1.pass (mm := gm σ)
  unfold tP
  rw [gn_eq h1]
  exact ⟨n2, mm, ff, cc, g, h2.sk Sk.pass, h3.sk Sk.pass, h4.pass h1⟩
theorem Inv.tick {σ : Sg} (h : Inv σ) : ∀ k, Inv (tTick σ k) := by
  intro k
  induction k with
  | zero => exact h
  | succ k ih => exact ih.p
theorem Sk.tick {σ : Sg} : ∀ k, Sk σ (tTick σ k) := by
  intro k
  induction k with
  | zero => exact Sk.rfl' σ
  | succ k ih => exact ih.trans Sk.pass
theorem s_passC {b : Nat} {σ : Sg} (h : Inv σ) : f_X7_passTick b (memC b σ) = some (memC b (tP σ)) := by
  obtain ⟨nn, mm, ff, cc, h1, h2, -⟩ := h
  unfold tP
  rw [gn_eq h1, gm_eq h2]
  exact e_X7_passTick h1 h2
theorem l_tickC {b t : Nat} {σ : Sg} (h : Inv σ) (ht : t ≤ 50) : ∀ f i, i ≤ t → t < i + f → f_X7_tick_L31 f b (nI t) (nI i) (memC b (tTick σ i)) = some (memC b (tTick σ t), .inl ((tTick σ t).1 10 14)) := by
  intro f
  induction f with
  | zero => intro i h1 h2; omega
  | succ f ih =>
    intro i h1 h2
    show f_X7_tick_b31 (f_X7_tick_L31 f) b (nI t) (nI i) _ = _
    rcases Nat.lt_or_ge i t with hi | hi
    · have hle := nle_t hi (by omega)
      simp only [f_X7_tick_b31, hle, s_passC (h.tick i), nI_1, bd_s, gd, lt_, xB_k, ↓reduceIte]
      exact ih (i + 1) (by omega) (by omega)
    · obtain rfl : i = t := (by omega)
      simp only [f_X7_tick_b31, Int32.le_refl, gd, xB_k, xB_i7, ↓reduceIte]
theorem num_50 {v : Int32} (h : OKr 1 v 50) : ∃ t, t ≤ 50 ∧ v = nI t := by
  obtain ⟨h1, h2⟩ := h
  rw [Int32.lt_iff_toInt_lt] at h1
  rw [Int32.le_iff_toInt_le] at h2
  have e0 : (1 : Int32).toInt = 1 := rfl
  have e5 : (50 : Int32).toInt = 50 := rfl
  refine ⟨v.toInt.toNat, by omega, ?_⟩
  apply Int32.toInt_inj.mp
  rw [(nIt _ (by omega)).1]
  omega
