/-! ===== PURE: moon, claim, angle, speed, told ===== -/
def tMoon (σ : Sg) (m : Nat) (l a w : Int32) : Sg := sI (sI (sI (sI (sI σ 7 m l) 8 m a) 9 m (wd w)) 20 m w) 10 1 (nI (m + 1))
theorem Inv.moon {n m ff cc : Nat} {σ : Sg} {l a w : Int32} (h1 : InvG n σ) (h2 : InvM m σ) (h3 : InvF ff cc σ) (h4 : InvD σ) (hm : m < 6) (hl : lnOk l) (w1 : 1 ≤ w.toInt) (w2 : w.toInt ≤ 10000) : Inv (tMoon σ m l a w) := by
  have r : ∀ c k, ¬ (c = 7 ∨ c = 8 ∨ c = 9 ∨ c = 20 ∨ (c = 10 ∧ k = 1)) → (tMoon σ m l a w).1 c k = σ.1 c k := fun c k hc => by
    simp only [tMoon, sI_1]
    rw [if_neg (by omega), if_neg (by omega), if_neg (by omega), if_neg (by omega), if_neg (by omega)]
  have e7 : ∀ k, (tMoon σ m l a w).1 7 k = if k = m then l else σ.1 7 k := fun k => by simp only [tMoon, sI_1, sI_2, sL_1, sL_2, false_and, and_false, Nat.reduceEqDiff, reduceCtorEq, ↓reduceIte, eq_self, and_self, true_and, and_true]
  have e9 : ∀ k, (tMoon σ m l a w).1 9 k = if k = m then wd w else σ.1 9 k := fun k => by simp only [tMoon, sI_1, sI_2, sL_1, sL_2, false_and, and_false, Nat.reduceEqDiff, reduceCtorEq, ↓reduceIte, eq_self, and_self, true_and, and_true]
  have e20 : ∀ k, (tMoon σ m l a w).1 20 k = if k = m then w else σ.1 20 k := fun k => by simp only [tMoon, sI_1, sI_2, sL_1, sL_2, false_and, and_false, Nat.reduceEqDiff, reduceCtorEq, ↓reduceIte, eq_self, and_self, true_and, and_true]
  refine ⟨n, m + 1, ff, cc, h1.same (fun j hj => ⟨r _ _ (by omega), r _ _ (by omega), r _ _ (by omega), r _ _ (by omega)⟩) ⟨r _ _ (by omega), r _ _ (by omega), r _ _ (by omega), r _ _ (by omega)⟩ ⟨rfl, rfl⟩, ?_, ?_, h4.same (r _ _ (by omega)) (fun j _ _ => r _ _ (by omega))⟩
  · obtain ⟨a1, a2, a3⟩ := h2
    refine ⟨by simp only [tMoon, sI_1, sI_2, sL_1, sL_2, false_and, and_false, Nat.reduceEqDiff, reduceCtorEq, ↓reduceIte, eq_self, and_self, true_and, and_true], by omega, fun j hj => ?_⟩
    rw [e7, e9, e20]
    by_cases hjm : j = m
    · rw [if_pos hjm, if_pos hjm, if_pos hjm]
      exact ⟨hl, rfl, w1, w2⟩
    · rw [if_neg hjm, if_neg hjm, if_neg hjm]
      exact a3 j (by omega)
  · obtain ⟨a1, a2, a3, a4, a5⟩ := h3
    refine ⟨(r 10 15 (by omega)).trans a1, a2, (r 10 16 (by omega)).trans a3, a4, fun j hj => ?_⟩
    rw [r 13 j (by omega), r 14 j (by omega), r 15 j (by omega)]
    exact a5 j hj
/-! frames' and claims' numbers -/
def tClaim (σ : Sg) (c : Nat) (f x y z : Int32) : Sg := sI (sI (sI (sI (sI σ 13 c f) 14 c x) 15 c y) 16 c z) 10 16 (nI (c + 1))
theorem Inv.claim {n m ff cc : Nat} {σ : Sg} {f x y z : Int32} (h1 : InvG n σ) (h2 : InvM m σ) (h3 : InvF ff cc σ) (h4 : InvD σ) (hc : cc < 40) (hf : ∃ g, g < ff ∧ f = nI g) (hx : lnOk x) (hy : lnOk y) : Inv (tClaim σ cc f x y z) := by
  have r : ∀ c k, ¬ (c = 13 ∨ c = 14 ∨ c = 15 ∨ c = 16 ∨ (c = 10 ∧ k = 16)) → (tClaim σ cc f x y z).1 c k = σ.1 c k := fun c k hc => by
    simp only [tClaim, sI_1]
    rw [if_neg (by omega), if_neg (by omega), if_neg (by omega), if_neg (by omega), if_neg (by omega)]
  have e13 : ∀ k, (tClaim σ cc f x y z).1 13 k = if k = cc then f else σ.1 13 k := fun k => by simp only [tClaim, sI_1, sI_2, sL_1, sL_2, false_and, and_false, Nat.reduceEqDiff, reduceCtorEq, ↓reduceIte, eq_self, and_self, true_and, and_true]
  have e14 : ∀ k, (tClaim σ cc f x y z).1 14 k = if k = cc then x else σ.1 14 k := fun k => by simp only [tClaim, sI_1, sI_2, sL_1, sL_2, false_and, and_false, Nat.reduceEqDiff, reduceCtorEq, ↓reduceIte, eq_self, and_self, true_and, and_true]
  have e15 : ∀ k, (tClaim σ cc f x y z).1 15 k = if k = cc then y else σ.1 15 k := fun k => by simp only [tClaim, sI_1, sI_2, sL_1, sL_2, false_and, and_false, Nat.reduceEqDiff, reduceCtorEq, ↓reduceIte, eq_self, and_self, true_and, and_true]
  refine ⟨n, m, ff, cc + 1, h1.same (fun j hj => ⟨r _ _ (by omega), r _ _ (by omega), r _ _ (by omega), r _ _ (by omega)⟩) ⟨r _ _ (by omega), r _ _ (by omega), r _ _ (by omega), r _ _ (by omega)⟩ ⟨rfl, rfl⟩, ?_, ?_, h4.same (r _ _ (by omega)) (fun j _ _ => r _ _ (by omega))⟩
  · obtain ⟨a1, a2, a3⟩ := h2
    refine ⟨(r 10 1 (by omega)).trans a1, a2, fun j hj => ?_⟩
    rw [r 7 j (by omega), r 9 j (by omega), r 20 j (by omega)]
    exact a3 j hj
  · obtain ⟨a1, a2, a3, a4, a5⟩ := h3
    refine ⟨(r 10 15 (by omega)).trans a1, a2, by simp only [tClaim, sI_1, sI_2, sL_1, sL_2, false_and, and_false, Nat.reduceEqDiff, reduceCtorEq, ↓reduceIte, eq_self, and_self, true_and, and_true], by omega, fun j hj => ?_⟩
    rw [e13, e14, e15]
    by_cases hjm : j = cc
    · rw [if_pos hjm, if_pos hjm, if_pos hjm]
      exact ⟨hf, hx, hy⟩
    · rw [if_neg hjm, if_neg hjm, if_neg hjm]
      exact a5 j (by omega)
theorem OKr_tr {x y : Int32} (h1 : OKr 0 x 63) (h2 : OKr x y 63) : OKr 0 y 63 := by
  obtain ⟨a1, a2⟩ := h1
  obtain ⟨b1, b2⟩ := h2
  refine ⟨?_, b2⟩
  rw [Int32.lt_iff_toInt_lt] at a1 b1 ⊢
  omega
