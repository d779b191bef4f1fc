/-! ===== PURE: a turn of the law's: a grain, or new numbers, or a tick; then all questions ===== -/
theorem Inv.G {τ : Sg} {nn mm : Nat} (h : Inv τ) (h0 : τ.1 10 0 = nI nn) (hn : nn ≤ 80) (h1 : τ.1 10 1 = nI mm) (hm : mm ≤ 6) : InvG nn τ ∧ InvM mm τ ∧ (∃ ff cc, InvF ff cc τ) ∧ InvD τ := by
  obtain ⟨n', m', ff, cc, g1, g2, g3, g4⟩ := h
  have e1 : n' = nn := by
    have := g1.1.symm.trans h0
    have h80 := g1.2.1
    exact (nI_eq (by omega) (by omega)).mp this
  have e2 : m' = mm := by
    have := g2.1.symm.trans h1
    have h6 := g2.2.1
    exact (nI_eq (by omega) (by omega)).mp this
  subst e1 e2
  exact ⟨g1, g2, ⟨ff, cc, g3⟩, g4⟩
theorem TI.inv {nn mm : Nat} {σ : Sg} (h : TI nn mm σ) : Inv σ := by
  obtain ⟨h1, h2, ⟨ff, cc, h3⟩, h4, -⟩ := h
  exact ⟨nn, mm, ff, cc, h1, h2, h3, h4⟩
theorem nI_ok {k m : Nat} (h : k ≤ m) (hm : m < 2147483648) : OKr 0 (nI k) (nI m) := by
  refine ⟨?_, nI_le h (by omega)⟩
  rw [Int32.lt_iff_toInt_lt, nI_toInt (by omega)]
  show ¬ _ < (0 : Int)
  omega
theorem nI_ok1 {k m : Nat} (h1 : 1 ≤ k) (h : k ≤ m) (hm : m < 2147483648) : OKr 1 (nI k) (nI m) := by
  refine ⟨?_, nI_le h (by omega)⟩
  rw [Int32.lt_iff_toInt_lt, nI_toInt (by omega)]
  show ¬ _ < (1 : Int)
  omega
theorem aOk_nI {a : Nat} (h : a < 36000) : aOk (nI a) := by
  unfold aOk
  rw [nI_toInt (by omega)]
  omega
/-! a grain is put -/
theorem put_c {σ : Sg} {n : Nat} {l a m u : Int32} (c k : Nat) (hc : ¬ (c ≤ 5 ∨ (c = 10 ∧ (k = 0 ∨ k = 13)))) : (tPut σ n l a m u).1 c k = σ.1 c k := by
  simp only [tPut, sI_1, sL_1]
  rw [if_neg (by omega), if_neg (by omega), if_neg (by omega), if_neg (by omega), if_neg (by omega), if_neg (by omega), if_neg (by omega)]
theorem Cm.put {σ : Sg} {n : Nat} {l a m u : Int32} (h : Cm σ) (hG : InvG n σ) (hn : n < 80) : Cm (tPut σ n l a m u) := by
  have h5 : σ.1 5 n = 0 := hG.2.2.2.1 n (Nat.le_refl _) hn
  have n1 : ¬ (1 : Int32) = 0 := by decide
  have e := mo_upd (σ := σ) (τ := tPut σ n l a m u) (i := n) (x := m.toInt64 * (l + (20 : Int32)).toInt64) hn (by
      simp only [mw, car, tPut, sI_1, sI_2, sL_1, sL_2, false_and, and_false, Nat.reduceEqDiff, reduceCtorEq, ↓reduceIte, eq_self, and_self, true_and, and_true, h5, n1]
      grind) (fun k _ hk => by simp only [mw, car, tPut, sI_1, sI_2, sL_1, sL_2, false_and, and_false, Nat.reduceEqDiff, reduceCtorEq, ↓reduceIte, eq_self, and_self, true_and, and_true, hk])
  have e0 : (tPut σ n l a m u).2 0 = σ.2 0 + m.toInt64 * (l + (20 : Int32)).toInt64 := by simp only [tPut, sI_1, sI_2, sL_1, sL_2, false_and, and_false, Nat.reduceEqDiff, reduceCtorEq, ↓reduceIte, eq_self, and_self, true_and, and_true]
  have el : ∀ c, c ≠ 0 → (tPut σ n l a m u).2 c = σ.2 c := fun c hc => by simp only [tPut, sI_1, sI_2, sL_1, sL_2, false_and, and_false, Nat.reduceEqDiff, reduceCtorEq, ↓reduceIte, eq_self, and_self, true_and, and_true, hc]
  unfold Cm TT at h ⊢
  rw [e, e0, el 1 (by decide), el 2 (by decide), el 3 (by decide), el 4 (by decide)]
  generalize m.toInt64 * (l + (20 : Int32)).toInt64 = x
  generalize mo σ 80 = t at h ⊢
  generalize σ.2 0 = a at h ⊢
  generalize σ.2 1 = b at h ⊢
  generalize σ.2 2 = c at h ⊢
  generalize σ.2 3 = d at h ⊢
  generalize σ.2 4 = f at h ⊢
  clear e e0 el
  grind
theorem TI.put {nn mm l a w u : Nat} {σ : Sg} (h : TI nn mm σ) (hn : nn < 79) (hl : l < 64) (ha : a < 36000) (hw1 : 1 ≤ w) (hw2 : w ≤ 10000) (hu : u ≤ 99) : TI (nn + 1) mm (tPut σ nn (nI l) (nI a) (nI w) (nI u)) := by
  have hI := h.inv
  obtain ⟨hG, hM, ⟨ff, cc, hF0⟩, hD, hm, hR, hA, hS, hF, hK, hC⟩ := h
  have hp : Inv (tPut σ nn (nI l) (nI a) (nI w) (nI u)) := Inv.put hG hM hF0 hD (by omega) ⟨l, hl, rfl⟩ (by rw [nI_toInt (by omega)]; omega) (by rw [nI_toInt (by omega)]; omega)
  have hmm := hM.2.1
  obtain ⟨g1, g2, g3, g4⟩ := hp.G (nn := nn + 1) (mm := mm) (by simp only [tPut, sI_1, sI_2, sL_1, sL_2, false_and, and_false, Nat.reduceEqDiff, reduceCtorEq, ↓reduceIte, eq_self, and_self, true_and, and_true]) (by omega) (by rw [put_c _ _ (by omega)]; exact hM.1) (by omega)
  have e1 : ∀ k, (tPut σ nn (nI l) (nI a) (nI w) (nI u)).1 1 k = if k = nn then nI a else σ.1 1 k := fun k => by simp only [tPut, sI_1, sI_2, sL_1, sL_2, false_and, and_false, Nat.reduceEqDiff, reduceCtorEq, ↓reduceIte, eq_self, and_self, true_and, and_true]
  have e3 : ∀ k, (tPut σ nn (nI l) (nI a) (nI w) (nI u)).1 3 k = if k = nn then nI u else σ.1 3 k := fun k => by simp only [tPut, sI_1, sI_2, sL_1, sL_2, false_and, and_false, Nat.reduceEqDiff, reduceCtorEq, ↓reduceIte, eq_self, and_self, true_and, and_true]
  refine ⟨g1, g2, g3, g4, hm, fun k hk => ?_, fun j hj => by rw [put_c _ _ (by omega)]; exact hA j hj, ?_, ?_, fun k k1 k2 => by rw [put_c _ _ (by omega)]; exact hK k (by omega) k2, hC.put hG (by omega)⟩
  · rw [e1, e3]
    by_cases hkn : k = nn
    · rw [if_pos hkn, if_pos hkn, nI_toInt (by omega)]
      exact ⟨aOk_nI ha, by omega, by omega⟩
    · rw [if_neg hkn, if_neg hkn]
      exact hR k hk
  · unfold Sp
    rw [put_c _ _ (by omega)]
    exact hS
  · unfold Fl
    rw [put_c _ _ (by omega)]
    exact hF
/-! new numbers -/
theorem TI.num {nn mm f p q r : Nat} {σ : Sg} (h : TI nn mm σ) (hf : f ≤ 1000) (hr : r ≤ 100) : TI nn mm (sI (sI (sI (sI σ 10 2 (nI f)) 10 3 (nI p)) 10 4 (nI q)) 10 5 (nI r)) := by
  have hI := h.inv
  obtain ⟨hG, hM, ⟨ff, cc, hF0⟩, hD, hm, hR, hA, hS, hF, hK, hC⟩ := h
  have hp : Inv (sI (sI (sI (sI σ 10 2 (nI f)) 10 3 (nI p)) 10 4 (nI q)) 10 5 (nI r)) := (((hI.scal (by omega)).scal (by omega)).scal (by omega)).scal (by omega)
  have hmm := hM.2.1
  have hnn := hG.2.1
  obtain ⟨g1, g2, g3, g4⟩ := hp.G (nn := nn) (mm := mm) (by simp only [sI_1, sI_2, sL_1, sL_2, false_and, and_false, Nat.reduceEqDiff, reduceCtorEq, ↓reduceIte, eq_self, and_self, true_and, and_true]; exact hG.1) (by omega) (by simp only [sI_1, sI_2, sL_1, sL_2, false_and, and_false, Nat.reduceEqDiff, reduceCtorEq, ↓reduceIte, eq_self, and_self, true_and, and_true]; exact hM.1) (by omega)
  have e : ∀ c k, c ≠ 10 → (sI (sI (sI (sI σ 10 2 (nI f)) 10 3 (nI p)) 10 4 (nI q)) 10 5 (nI r)).1 c k = σ.1 c k := fun c k hc => by simp only [sI_1, sI_2, sL_1, sL_2, false_and, and_false, Nat.reduceEqDiff, reduceCtorEq, ↓reduceIte, eq_self, and_self, true_and, and_true, hc]
  refine ⟨g1, g2, g3, g4, hm, hR.same (fun k _ => ⟨e _ _ (by decide), e _ _ (by decide)⟩), fun j hj => by rw [e _ _ (by decide)]; exact hA j hj, ?_, ?_, fun k k1 k2 => by rw [e _ _ (by decide)]; exact hK k k1 k2, hC.same (fun k _ => ⟨e _ _ (by decide), e _ _ (by decide), e _ _ (by decide)⟩) (fun _ _ => rfl)⟩
  · unfold Sp
    simp only [sI_1, sI_2, sL_1, sL_2, false_and, and_false, Nat.reduceEqDiff, reduceCtorEq, ↓reduceIte, eq_self, and_self, true_and, and_true]
    rw [nI_toInt (by omega)]
    omega
  · unfold Fl
    simp only [sI_1, sI_2, sL_1, sL_2, false_and, and_false, Nat.reduceEqDiff, reduceCtorEq, ↓reduceIte, eq_self, and_self, true_and, and_true]
    rw [nI_toInt (by omega)]
    omega
theorem TI.qs {nn mm : Nat} {σ τ : Sg} (h : TI nn mm σ) (q : Qs σ τ) (hl : ∀ j, τ.2 j = σ.2 j) : TI nn mm τ := by
  obtain ⟨hG, hM, ⟨ff, cc, hF0⟩, hD, hm, hR, hA, hS, hF, hK, hC⟩ := h
  refine ⟨hG.qs q, hM.qs q, ⟨ff, cc, hF0.qs q⟩, hD.same (q.1 _ _ (by decide)) (fun k _ _ => q.1 _ _ (by decide)), hm, hR.same (fun k _ => ⟨q.1 _ _ (by decide), q.1 _ _ (by decide)⟩), fun j hj => by rw [q.1 _ _ (by decide)]; exact hA j hj, ?_, ?_, fun k k1 k2 => by rw [q.1 _ _ (by decide)]; exact hK k k1 k2, hC.same (fun k _ => ⟨q.1 _ _ (by decide), q.1 _ _ (by decide), q.1 _ _ (by decide)⟩) (fun c _ => hl c)⟩
  · unfold Sp
    rw [q.1 _ _ (by decide)]
    exact hS
  · unfold Fl
    rw [q.1 _ _ (by decide)]
    exact hF
