/-! ===== PURE: momentum is kept by sticking and breaking; by a step ===== -/
theorem Cm.stick {σ : Sg} {i j : Nat} (h : Cm σ) (hi : i < 80) (hj : j < 80) (hij : i ≠ j) (h5 : σ.1 5 i = 1) (h6 : σ.1 5 j = 1) : Cm (tStick σ i j) := by
  have hji : j ≠ i := fun e => hij e.symm
  have wi := mw_1 h5
  have wj := mw_1 h6
  have n1 : ¬ (1 : Int32) = 0 := by decide
  have e1 := mo_upd (σ := σ) (τ := sI σ 5 j 0) (i := j) (x := - car σ j) hj (by
      rw [wj]
      simp only [mw, sI_1, sI_2, sL_1, sL_2, false_and, and_false, Nat.reduceEqDiff, reduceCtorEq, ↓reduceIte, eq_self, and_self, true_and, and_true]
      grind) (fun k _ hk => by simp only [mw, car, sI_1, sI_2, sL_1, sL_2, false_and, and_false, Nat.reduceEqDiff, reduceCtorEq, ↓reduceIte, eq_self, and_self, true_and, and_true, hk])
  have e2 := mo_upd (σ := sI σ 5 j 0) (τ := tStick σ i j) (i := i) (x := (σ.1 2 i + σ.1 2 j).toInt64 * (blS σ 0 i j + (20 : Int32)).toInt64 - car σ i) hi (by
      simp only [mw, car, tStick, sI_1, sI_2, sL_1, sL_2, false_and, and_false, Nat.reduceEqDiff, reduceCtorEq, ↓reduceIte, eq_self, and_self, true_and, and_true, hij, h5, n1]
      grind) (fun k _ hk => by simp only [mw, car, tStick, sI_1, sI_2, sL_1, sL_2, false_and, and_false, Nat.reduceEqDiff, reduceCtorEq, ↓reduceIte, eq_self, and_self, true_and, and_true, hk])
  have el : ∀ c, c ≠ 2 → (tStick σ i j).2 c = σ.2 c := fun c hc => by simp only [tStick, sI_1, sI_2, sL_1, sL_2, false_and, and_false, Nat.reduceEqDiff, reduceCtorEq, ↓reduceIte, eq_self, and_self, true_and, and_true, hc]
  have eh : (tStick σ i j).2 2 = σ.2 2 + (car σ i + car σ j - (σ.1 2 i + σ.1 2 j).toInt64 * (blS σ 0 i j + (20 : Int32)).toInt64) := by simp only [tStick, sI_1, sI_2, sL_1, sL_2, false_and, and_false, Nat.reduceEqDiff, reduceCtorEq, ↓reduceIte, eq_self, and_self, true_and, and_true]
  unfold Cm TT at h ⊢
  rw [eh, e2, e1, el 0 (by decide), el 1 (by decide), el 3 (by decide), el 4 (by decide)]
  generalize (σ.1 2 i + σ.1 2 j).toInt64 * (blS σ 0 i j + (20 : Int32)).toInt64 = y
  generalize car σ i = x
  generalize car σ j = x2
  generalize mo σ 80 = t at h ⊢
  generalize σ.2 0 = a at h ⊢
  generalize σ.2 1 = b at h ⊢
  generalize σ.2 2 = c at h ⊢
  generalize σ.2 3 = d at h ⊢
  generalize σ.2 4 = e at h ⊢
  clear e1 e2 eh el wi wj
  grind
theorem half_64 {x : Int32} (h : 0 ≤ x.toInt) : (x / (2 : Int32)).toInt64 + (x - x / (2 : Int32)).toInt64 = x.toInt64 := by
  have e2 : (2 : Int32).toInt = 2 := rfl
  have hx := x.toInt_lt
  have e : (x / (2 : Int32)).toInt = x.toInt / 2 := by
    rw [Int32.toInt_div, e2, Int.tdiv_eq_ediv_of_nonneg h, Int.bmod_eq_of_le (by omega) (by omega)]
  have es : (x - x / (2 : Int32)).toInt = x.toInt - x.toInt / 2 := by
    rw [i32_sub (by omega) (by omega), e]
  rw [← i64_add (by omega) (by omega) (by omega)]
  congr 1
  grind
theorem i64_hf (a b l : Int64) : a * l + b * l = (a + b) * l := (Int64.add_mul).symm
theorem TT_br0 {σ : Sg} {g n : Nat} (hg : g < 80) (hn : n < 80) (hgn : g ≠ n) (h5 : σ.1 5 g = 1) (h6 : σ.1 5 n = 0) (hm : 0 ≤ (σ.1 2 g).toInt) : TT (tBr0 σ g n) = TT σ := by
  have hng : n ≠ g := fun e => hgn e.symm
  have wg := mw_1 h5
  have n1 : ¬ (1 : Int32) = 0 := by decide
  have e1 := mo_upd (σ := σ) (τ := sI σ 2 g (σ.1 2 g / (2 : Int32))) (i := g) (x := (σ.1 2 g / (2 : Int32)).toInt64 * (σ.1 0 g + (20 : Int32)).toInt64 - car σ g) hg (by
      rw [wg]
      simp only [mw, car, sI_1, sI_2, sL_1, sL_2, false_and, and_false, Nat.reduceEqDiff, reduceCtorEq, ↓reduceIte, eq_self, and_self, true_and, and_true, h5, n1]
      grind) (fun k _ hk => by simp only [mw, car, sI_1, sI_2, sL_1, sL_2, false_and, and_false, Nat.reduceEqDiff, reduceCtorEq, ↓reduceIte, eq_self, and_self, true_and, and_true, hk])
  have e2 := mo_upd (σ := sI σ 2 g (σ.1 2 g / (2 : Int32))) (τ := tBr0 σ g n) (i := n) (x := (σ.1 2 g - σ.1 2 g / (2 : Int32)).toInt64 * (σ.1 0 g + (20 : Int32)).toInt64) hn (by
      simp only [mw, car, tBr0, sI_1, sI_2, sL_1, sL_2, false_and, and_false, Nat.reduceEqDiff, reduceCtorEq, ↓reduceIte, eq_self, and_self, true_and, and_true, hgn, hng, h6, n1]
      grind) (fun k _ hk => by
      simp only [mw, car, tBr0, sI_1, sI_2, sL_1, sL_2, false_and, and_false, Nat.reduceEqDiff, reduceCtorEq, ↓reduceIte, eq_self, and_self, true_and, and_true, hk])
  unfold TT
  rw [e2, e1]
  have el : ∀ c, (tBr0 σ g n).2 c = σ.2 c := fun c => rfl
  rw [el, el]
  have hh := half_64 hm
  have hd := i64_hf (σ.1 2 g / (2 : Int32)).toInt64 (σ.1 2 g - σ.1 2 g / (2 : Int32)).toInt64 (σ.1 0 g + (20 : Int32)).toInt64
  rw [hh] at hd
  have hc : car σ g = (σ.1 2 g).toInt64 * (σ.1 0 g + (20 : Int32)).toInt64 := rfl
  rw [← hc] at hd
  generalize (σ.1 2 g / (2 : Int32)).toInt64 * (σ.1 0 g + (20 : Int32)).toInt64 = y at hd ⊢
  generalize (σ.1 2 g - σ.1 2 g / (2 : Int32)).toInt64 * (σ.1 0 g + (20 : Int32)).toInt64 = z at hd ⊢
  generalize car σ g = x at hd ⊢
  generalize mo σ 80 = t
  generalize σ.2 3 = d
  generalize σ.2 4 = e
  clear e1 e2 wg hc hh
  grind
theorem Cm.break {σ : Sg} {g n : Nat} (h : Cm σ) (hG : InvG n σ) (hg : g < n) (hn : n < 80) (h5 : σ.1 5 g = 1) : Cm (tBreak σ g n) := by
  have hgn : g ≠ n := by omega
  have hng : n ≠ g := by omega
  have lg := ((hG.okG g (by omega)).resolve_left (by rw [h5]; decide)).2
  have hm := (hG.ms (by omega) h5).1
  have hn0 : σ.1 5 n = 0 := hG.2.2.2.1 n (Nat.le_refl _) hn
  have x5 : (tBr0 σ g n).1 5 g = 1 := by rw [← h5]; simp only [tBr0, sI_1, sI_2, sL_1, sL_2, false_and, and_false, Nat.reduceEqDiff, reduceCtorEq, ↓reduceIte, eq_self, and_self, true_and, and_true, hgn]
  have y5 : (tBr0 σ g n).1 5 n = 1 := by simp only [tBr0, sI_1, sI_2, sL_1, sL_2, false_and, and_false, Nat.reduceEqDiff, reduceCtorEq, ↓reduceIte, eq_self, and_self, true_and, and_true]
  have e0 := TT_br0 (by omega) hn hgn h5 hn0 (by omega)
  have e1 := TT_go (σ := tBr0 σ g n) (i := g) (v := σ.1 0 g + -1) (by omega) x5 (vOk_dn lg)
  have e2 := TT_go (σ := tGo (tBr0 σ g n) g (σ.1 0 g + -1)) (i := n) (v := σ.1 0 g + 1) hn (by rw [tGo_5 hng]; exact y5) (vOk_up lg)
  have q1 : (tBr0 σ g n).1 2 g = σ.1 2 g / (2 : Int32) := by simp only [tBr0, sI_1, sI_2, sL_1, sL_2, false_and, and_false, Nat.reduceEqDiff, reduceCtorEq, ↓reduceIte, eq_self, and_self, true_and, and_true]
  have q2 : (tBr0 σ g n).1 2 n = σ.1 2 g - σ.1 2 g / (2 : Int32) := by simp only [tBr0, sI_1, sI_2, sL_1, sL_2, false_and, and_false, Nat.reduceEqDiff, reduceCtorEq, ↓reduceIte, eq_self, and_self, true_and, and_true, hng]
  have q3 : (tBr0 σ g n).1 0 g = σ.1 0 g := by simp only [tBr0, sI_1, sI_2, sL_1, sL_2, false_and, and_false, Nat.reduceEqDiff, reduceCtorEq, ↓reduceIte, eq_self, and_self, true_and, and_true, hgn]
  have q4 : (tBr0 σ g n).1 0 n = σ.1 0 g := by simp only [tBr0, sI_1, sI_2, sL_1, sL_2, false_and, and_false, Nat.reduceEqDiff, reduceCtorEq, ↓reduceIte, eq_self, and_self, true_and, and_true]
  have c1 : car (tBr0 σ g n) g = (σ.1 2 g / (2 : Int32)).toInt64 * (σ.1 0 g + (20 : Int32)).toInt64 := by unfold car; rw [q1, q3]
  have c2 : car (tGo (tBr0 σ g n) g (σ.1 0 g + -1)) n = (σ.1 2 g - σ.1 2 g / (2 : Int32)).toInt64 * (σ.1 0 g + (20 : Int32)).toInt64 := by unfold car; rw [go_2, tGo_0 hng, q2, q4]
  have hd := i64_hf (σ.1 2 g / (2 : Int32)).toInt64 (σ.1 2 g - σ.1 2 g / (2 : Int32)).toInt64 (σ.1 0 g + (20 : Int32)).toInt64
  rw [half_64 (by omega)] at hd
  have hc : car σ g = (σ.1 2 g).toInt64 * (σ.1 0 g + (20 : Int32)).toInt64 := rfl
  rw [← hc] at hd
  have eh := br_heat (σ := σ) hgn
  have et : TT (tBreak σ g n) = TT (tGo (tGo (tBr0 σ g n) g (σ.1 0 g + -1)) n (σ.1 0 g + 1)) := by
    unfold tBreak tBrE
    rw [TT_sI (by decide), TT_sL (by decide), TT_sI (by decide)]
  have l0 : (tBreak σ g n).2 0 = σ.2 0 := by
    unfold tBreak tBrE
    simp only [sL_2, sI_2, Nat.reduceEqDiff, if_false, go_l01 (c := 0) (by omega : 0 < 3)]
    rfl
  have l1 : (tBreak σ g n).2 1 = σ.2 1 := by
    unfold tBreak tBrE
    simp only [sL_2, sI_2, Nat.reduceEqDiff, if_false, go_l01 (c := 1) (by omega : 1 < 3)]
    rfl
  unfold Cm at h ⊢
  rw [eh, et, e2, e1, e0, c1, c2, go_2, q1, q2, l0, l1]
  generalize (σ.1 2 g / (2 : Int32)).toInt64 * (σ.1 0 g + (20 : Int32)).toInt64 = y at hd ⊢
  generalize (σ.1 2 g - σ.1 2 g / (2 : Int32)).toInt64 * (σ.1 0 g + (20 : Int32)).toInt64 = z at hd ⊢
  generalize (σ.1 2 g / (2 : Int32)).toInt64 * (σ.1 0 g + -1 + (20 : Int32)).toInt64 = y2
  generalize (σ.1 2 g - σ.1 2 g / (2 : Int32)).toInt64 * (σ.1 0 g + 1 + (20 : Int32)).toInt64 = z2
  generalize car σ g = x at hd ⊢
  generalize TT σ = t at h ⊢
  generalize σ.2 0 = a at h ⊢
  generalize σ.2 1 = b at h ⊢
  generalize σ.2 2 = c at h ⊢
  clear e0 e1 e2 c1 c2 eh et l0 l1 q1 q2 q3 q4 hc
  grind
theorem Cm.step {n0 : Nat} {σ : Sg} {i j : Nat} (h : Cm σ) (hM : MI n0 σ) (hi : i < n0) (hj : j < n0) (hij : i ≠ j) : Cm (tStep σ i j) := by
  unfold tStep
  by_cases hc : cmS σ i j
  · rw [if_pos hc]
    obtain ⟨nn, hG, hn, h6, h22⟩ := hM
    have hnn := hG.2.1
    rw [gn_eq hG]
    obtain ⟨x5, -, -⟩ := hG.one (by omega) hc.1
    obtain ⟨y5, -, -⟩ := hG.one (by omega) hc.2.1
    have m := hG.met (i := i) (j := j)
    have x5' : (tMet σ i j).1 5 i = 1 := x5
    have y5' : (tMet σ i j).1 5 j = 1 := y5
    refine meet_cases (h.met.bump m (by omega) (by omega) hij x5' y5') (fun g hg _ h80 => ?_) (h.met.stick (by omega) (by omega) hij x5' y5')
    rcases hg with rfl | rfl
    · exact h.met.break m (by omega) (by omega) x5'
    · exact h.met.break m (by omega) (by omega) y5'
  · rw [if_neg hc]; exact h
