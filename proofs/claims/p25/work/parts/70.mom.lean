/-! ===== PURE: momentum is kept ===== -/
def mw (σ : Sg) (k : Nat) : Int64 := if σ.1 5 k = 0 then 0 else car σ k
theorem mo_sl {σ : Sg} : ∀ n, mo σ n = sl (mw σ) n := by
  intro n
  induction n with
  | zero => rfl
  | succ n ih =>
    show (if σ.1 5 n = 0 then mo σ n else mo σ n + car σ n) = sl (mw σ) n + mw σ n
    rw [ih]
    unfold mw
    split
    · exact (Int64.add_zero _).symm
    · rfl
/-- the momentum of all, there and gone -/
def TT (σ : Sg) : Int64 := mo σ 80 + σ.2 3 + σ.2 4
/-- put and given, less the heat -/
def Cm (σ : Sg) : Prop := σ.2 0 + σ.2 1 - σ.2 2 = TT σ
theorem mo_congr {σ τ : Sg} (h : ∀ k, k < 80 → τ.1 5 k = σ.1 5 k ∧ τ.1 2 k = σ.1 2 k ∧ τ.1 0 k = σ.1 0 k) : mo τ 80 = mo σ 80 := by
  rw [mo_sl, mo_sl]
  refine sl_congr 80 (fun k hk => ?_)
  obtain ⟨h5, h2, h0⟩ := h k hk
  unfold mw car
  rw [h5, h2, h0]
theorem TT_same {σ τ : Sg} (h : ∀ k, k < 80 → τ.1 5 k = σ.1 5 k ∧ τ.1 2 k = σ.1 2 k ∧ τ.1 0 k = σ.1 0 k) (h3 : τ.2 3 = σ.2 3) (h4 : τ.2 4 = σ.2 4) : TT τ = TT σ := by
  unfold TT
  rw [mo_congr h, h3, h4]
theorem Cm.same {σ τ : Sg} (hC : Cm σ) (h : ∀ k, k < 80 → τ.1 5 k = σ.1 5 k ∧ τ.1 2 k = σ.1 2 k ∧ τ.1 0 k = σ.1 0 k) (hl : ∀ c, c < 5 → τ.2 c = σ.2 c) : Cm τ := by
  unfold Cm
  rw [TT_same h (hl 3 (by omega)) (hl 4 (by omega)), hl 0 (by omega), hl 1 (by omega), hl 2 (by omega)]
  exact hC
theorem mo_upd {σ τ : Sg} {i : Nat} {x : Int64} (hi : i < 80) (hx : mw τ i = mw σ i + x) (h : ∀ k, k < 80 → k ≠ i → mw τ k = mw σ k) : mo τ 80 = mo σ 80 + x := by
  rw [mo_sl, mo_sl]
  exact sl_upd hx 80 hi h
theorem mw_1 {σ : Sg} {k : Nat} (h : σ.1 5 k = 1) : mw σ k = car σ k := if_neg (by rw [h]; decide)
theorem i64_t1 (a c x y z : Int64) : a + (x - y) + (c + y - y) + z = a + c + z - y + x := by grind
/-- a grain goes: its momentum as it was is away, as it is there now is there -/
theorem TT_go {σ : Sg} {i : Nat} {v : Int32} (hi : i < 80) (h5 : σ.1 5 i = 1) (hv : vOk v) : TT (tGo σ i v) = TT σ - car σ i + (σ.1 2 i).toInt64 * (v + (20 : Int32)).toInt64 := by
  have w0 := mw_1 h5
  have oth : ∀ τ : Sg, (∀ k, k ≠ i → τ.1 5 k = σ.1 5 k ∧ τ.1 2 k = σ.1 2 k ∧ τ.1 0 k = σ.1 0 k) → ∀ k, k < 80 → k ≠ i → mw τ k = mw σ k := fun τ h k _ hk => by
    obtain ⟨a, b, c⟩ := h k hk
    unfold mw car
    rw [a, b, c]
  rcases hv with rfl | rfl | hv
  · rw [tGo_m1]
    have e := mo_upd (σ := σ) (τ := sL (sI (sI (sI (sI σ 0 i (-1)) 5 i 0) 10 9 (σ.1 10 9 + 1)) 10 11 (σ.1 10 11 + σ.1 2 i)) 3 (σ.2 3 + (σ.1 2 i).toInt64 * 19)) (i := i) (x := - car σ i) hi (by
      rw [w0]
      simp only [mw, sI_1, sI_2, sL_1, sL_2, false_and, and_false, Nat.reduceEqDiff, reduceCtorEq, ↓reduceIte, eq_self, and_self, true_and, and_true]
      grind) (oth _ (fun k hk => ⟨by simp only [sI_1, sI_2, sL_1, sL_2, false_and, and_false, Nat.reduceEqDiff, reduceCtorEq, ↓reduceIte, eq_self, and_self, true_and, and_true, hk], by simp only [sI_1, sI_2, sL_1, sL_2, false_and, and_false, Nat.reduceEqDiff, reduceCtorEq, ↓reduceIte, eq_self, and_self, true_and, and_true], by simp only [sI_1, sI_2, sL_1, sL_2, false_and, and_false, Nat.reduceEqDiff, reduceCtorEq, ↓reduceIte, eq_self, and_self, true_and, and_true, hk]⟩))
    unfold TT
    rw [e]
    simp only [sL_2, sI_2, if_true, Nat.reduceEqDiff, if_false, m1_20]
    have : (19 : Int32).toInt64 = 19 := by decide
    rw [this]
    grind
  · rw [tGo_64]
    have e := mo_upd (σ := σ) (τ := sL (sI (sI (sI (sI σ 0 i 64) 5 i 0) 10 10 (σ.1 10 10 + 1)) 10 12 (σ.1 10 12 + σ.1 2 i)) 4 (σ.2 4 + (σ.1 2 i).toInt64 * 84)) (i := i) (x := - car σ i) hi (by
      rw [w0]
      simp only [mw, sI_1, sI_2, sL_1, sL_2, false_and, and_false, Nat.reduceEqDiff, reduceCtorEq, ↓reduceIte, eq_self, and_self, true_and, and_true]
      grind) (oth _ (fun k hk => ⟨by simp only [sI_1, sI_2, sL_1, sL_2, false_and, and_false, Nat.reduceEqDiff, reduceCtorEq, ↓reduceIte, eq_self, and_self, true_and, and_true, hk], by simp only [sI_1, sI_2, sL_1, sL_2, false_and, and_false, Nat.reduceEqDiff, reduceCtorEq, ↓reduceIte, eq_self, and_self, true_and, and_true], by simp only [sI_1, sI_2, sL_1, sL_2, false_and, and_false, Nat.reduceEqDiff, reduceCtorEq, ↓reduceIte, eq_self, and_self, true_and, and_true, hk]⟩))
    unfold TT
    rw [e]
    simp only [sL_2, sI_2, if_true, Nat.reduceEqDiff, if_false]
    have : ((64 : Int32) + (20 : Int32)).toInt64 = 84 := by decide
    rw [this]
    grind
  · rw [tGo_in hv]
    have e := mo_upd (σ := σ) (τ := sI σ 0 i v) (i := i) (x := (σ.1 2 i).toInt64 * (v + (20 : Int32)).toInt64 - car σ i) hi (by
      rw [w0]
      simp only [mw, car, sI_1, sI_2, sL_1, sL_2, false_and, and_false, Nat.reduceEqDiff, reduceCtorEq, ↓reduceIte, eq_self, and_self, true_and, and_true, h5]
      grind) (oth _ (fun k hk => ⟨by simp only [sI_1, sI_2, sL_1, sL_2, false_and, and_false, Nat.reduceEqDiff, reduceCtorEq, ↓reduceIte, eq_self, and_self, true_and, and_true], by simp only [sI_1, sI_2, sL_1, sL_2, false_and, and_false, Nat.reduceEqDiff, reduceCtorEq, ↓reduceIte, eq_self, and_self, true_and, and_true], by simp only [sI_1, sI_2, sL_1, sL_2, false_and, and_false, Nat.reduceEqDiff, reduceCtorEq, ↓reduceIte, eq_self, and_self, true_and, and_true, hk]⟩))
    unfold TT
    rw [e]
    simp only [sI_2]
    grind
theorem go_l01 {τ : Sg} {g : Nat} {v : Int32} {c : Nat} (hc : c < 3) : (tGo τ g v).2 c = τ.2 c := tGo_l _ _ _ c ⟨by omega, by omega⟩
theorem TT_sI {σ : Sg} {c k : Nat} {x : Int32} (h : c ≠ 0 ∧ c ≠ 2 ∧ c ≠ 5) : TT (sI σ c k x) = TT σ := by
  obtain ⟨h0, h2, h5⟩ := h
  refine TT_same (fun k _ => ⟨?_, ?_, ?_⟩) rfl rfl
  · rw [sI_1, if_neg (fun q => h5 q.1.symm)]
  · rw [sI_1, if_neg (fun q => h2 q.1.symm)]
  · rw [sI_1, if_neg (fun q => h0 q.1.symm)]
theorem TT_sL {σ : Sg} {c : Nat} {x : Int64} (h : c ≠ 3 ∧ c ≠ 4) : TT (sL σ c x) = TT σ := by
  refine TT_same (fun k _ => ⟨rfl, rfl, rfl⟩) ?_ ?_
  · rw [sL_2, if_neg (fun q => h.1 q.symm)]
  · rw [sL_2, if_neg (fun q => h.2 q.symm)]
theorem Cm.push {σ : Sg} {nn j i : Nat} (h : Cm σ) (hG : InvG nn σ) (hi : i < 80) : Cm (tPush σ j i) := by
  unfold tPush
  by_cases h5 : σ.1 5 i = 0
  · rw [if_pos h5]; exact h
  rw [if_neg h5]
  split
  · exact h
  obtain ⟨x5, xl⟩ := (hG.okG i hi).resolve_left h5
  have hv : vOk (if σ.1 7 j ≤ σ.1 0 i then σ.1 0 i + 1 else σ.1 0 i + -1) := by
    split
    · exact vOk_up xl
    · exact vOk_dn xl
  generalize (if σ.1 7 j ≤ σ.1 0 i then σ.1 0 i + 1 else σ.1 0 i + -1) = v at hv
  have e := TT_go hi x5 hv
  have ec := car_go (σ := σ) (i := i) (v := v)
  unfold Cm tPuE
  rw [TT_sL (by decide), TT_sI (by decide), e]
  simp only [sL_2, sI_2, if_true, Nat.reduceEqDiff, if_false, go_l01 (τ := σ) (g := i) (v := v) (c := 0) (by omega), go_l01 (τ := σ) (g := i) (v := v) (c := 1) (by omega), go_l01 (τ := σ) (g := i) (v := v) (c := 2) (by omega), ec]
  unfold Cm at h
  generalize (σ.1 2 i).toInt64 * (v + (20 : Int32)).toInt64 = y
  generalize car σ i = x
  generalize TT σ = t at h ⊢
  generalize σ.2 0 = a at h ⊢
  generalize σ.2 1 = b at h ⊢
  generalize σ.2 2 = c at h ⊢
  clear e ec
  grind
theorem Cm.pushN {σ : Sg} {nn j : Nat} (h : Cm σ) (hG : InvG nn σ) : ∀ k, k ≤ 80 → Cm (tPushN σ j k) := by
  intro k
  induction k with
  | zero => intro _; exact h
  | succ k ih => intro hk; exact (ih (by omega)).push (hG.pushN (j := j) k (by omega)) (by omega)
theorem Cm.pa {σ : Sg} {nn : Nat} (h : Cm σ) (hG : InvG nn σ) : ∀ m, Cm (tPA σ m) := by
  intro m
  induction m with
  | zero => exact h
  | succ m ih => exact ih.pushN (hG.pa m) 80 (Nat.le_refl _)
theorem Cm.met {σ : Sg} {i j : Nat} (h : Cm σ) : Cm (tMet σ i j) := h.same (fun k _ => ⟨mt_c (by decide) (by decide), mt_c (by decide) (by decide), mt_c (by decide) (by decide)⟩) (fun _ _ => rfl)
theorem Cm.bump {σ : Sg} {nn i j : Nat} (h : Cm σ) (hG : InvG nn σ) (hi : i < 80) (hj : j < 80) (hij : i ≠ j) (h5 : σ.1 5 i = 1) (h6 : σ.1 5 j = 1) : Cm (tBump σ i j) := by
  have li := ((hG.okG i hi).resolve_left (by rw [h5]; decide)).2
  have lj := ((hG.okG j hj).resolve_left (by rw [h6]; decide)).2
  have hji : j ≠ i := fun e => hij e.symm
  have key : ∀ v w : Int32, vOk v → vOk w → Cm (tBuE (tGo (tGo σ i v) j w) i j (car σ i + car σ j)) := by
    intro v w hv hw
    have e1 := TT_go hi h5 hv
    have e2 := TT_go (σ := tGo σ i v) hj (by rw [tGo_5 hji]; exact h6) hw
    have c2 : car (tGo σ i v) j = car σ j := by unfold car; rw [go_2, tGo_0 hji]
    have eh := bu_car (σ := σ) (v := v) (w := w) (m0 := car σ i + car σ j) hij
    have et : TT (tBuE (tGo (tGo σ i v) j w) i j (car σ i + car σ j)) = TT (tGo (tGo σ i v) j w) := by
      unfold tBuE
      rw [TT_sL (by decide), TT_sI (by decide), TT_sI (by decide), TT_sI (by decide)]
    unfold Cm
    rw [eh, et, e2, e1, c2, go_2]
    have l0 : (tBuE (tGo (tGo σ i v) j w) i j (car σ i + car σ j)).2 0 = σ.2 0 := by
      simp only [tBuE, sL_2, sI_2, Nat.reduceEqDiff, if_false, go_l01 (c := 0) (by omega : 0 < 3)]
    have l1 : (tBuE (tGo (tGo σ i v) j w) i j (car σ i + car σ j)).2 1 = σ.2 1 := by
      simp only [tBuE, sL_2, sI_2, Nat.reduceEqDiff, if_false, go_l01 (c := 1) (by omega : 1 < 3)]
    rw [l0, l1]
    unfold Cm at h
    generalize (σ.1 2 i).toInt64 * (v + (20 : Int32)).toInt64 = y
    generalize (σ.1 2 j).toInt64 * (w + (20 : Int32)).toInt64 = z
    generalize car σ i = x
    generalize car σ j = x2
    generalize TT σ = t at h ⊢
    generalize σ.2 0 = a at h ⊢
    generalize σ.2 1 = b at h ⊢
    generalize σ.2 2 = c at h ⊢
    clear e1 e2 c2 eh et l0 l1
    grind
  unfold tBump
  split
  · exact key _ _ (vOk_up li) (vOk_dn lj)
  · exact key _ _ (vOk_dn li) (vOk_up lj)
