/-! ===== PURE: grain, moon, claim ===== -/
def tPut (σ : Sg) (n : Nat) (l a m u : Int32) : Sg := sI (sL (sI (sI (sI (sI (sI (sI σ 0 n l) 1 n a) 2 n m) 3 n u) 5 n 1) 10 13 (σ.1 10 13 + m)) 0 (σ.2 0 + m.toInt64 * (l + (20 : Int32)).toInt64)) 10 0 (nI (n + 1))
theorem e_X3_put {b n : Nat} {σ : Sg} {l a m u : Int32} (hn : n < 80) (hc : σ.1 10 0 = nI n) : f_X3_put (xH b) l a m u (memC b σ) = some (memC b (tPut σ n l a m u), nI n) := by
  have e : nI (n + 1) - 1 = nI n := nI_pred n
  simp only [f_X3_put, hc, hn, e_X2_carried hn, car, nI_1, e, tPut, gd, lt_, rd, bd, ↓reduceIte, eq_self, and_self, true_and, and_true, not_false_eq_true, vi_t, cl_6, cl_20, cl_21, cl_40, cl_64, cl_80, cl_1280, Nat.reduceLT, tn_0, true_or, or_true, ab_f, xB_k, xB_r0, xB_r1, xB_r3, xB_r5, xB_r8, xB_r9, xB_r10, xB_i2, xB_i2_s, xB_i4, xB_i4_s, xB_i6, xB_i6_s, xB_i7, xB_i7_s, xH_k, xH_r0, xH_r1, xH_r2, xH_i3, xH_i3_s, xH_i4, xH_i4_s, xH_i5, xH_i5_s, xH_i6, xH_i6_s, xP_k, xP_i0, xP_i0_s, xL_k, xL_i0, xL_i0_s, xL_i1, xL_i1_s, xL_i2, xL_i2_s, xL_i3, xL_i3_s, xL_i4, xL_i4_s, xL_i5, xL_i5_s, xL_i6, xL_i6_s, xL_i7, xL_i7_s, xL_l8, xL_l8_s, xL_l9, xL_l9_s, xL_l10, xL_l10_s, xL_l11, xL_l11_s, xL_l12, xL_l12_s, xA_k, xA_n, xA_rk, xG_k, xG_i0, xG_i0_s, xG_i1, xG_i1_s, xG_i2, xG_i2_s, xG_i3, xG_i3_s, xG_i4, xG_i4_s, xG_i5, xG_i5_s, xG_i6, xG_i6_s, xMA_k, xMA_n, xMA_rk, xM_k, xM_i0, xM_i0_s, xM_i1, xM_i1_s, xM_i2, xM_i2_s, xFA_k, xFA_n, xFA_rk, xF_k, xF_r0, xF_i1, xF_i1_s, xFm_k, xFm_n, xFm_ik, xFm_ik_s, xCA_k, xCA_n, xCA_rk, xC_k, xC_i0, xC_i0_s, xC_i1, xC_i1_s, xC_i2, xC_i2_s, xC_i3, xC_i3_s, xW_k, xW_n, xW_ik, xW_ik_s, x1_k, x1_n, x1_ik, x1_ik_s, x2_k, x2_n, x2_ik, x2_ik_s, C_no20, C_no21, C_no22, sI_1, sI_2, sL_1, sL_2, false_and, and_false, Nat.reduceEqDiff, reduceCtorEq, ↓reduceIte, eq_self, and_self, true_and, and_true]
theorem InvG.put {n : Nat} {σ : Sg} {l a m u : Int32} (h : InvG n σ) (hn : n < 80) (hl : lnOk l) (h1 : 1 ≤ m.toInt) (h2 : m.toInt ≤ 10000) (h4 : σ.1 4 n = 0) : InvG (n + 1) (tPut σ n l a m u) := by
  obtain ⟨a1, a2, a3, a4, a5, a6, a7, a8, a9, a10⟩ := h
  have hs := (smZ_ge (f := wt σ) 80 (fun k hk => wt_ge (a3 k hk))).1
  have hadd := i32_add (x := σ.1 10 13) (y := m) (by omega) (by omega) (by omega)
  have wn : wt σ n = 0 := by unfold wt; rw [if_pos (a4 n (by omega) hn)]
  have e0 : ∀ k, (tPut σ n l a m u).1 0 k = if k = n then l else σ.1 0 k := fun k => by simp only [tPut, sI_1, sI_2, sL_1, sL_2, false_and, and_false, Nat.reduceEqDiff, reduceCtorEq, ↓reduceIte, eq_self, and_self, true_and, and_true]
  have e2 : ∀ k, (tPut σ n l a m u).1 2 k = if k = n then m else σ.1 2 k := fun k => by simp only [tPut, sI_1, sI_2, sL_1, sL_2, false_and, and_false, Nat.reduceEqDiff, reduceCtorEq, ↓reduceIte, eq_self, and_self, true_and, and_true]
  have e4 : ∀ k, (tPut σ n l a m u).1 4 k = σ.1 4 k := fun k => by simp only [tPut, sI_1, sI_2, sL_1, sL_2, false_and, and_false, Nat.reduceEqDiff, reduceCtorEq, ↓reduceIte, eq_self, and_self, true_and, and_true]
  have e5 : ∀ k, (tPut σ n l a m u).1 5 k = if k = n then 1 else σ.1 5 k := fun k => by simp only [tPut, sI_1, sI_2, sL_1, sL_2, false_and, and_false, Nat.reduceEqDiff, reduceCtorEq, ↓reduceIte, eq_self, and_self, true_and, and_true]
  have e00 : (tPut σ n l a m u).1 10 0 = nI (n + 1) := by simp only [tPut, sI_1, sI_2, sL_1, sL_2, false_and, and_false, Nat.reduceEqDiff, reduceCtorEq, ↓reduceIte, eq_self, and_self, true_and, and_true]
  have e13 : (tPut σ n l a m u).1 10 13 = σ.1 10 13 + m := by simp only [tPut, sI_1, sI_2, sL_1, sL_2, false_and, and_false, Nat.reduceEqDiff, reduceCtorEq, ↓reduceIte, eq_self, and_self, true_and, and_true]
  have e10 : ∀ k, k ≠ 0 → k ≠ 13 → (tPut σ n l a m u).1 10 k = σ.1 10 k := fun k hk hk2 => by simp only [tPut, sI_1, sI_2, sL_1, sL_2, false_and, and_false, Nat.reduceEqDiff, reduceCtorEq, ↓reduceIte, eq_self, and_self, true_and, and_true, hk, hk2]
  have el : ∀ k, k ≠ 0 → (tPut σ n l a m u).2 k = σ.2 k := fun k hk => by simp only [tPut, sI_1, sI_2, sL_1, sL_2, false_and, and_false, Nat.reduceEqDiff, reduceCtorEq, ↓reduceIte, eq_self, and_self, true_and, and_true, hk]
  generalize tPut σ n l a m u = τ at e0 e2 e4 e5 e00 e13 e10 el ⊢
  have hsum : smZ (wt τ) 80 = smZ (wt σ) 80 + m.toInt := by
    have u1 := smZ_upd (f := wt σ) (g := wt τ) (i := n) 80 hn (fun k hk hne => by
      unfold wt
      rw [e5, e2, if_neg hne, if_neg hne])
    have wz : wt τ n = m.toInt := by unfold wt; rw [e5, e2, if_pos rfl, if_neg (by decide), if_pos rfl]
    rw [u1, wz, wn]
    omega
  refine ⟨e00, by omega, fun k hk => ?_, fun k k1 k2 => ?_, ?_, by rw [e10 11 (by decide) (by decide)]; exact a6, by rw [e10 12 (by decide) (by decide)]; exact a7, by rw [e13, hadd]; omega, by rw [e10 11 (by decide) (by decide), el 3 (by decide)]; exact a9, by rw [e10 12 (by decide) (by decide), el 4 (by decide)]; exact a10⟩
  · unfold grOk
    rw [e5, e0, e2, e4]
    by_cases hkn : k = n
    · rw [if_pos hkn, if_pos hkn, if_pos hkn, hkn, h4]
      exact Or.inr ⟨rfl, hl, h1, by decide, by decide⟩
    · rw [if_neg hkn, if_neg hkn, if_neg hkn]
      exact a3 k hk
  · rw [e5, if_neg (by omega)]; exact a4 k (by omega) k2
  · rw [hsum, e13, hadd, e10 11 (by decide) (by decide), e10 12 (by decide) (by decide)]
    omega
theorem Inv.put {n mm ff cc : Nat} {σ : Sg} {l a m u : Int32} (h1 : InvG n σ) (h2 : InvM mm σ) (h3 : InvF ff cc σ) (h4 : InvD σ) (hn : n < 80) (hl : lnOk l) (hm1 : 1 ≤ m.toInt) (hm2 : m.toInt ≤ 10000) : Inv (tPut σ n l a m u) := by
  have h40 : σ.1 4 n = 0 := h4 n (by rw [gn_eq h1]; omega) hn
  have g := h1.put (l := l) (a := a) (m := m) (u := u) hn hl hm1 hm2 h40
  have r : ∀ c k, ¬ (c ≤ 5 ∨ (c = 10 ∧ (k = 0 ∨ k = 13))) → (tPut σ n l a m u).1 c k = σ.1 c k := fun c k hc => by
    simp only [tPut, sI_1, sL_1]
    rw [if_neg (by omega), if_neg (by omega), if_neg (by omega), if_neg (by omega), if_neg (by omega), if_neg (by omega), if_neg (by omega)]
  refine ⟨n + 1, mm, ff, cc, g, ?_, ?_, ?_⟩
  · obtain ⟨a1, a2, a3⟩ := h2
    refine ⟨(r 10 1 (by omega)).trans a1, a2, fun j hj => ?_⟩
    rw [r 7 j (by omega), r 9 j (by omega), r 20 j (by omega)]
    exact a3 j hj
  · obtain ⟨a1, a2, a3, a4, a5⟩ := h3
    refine ⟨(r 10 15 (by omega)).trans a1, a2, (r 10 16 (by omega)).trans a3, a4, fun j hj => ?_⟩
    rw [r 13 j (by omega), r 14 j (by omega), r 15 j (by omega)]
    exact a5 j hj
  · intro k k1 k2
    rw [gn_eq g] at k1
    have e : (tPut σ n l a m u).1 4 k = σ.1 4 k := by simp only [tPut, sI_1, sI_2, sL_1, sL_2, false_and, and_false, Nat.reduceEqDiff, reduceCtorEq, ↓reduceIte, eq_self, and_self, true_and, and_true]
    rw [e]
    exact h4 k (by rw [gn_eq h1]; omega) k2
theorem tAdd_put {σ : Sg} {n : Nat} {l a m u : Int32} (h : σ.1 4 n = 0) : tAdd (sL (sI σ 10 13 (σ.1 10 13 + m)) 0 (σ.2 0 + m.toInt64 * (l + (20 : Int32)).toInt64)) n l a m u 0 = tPut σ n l a m u := by
  refine Sg_ext (fun c k => ?_) (fun _ => rfl)
  simp only [tAdd, tPut, sI_1, sL_1]
  grind
theorem in_1e4 {v : Int32} (h : OKr 1 v 10000) : 1 ≤ v.toInt ∧ v.toInt ≤ 10000 := by
  obtain ⟨h1, h2⟩ := h
  rw [Int32.lt_iff_toInt_lt] at h1
  rw [Int32.le_iff_toInt_le] at h2
  have e0 : (1 : Int32).toInt = 1 := rfl
  have e5 : (10000 : Int32).toInt = 10000 := rfl
  omega
theorem nI_eqF {a c : Nat} (h : a < c) (hc : c < 4096) : (nI a = nI c) = False := by
  refine eq_false (fun e => ?_)
  have := nle_t h hc
  rw [e] at this
  exact of_eq_false this (Int32.le_refl _)
theorem rP_t {l a m : Int32} {M : Mem} (h1 : OKr 0 l 63) (h2 : OKr 0 a 35999) (h3 : OKr 1 m 10000) : f_X7_requirePlace l a m M = some (M, .inl ()) := by
  unfold f_X7_requirePlace
  rw [rL_t h1, bx_l, rR_t h2, bx_l, rR_t h3, bx_l]
theorem rP_f {l a m : Int32} {M : Mem} (h : ¬ (OKr 0 l 63 ∧ OKr 0 a 35999 ∧ OKr 1 m 10000)) : f_X7_requirePlace l a m M = some (M, .inr 0) := by
  unfold f_X7_requirePlace
  by_cases h1 : OKr 0 l 63
  · rw [rL_t h1, bx_l]
    by_cases h2 : OKr 0 a 35999
    · rw [rR_t h2, bx_l, rR_f (fun h3 => h ⟨h1, h2, h3⟩), bx_r]
    · rw [rR_f h2, bx_r]
  · rw [rL_f h1, bx_r]
