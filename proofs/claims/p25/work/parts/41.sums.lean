/-! ===== PURE: frame ===== -/
theorem e_f64 : ∀ f : Nat, f < 20 → ∀ j : Nat, j < 64 → (64 : Int32) * nI f + nI j = nI (64 * f + j) := by decide +kernel
def tF (σ : Sg) (f j nn : Nat) : Sg := (fun c k => if c = 12 ∧ 64 * f ≤ k ∧ k < 64 * f + j then lm σ (nI (k - 64 * f)) nn else σ.1 c k, σ.2)
theorem tF_0 {σ : Sg} {f nn : Nat} : tF σ f 0 nn = σ := Sg_ext (fun c k => if_neg (by omega)) (fun _ => rfl)
theorem tF_c {σ : Sg} {f j nn c k : Nat} (h : c ≠ 12) : (tF σ f j nn).1 c k = σ.1 c k := if_neg (fun q => h q.1)
theorem tF_s {σ : Sg} {f j nn : Nat} : sI (tF σ f j nn) 12 (64 * f + j) (lm σ (nI j) nn) = tF σ f (j + 1) nn := by
  refine Sg_ext (fun c k => ?_) (fun _ => rfl)
  simp only [sI_1, tF]
  by_cases h : c = 12 ∧ k = 64 * f + j
  · rw [if_pos h, if_pos ⟨h.1, by omega, by omega⟩, show k - 64 * f = j by omega]
  · rw [if_neg h]
    by_cases h2 : c = 12 ∧ 64 * f ≤ k ∧ k < 64 * f + j
    · rw [if_pos h2, if_pos ⟨h2.1, h2.2.1, by omega⟩]
    · rw [if_neg h2, if_neg (fun q => h2 ⟨q.1, q.2.1, by omega⟩)]
def tFrame (σ : Sg) (f nn : Nat) : Sg := sI (sI (tF σ f 64 nn) 11 f (σ.1 10 14)) 10 15 (nI (f + 1))
theorem tFrame_C {b f nn : Nat} {σ : Sg} (hG : InvG nn σ) : sI (tW (sI σ 11 f (σ.1 10 14)) 12 (64 * f) 80) 10 15 (nI (f + 1)) = tFrame σ f nn := by
  refine Sg_ext (fun c k => ?_) (fun _ => rfl)
  have e : ∀ x, lm (sI σ 11 f (σ.1 10 14)) x 80 = lm σ x nn := fun x => by
    rw [lm_congr (σ := σ) (fun k => ⟨by simp only [sI_1, sI_2, sL_1, sL_2, false_and, and_false, Nat.reduceEqDiff, reduceCtorEq, ↓reduceIte, eq_self, and_self, true_and, and_true], by simp only [sI_1, sI_2, sL_1, sL_2, false_and, and_false, Nat.reduceEqDiff, reduceCtorEq, ↓reduceIte, eq_self, and_self, true_and, and_true], by simp only [sI_1, sI_2, sL_1, sL_2, false_and, and_false, Nat.reduceEqDiff, reduceCtorEq, ↓reduceIte, eq_self, and_self, true_and, and_true]⟩), lm_end hG 80 hG.2.1 (Nat.le_refl _)]
  simp only [tFrame, sI_1, tW, tF, e]
  grind
theorem Inv.frame {n m ff cc : Nat} {σ : Sg} (h1 : InvG n σ) (h2 : InvM m σ) (h3 : InvF ff cc σ) (h4 : InvD σ) (hf : ff < 20) : Inv (tFrame σ ff n) := by
  have r : ∀ c k, ¬ (c = 11 ∨ c = 12 ∨ (c = 10 ∧ k = 15)) → (tFrame σ ff n).1 c k = σ.1 c k := fun c k hc => by
    simp only [tFrame, sI_1]
    rw [if_neg (by omega), if_neg (by omega), tF_c (by omega)]
  refine ⟨n, m, ff + 1, cc, h1.same (fun j hj => ⟨r _ _ (by omega), r _ _ (by omega), r _ _ (by omega), r _ _ (by omega)⟩) ⟨r _ _ (by omega), r _ _ (by omega), r _ _ (by omega), r _ _ (by omega)⟩ ⟨rfl, rfl⟩, ?_, ?_, h4.same (r _ _ (by omega)) (fun j _ _ => r _ _ (by omega))⟩
  · obtain ⟨a1, a2, a3⟩ := h2
    refine ⟨(r 10 1 (by omega)).trans a1, a2, fun j hj => ?_⟩
    rw [r 7 j (by omega), r 9 j (by omega), r 20 j (by omega)]
    exact a3 j hj
  · obtain ⟨a1, a2, a3, a4, a5⟩ := h3
    refine ⟨by simp only [tFrame, sI_1, sI_2, sL_1, sL_2, false_and, and_false, Nat.reduceEqDiff, reduceCtorEq, ↓reduceIte, eq_self, and_self, true_and, and_true], by omega, (r 10 16 (by omega)).trans a3, a4, fun j hj => ?_⟩
    rw [r 13 j (by omega), r 14 j (by omega), r 15 j (by omega)]
    obtain ⟨⟨g, q1, q2⟩, q3⟩ := a5 j hj
    exact ⟨⟨g, by omega, q2⟩, q3⟩
/-! ===== PURE: count, sum, momentum ===== -/
def cn (σ : Sg) : Nat → Int32
  | 0 => 0
  | k + 1 => if σ.1 5 k = 0 then cn σ k else cn σ k + 1
def su (σ : Sg) : Nat → Int32
  | 0 => 0
  | k + 1 => if σ.1 5 k = 0 then su σ k else su σ k + σ.1 2 k
def mo (σ : Sg) : Nat → Int64
  | 0 => 0
  | k + 1 => if σ.1 5 k = 0 then mo σ k else mo σ k + car σ k
theorem to_end {α : Type} {nn : Nat} {f : Nat → α} : ∀ k, (∀ j, nn ≤ j → j < k → f (j + 1) = f j) → nn ≤ k → f k = f nn := by
  intro k
  induction k with
  | zero =>
    intro h h1
    obtain rfl : nn = 0 := (by omega)
    rfl
  | succ k ih =>
    intro h h1
    rcases Nat.lt_or_ge k nn with h2 | h2
    · obtain rfl : nn = k + 1 := (by omega)
      rfl
    · rw [h k h2 (by omega)]
      exact ih (fun j j1 j2 => h j j1 (by omega)) h2
theorem cn_end {nn : Nat} {σ : Sg} (hG : InvG nn σ) : cn σ 80 = cn σ nn := to_end 80 (fun j h1 h2 => if_pos (hG.2.2.2.1 j h1 h2)) hG.2.1
theorem su_end {nn : Nat} {σ : Sg} (hG : InvG nn σ) : su σ 80 = su σ nn := to_end 80 (fun j h1 h2 => if_pos (hG.2.2.2.1 j h1 h2)) hG.2.1
theorem mo_end {nn : Nat} {σ : Sg} (hG : InvG nn σ) : mo σ 80 = mo σ nn := to_end 80 (fun j h1 h2 => if_pos (hG.2.2.2.1 j h1 h2)) hG.2.1
theorem l_countC {b : Nat} {σ : Sg} : ∀ f i, i ≤ 80 → 80 < i + f → f_X3_countThere_L13 f (cn σ i) (xA b) (nI 80) (nI i) (memC b σ) = some (memC b σ, cn σ 80) := by
  intro f
  induction f with
  | zero => intro i h1 h2; omega
  | succ f ih =>
    intro i h1 h2
    show f_X3_countThere_b13 (f_X3_countThere_L13 f) _ (xA b) (nI 80) (nI i) _ = _
    rcases Nat.lt_or_ge i 80 with hi | hi
    · have hle := nle_t hi (by decide)
      rw [← ih (i + 1) (by omega) (by omega)]
      by_cases h5 : σ.1 5 i = 0
      · simp only [f_X3_countThere_b13, f_X3_countThere_b36, hle, hi, h5, nI_1, cn, gd, lt_, rd, bd, ↓reduceIte, eq_self, and_self, true_and, and_true, not_false_eq_true, vi_t, cl_6, cl_20, cl_21, cl_40, cl_64, cl_80, cl_1280, Nat.reduceLT, tn_0, true_or, or_true, ab_f, xB_k, xB_r0, xB_r1, xB_r3, xB_r5, xB_r8, xB_r9, xB_r10, xB_i2, xB_i2_s, xB_i4, xB_i4_s, xB_i6, xB_i6_s, xB_i7, xB_i7_s, xH_k, xH_r0, xH_r1, xH_r2, xH_i3, xH_i3_s, xH_i4, xH_i4_s, xH_i5, xH_i5_s, xH_i6, xH_i6_s, xP_k, xP_i0, xP_i0_s, xL_k, xL_i0, xL_i0_s, xL_i1, xL_i1_s, xL_i2, xL_i2_s, xL_i3, xL_i3_s, xL_i4, xL_i4_s, xL_i5, xL_i5_s, xL_i6, xL_i6_s, xL_i7, xL_i7_s, xL_l8, xL_l8_s, xL_l9, xL_l9_s, xL_l10, xL_l10_s, xL_l11, xL_l11_s, xL_l12, xL_l12_s, xA_k, xA_n, xA_rk, xG_k, xG_i0, xG_i0_s, xG_i1, xG_i1_s, xG_i2, xG_i2_s, xG_i3, xG_i3_s, xG_i4, xG_i4_s, xG_i5, xG_i5_s, xG_i6, xG_i6_s, xMA_k, xMA_n, xMA_rk, xM_k, xM_i0, xM_i0_s, xM_i1, xM_i1_s, xM_i2, xM_i2_s, xFA_k, xFA_n, xFA_rk, xF_k, xF_r0, xF_i1, xF_i1_s, xFm_k, xFm_n, xFm_ik, xFm_ik_s, xCA_k, xCA_n, xCA_rk, xC_k, xC_i0, xC_i0_s, xC_i1, xC_i1_s, xC_i2, xC_i2_s, xC_i3, xC_i3_s, xW_k, xW_n, xW_ik, xW_ik_s, x1_k, x1_n, x1_ik, x1_ik_s, x2_k, x2_n, x2_ik, x2_ik_s, C_no20, C_no21, C_no22]
      · simp only [f_X3_countThere_b13, f_X3_countThere_b36, hle, hi, h5, nI_1, cn, gd, lt_, rd, bd, ↓reduceIte, eq_self, and_self, true_and, and_true, not_false_eq_true, vi_t, cl_6, cl_20, cl_21, cl_40, cl_64, cl_80, cl_1280, Nat.reduceLT, tn_0, true_or, or_true, ab_f, xB_k, xB_r0, xB_r1, xB_r3, xB_r5, xB_r8, xB_r9, xB_r10, xB_i2, xB_i2_s, xB_i4, xB_i4_s, xB_i6, xB_i6_s, xB_i7, xB_i7_s, xH_k, xH_r0, xH_r1, xH_r2, xH_i3, xH_i3_s, xH_i4, xH_i4_s, xH_i5, xH_i5_s, xH_i6, xH_i6_s, xP_k, xP_i0, xP_i0_s, xL_k, xL_i0, xL_i0_s, xL_i1, xL_i1_s, xL_i2, xL_i2_s, xL_i3, xL_i3_s, xL_i4, xL_i4_s, xL_i5, xL_i5_s, xL_i6, xL_i6_s, xL_i7, xL_i7_s, xL_l8, xL_l8_s, xL_l9, xL_l9_s, xL_l10, xL_l10_s, xL_l11, xL_l11_s, xL_l12, xL_l12_s, xA_k, xA_n, xA_rk, xG_k, xG_i0, xG_i0_s, xG_i1, xG_i1_s, xG_i2, xG_i2_s, xG_i3, xG_i3_s, xG_i4, xG_i4_s, xG_i5, xG_i5_s, xG_i6, xG_i6_s, xMA_k, xMA_n, xMA_rk, xM_k, xM_i0, xM_i0_s, xM_i1, xM_i1_s, xM_i2, xM_i2_s, xFA_k, xFA_n, xFA_rk, xF_k, xF_r0, xF_i1, xF_i1_s, xFm_k, xFm_n, xFm_ik, xFm_ik_s, xCA_k, xCA_n, xCA_rk, xC_k, xC_i0, xC_i0_s, xC_i1, xC_i1_s, xC_i2, xC_i2_s, xC_i3, xC_i3_s, xW_k, xW_n, xW_ik, xW_ik_s, x1_k, x1_n, x1_ik, x1_ik_s, x2_k, x2_n, x2_ik, x2_ik_s, C_no20, C_no21, C_no22]
    · obtain rfl : i = 80 := (by omega)
      simp only [f_X3_countThere_b13, Int32.le_refl, ↓reduceIte]
theorem e_countC {b : Nat} {σ : Sg} : f_X3_countThere (xH b) (memC b σ) = some (memC b σ, cn σ 80) := by
  rw [← l_countC 200 0 (by omega) (by omega)]
  simp only [f_X3_countThere, gd, lt_, rd, bd, ↓reduceIte, eq_self, and_self, true_and, and_true, not_false_eq_true, vi_t, cl_6, cl_20, cl_21, cl_40, cl_64, cl_80, cl_1280, Nat.reduceLT, tn_0, true_or, or_true, ab_f, xB_k, xB_r0, xB_r1, xB_r3, xB_r5, xB_r8, xB_r9, xB_r10, xB_i2, xB_i2_s, xB_i4, xB_i4_s, xB_i6, xB_i6_s, xB_i7, xB_i7_s, xH_k, xH_r0, xH_r1, xH_r2, xH_i3, xH_i3_s, xH_i4, xH_i4_s, xH_i5, xH_i5_s, xH_i6, xH_i6_s, xP_k, xP_i0, xP_i0_s, xL_k, xL_i0, xL_i0_s, xL_i1, xL_i1_s, xL_i2, xL_i2_s, xL_i3, xL_i3_s, xL_i4, xL_i4_s, xL_i5, xL_i5_s, xL_i6, xL_i6_s, xL_i7, xL_i7_s, xL_l8, xL_l8_s, xL_l9, xL_l9_s, xL_l10, xL_l10_s, xL_l11, xL_l11_s, xL_l12, xL_l12_s, xA_k, xA_n, xA_rk, xG_k, xG_i0, xG_i0_s, xG_i1, xG_i1_s, xG_i2, xG_i2_s, xG_i3, xG_i3_s, xG_i4, xG_i4_s, xG_i5, xG_i5_s, xG_i6, xG_i6_s, xMA_k, xMA_n, xMA_rk, xM_k, xM_i0, xM_i0_s, xM_i1, xM_i1_s, xM_i2, xM_i2_s, xFA_k, xFA_n, xFA_rk, xF_k, xF_r0, xF_i1, xF_i1_s, xFm_k, xFm_n, xFm_ik, xFm_ik_s, xCA_k, xCA_n, xCA_rk, xC_k, xC_i0, xC_i0_s, xC_i1, xC_i1_s, xC_i2, xC_i2_s, xC_i3, xC_i3_s, xW_k, xW_n, xW_ik, xW_ik_s, x1_k, x1_n, x1_ik, x1_ik_s, x2_k, x2_n, x2_ik, x2_ik_s, C_no20, C_no21, C_no22]
  rfl
theorem l_massC {b : Nat} {σ : Sg} : ∀ f i, i ≤ 80 → 80 < i + f → f_X3_massThere_L13 f (su σ i) (xA b) (nI 80) (nI i) (memC b σ) = some (memC b σ, su σ 80) := by
  intro f
  induction f with
  | zero => intro i h1 h2; omega
  | succ f ih =>
    intro i h1 h2
    show f_X3_massThere_b13 (f_X3_massThere_L13 f) _ (xA b) (nI 80) (nI i) _ = _
    rcases Nat.lt_or_ge i 80 with hi | hi
    · have hle := nle_t hi (by decide)
      rw [← ih (i + 1) (by omega) (by omega)]
      by_cases h5 : σ.1 5 i = 0
      · simp only [f_X3_massThere_b13, f_X3_massThere_b41, hle, hi, h5, nI_1, su, gd, lt_, rd, bd, ↓reduceIte, eq_self, and_self, true_and, and_true, not_false_eq_true, vi_t, cl_6, cl_20, cl_21, cl_40, cl_64, cl_80, cl_1280, Nat.reduceLT, tn_0, true_or, or_true, ab_f, xB_k, xB_r0, xB_r1, xB_r3, xB_r5, xB_r8, xB_r9, xB_r10, xB_i2, xB_i2_s, xB_i4, xB_i4_s, xB_i6, xB_i6_s, xB_i7, xB_i7_s, xH_k, xH_r0, xH_r1, xH_r2, xH_i3, xH_i3_s, xH_i4, xH_i4_s, xH_i5, xH_i5_s, xH_i6, xH_i6_s, xP_k, xP_i0, xP_i0_s, xL_k, xL_i0, xL_i0_s, xL_i1, xL_i1_s, xL_i2, xL_i2_s, xL_i3, xL_i3_s, xL_i4, xL_i4_s, xL_i5, xL_i5_s, xL_i6, xL_i6_s, xL_i7, xL_i7_s, xL_l8, xL_l8_s, xL_l9, xL_l9_s, xL_l10, xL_l10_s, xL_l11, xL_l11_s, xL_l12, xL_l12_s, xA_k, xA_n, xA_rk, xG_k, xG_i0, xG_i0_s, xG_i1, xG_i1_s, xG_i2, xG_i2_s, xG_i3, xG_i3_s, xG_i4, xG_i4_s, xG_i5, xG_i5_s, xG_i6, xG_i6_s, xMA_k, xMA_n, xMA_rk, xM_k, xM_i0, xM_i0_s, xM_i1, xM_i1_s, xM_i2, xM_i2_s, xFA_k, xFA_n, xFA_rk, xF_k, xF_r0, xF_i1, xF_i1_s, xFm_k, xFm_n, xFm_ik, xFm_ik_s, xCA_k, xCA_n, xCA_rk, xC_k, xC_i0, xC_i0_s, xC_i1, xC_i1_s, xC_i2, xC_i2_s, xC_i3, xC_i3_s, xW_k, xW_n, xW_ik, xW_ik_s, x1_k, x1_n, x1_ik, x1_ik_s, x2_k, x2_n, x2_ik, x2_ik_s, C_no20, C_no21, C_no22]
      · simp only [f_X3_massThere_b13, f_X3_massThere_b41, hle, hi, h5, nI_1, su, gd, lt_, rd, bd, ↓reduceIte, eq_self, and_self, true_and, and_true, not_false_eq_true, vi_t, cl_6, cl_20, cl_21, cl_40, cl_64, cl_80, cl_1280, Nat.reduceLT, tn_0, true_or, or_true, ab_f, xB_k, xB_r0, xB_r1, xB_r3, xB_r5, xB_r8, xB_r9, xB_r10, xB_i2, xB_i2_s, xB_i4, xB_i4_s, xB_i6, xB_i6_s, xB_i7, xB_i7_s, xH_k, xH_r0, xH_r1, xH_r2, xH_i3, xH_i3_s, xH_i4, xH_i4_s, xH_i5, xH_i5_s, xH_i6, xH_i6_s, xP_k, xP_i0, xP_i0_s, xL_k, xL_i0, xL_i0_s, xL_i1, xL_i1_s, xL_i2, xL_i2_s, xL_i3, xL_i3_s, xL_i4, xL_i4_s, xL_i5, xL_i5_s, xL_i6, xL_i6_s, xL_i7, xL_i7_s, xL_l8, xL_l8_s, xL_l9, xL_l9_s, xL_l10, xL_l10_s, xL_l11, xL_l11_s, xL_l12, xL_l12_s, xA_k, xA_n, xA_rk, xG_k, xG_i0, xG_i0_s, xG_i1, xG_i1_s, xG_i2, xG_i2_s, xG_i3, xG_i3_s, xG_i4, xG_i4_s, xG_i5, xG_i5_s, xG_i6, xG_i6_s, xMA_k, xMA_n, xMA_rk, xM_k, xM_i0, xM_i0_s, xM_i1, xM_i1_s, xM_i2, xM_i2_s, xFA_k, xFA_n, xFA_rk, xF_k, xF_r0, xF_i1, xF_i1_s, xFm_k, xFm_n, xFm_ik, xFm_ik_s, xCA_k, xCA_n, xCA_rk, xC_k, xC_i0, xC_i0_s, xC_i1, xC_i1_s, xC_i2, xC_i2_s, xC_i3, xC_i3_s, xW_k, xW_n, xW_ik, xW_ik_s, x1_k, x1_n, x1_ik, x1_ik_s, x2_k, x2_n, x2_ik, x2_ik_s, C_no20, C_no21, C_no22]
    · obtain rfl : i = 80 := (by omega)
      simp only [f_X3_massThere_b13, Int32.le_refl, ↓reduceIte]
theorem e_massC {b : Nat} {σ : Sg} : f_X3_massThere (xH b) (memC b σ) = some (memC b σ, su σ 80) := by
  rw [← l_massC 200 0 (by omega) (by omega)]
  simp only [f_X3_massThere, gd, lt_, rd, bd, ↓reduceIte, eq_self, and_self, true_and, and_true, not_false_eq_true, vi_t, cl_6, cl_20, cl_21, cl_40, cl_64, cl_80, cl_1280, Nat.reduceLT, tn_0, true_or, or_true, ab_f, xB_k, xB_r0, xB_r1, xB_r3, xB_r5, xB_r8, xB_r9, xB_r10, xB_i2, xB_i2_s, xB_i4, xB_i4_s, xB_i6, xB_i6_s, xB_i7, xB_i7_s, xH_k, xH_r0, xH_r1, xH_r2, xH_i3, xH_i3_s, xH_i4, xH_i4_s, xH_i5, xH_i5_s, xH_i6, xH_i6_s, xP_k, xP_i0, xP_i0_s, xL_k, xL_i0, xL_i0_s, xL_i1, xL_i1_s, xL_i2, xL_i2_s, xL_i3, xL_i3_s, xL_i4, xL_i4_s, xL_i5, xL_i5_s, xL_i6, xL_i6_s, xL_i7, xL_i7_s, xL_l8, xL_l8_s, xL_l9, xL_l9_s, xL_l10, xL_l10_s, xL_l11, xL_l11_s, xL_l12, xL_l12_s, xA_k, xA_n, xA_rk, xG_k, xG_i0, xG_i0_s, xG_i1, xG_i1_s, xG_i2, xG_i2_s, xG_i3, xG_i3_s, xG_i4, xG_i4_s, xG_i5, xG_i5_s, xG_i6, xG_i6_s, xMA_k, xMA_n, xMA_rk, xM_k, xM_i0, xM_i0_s, xM_i1, xM_i1_s, xM_i2, xM_i2_s, xFA_k, xFA_n, xFA_rk, xF_k, xF_r0, xF_i1, xF_i1_s, xFm_k, xFm_n, xFm_ik, xFm_ik_s, xCA_k, xCA_n, xCA_rk, xC_k, xC_i0, xC_i0_s, xC_i1, xC_i1_s, xC_i2, xC_i2_s, xC_i3, xC_i3_s, xW_k, xW_n, xW_ik, xW_ik_s, x1_k, x1_n, x1_ik, x1_ik_s, x2_k, x2_n, x2_ik, x2_ik_s, C_no20, C_no21, C_no22]
  rfl
theorem l_momC {b : Nat} {σ : Sg} : ∀ f i, i ≤ 80 → 80 < i + f → f_X3_momentumThere_L14 f (mo σ i) (xA b) (nI 80) (nI i) (memC b σ) = some (memC b σ, mo σ 80) := by
  intro f
  induction f with
  | zero => intro i h1 h2; omega
  | succ f ih =>
    intro i h1 h2
    show f_X3_momentumThere_b14 (f_X3_momentumThere_L14 f) _ (xA b) (nI 80) (nI i) _ = _
    rcases Nat.lt_or_ge i 80 with hi | hi
    · have hle := nle_t hi (by decide)
      rw [← ih (i + 1) (by omega) (by omega)]
      by_cases h5 : σ.1 5 i = 0
      · simp only [f_X3_momentumThere_b14, f_X3_momentumThere_b43, hle, hi, h5, nI_1, mo, gd, lt_, rd, bd, ↓reduceIte, eq_self, and_self, true_and, and_true, not_false_eq_true, vi_t, cl_6, cl_20, cl_21, cl_40, cl_64, cl_80, cl_1280, Nat.reduceLT, tn_0, true_or, or_true, ab_f, xB_k, xB_r0, xB_r1, xB_r3, xB_r5, xB_r8, xB_r9, xB_r10, xB_i2, xB_i2_s, xB_i4, xB_i4_s, xB_i6, xB_i6_s, xB_i7, xB_i7_s, xH_k, xH_r0, xH_r1, xH_r2, xH_i3, xH_i3_s, xH_i4, xH_i4_s, xH_i5, xH_i5_s, xH_i6, xH_i6_s, xP_k, xP_i0, xP_i0_s, xL_k, xL_i0, xL_i0_s, xL_i1, xL_i1_s, xL_i2, xL_i2_s, xL_i3, xL_i3_s, xL_i4, xL_i4_s, xL_i5, xL_i5_s, xL_i6, xL_i6_s, xL_i7, xL_i7_s, xL_l8, xL_l8_s, xL_l9, xL_l9_s, xL_l10, xL_l10_s, xL_l11, xL_l11_s, xL_l12, xL_l12_s, xA_k, xA_n, xA_rk, xG_k, xG_i0, xG_i0_s, xG_i1, xG_i1_s, xG_i2, xG_i2_s, xG_i3, xG_i3_s, xG_i4, xG_i4_s, xG_i5, xG_i5_s, xG_i6, xG_i6_s, xMA_k, xMA_n, xMA_rk, xM_k, xM_i0, xM_i0_s, xM_i1, xM_i1_s, xM_i2, xM_i2_s, xFA_k, xFA_n, xFA_rk, xF_k, xF_r0, xF_i1, xF_i1_s, xFm_k, xFm_n, xFm_ik, xFm_ik_s, xCA_k, xCA_n, xCA_rk, xC_k, xC_i0, xC_i0_s, xC_i1, xC_i1_s, xC_i2, xC_i2_s, xC_i3, xC_i3_s, xW_k, xW_n, xW_ik, xW_ik_s, x1_k, x1_n, x1_ik, x1_ik_s, x2_k, x2_n, x2_ik, x2_ik_s, C_no20, C_no21, C_no22]
      · simp only [f_X3_momentumThere_b14, f_X3_momentumThere_b43, hle, hi, h5, nI_1, mo, e_X2_carried hi, gd, lt_, rd, bd, ↓reduceIte, eq_self, and_self, true_and, and_true, not_false_eq_true, vi_t, cl_6, cl_20, cl_21, cl_40, cl_64, cl_80, cl_1280, Nat.reduceLT, tn_0, true_or, or_true, ab_f, xB_k, xB_r0, xB_r1, xB_r3, xB_r5, xB_r8, xB_r9, xB_r10, xB_i2, xB_i2_s, xB_i4, xB_i4_s, xB_i6, xB_i6_s, xB_i7, xB_i7_s, xH_k, xH_r0, xH_r1, xH_r2, xH_i3, xH_i3_s, xH_i4, xH_i4_s, xH_i5, xH_i5_s, xH_i6, xH_i6_s, xP_k, xP_i0, xP_i0_s, xL_k, xL_i0, xL_i0_s, xL_i1, xL_i1_s, xL_i2, xL_i2_s, xL_i3, xL_i3_s, xL_i4, xL_i4_s, xL_i5, xL_i5_s, xL_i6, xL_i6_s, xL_i7, xL_i7_s, xL_l8, xL_l8_s, xL_l9, xL_l9_s, xL_l10, xL_l10_s, xL_l11, xL_l11_s, xL_l12, xL_l12_s, xA_k, xA_n, xA_rk, xG_k, xG_i0, xG_i0_s, xG_i1, xG_i1_s, xG_i2, xG_i2_s, xG_i3, xG_i3_s, xG_i4, xG_i4_s, xG_i5, xG_i5_s, xG_i6, xG_i6_s, xMA_k, xMA_n, xMA_rk, xM_k, xM_i0, xM_i0_s, xM_i1, xM_i1_s, xM_i2, xM_i2_s, xFA_k, xFA_n, xFA_rk, xF_k, xF_r0, xF_i1, xF_i1_s, xFm_k, xFm_n, xFm_ik, xFm_ik_s, xCA_k, xCA_n, xCA_rk, xC_k, xC_i0, xC_i0_s, xC_i1, xC_i1_s, xC_i2, xC_i2_s, xC_i3, xC_i3_s, xW_k, xW_n, xW_ik, xW_ik_s, x1_k, x1_n, x1_ik, x1_ik_s, x2_k, x2_n, x2_ik, x2_ik_s, C_no20, C_no21, C_no22]
    · obtain rfl : i = 80 := (by omega)
      simp only [f_X3_momentumThere_b14, Int32.le_refl, ↓reduceIte]
theorem e_momC {b : Nat} {σ : Sg} : f_X3_momentumThere (xH b) (memC b σ) = some (memC b σ, mo σ 80) := by
  rw [← l_momC 200 0 (by omega) (by omega)]
  simp only [f_X3_momentumThere, gd, lt_, rd, bd, ↓reduceIte, eq_self, and_self, true_and, and_true, not_false_eq_true, vi_t, cl_6, cl_20, cl_21, cl_40, cl_64, cl_80, cl_1280, Nat.reduceLT, tn_0, true_or, or_true, ab_f, xB_k, xB_r0, xB_r1, xB_r3, xB_r5, xB_r8, xB_r9, xB_r10, xB_i2, xB_i2_s, xB_i4, xB_i4_s, xB_i6, xB_i6_s, xB_i7, xB_i7_s, xH_k, xH_r0, xH_r1, xH_r2, xH_i3, xH_i3_s, xH_i4, xH_i4_s, xH_i5, xH_i5_s, xH_i6, xH_i6_s, xP_k, xP_i0, xP_i0_s, xL_k, xL_i0, xL_i0_s, xL_i1, xL_i1_s, xL_i2, xL_i2_s, xL_i3, xL_i3_s, xL_i4, xL_i4_s, xL_i5, xL_i5_s, xL_i6, xL_i6_s, xL_i7, xL_i7_s, xL_l8, xL_l8_s, xL_l9, xL_l9_s, xL_l10, xL_l10_s, xL_l11, xL_l11_s, xL_l12, xL_l12_s, xA_k, xA_n, xA_rk, xG_k, xG_i0, xG_i0_s, xG_i1, xG_i1_s, xG_i2, xG_i2_s, xG_i3, xG_i3_s, xG_i4, xG_i4_s, xG_i5, xG_i5_s, xG_i6, xG_i6_s, xMA_k, xMA_n, xMA_rk, xM_k, xM_i0, xM_i0_s, xM_i1, xM_i1_s, xM_i2, xM_i2_s, xFA_k, xFA_n, xFA_rk, xF_k, xF_r0, xF_i1, xF_i1_s, xFm_k, xFm_n, xFm_ik, xFm_ik_s, xCA_k, xCA_n, xCA_rk, xC_k, xC_i0, xC_i0_s, xC_i1, xC_i1_s, xC_i2, xC_i2_s, xC_i3, xC_i3_s, xW_k, xW_n, xW_ik, xW_ik_s, x1_k, x1_n, x1_ik, x1_ik_s, x2_k, x2_n, x2_ik, x2_ik_s, C_no20, C_no21, C_no22]
  rfl
