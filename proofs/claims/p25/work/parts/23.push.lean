/-! ===== PURE: a moon pushes ===== -/
theorem nle_t {a b : Nat} (h : a < b) (hb : b < 4096) : (nI b ≤ nI a) = False := eq_false (nI_ge h (by omega))
def tPuE (τ : Sg) (i : Nat) (m0 : Int64) : Sg := sL (sI τ 3 i (if (99 : Int32) < τ.1 3 i + 5 then 99 else τ.1 3 i + 5)) 1 (τ.2 1 + (car τ i - m0))
def tPush (σ : Sg) (j i : Nat) : Sg :=
  if σ.1 5 i = 0 then σ else if nrS σ i (σ.1 7 j) (σ.1 8 j) (σ.1 9 j) (1000 : Int32) = 0 then σ else
    tPuE (tGo σ i (if σ.1 7 j ≤ σ.1 0 i then σ.1 0 i + 1 else σ.1 0 i + -1)) i (car σ i)
def tPushN (σ : Sg) (j : Nat) : Nat → Sg
  | 0 => σ
  | k + 1 => tPush (tPushN σ j k) j k
theorem tGo_c (σ : Sg) (i : Nat) (v : Int32) (c k : Nat) (hc : c ≠ 0 ∧ c ≠ 5 ∧ c ≠ 10) : (tGo σ i v).1 c k = σ.1 c k := by
  obtain ⟨h0, h5, h10⟩ := hc
  unfold tGo
  split
  · split <;> simp only [sI_1, sL_1, h0, h5, h10, false_and, if_false]
  · simp only [sI_1, sL_1, h0, h5, h10, false_and, if_false]
theorem tGo_l (σ : Sg) (i : Nat) (v : Int32) (c : Nat) (hc : c ≠ 3 ∧ c ≠ 4) : (tGo σ i v).2 c = σ.2 c := by
  obtain ⟨h3, h4⟩ := hc
  unfold tGo
  split
  · split <;> simp only [sI_2, sL_2, h3, h4, if_false]
  · simp only [sI_2, sL_2, h3, h4, if_false]
theorem car_sI (σ : Sg) (c k i : Nat) (v : Int32) (h : c ≠ 0 ∧ c ≠ 2) : car (sI σ c k v) i = car σ i := by
  have h0 : ¬ 0 = c := fun e => h.1 e.symm
  have h2 : ¬ 2 = c := fun e => h.2 e.symm
  simp only [car, sI_1, h0, h2, false_and, if_false]
theorem car_sL (σ : Sg) (c i : Nat) (v : Int64) : car (sL σ c v) i = car σ i := rfl
theorem s_yield81 {b i j : Nat} {σ : Sg} {d : Int32} {m0 : Int64} {K : Nat → Nat → Nat → Int32 → Int32 → Mem → Option Mem} (hi : i < 80) :
    f_X3_yieldTo_b81 K d (xG b i) (xH b) (xH b) (xM b j) (xA b) (nI 80) (nI i) (xG b i) m0 (memC b σ) = K (xH b) (xM b j) (xA b) (nI 80) (nI (i + 1)) (memC b (tPuE (tGo σ i (σ.1 0 i + d)) i m0)) := by
  simp only [f_X3_yieldTo_b81, gd, xH_k, e_X3_shift hi, ↓reduceIte]
  generalize tGo σ i (σ.1 0 i + d) = τ
  simp only [f_X3_yieldTo_b121, hi, e_X2_carried hi, nI_1, gd, lt_, rd, bd, ↓reduceIte, eq_self, and_self, true_and, and_true, not_false_eq_true, vi_t, cl_6, cl_20, cl_21, cl_40, cl_64, cl_80, cl_1280, Nat.reduceLT, tn_0, true_or, or_true, ab_f, xB_k, xB_r0, xB_r1, xB_r3, xB_r5, xB_r8, xB_r9, xB_r10, xB_i2, xB_i2_s, xB_i4, xB_i4_s, xB_i6, xB_i6_s, xB_i7, xB_i7_s, xH_k, xH_r0, xH_r1, xH_r2, xH_i3, xH_i3_s, xH_i4, xH_i4_s, xH_i5, xH_i5_s, xH_i6, xH_i6_s, xP_k, xP_i0, xP_i0_s, xL_k, xL_i0, xL_i0_s, xL_i1, xL_i1_s, xL_i2, xL_i2_s, xL_i3, xL_i3_s, xL_i4, xL_i4_s, xL_i5, xL_i5_s, xL_i6, xL_i6_s, xL_i7, xL_i7_s, xL_l8, xL_l8_s, xL_l9, xL_l9_s, xL_l10, xL_l10_s, xL_l11, xL_l11_s, xL_l12, xL_l12_s, xA_k, xA_n, xA_rk, xG_k, xG_i0, xG_i0_s, xG_i1, xG_i1_s, xG_i2, xG_i2_s, xG_i3, xG_i3_s, xG_i4, xG_i4_s, xG_i5, xG_i5_s, xG_i6, xG_i6_s, xMA_k, xMA_n, xMA_rk, xM_k, xM_i0, xM_i0_s, xM_i1, xM_i1_s, xM_i2, xM_i2_s, xFA_k, xFA_n, xFA_rk, xF_k, xF_r0, xF_i1, xF_i1_s, xFm_k, xFm_n, xFm_ik, xFm_ik_s, xCA_k, xCA_n, xCA_rk, xC_k, xC_i0, xC_i0_s, xC_i1, xC_i1_s, xC_i2, xC_i2_s, xC_i3, xC_i3_s, xW_k, xW_n, xW_ik, xW_ik_s, x1_k, x1_n, x1_ik, x1_ik_s, x2_k, x2_n, x2_ik, x2_ik_s, C_no20, C_no21, C_no22, tPuE, sI_2, car_sI _ 3 _ _ _ (by decide)]
theorem s_yieldTo {b i j : Nat} {σ : Sg} {K : Nat → Nat → Nat → Int32 → Int32 → Mem → Option Mem} (hi : i < 80) (hj : j < 6) :
    f_X3_yieldTo_b11 K (xH b) (xM b j) (xA b) (nI 80) (nI i) (memC b σ) = K (xH b) (xM b j) (xA b) (nI 80) (nI (i + 1)) (memC b (tPush σ j i)) := by
  have hle := nle_t hi (by decide)
  simp only [f_X3_yieldTo_b11, s_yield81 hi, f_X3_yieldTo_b121, hle, hi, hj, e_X2_isNear hi, e_X2_carried hi, nI_1, gd, lt_, rd, bd, ↓reduceIte, eq_self, and_self, true_and, and_true, not_false_eq_true, vi_t, cl_6, cl_20, cl_21, cl_40, cl_64, cl_80, cl_1280, Nat.reduceLT, tn_0, true_or, or_true, ab_f, xB_k, xB_r0, xB_r1, xB_r3, xB_r5, xB_r8, xB_r9, xB_r10, xB_i2, xB_i2_s, xB_i4, xB_i4_s, xB_i6, xB_i6_s, xB_i7, xB_i7_s, xH_k, xH_r0, xH_r1, xH_r2, xH_i3, xH_i3_s, xH_i4, xH_i4_s, xH_i5, xH_i5_s, xH_i6, xH_i6_s, xP_k, xP_i0, xP_i0_s, xL_k, xL_i0, xL_i0_s, xL_i1, xL_i1_s, xL_i2, xL_i2_s, xL_i3, xL_i3_s, xL_i4, xL_i4_s, xL_i5, xL_i5_s, xL_i6, xL_i6_s, xL_i7, xL_i7_s, xL_l8, xL_l8_s, xL_l9, xL_l9_s, xL_l10, xL_l10_s, xL_l11, xL_l11_s, xL_l12, xL_l12_s, xA_k, xA_n, xA_rk, xG_k, xG_i0, xG_i0_s, xG_i1, xG_i1_s, xG_i2, xG_i2_s, xG_i3, xG_i3_s, xG_i4, xG_i4_s, xG_i5, xG_i5_s, xG_i6, xG_i6_s, xMA_k, xMA_n, xMA_rk, xM_k, xM_i0, xM_i0_s, xM_i1, xM_i1_s, xM_i2, xM_i2_s, xFA_k, xFA_n, xFA_rk, xF_k, xF_r0, xF_i1, xF_i1_s, xFm_k, xFm_n, xFm_ik, xFm_ik_s, xCA_k, xCA_n, xCA_rk, xC_k, xC_i0, xC_i0_s, xC_i1, xC_i1_s, xC_i2, xC_i2_s, xC_i3, xC_i3_s, xW_k, xW_n, xW_ik, xW_ik_s, x1_k, x1_n, x1_ik, x1_ik_s, x2_k, x2_n, x2_ik, x2_ik_s, C_no20, C_no21, C_no22]
  unfold tPush
  by_cases h1 : σ.1 5 i = 0
  · rw [if_pos h1, if_pos h1]
  rw [if_neg h1, if_neg h1]
  by_cases h2 : nrS σ i (σ.1 7 j) (σ.1 8 j) (σ.1 9 j) (1000 : Int32) = 0
  · rw [if_pos h2, if_pos h2]
  rw [if_neg h2, if_neg h2]
  by_cases h3 : σ.1 7 j ≤ σ.1 0 i
  · rw [if_pos h3, if_pos h3]
  · rw [if_neg h3, if_neg h3]
theorem l_yieldTo {b j : Nat} {σ : Sg} (hj : j < 6) : ∀ n i, i ≤ 80 → 80 < i + n → f_X3_yieldTo_L11 n (xH b) (xM b j) (xA b) (nI 80) (nI i) (memC b (tPushN σ j i)) = some (memC b (tPushN σ j 80)) := by
  intro n
  induction n with
  | zero => intro i h1 h2; omega
  | succ n ih =>
    intro i h1 h2
    show f_X3_yieldTo_b11 (f_X3_yieldTo_L11 n) (xH b) (xM b j) (xA b) (nI 80) (nI i) _ = _
    rcases Nat.lt_or_ge i 80 with hi | hi
    · rw [s_yieldTo hi hj]
      exact ih (i + 1) (by omega) (by omega)
    · obtain rfl : i = 80 := by omega
      simp only [f_X3_yieldTo_b11, Int32.le_refl, ↓reduceIte]
theorem e_X3_yieldTo {b j : Nat} {σ : Sg} (hj : j < 6) : f_X3_yieldTo (xH b) (xM b j) (memC b σ) = some (memC b (tPushN σ j 80)) := by
  simp only [f_X3_yieldTo, gd, lt_, rd, bd, ↓reduceIte, eq_self, and_self, true_and, and_true, not_false_eq_true, vi_t, cl_6, cl_20, cl_21, cl_40, cl_64, cl_80, cl_1280, Nat.reduceLT, tn_0, true_or, or_true, ab_f, xB_k, xB_r0, xB_r1, xB_r3, xB_r5, xB_r8, xB_r9, xB_r10, xB_i2, xB_i2_s, xB_i4, xB_i4_s, xB_i6, xB_i6_s, xB_i7, xB_i7_s, xH_k, xH_r0, xH_r1, xH_r2, xH_i3, xH_i3_s, xH_i4, xH_i4_s, xH_i5, xH_i5_s, xH_i6, xH_i6_s, xP_k, xP_i0, xP_i0_s, xL_k, xL_i0, xL_i0_s, xL_i1, xL_i1_s, xL_i2, xL_i2_s, xL_i3, xL_i3_s, xL_i4, xL_i4_s, xL_i5, xL_i5_s, xL_i6, xL_i6_s, xL_i7, xL_i7_s, xL_l8, xL_l8_s, xL_l9, xL_l9_s, xL_l10, xL_l10_s, xL_l11, xL_l11_s, xL_l12, xL_l12_s, xA_k, xA_n, xA_rk, xG_k, xG_i0, xG_i0_s, xG_i1, xG_i1_s, xG_i2, xG_i2_s, xG_i3, xG_i3_s, xG_i4, xG_i4_s, xG_i5, xG_i5_s, xG_i6, xG_i6_s, xMA_k, xMA_n, xMA_rk, xM_k, xM_i0, xM_i0_s, xM_i1, xM_i1_s, xM_i2, xM_i2_s, xFA_k, xFA_n, xFA_rk, xF_k, xF_r0, xF_i1, xF_i1_s, xFm_k, xFm_n, xFm_ik, xFm_ik_s, xCA_k, xCA_n, xCA_rk, xC_k, xC_i0, xC_i0_s, xC_i1, xC_i1_s, xC_i2, xC_i2_s, xC_i3, xC_i3_s, xW_k, xW_n, xW_ik, xW_ik_s, x1_k, x1_n, x1_ik, x1_ik_s, x2_k, x2_n, x2_ik, x2_ik_s, C_no20, C_no21, C_no22]
  exact l_yieldTo hj 200 0 (by omega) (by omega)
/-- what a grain that is there keeps to -/
def okG (σ : Sg) : Prop := ∀ i, i < 80 → σ.1 5 i = 0 ∨ σ.1 5 i = 1 ∧ lnOk (σ.1 0 i)
theorem lt_lane : ∀ m : Nat, m < 64 → ∀ k : Nat, k < 64 → (nI m - nI k < 0 ↔ ¬ nI k ≤ nI m) := by decide +kernel
theorem ge99 (x : Int32) : (if x ≤ (99 : Int32) then x else 99) = if (99 : Int32) < x then 99 else x := apt_le x
