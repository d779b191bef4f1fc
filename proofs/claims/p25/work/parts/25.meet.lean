/-! ===== PURE: two grains stick ===== -/
def blS (σ : Sg) (c i j : Nat) : Int32 := (((σ.1 2 i).toInt64 * (σ.1 c i).toInt64 + (σ.1 2 j).toInt64 * (σ.1 c j).toInt64) / ((σ.1 2 i).toInt64 + (σ.1 2 j).toInt64)).toInt32
def tStick (σ : Sg) (i j : Nat) : Sg :=
  sL (sI (sI (sI (sI (sI (sI σ 0 i (blS σ 0 i j)) 4 i (blS σ 4 i j)) 3 i (if σ.1 3 j < σ.1 3 i then σ.1 3 j else σ.1 3 i)) 2 i (σ.1 2 i + σ.1 2 j)) 5 j 0) 10 6 (σ.1 10 6 + 1)) 2
    (σ.2 2 + (car σ i + car σ j - (σ.1 2 i + σ.1 2 j).toInt64 * (blS σ 0 i j + (20 : Int32)).toInt64))
/-- two masses that may stick -/
def msP (σ : Sg) (i j : Nat) : Prop := 1 ≤ (σ.1 2 i).toInt ∧ 1 ≤ (σ.1 2 j).toInt ∧ (σ.1 2 i).toInt + (σ.1 2 j).toInt ≤ 800000
theorem msP_sum {σ : Sg} {i j : Nat} (h : msP σ i j) : ((σ.1 2 i).toInt64 + (σ.1 2 j).toInt64).toInt = (σ.1 2 i).toInt + (σ.1 2 j).toInt := by
  obtain ⟨h1, h2, h3⟩ := h
  rw [Int64.toInt_add, i64_of, i64_of]
  exact Int.bmod_eq_of_le (by omega) (by omega)
theorem msP_1 {σ : Sg} {i j : Nat} (h : msP σ i j) : (0 : Int32) ≤ lg_cmp ((σ.1 2 i).toInt64 + (σ.1 2 j).toInt64) (1 : Int64) := by
  rw [lg_cmp_ge, Int64.le_iff_toInt_le, msP_sum h]
  obtain ⟨h1, h2, h3⟩ := h
  show (1 : Int) ≤ _
  omega
theorem msP_0 {σ : Sg} {i j : Nat} (h : msP σ i j) : ¬ (σ.1 2 i).toInt64 + (σ.1 2 j).toInt64 = 0 := by
  intro e
  have := msP_sum h
  rw [e] at this
  obtain ⟨h1, h2, h3⟩ := h
  have h0 : (0 : Int64).toInt = 0 := rfl
  omega
theorem msP_64 {σ : Sg} {i j : Nat} (h : msP σ i j) : (σ.1 2 i + σ.1 2 j).toInt64 = (σ.1 2 i).toInt64 + (σ.1 2 j).toInt64 := i64_add (by have := h.1; omega) (by have := h.2.1; omega) (by have := h.2.2; omega)
theorem e_X3_blend {b i j c : Nat} {σ : Sg} (hi : i < 80) (hj : j < 80) (hm : msP σ i j) : f_X3_blend (xG b i) (σ.1 c i) (xG b j) (σ.1 c j) (memC b σ) = some (memC b σ, blS σ c i j) := by
  have h1 := msP_1 hm
  have h0 := msP_0 hm
  simp only [f_X3_blend, hi, hj, h1, h0, blS, gd, lt_, rd, bd, ↓reduceIte, eq_self, and_self, true_and, and_true, not_false_eq_true, vi_t, cl_6, cl_20, cl_21, cl_40, cl_64, cl_80, cl_1280, Nat.reduceLT, tn_0, true_or, or_true, ab_f, xB_k, xB_r0, xB_r1, xB_r3, xB_r5, xB_r8, xB_r9, xB_r10, xB_i2, xB_i2_s, xB_i4, xB_i4_s, xB_i6, xB_i6_s, xB_i7, xB_i7_s, xH_k, xH_r0, xH_r1, xH_r2, xH_i3, xH_i3_s, xH_i4, xH_i4_s, xH_i5, xH_i5_s, xH_i6, xH_i6_s, xP_k, xP_i0, xP_i0_s, xL_k, xL_i0, xL_i0_s, xL_i1, xL_i1_s, xL_i2, xL_i2_s, xL_i3, xL_i3_s, xL_i4, xL_i4_s, xL_i5, xL_i5_s, xL_i6, xL_i6_s, xL_i7, xL_i7_s, xL_l8, xL_l8_s, xL_l9, xL_l9_s, xL_l10, xL_l10_s, xL_l11, xL_l11_s, xL_l12, xL_l12_s, xA_k, xA_n, xA_rk, xG_k, xG_i0, xG_i0_s, xG_i1, xG_i1_s, xG_i2, xG_i2_s, xG_i3, xG_i3_s, xG_i4, xG_i4_s, xG_i5, xG_i5_s, xG_i6, xG_i6_s, xMA_k, xMA_n, xMA_rk, xM_k, xM_i0, xM_i0_s, xM_i1, xM_i1_s, xM_i2, xM_i2_s, xFA_k, xFA_n, xFA_rk, xF_k, xF_r0, xF_i1, xF_i1_s, xFm_k, xFm_n, xFm_ik, xFm_ik_s, xCA_k, xCA_n, xCA_rk, xC_k, xC_i0, xC_i0_s, xC_i1, xC_i1_s, xC_i2, xC_i2_s, xC_i3, xC_i3_s, xW_k, xW_n, xW_ik, xW_ik_s, x1_k, x1_n, x1_ik, x1_ik_s, x2_k, x2_n, x2_ik, x2_ik_s, C_no20, C_no21, C_no22]
theorem e_X3_stick {b i j : Nat} {σ : Sg} (hi : i < 80) (hj : j < 80) (hij : (i = j) = False) (hji : (j = i) = False) (hm : msP σ i j) : f_X3_stick (xH b) (xG b i) (xG b j) (memC b σ) = some (memC b (tStick σ i j)) := by
  simp only [f_X3_stick, hi, hj, e_X2_carried hi, e_X2_carried hj, e_X3_blend hi hj hm, gd, lt_, rd, bd, ↓reduceIte, eq_self, and_self, true_and, and_true, not_false_eq_true, vi_t, cl_6, cl_20, cl_21, cl_40, cl_64, cl_80, cl_1280, Nat.reduceLT, tn_0, true_or, or_true, ab_f, xB_k, xB_r0, xB_r1, xB_r3, xB_r5, xB_r8, xB_r9, xB_r10, xB_i2, xB_i2_s, xB_i4, xB_i4_s, xB_i6, xB_i6_s, xB_i7, xB_i7_s, xH_k, xH_r0, xH_r1, xH_r2, xH_i3, xH_i3_s, xH_i4, xH_i4_s, xH_i5, xH_i5_s, xH_i6, xH_i6_s, xP_k, xP_i0, xP_i0_s, xL_k, xL_i0, xL_i0_s, xL_i1, xL_i1_s, xL_i2, xL_i2_s, xL_i3, xL_i3_s, xL_i4, xL_i4_s, xL_i5, xL_i5_s, xL_i6, xL_i6_s, xL_i7, xL_i7_s, xL_l8, xL_l8_s, xL_l9, xL_l9_s, xL_l10, xL_l10_s, xL_l11, xL_l11_s, xL_l12, xL_l12_s, xA_k, xA_n, xA_rk, xG_k, xG_i0, xG_i0_s, xG_i1, xG_i1_s, xG_i2, xG_i2_s, xG_i3, xG_i3_s, xG_i4, xG_i4_s, xG_i5, xG_i5_s, xG_i6, xG_i6_s, xMA_k, xMA_n, xMA_rk, xM_k, xM_i0, xM_i0_s, xM_i1, xM_i1_s, xM_i2, xM_i2_s, xFA_k, xFA_n, xFA_rk, xF_k, xF_r0, xF_i1, xF_i1_s, xFm_k, xFm_n, xFm_ik, xFm_ik_s, xCA_k, xCA_n, xCA_rk, xC_k, xC_i0, xC_i0_s, xC_i1, xC_i1_s, xC_i2, xC_i2_s, xC_i3, xC_i3_s, xW_k, xW_n, xW_ik, xW_ik_s, x1_k, x1_n, x1_ik, x1_ik_s, x2_k, x2_n, x2_ik, x2_ik_s, C_no20, C_no21, C_no22]
  simp only [car, hij, hji, tStick, sI_1, sI_2, sL_1, sL_2, false_and, and_false, Nat.reduceEqDiff, reduceCtorEq, ↓reduceIte, eq_self, and_self, true_and, and_true]
