/-! ===== PURE: the class's calls, where they are not refused ===== -/
theorem okr_num {j n : Nat} (hj : j < n) (hn : n ≤ 80) : OKr 0 (nI j) (nI n - 1) := by
  refine ⟨?_, ?_⟩
  · rw [Int32.lt_iff_toInt_lt, (nIt j (by omega)).1]
    show ¬ _ < (0 : Int)
    omega
  · rw [Int32.le_iff_toInt_le, (nIt j (by omega)).1, (nIt n hn).2]
    omega
theorem k_flatness {b : Nat} {σ : Sg} {v : Int32} (h : OKr 0 v 1000) : f_X7_flatness b v (memC b σ) = some (memC b (sI σ 10 2 v), .inl (σ.1 10 2)) := by
  simp only [f_X7_flatness, rR_t h, bx_l, gd, lt_, rd, xB_k, xB_r0, xB_r1, xB_r3, xB_r5, xB_r8, xB_r9, xB_r10, xB_i2, xB_i2_s, xB_i4, xB_i4_s, xB_i6, xB_i6_s, xB_i7, xB_i7_s, xH_k, xH_r0, xH_r1, xH_r2, xH_i3, xH_i3_s, xH_i4, xH_i4_s, xH_i5, xH_i5_s, xH_i6, xH_i6_s, xP_k, xP_i0, xP_i0_s, xL_k, xL_i0, xL_i0_s, xL_i1, xL_i1_s, xL_i2, xL_i2_s, xL_i3, xL_i3_s, xL_i4, xL_i4_s, xL_i5, xL_i5_s, xL_i6, xL_i6_s, xL_i7, xL_i7_s, xL_l8, xL_l8_s, xL_l9, xL_l9_s, xL_l10, xL_l10_s, xL_l11, xL_l11_s, xL_l12, xL_l12_s, xA_k, xA_n, xA_rk, xG_k, xG_i0, xG_i0_s, xG_i1, xG_i1_s, xG_i2, xG_i2_s, xG_i3, xG_i3_s, xG_i4, xG_i4_s, xG_i5, xG_i5_s, xG_i6, xG_i6_s, xMA_k, xMA_n, xMA_rk, xM_k, xM_i0, xM_i0_s, xM_i1, xM_i1_s, xM_i2, xM_i2_s, xFA_k, xFA_n, xFA_rk, xF_k, xF_r0, xF_i1, xF_i1_s, xFm_k, xFm_n, xFm_ik, xFm_ik_s, xCA_k, xCA_n, xCA_rk, xC_k, xC_i0, xC_i0_s, xC_i1, xC_i1_s, xC_i2, xC_i2_s, xC_i3, xC_i3_s, xW_k, xW_n, xW_ik, xW_ik_s, x1_k, x1_n, x1_ik, x1_ik_s, x2_k, x2_n, x2_ik, x2_ik_s, C_no20, C_no21, C_no22, ↓reduceIte]
theorem k_bounds {b : Nat} {σ : Sg} {p0 p1 p2 : Int32} (ha : OKr 0 p0 1000) (hb : OKr p0 p1 5000) (hc : OKr 0 p2 100) : f_X7_bounds b p0 p1 p2 (memC b σ) = some (memC b (sI (sI (sI σ 10 3 p0) 10 4 p1) 10 5 p2), .inl ()) := by
  simp only [f_X7_bounds, rR_t ha, rR_t hb, rR_t hc, bx_l, gd, lt_, rd, xB_k, xB_r0, xB_r1, xB_r3, xB_r5, xB_r8, xB_r9, xB_r10, xB_i2, xB_i2_s, xB_i4, xB_i4_s, xB_i6, xB_i6_s, xB_i7, xB_i7_s, xH_k, xH_r0, xH_r1, xH_r2, xH_i3, xH_i3_s, xH_i4, xH_i4_s, xH_i5, xH_i5_s, xH_i6, xH_i6_s, xP_k, xP_i0, xP_i0_s, xL_k, xL_i0, xL_i0_s, xL_i1, xL_i1_s, xL_i2, xL_i2_s, xL_i3, xL_i3_s, xL_i4, xL_i4_s, xL_i5, xL_i5_s, xL_i6, xL_i6_s, xL_i7, xL_i7_s, xL_l8, xL_l8_s, xL_l9, xL_l9_s, xL_l10, xL_l10_s, xL_l11, xL_l11_s, xL_l12, xL_l12_s, xA_k, xA_n, xA_rk, xG_k, xG_i0, xG_i0_s, xG_i1, xG_i1_s, xG_i2, xG_i2_s, xG_i3, xG_i3_s, xG_i4, xG_i4_s, xG_i5, xG_i5_s, xG_i6, xG_i6_s, xMA_k, xMA_n, xMA_rk, xM_k, xM_i0, xM_i0_s, xM_i1, xM_i1_s, xM_i2, xM_i2_s, xFA_k, xFA_n, xFA_rk, xF_k, xF_r0, xF_i1, xF_i1_s, xFm_k, xFm_n, xFm_ik, xFm_ik_s, xCA_k, xCA_n, xCA_rk, xC_k, xC_i0, xC_i0_s, xC_i1, xC_i1_s, xC_i2, xC_i2_s, xC_i3, xC_i3_s, xW_k, xW_n, xW_ik, xW_ik_s, x1_k, x1_n, x1_ik, x1_ik_s, x2_k, x2_n, x2_ik, x2_ik_s, C_no20, C_no21, C_no22, ↓reduceIte]
theorem k_tick {b : Nat} {σ : Sg} (hI : Inv σ) (h2 : σ.1 10 14 + 1 ≤ 2000) : f_X7_tick b (1 : Int32) (memC b σ) = some (memC b (tP σ), .inl ((tP σ).1 10 14)) := by
  have h := l_tickC (b := b) (t := 1) hI (by omega) 200 0 (by omega) (by omega)
  have e1 : tTick σ 1 = tP σ := rfl
  rw [e1] at h
  rw [← h]
  have hr : OKr 1 (1 : Int32) 50 := by decide
  simp only [f_X7_tick, rR_t hr, bx_l, gd, xB_k, xB_i7, h2, ↓reduceIte, tTick]
  rfl
theorem k_angle {b mm j : Nat} {σ : Sg} (g : InvM mm σ) (hj : j < mm) : f_X7_angle b (nI j) (memC b σ) = some (memC b σ, .inl (σ.1 8 j)) := by
  have hmm := g.2.1
  have g10 := g.1
  have h : OKr 0 (nI j) (nI mm - 1) := okr_num hj (by omega)
  have hi6 : j < 6 := by omega
  simp only [f_X7_angle, g10, rN_t (show mm ≤ 80 by omega) h, bx_l, hi6, gd, lt_, rd, bd, ↓reduceIte, eq_self, and_self, true_and, and_true, not_false_eq_true, vi_t, cl_6, cl_20, cl_21, cl_40, cl_64, cl_80, cl_1280, Nat.reduceLT, tn_0, true_or, or_true, ab_f, xB_k, xB_r0, xB_r1, xB_r3, xB_r5, xB_r8, xB_r9, xB_r10, xB_i2, xB_i2_s, xB_i4, xB_i4_s, xB_i6, xB_i6_s, xB_i7, xB_i7_s, xH_k, xH_r0, xH_r1, xH_r2, xH_i3, xH_i3_s, xH_i4, xH_i4_s, xH_i5, xH_i5_s, xH_i6, xH_i6_s, xP_k, xP_i0, xP_i0_s, xL_k, xL_i0, xL_i0_s, xL_i1, xL_i1_s, xL_i2, xL_i2_s, xL_i3, xL_i3_s, xL_i4, xL_i4_s, xL_i5, xL_i5_s, xL_i6, xL_i6_s, xL_i7, xL_i7_s, xL_l8, xL_l8_s, xL_l9, xL_l9_s, xL_l10, xL_l10_s, xL_l11, xL_l11_s, xL_l12, xL_l12_s, xA_k, xA_n, xA_rk, xG_k, xG_i0, xG_i0_s, xG_i1, xG_i1_s, xG_i2, xG_i2_s, xG_i3, xG_i3_s, xG_i4, xG_i4_s, xG_i5, xG_i5_s, xG_i6, xG_i6_s, xMA_k, xMA_n, xMA_rk, xM_k, xM_i0, xM_i0_s, xM_i1, xM_i1_s, xM_i2, xM_i2_s, xFA_k, xFA_n, xFA_rk, xF_k, xF_r0, xF_i1, xF_i1_s, xFm_k, xFm_n, xFm_ik, xFm_ik_s, xCA_k, xCA_n, xCA_rk, xC_k, xC_i0, xC_i0_s, xC_i1, xC_i1_s, xC_i2, xC_i2_s, xC_i3, xC_i3_s, xW_k, xW_n, xW_ik, xW_ik_s, x1_k, x1_n, x1_ik, x1_ik_s, x2_k, x2_n, x2_ik, x2_ik_s, C_no20, C_no21, C_no22]
theorem k_speed {b : Nat} {σ : Sg} {v : Int32} (h : OKr 0 v 63) : f_X7_speed b v (memC b σ) = some (memC b σ, .inl (spd σ v)) := by
  have hl := ln_of h
  simp only [f_X7_speed, rL_t h, bx_l, bd_s, e_X6_speedIn hl, gd, rd, xB_k, xB_r0, xH_k, xH_r0, xP_k, ↓reduceIte]
def tdV (σ : Sg) (i : Nat) (p1 : Int32) : Int32 := if p1 = 0 then σ.1 0 i else if p1 = 1 then σ.1 1 i else if p1 = 2 then σ.1 2 i else if p1 = 3 then σ.1 3 i else if p1 = 4 then σ.1 4 i else if σ.1 5 i = 0 then 0 else 1
theorem k_told {b nn i : Nat} {σ : Sg} {p1 : Int32} (g : InvG nn σ) (hi : i < nn) (h1 : OKr 0 p1 5) : f_X7_told b (nI i) p1 (memC b σ) = some (memC b σ, .inl (tdV σ i p1)) := by
  have hnn := g.2.1
  have g10 := g.1
  have h : OKr 0 (nI i) (nI nn - 1) := okr_num hi (by omega)
  have hi8 : i < 80 := by omega
  simp only [f_X7_told, f_X7_told_b97, g10, rN_t (show nn ≤ 80 by omega) h, bx_l, hi8, gd, lt_, rd, bd, ↓reduceIte, eq_self, and_self, true_and, and_true, not_false_eq_true, vi_t, cl_6, cl_20, cl_21, cl_40, cl_64, cl_80, cl_1280, Nat.reduceLT, tn_0, true_or, or_true, ab_f, xB_k, xB_r0, xB_r1, xB_r3, xB_r5, xB_r8, xB_r9, xB_r10, xB_i2, xB_i2_s, xB_i4, xB_i4_s, xB_i6, xB_i6_s, xB_i7, xB_i7_s, xH_k, xH_r0, xH_r1, xH_r2, xH_i3, xH_i3_s, xH_i4, xH_i4_s, xH_i5, xH_i5_s, xH_i6, xH_i6_s, xP_k, xP_i0, xP_i0_s, xL_k, xL_i0, xL_i0_s, xL_i1, xL_i1_s, xL_i2, xL_i2_s, xL_i3, xL_i3_s, xL_i4, xL_i4_s, xL_i5, xL_i5_s, xL_i6, xL_i6_s, xL_i7, xL_i7_s, xL_l8, xL_l8_s, xL_l9, xL_l9_s, xL_l10, xL_l10_s, xL_l11, xL_l11_s, xL_l12, xL_l12_s, xA_k, xA_n, xA_rk, xG_k, xG_i0, xG_i0_s, xG_i1, xG_i1_s, xG_i2, xG_i2_s, xG_i3, xG_i3_s, xG_i4, xG_i4_s, xG_i5, xG_i5_s, xG_i6, xG_i6_s, xMA_k, xMA_n, xMA_rk, xM_k, xM_i0, xM_i0_s, xM_i1, xM_i1_s, xM_i2, xM_i2_s, xFA_k, xFA_n, xFA_rk, xF_k, xF_r0, xF_i1, xF_i1_s, xFm_k, xFm_n, xFm_ik, xFm_ik_s, xCA_k, xCA_n, xCA_rk, xC_k, xC_i0, xC_i0_s, xC_i1, xC_i1_s, xC_i2, xC_i2_s, xC_i3, xC_i3_s, xW_k, xW_n, xW_ik, xW_ik_s, x1_k, x1_n, x1_ik, x1_ik_s, x2_k, x2_n, x2_ik, x2_ik_s, C_no20, C_no21, C_no22]
  unfold tdV
  rcases in_05 h1 with rfl | rfl | rfl | rfl | rfl | rfl
  · rfl
  · rfl
  · rfl
  · rfl
  · rfl
  · by_cases h5 : σ.1 5 i = 0
    · simp only [h5, if_true]; rfl
    · simp only [h5, if_false]; rfl
theorem k_count {b t : Nat} {σ : Sg} (ht : t < 7) : f_X7_count b (nI t) (memC b σ) = some (memC b σ, .inl (if t = 0 then σ.1 10 0 else if t = 1 then cn σ 80 else σ.1 10 (t + 4))) := by
  have ht : t = 0 ∨ t = 1 ∨ t = 2 ∨ t = 3 ∨ t = 4 ∨ t = 5 ∨ t = 6 := by omega
  simp only [f_X7_count, e_countC, bd_s, gd, lt_, rd, bd, ↓reduceIte, eq_self, and_self, true_and, and_true, not_false_eq_true, vi_t, cl_6, cl_20, cl_21, cl_40, cl_64, cl_80, cl_1280, Nat.reduceLT, tn_0, true_or, or_true, ab_f, xB_k, xB_r0, xB_r1, xB_r3, xB_r5, xB_r8, xB_r9, xB_r10, xB_i2, xB_i2_s, xB_i4, xB_i4_s, xB_i6, xB_i6_s, xB_i7, xB_i7_s, xH_k, xH_r0, xH_r1, xH_r2, xH_i3, xH_i3_s, xH_i4, xH_i4_s, xH_i5, xH_i5_s, xH_i6, xH_i6_s, xP_k, xP_i0, xP_i0_s, xL_k, xL_i0, xL_i0_s, xL_i1, xL_i1_s, xL_i2, xL_i2_s, xL_i3, xL_i3_s, xL_i4, xL_i4_s, xL_i5, xL_i5_s, xL_i6, xL_i6_s, xL_i7, xL_i7_s, xL_l8, xL_l8_s, xL_l9, xL_l9_s, xL_l10, xL_l10_s, xL_l11, xL_l11_s, xL_l12, xL_l12_s, xA_k, xA_n, xA_rk, xG_k, xG_i0, xG_i0_s, xG_i1, xG_i1_s, xG_i2, xG_i2_s, xG_i3, xG_i3_s, xG_i4, xG_i4_s, xG_i5, xG_i5_s, xG_i6, xG_i6_s, xMA_k, xMA_n, xMA_rk, xM_k, xM_i0, xM_i0_s, xM_i1, xM_i1_s, xM_i2, xM_i2_s, xFA_k, xFA_n, xFA_rk, xF_k, xF_r0, xF_i1, xF_i1_s, xFm_k, xFm_n, xFm_ik, xFm_ik_s, xCA_k, xCA_n, xCA_rk, xC_k, xC_i0, xC_i0_s, xC_i1, xC_i1_s, xC_i2, xC_i2_s, xC_i3, xC_i3_s, xW_k, xW_n, xW_ik, xW_ik_s, x1_k, x1_n, x1_ik, x1_ik_s, x2_k, x2_n, x2_ik, x2_ik_s, C_no20, C_no21, C_no22]
  rcases ht with rfl | rfl | rfl | rfl | rfl | rfl | rfl <;> rfl
theorem k_sum {b t : Nat} {σ : Sg} (ht : t < 4) : f_X7_sum b (nI t) (memC b σ) = some (memC b σ, .inl (if t = 0 then su σ 80 else if t = 1 then σ.1 10 11 else if t = 2 then σ.1 10 12 else σ.1 10 13)) := by
  have ht : t = 0 ∨ t = 1 ∨ t = 2 ∨ t = 3 := by omega
  simp only [f_X7_sum, e_massC, bd_s, gd, lt_, rd, bd, ↓reduceIte, eq_self, and_self, true_and, and_true, not_false_eq_true, vi_t, cl_6, cl_20, cl_21, cl_40, cl_64, cl_80, cl_1280, Nat.reduceLT, tn_0, true_or, or_true, ab_f, xB_k, xB_r0, xB_r1, xB_r3, xB_r5, xB_r8, xB_r9, xB_r10, xB_i2, xB_i2_s, xB_i4, xB_i4_s, xB_i6, xB_i6_s, xB_i7, xB_i7_s, xH_k, xH_r0, xH_r1, xH_r2, xH_i3, xH_i3_s, xH_i4, xH_i4_s, xH_i5, xH_i5_s, xH_i6, xH_i6_s, xP_k, xP_i0, xP_i0_s, xL_k, xL_i0, xL_i0_s, xL_i1, xL_i1_s, xL_i2, xL_i2_s, xL_i3, xL_i3_s, xL_i4, xL_i4_s, xL_i5, xL_i5_s, xL_i6, xL_i6_s, xL_i7, xL_i7_s, xL_l8, xL_l8_s, xL_l9, xL_l9_s, xL_l10, xL_l10_s, xL_l11, xL_l11_s, xL_l12, xL_l12_s, xA_k, xA_n, xA_rk, xG_k, xG_i0, xG_i0_s, xG_i1, xG_i1_s, xG_i2, xG_i2_s, xG_i3, xG_i3_s, xG_i4, xG_i4_s, xG_i5, xG_i5_s, xG_i6, xG_i6_s, xMA_k, xMA_n, xMA_rk, xM_k, xM_i0, xM_i0_s, xM_i1, xM_i1_s, xM_i2, xM_i2_s, xFA_k, xFA_n, xFA_rk, xF_k, xF_r0, xF_i1, xF_i1_s, xFm_k, xFm_n, xFm_ik, xFm_ik_s, xCA_k, xCA_n, xCA_rk, xC_k, xC_i0, xC_i0_s, xC_i1, xC_i1_s, xC_i2, xC_i2_s, xC_i3, xC_i3_s, xW_k, xW_n, xW_ik, xW_ik_s, x1_k, x1_n, x1_ik, x1_ik_s, x2_k, x2_n, x2_ik, x2_ik_s, C_no20, C_no21, C_no22]
  rcases ht with rfl | rfl | rfl | rfl <;> rfl
theorem k_momentum {b t : Nat} {σ : Sg} (ht : t < 6) : f_X7_momentum b (nI t) (memC b σ) = some (memC b σ, .inl (if t = 0 then mo σ 80 else if t = 1 then σ.2 3 else if t = 2 then σ.2 4 else σ.2 (t - 3))) := by
  have ht : t = 0 ∨ t = 1 ∨ t = 2 ∨ t = 3 ∨ t = 4 ∨ t = 5 := by omega
  simp only [f_X7_momentum, e_momC, bd_s, gd, lt_, rd, bd, ↓reduceIte, eq_self, and_self, true_and, and_true, not_false_eq_true, vi_t, cl_6, cl_20, cl_21, cl_40, cl_64, cl_80, cl_1280, Nat.reduceLT, tn_0, true_or, or_true, ab_f, xB_k, xB_r0, xB_r1, xB_r3, xB_r5, xB_r8, xB_r9, xB_r10, xB_i2, xB_i2_s, xB_i4, xB_i4_s, xB_i6, xB_i6_s, xB_i7, xB_i7_s, xH_k, xH_r0, xH_r1, xH_r2, xH_i3, xH_i3_s, xH_i4, xH_i4_s, xH_i5, xH_i5_s, xH_i6, xH_i6_s, xP_k, xP_i0, xP_i0_s, xL_k, xL_i0, xL_i0_s, xL_i1, xL_i1_s, xL_i2, xL_i2_s, xL_i3, xL_i3_s, xL_i4, xL_i4_s, xL_i5, xL_i5_s, xL_i6, xL_i6_s, xL_i7, xL_i7_s, xL_l8, xL_l8_s, xL_l9, xL_l9_s, xL_l10, xL_l10_s, xL_l11, xL_l11_s, xL_l12, xL_l12_s, xA_k, xA_n, xA_rk, xG_k, xG_i0, xG_i0_s, xG_i1, xG_i1_s, xG_i2, xG_i2_s, xG_i3, xG_i3_s, xG_i4, xG_i4_s, xG_i5, xG_i5_s, xG_i6, xG_i6_s, xMA_k, xMA_n, xMA_rk, xM_k, xM_i0, xM_i0_s, xM_i1, xM_i1_s, xM_i2, xM_i2_s, xFA_k, xFA_n, xFA_rk, xF_k, xF_r0, xF_i1, xF_i1_s, xFm_k, xFm_n, xFm_ik, xFm_ik_s, xCA_k, xCA_n, xCA_rk, xC_k, xC_i0, xC_i0_s, xC_i1, xC_i1_s, xC_i2, xC_i2_s, xC_i3, xC_i3_s, xW_k, xW_n, xW_ik, xW_ik_s, x1_k, x1_n, x1_ik, x1_ik_s, x2_k, x2_n, x2_ik, x2_ik_s, C_no20, C_no21, C_no22]
  rcases ht with rfl | rfl | rfl | rfl | rfl | rfl <;> rfl
theorem k_byLanes {b nn : Nat} {σ : Sg} (g1 : InvG nn σ) : f_X7_momentumByLanes b (memC b σ) = some (memC b (tW σ 17 0 80), mo σ 80) := by
  have e := e_weigh g1 (rowW (b := b)) (by decide)
  have hg : ∀ k, k < 64 → (tW σ 17 0 80).1 17 k = lm σ (nI k) 80 := fun k hk => by
    have := tW_at (σ := σ) (C := 17) (o := 0) (m := 80) hk
    rw [Nat.zero_add] at this
    exact this
  rw [← sl_mo g1 80 (Nat.le_refl _), ← l_byLanes hg 200 0 (by omega) (by omega)]
  simp only [f_X7_momentumByLanes, e, bd_s, gd, rd, xB_k, xB_r0, xB_r8, xH_k, ↓reduceIte]
  rfl
theorem k_mass {b nn l : Nat} {σ : Sg} (g1 : InvG nn σ) (hl : l < 64) : f_X7_mass b (nI l) (memC b σ) = some (memC b (tW σ 17 0 80), .inl (lm σ (nI l) nn)) := by
  have h : OKr 0 (nI l) 63 := okr_num (n := 64) hl (by omega)
  have hv : lm σ (nI l) nn = (tW σ 17 0 80).1 17 l := by
    have := tW_at (σ := σ) (C := 17) (o := 0) (m := 80) hl
    rw [Nat.zero_add] at this
    rw [this, lm_end g1 80 g1.2.1 (Nat.le_refl _)]
  rw [hv]
  have e := e_weigh g1 (rowW (b := b)) (by decide)
  generalize tW σ 17 0 80 = τ at e
  simp only [f_X7_mass, rL_t h, bx_l, bd_s, e, gd, rd, xB_k, xB_r0, xB_r8, xH_k, xW_k, xW_n, vi_t hl, cl_64 hl, xW_ik hl, Nat.reduceLT, true_and, ↓reduceIte]
theorem k_grain {b nn : Nat} {σ : Sg} {p0 p1 p2 p3 : Int32} (g1 : InvG nn σ) (hn : nn < 80) (hl : OKr 0 p0 63) (ha : OKr 0 p1 35999) (hm : OKr 1 p2 10000) (h4 : OKr 0 p3 99) : f_X7_grain b p0 p1 p2 p3 (memC b σ) = some (memC b (tPut σ nn p0 p1 p2 p3), .inl (nI nn)) := by
  have g10 := g1.1
  have hlt : (nI nn < (80 : Int32)) = True := eq_true (nI_lt hn (by decide))
  simp only [f_X7_grain, rP_t hl ha hm, rR_t h4, bx_l, bd_s, gd, rd, xB_k, xB_r0, xH_k, xH_i3, g10, hlt, e_X3_put hn g10, ↓reduceIte]
theorem k_moon {b mm : Nat} {σ : Sg} {p0 p1 p2 : Int32} (g2 : InvM mm σ) (hn : mm < 6) (hl : OKr 0 p0 63) (ha : OKr 0 p1 35999) (hm : OKr 1 p2 10000) : f_X7_moon b p0 p1 p2 (memC b σ) = some (memC b (tMoon σ mm p0 p1 p2), .inl (nI mm)) := by
  have g10 := g2.1
  have hlt : (nI mm < (6 : Int32)) = True := eq_true (nI_lt hn (by decide))
  have ep : nI (mm + 1) - 1 = nI mm := nI_pred mm
  have e : memC b (tMoon σ mm p0 p1 p2) = memC b (sI (sI (sI (sI σ 7 mm p0) 8 mm p1) 9 mm (wd p2)) 10 1 (nI (mm + 1))) := memC_congr (fun c k h => by
    have h20 := h.1
    simp only [tMoon, sI_1, h20, false_and, if_false]) rfl
  rw [e]
  simp only [f_X7_moon, rP_t hl ha hm, e_X7_widthOf, bx_l, g10, hlt, hn, nI_1, ep, gd, lt_, rd, bd, ↓reduceIte, eq_self, and_self, true_and, and_true, not_false_eq_true, vi_t, cl_6, cl_20, cl_21, cl_40, cl_64, cl_80, cl_1280, Nat.reduceLT, tn_0, true_or, or_true, ab_f, xB_k, xB_r0, xB_r1, xB_r3, xB_r5, xB_r8, xB_r9, xB_r10, xB_i2, xB_i2_s, xB_i4, xB_i4_s, xB_i6, xB_i6_s, xB_i7, xB_i7_s, xH_k, xH_r0, xH_r1, xH_r2, xH_i3, xH_i3_s, xH_i4, xH_i4_s, xH_i5, xH_i5_s, xH_i6, xH_i6_s, xP_k, xP_i0, xP_i0_s, xL_k, xL_i0, xL_i0_s, xL_i1, xL_i1_s, xL_i2, xL_i2_s, xL_i3, xL_i3_s, xL_i4, xL_i4_s, xL_i5, xL_i5_s, xL_i6, xL_i6_s, xL_i7, xL_i7_s, xL_l8, xL_l8_s, xL_l9, xL_l9_s, xL_l10, xL_l10_s, xL_l11, xL_l11_s, xL_l12, xL_l12_s, xA_k, xA_n, xA_rk, xG_k, xG_i0, xG_i0_s, xG_i1, xG_i1_s, xG_i2, xG_i2_s, xG_i3, xG_i3_s, xG_i4, xG_i4_s, xG_i5, xG_i5_s, xG_i6, xG_i6_s, xMA_k, xMA_n, xMA_rk, xM_k, xM_i0, xM_i0_s, xM_i1, xM_i1_s, xM_i2, xM_i2_s, xFA_k, xFA_n, xFA_rk, xF_k, xF_r0, xF_i1, xF_i1_s, xFm_k, xFm_n, xFm_ik, xFm_ik_s, xCA_k, xCA_n, xCA_rk, xC_k, xC_i0, xC_i0_s, xC_i1, xC_i1_s, xC_i2, xC_i2_s, xC_i3, xC_i3_s, xW_k, xW_n, xW_ik, xW_ik_s, x1_k, x1_n, x1_ik, x1_ik_s, x2_k, x2_n, x2_ik, x2_ik_s, C_no20, C_no21, C_no22, sI_1, sI_2, sL_1, sL_2, false_and, and_false, Nat.reduceEqDiff, reduceCtorEq, ↓reduceIte, eq_self, and_self, true_and, and_true]
