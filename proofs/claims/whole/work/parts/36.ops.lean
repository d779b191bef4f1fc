/-! ===== PURE: bounds, now, tick, grain, moon, claim ===== -/
theorem op_now {b : Nat} : OpC (I2 b) (f_X7_now b) (f_X8_now (b + 177)) := by
  rintro M1 M2 ⟨σ, rfl, rfl, hI⟩
  refine ⟨memC b σ, memM (b + 177) (sI σ 21 0 0), σ.1 10 14, ?_, ?_, ⟨sI σ 21 0 0, C_no21.symm, rfl, hI.qs (Qs.sI (by omega))⟩⟩
  · simp only [f_X7_now, gd, lt_, rd, bd, ↓reduceIte, eq_self, and_self, true_and, and_true, not_false_eq_true, vi_t, cl_6, cl_20, cl_21, cl_40, cl_64, cl_80, cl_1280, Nat.reduceLT, tn_0, true_or, or_true, ab_f, xB_k, xB_r0, xB_r1, xB_r3, xB_r5, xB_r8, xB_r9, xB_r10, xB_i2, xB_i2_s, xB_i4, xB_i4_s, xB_i6, xB_i6_s, xB_i7, xB_i7_s, xH_k, xH_r0, xH_r1, xH_r2, xH_i3, xH_i3_s, xH_i4, xH_i4_s, xH_i5, xH_i5_s, xH_i6, xH_i6_s, xP_k, xP_i0, xP_i0_s, xL_k, xL_i0, xL_i0_s, xL_i1, xL_i1_s, xL_i2, xL_i2_s, xL_i3, xL_i3_s, xL_i4, xL_i4_s, xL_i5, xL_i5_s, xL_i6, xL_i6_s, xL_i7, xL_i7_s, xL_l8, xL_l8_s, xL_l9, xL_l9_s, xL_l10, xL_l10_s, xL_l11, xL_l11_s, xL_l12, xL_l12_s, xA_k, xA_n, xA_rk, xG_k, xG_i0, xG_i0_s, xG_i1, xG_i1_s, xG_i2, xG_i2_s, xG_i3, xG_i3_s, xG_i4, xG_i4_s, xG_i5, xG_i5_s, xG_i6, xG_i6_s, xMA_k, xMA_n, xMA_rk, xM_k, xM_i0, xM_i0_s, xM_i1, xM_i1_s, xM_i2, xM_i2_s, xFA_k, xFA_n, xFA_rk, xF_k, xF_r0, xF_i1, xF_i1_s, xFm_k, xFm_n, xFm_ik, xFm_ik_s, xCA_k, xCA_n, xCA_rk, xC_k, xC_i0, xC_i0_s, xC_i1, xC_i1_s, xC_i2, xC_i2_s, xC_i3, xC_i3_s, xW_k, xW_n, xW_ik, xW_ik_s, x1_k, x1_n, x1_ik, x1_ik_s, x2_k, x2_n, x2_ik, x2_ik_s, xO_k, xO_n, xO_lk, xO_lk_s, C_no20, C_no21, C_no22]
  · simp only [f_X8_now, gd, lt_, rd, bd, ↓reduceIte, eq_self, and_self, true_and, and_true, not_false_eq_true, vi_t, cl_6, cl_20, cl_21, cl_40, cl_64, cl_80, cl_1280, Nat.reduceLT, tn_0, true_or, or_true, ab_f, yB_k, yB_r7, yB_r8, yB_r9, yB_r10, yB_r11, yB_r12, yB_r13, yB_r15, yB_r16, yB_r17, yB_r30, yB_r31, yB_r33, yB_r34, yB_r35, yB_r36, yB_i0, yB_i0_s, yB_i1, yB_i1_s, yB_i2, yB_i2_s, yB_i3, yB_i3_s, yB_i4, yB_i4_s, yB_i5, yB_i5_s, yB_i6, yB_i6_s, yB_i14, yB_i14_s, yB_i18, yB_i18_s, yB_i19, yB_i19_s, yB_i20, yB_i20_s, yB_i21, yB_i21_s, yB_i22, yB_i22_s, yB_i23, yB_i23_s, yB_i24, yB_i24_s, yB_i25, yB_i25_s, yB_i29, yB_i29_s, yB_i32, yB_i32_s, yB_l26, yB_l26_s, yB_l27, yB_l27_s, yB_l28, yB_l28_s, yLa_k, yLa_n, yLa_ik, yLa_ik_s, yAn_k, yAn_n, yAn_ik, yAn_ik_s, yMa_k, yMa_n, yMa_ik, yMa_ik_s, yUn_k, yUn_n, yUn_ik, yUn_ik_s, yDa_k, yDa_n, yDa_ik, yDa_ik_s, yTh_k, yTh_n, yTh_ik, yTh_ik_s, yHm_k, yHm_n, yHm_ik, yHm_ik_s, yML_k, yML_n, yML_ik, yML_ik_s, yMn_k, yMn_n, yMn_ik, yMn_ik_s, yMm_k, yMm_n, yMm_ik, yMm_ik_s, yFr_k, yFr_n, yFr_ik, yFr_ik_s, yFt_k, yFt_n, yFt_ik, yFt_ik_s, yCf_k, yCf_n, yCf_ik, yCf_ik_s, yCo_k, yCo_n, yCo_ik, yCo_ik_s, yCt_k, yCt_n, yCt_ik, yCt_ik_s, yCm_k, yCm_n, yCm_ik, yCm_ik_s, M_no6, M_no9, M_no17, M_no18, M_no19, M_nl3, M_nl4, M_nl5, sI_1, sI_2, sL_1, sL_2, false_and, and_false, Nat.reduceEqDiff, reduceCtorEq, ↓reduceIte, eq_self, and_self, true_and, and_true]
theorem op_bounds {b : Nat} (p0 p1 p2 : Int32) : OpV (I2 b) (b + 177) (f_L_bounds b p0 p1 p2) (f_X8_bounds (b + 177) p0 p1 p2) := by
  rintro M1 M2 ⟨σ, rfl, rfl, hI⟩
  by_cases h : OKr 0 p0 1000 ∧ OKr p0 p1 5000 ∧ OKr 0 p2 100
  · obtain ⟨ha, hb, hc⟩ := h
    refine ⟨memC b (sI (sI (sI σ 10 3 p0) 10 4 p1) 10 5 p2), 0, memM (b + 177) (sI (sI (sI (sI σ 21 0 0) 10 3 p0) 10 4 p1) 10 5 p2), ?_, ?_, ?_, ⟨sI (sI (sI (sI σ 21 0 0) 10 3 p0) 10 4 p1) 10 5 p2, memC_congr (fun c k h => ?_) rfl, rfl, (((hI.qs (Qs.sI (by omega))).scal (by omega)).scal (by omega)).scal (by omega)⟩⟩
    · simp only [f_L_bounds, f_X7_bounds, rR_t ha, rR_t hb, rR_t hc, bx_l, bc, gd, lt_, rd, xB_k, xB_r0, xB_r1, xB_r3, xB_r5, xB_r8, xB_r9, xB_r10, xB_i2, xB_i2_s, xB_i4, xB_i4_s, xB_i6, xB_i6_s, xB_i7, xB_i7_s, xH_k, xH_r0, xH_r1, xH_r2, xH_i3, xH_i3_s, xH_i4, xH_i4_s, xH_i5, xH_i5_s, xH_i6, xH_i6_s, xP_k, xP_i0, xP_i0_s, xL_k, xL_i0, xL_i0_s, xL_i1, xL_i1_s, xL_i2, xL_i2_s, xL_i3, xL_i3_s, xL_i4, xL_i4_s, xL_i5, xL_i5_s, xL_i6, xL_i6_s, xL_i7, xL_i7_s, xL_l8, xL_l8_s, xL_l9, xL_l9_s, xL_l10, xL_l10_s, xL_l11, xL_l11_s, xL_l12, xL_l12_s, xA_k, xA_n, xA_rk, xG_k, xG_i0, xG_i0_s, xG_i1, xG_i1_s, xG_i2, xG_i2_s, xG_i3, xG_i3_s, xG_i4, xG_i4_s, xG_i5, xG_i5_s, xG_i6, xG_i6_s, xMA_k, xMA_n, xMA_rk, xM_k, xM_i0, xM_i0_s, xM_i1, xM_i1_s, xM_i2, xM_i2_s, xFA_k, xFA_n, xFA_rk, xF_k, xF_r0, xF_i1, xF_i1_s, xFm_k, xFm_n, xFm_ik, xFm_ik_s, xCA_k, xCA_n, xCA_rk, xC_k, xC_i0, xC_i0_s, xC_i1, xC_i1_s, xC_i2, xC_i2_s, xC_i3, xC_i3_s, xW_k, xW_n, xW_ik, xW_ik_s, x1_k, x1_n, x1_ik, x1_ik_s, x2_k, x2_n, x2_ik, x2_ik_s, xO_k, xO_n, xO_lk, xO_lk_s, C_no20, C_no21, C_no22, ↓reduceIte]
    · simp only [f_X8_bounds, f_X8_bounds_b38, f_X8_bounds_b63, iI_t ha, iI_t hb, iI_t hc, z_10, gd, lt_, rd, bd, ↓reduceIte, eq_self, and_self, true_and, and_true, not_false_eq_true, vi_t, cl_6, cl_20, cl_21, cl_40, cl_64, cl_80, cl_1280, Nat.reduceLT, tn_0, true_or, or_true, ab_f, yB_k, yB_r7, yB_r8, yB_r9, yB_r10, yB_r11, yB_r12, yB_r13, yB_r15, yB_r16, yB_r17, yB_r30, yB_r31, yB_r33, yB_r34, yB_r35, yB_r36, yB_i0, yB_i0_s, yB_i1, yB_i1_s, yB_i2, yB_i2_s, yB_i3, yB_i3_s, yB_i4, yB_i4_s, yB_i5, yB_i5_s, yB_i6, yB_i6_s, yB_i14, yB_i14_s, yB_i18, yB_i18_s, yB_i19, yB_i19_s, yB_i20, yB_i20_s, yB_i21, yB_i21_s, yB_i22, yB_i22_s, yB_i23, yB_i23_s, yB_i24, yB_i24_s, yB_i25, yB_i25_s, yB_i29, yB_i29_s, yB_i32, yB_i32_s, yB_l26, yB_l26_s, yB_l27, yB_l27_s, yB_l28, yB_l28_s, yLa_k, yLa_n, yLa_ik, yLa_ik_s, yAn_k, yAn_n, yAn_ik, yAn_ik_s, yMa_k, yMa_n, yMa_ik, yMa_ik_s, yUn_k, yUn_n, yUn_ik, yUn_ik_s, yDa_k, yDa_n, yDa_ik, yDa_ik_s, yTh_k, yTh_n, yTh_ik, yTh_ik_s, yHm_k, yHm_n, yHm_ik, yHm_ik_s, yML_k, yML_n, yML_ik, yML_ik_s, yMn_k, yMn_n, yMn_ik, yMn_ik_s, yMm_k, yMm_n, yMm_ik, yMm_ik_s, yFr_k, yFr_n, yFr_ik, yFr_ik_s, yFt_k, yFt_n, yFt_ik, yFt_ik_s, yCf_k, yCf_n, yCf_ik, yCf_ik_s, yCo_k, yCo_n, yCo_ik, yCo_ik_s, yCt_k, yCt_n, yCt_ik, yCt_ik_s, yCm_k, yCm_n, yCm_ik, yCm_ik_s, M_no6, M_no9, M_no17, M_no18, M_no19, M_nl3, M_nl4, M_nl5, sI_1, sI_2, sL_1, sL_2, false_and, and_false, Nat.reduceEqDiff, reduceCtorEq, ↓reduceIte, eq_self, and_self, true_and, and_true]
    · rw [e_thrown]; simp only [sI_1, sI_2, sL_1, sL_2, false_and, and_false, Nat.reduceEqDiff, reduceCtorEq, ↓reduceIte, eq_self, and_self, true_and, and_true]
    · have h21 := h.2.1
      simp only [sI_1, h21, false_and, if_false]
  · refine ⟨memC b σ, 1, memM (b + 177) (sI σ 21 0 1), ?_, ?_, ?_, ⟨sI σ 21 0 1, C_no21.symm, rfl, hI.qs (Qs.sI (by omega))⟩⟩
    · by_cases ha : OKr 0 p0 1000
      · by_cases hb : OKr p0 p1 5000
        · have hc : ¬ OKr 0 p2 100 := fun hc => h ⟨ha, hb, hc⟩
          simp only [f_L_bounds, f_X7_bounds, rR_t ha, rR_t hb, rR_f hc, bx_l, bx_r, bc, gd, xB_k, ↓reduceIte]
        · simp only [f_L_bounds, f_X7_bounds, rR_t ha, rR_f hb, bx_l, bx_r, bc, gd, xB_k, ↓reduceIte]
      · simp only [f_L_bounds, f_X7_bounds, rR_f ha, bx_l, bx_r, bc, gd, xB_k, ↓reduceIte]
    · by_cases ha : OKr 0 p0 1000
      · by_cases hb : OKr p0 p1 5000
        · have hc : ¬ OKr 0 p2 100 := fun hc => h ⟨ha, hb, hc⟩
          simp only [f_X8_bounds, f_X8_bounds_b37, f_X8_bounds_b38, f_X8_bounds_b63, iI_t ha, iI_t hb, iI_f hc, z_10, gd, lt_, rd, bd, ↓reduceIte, eq_self, and_self, true_and, and_true, not_false_eq_true, vi_t, cl_6, cl_20, cl_21, cl_40, cl_64, cl_80, cl_1280, Nat.reduceLT, tn_0, true_or, or_true, ab_f, yB_k, yB_r7, yB_r8, yB_r9, yB_r10, yB_r11, yB_r12, yB_r13, yB_r15, yB_r16, yB_r17, yB_r30, yB_r31, yB_r33, yB_r34, yB_r35, yB_r36, yB_i0, yB_i0_s, yB_i1, yB_i1_s, yB_i2, yB_i2_s, yB_i3, yB_i3_s, yB_i4, yB_i4_s, yB_i5, yB_i5_s, yB_i6, yB_i6_s, yB_i14, yB_i14_s, yB_i18, yB_i18_s, yB_i19, yB_i19_s, yB_i20, yB_i20_s, yB_i21, yB_i21_s, yB_i22, yB_i22_s, yB_i23, yB_i23_s, yB_i24, yB_i24_s, yB_i25, yB_i25_s, yB_i29, yB_i29_s, yB_i32, yB_i32_s, yB_l26, yB_l26_s, yB_l27, yB_l27_s, yB_l28, yB_l28_s, yLa_k, yLa_n, yLa_ik, yLa_ik_s, yAn_k, yAn_n, yAn_ik, yAn_ik_s, yMa_k, yMa_n, yMa_ik, yMa_ik_s, yUn_k, yUn_n, yUn_ik, yUn_ik_s, yDa_k, yDa_n, yDa_ik, yDa_ik_s, yTh_k, yTh_n, yTh_ik, yTh_ik_s, yHm_k, yHm_n, yHm_ik, yHm_ik_s, yML_k, yML_n, yML_ik, yML_ik_s, yMn_k, yMn_n, yMn_ik, yMn_ik_s, yMm_k, yMm_n, yMm_ik, yMm_ik_s, yFr_k, yFr_n, yFr_ik, yFr_ik_s, yFt_k, yFt_n, yFt_ik, yFt_ik_s, yCf_k, yCf_n, yCf_ik, yCf_ik_s, yCo_k, yCo_n, yCo_ik, yCo_ik_s, yCt_k, yCt_n, yCt_ik, yCt_ik_s, yCm_k, yCm_n, yCm_ik, yCm_ik_s, M_no6, M_no9, M_no17, M_no18, M_no19, M_nl3, M_nl4, M_nl5, sI_1, sI_2, sL_1, sL_2, false_and, and_false, Nat.reduceEqDiff, reduceCtorEq, ↓reduceIte, eq_self, and_self, true_and, and_true]
        · simp only [f_X8_bounds, f_X8_bounds_b37, f_X8_bounds_b38, f_X8_bounds_b63, iI_t ha, iI_f hb, z_10, gd, lt_, rd, bd, ↓reduceIte, eq_self, and_self, true_and, and_true, not_false_eq_true, vi_t, cl_6, cl_20, cl_21, cl_40, cl_64, cl_80, cl_1280, Nat.reduceLT, tn_0, true_or, or_true, ab_f, yB_k, yB_r7, yB_r8, yB_r9, yB_r10, yB_r11, yB_r12, yB_r13, yB_r15, yB_r16, yB_r17, yB_r30, yB_r31, yB_r33, yB_r34, yB_r35, yB_r36, yB_i0, yB_i0_s, yB_i1, yB_i1_s, yB_i2, yB_i2_s, yB_i3, yB_i3_s, yB_i4, yB_i4_s, yB_i5, yB_i5_s, yB_i6, yB_i6_s, yB_i14, yB_i14_s, yB_i18, yB_i18_s, yB_i19, yB_i19_s, yB_i20, yB_i20_s, yB_i21, yB_i21_s, yB_i22, yB_i22_s, yB_i23, yB_i23_s, yB_i24, yB_i24_s, yB_i25, yB_i25_s, yB_i29, yB_i29_s, yB_i32, yB_i32_s, yB_l26, yB_l26_s, yB_l27, yB_l27_s, yB_l28, yB_l28_s, yLa_k, yLa_n, yLa_ik, yLa_ik_s, yAn_k, yAn_n, yAn_ik, yAn_ik_s, yMa_k, yMa_n, yMa_ik, yMa_ik_s, yUn_k, yUn_n, yUn_ik, yUn_ik_s, yDa_k, yDa_n, yDa_ik, yDa_ik_s, yTh_k, yTh_n, yTh_ik, yTh_ik_s, yHm_k, yHm_n, yHm_ik, yHm_ik_s, yML_k, yML_n, yML_ik, yML_ik_s, yMn_k, yMn_n, yMn_ik, yMn_ik_s, yMm_k, yMm_n, yMm_ik, yMm_ik_s, yFr_k, yFr_n, yFr_ik, yFr_ik_s, yFt_k, yFt_n, yFt_ik, yFt_ik_s, yCf_k, yCf_n, yCf_ik, yCf_ik_s, yCo_k, yCo_n, yCo_ik, yCo_ik_s, yCt_k, yCt_n, yCt_ik, yCt_ik_s, yCm_k, yCm_n, yCm_ik, yCm_ik_s, M_no6, M_no9, M_no17, M_no18, M_no19, M_nl3, M_nl4, M_nl5, sI_1, sI_2, sL_1, sL_2, false_and, and_false, Nat.reduceEqDiff, reduceCtorEq, ↓reduceIte, eq_self, and_self, true_and, and_true]
      · simp only [f_X8_bounds, f_X8_bounds_b37, f_X8_bounds_b38, f_X8_bounds_b63, iI_f ha, z_10, gd, lt_, rd, bd, ↓reduceIte, eq_self, and_self, true_and, and_true, not_false_eq_true, vi_t, cl_6, cl_20, cl_21, cl_40, cl_64, cl_80, cl_1280, Nat.reduceLT, tn_0, true_or, or_true, ab_f, yB_k, yB_r7, yB_r8, yB_r9, yB_r10, yB_r11, yB_r12, yB_r13, yB_r15, yB_r16, yB_r17, yB_r30, yB_r31, yB_r33, yB_r34, yB_r35, yB_r36, yB_i0, yB_i0_s, yB_i1, yB_i1_s, yB_i2, yB_i2_s, yB_i3, yB_i3_s, yB_i4, yB_i4_s, yB_i5, yB_i5_s, yB_i6, yB_i6_s, yB_i14, yB_i14_s, yB_i18, yB_i18_s, yB_i19, yB_i19_s, yB_i20, yB_i20_s, yB_i21, yB_i21_s, yB_i22, yB_i22_s, yB_i23, yB_i23_s, yB_i24, yB_i24_s, yB_i25, yB_i25_s, yB_i29, yB_i29_s, yB_i32, yB_i32_s, yB_l26, yB_l26_s, yB_l27, yB_l27_s, yB_l28, yB_l28_s, yLa_k, yLa_n, yLa_ik, yLa_ik_s, yAn_k, yAn_n, yAn_ik, yAn_ik_s, yMa_k, yMa_n, yMa_ik, yMa_ik_s, yUn_k, yUn_n, yUn_ik, yUn_ik_s, yDa_k, yDa_n, yDa_ik, yDa_ik_s, yTh_k, yTh_n, yTh_ik, yTh_ik_s, yHm_k, yHm_n, yHm_ik, yHm_ik_s, yML_k, yML_n, yML_ik, yML_ik_s, yMn_k, yMn_n, yMn_ik, yMn_ik_s, yMm_k, yMm_n, yMm_ik, yMm_ik_s, yFr_k, yFr_n, yFr_ik, yFr_ik_s, yFt_k, yFt_n, yFt_ik, yFt_ik_s, yCf_k, yCf_n, yCf_ik, yCf_ik_s, yCo_k, yCo_n, yCo_ik, yCo_ik_s, yCt_k, yCt_n, yCt_ik, yCt_ik_s, yCm_k, yCm_n, yCm_ik, yCm_ik_s, M_no6, M_no9, M_no17, M_no18, M_no19, M_nl3, M_nl4, M_nl5, sI_1, sI_2, sL_1, sL_2, false_and, and_false, Nat.reduceEqDiff, reduceCtorEq, ↓reduceIte, eq_self, and_self, true_and, and_true]
    · rw [e_thrown]; simp only [sI_1, sI_2, sL_1, sL_2, false_and, and_false, Nat.reduceEqDiff, reduceCtorEq, ↓reduceIte, eq_self, and_self, true_and, and_true]
/-! tick -/
def gm (σ : Sg) : Nat := (σ.1 10 1).toNatClampNeg
theorem gm_eq {mm : Nat} {σ : Sg} (h : InvM mm σ) : gm σ = mm := by
  show (σ.1 10 1).toNatClampNeg = mm
  rw [h.1]
  exact nI_clamp (by have := h.2.1; omega)
def tP (σ : Sg) : Sg := tPass σ (gn σ) (gm σ)
def tTick (σ : Sg) : Nat → Sg
  | 0 => σ
  | k + 1 => tP (tTick σ k)
theorem Inv.p {σ : Sg} (h : Inv σ) : Inv (tP σ) := by
  obtain ⟨nn, mm, ff, cc, h1, h2, h3, h4⟩ := h
  obtain ⟨n2, g⟩ := h1.pass (mm := gm σ)
  unfold tP
  rw [gn_eq h1]
  exact ⟨n2, mm, ff, cc, g, h2.sk Sk.pass, h3.sk Sk.pass, h4.pass h1⟩
theorem Inv.tick {σ : Sg} (h : Inv σ) : ∀ k, Inv (tTick σ k) := by
  intro k
  induction k with
  | zero => exact h
  | succ k ih => exact ih.p
theorem Sk.tick {σ : Sg} : ∀ k, Sk σ (tTick σ k) := by
  intro k
  induction k with
  | zero => exact Sk.rfl' σ
  | succ k ih => exact ih.trans Sk.pass
theorem s_passC {b : Nat} {σ : Sg} (h : Inv σ) : f_X7_passTick b (memC b σ) = some (memC b (tP σ)) := by
  obtain ⟨nn, mm, ff, cc, h1, h2, -⟩ := h
  unfold tP
  rw [gn_eq h1, gm_eq h2]
  exact e_X7_passTick h1 h2
theorem s_passM {b : Nat} {σ : Sg} (h : Inv σ) : f_X8_goOn b (memM b σ) = some (memM b (tP σ)) := by
  obtain ⟨nn, mm, ff, cc, h1, h2, -⟩ := h
  unfold tP
  rw [gn_eq h1, gm_eq h2]
  exact e_X8_goOn h1 h2
theorem l_tickC {b t : Nat} {σ : Sg} (h : Inv σ) (ht : t ≤ 50) : ∀ f i, i ≤ t → t < i + f → f_X7_tick_L31 f b (nI t) (nI i) (memC b (tTick σ i)) = some (memC b (tTick σ t), .inl ((tTick σ t).1 10 14)) := by
  intro f
  induction f with
  | zero => intro i h1 h2; omega
  | succ f ih =>
    intro i h1 h2
    show f_X7_tick_b31 (f_X7_tick_L31 f) b (nI t) (nI i) _ = _
    rcases Nat.lt_or_ge i t with hi | hi
    · have hle := nle_t hi (by omega)
      simp only [f_X7_tick_b31, hle, s_passC (h.tick i), nI_1, bd_s, gd, lt_, xB_k, ↓reduceIte]
      exact ih (i + 1) (by omega) (by omega)
    · obtain rfl : i = t := (by omega)
      simp only [f_X7_tick_b31, Int32.le_refl, gd, xB_k, xB_i7, ↓reduceIte]
theorem l_tickM {b t : Nat} {σ : Sg} (h : Inv σ) (ht : t ≤ 50) : ∀ f i, i ≤ t → t < i + f → f_X8_tick_L46 f b (nI t) (nI i) (memM b (tTick σ i)) = some (memM b (tTick σ t), (tTick σ t).1 10 14) := by
  intro f
  induction f with
  | zero => intro i h1 h2; omega
  | succ f ih =>
    intro i h1 h2
    show f_X8_tick_b46 (f_X8_tick_L46 f) b (nI t) (nI i) _ = _
    rcases Nat.lt_or_ge i t with hi | hi
    · have hle := nle_t hi (by omega)
      simp only [f_X8_tick_b46, hle, s_passM (h.tick i), nI_1, bd_s, gd, lt_, yB_k, ↓reduceIte]
      exact ih (i + 1) (by omega) (by omega)
    · obtain rfl : i = t := (by omega)
      simp only [f_X8_tick_b46, Int32.le_refl, gd, yB_k, yB_i1, ↓reduceIte]
theorem num_50 {v : Int32} (h : OKr 1 v 50) : ∃ t, t ≤ 50 ∧ v = nI t := by
  obtain ⟨h1, h2⟩ := h
  rw [Int32.lt_iff_toInt_lt] at h1
  rw [Int32.le_iff_toInt_le] at h2
  have e0 : (1 : Int32).toInt = 1 := rfl
  have e5 : (50 : Int32).toInt = 50 := rfl
  refine ⟨v.toInt.toNat, by omega, ?_⟩
  apply Int32.toInt_inj.mp
  rw [(nIt _ (by omega)).1]
  omega
theorem op_tick {b : Nat} (p0 : Int32) : OpI (I2 b) (xO b) (b + 177) (f_L_tick b p0 (xO b)) (f_X8_tick (b + 177) p0) := by
  refine OpI_mk (E := _) (g := f_X7_tick b p0) (fun σ hI => ?_)
  by_cases h : OKr 1 p0 50
  · by_cases h2 : σ.1 10 14 + p0 ≤ 2000
    · obtain ⟨t, ht, rfl⟩ := num_50 h
      have h0 : Inv (sI σ 21 0 0) := hI.qs (Qs.sI (by omega))
      have c14 : (sI σ 21 0 0).1 10 14 = σ.1 10 14 := c21 (by decide)
      refine Or.inl ⟨tTick (sI σ 21 0 0) t, (tTick (sI σ 21 0 0) t).1 10 14, ?_, ?_, h0.tick t, ?_⟩
      · rw [← l_tickC h0 ht 200 0 (by omega) (by omega)]
        simp only [f_X7_tick, rR_t h, bx_l, gd, xB_k, xB_i7, c14, h2, ↓reduceIte, tTick]
        rfl
      · rw [← l_tickM h0 ht 200 0 (by omega) (by omega)]
        simp only [f_X8_tick, f_X8_tick_b32, iI_t h, bd_s, gd, lt_, yB_k, yB_i0, yB_i0_s, yB_i1, z_10, z_le0, h2, ↓reduceIte, tTick, sI_1, sI_2, sL_1, sL_2, false_and, and_false, Nat.reduceEqDiff, reduceCtorEq, ↓reduceIte, eq_self, and_self, true_and, and_true]
        rfl
      · rw [(Sk.tick (σ := sI σ 21 0 0) t).1 21 0 (by omega)]
        simp only [sI_1, sI_2, sL_1, sL_2, false_and, and_false, Nat.reduceEqDiff, reduceCtorEq, ↓reduceIte, eq_self, and_self, true_and, and_true]
    · refine Or.inr ⟨2, 1, sI σ 21 0 2, 0, fun _ => rfl, by decide, ?_, ?_, hI.qs (Qs.sI (by omega)), by simp only [sI_1, sI_2, sL_1, sL_2, false_and, and_false, Nat.reduceEqDiff, reduceCtorEq, ↓reduceIte, eq_self, and_self, true_and, and_true]⟩
      · rw [C_no21]
        simp only [f_X7_tick, rR_t h, bx_l, gd, xB_k, xB_i7, h2, ↓reduceIte]
      · simp only [f_X8_tick, f_X8_tick_b32, iI_t h, bd_s, gd, lt_, yB_k, yB_i0, yB_i0_s, yB_i1, z_10, z_le2, h2, ↓reduceIte, sI_1, sI_2, sL_1, sL_2, false_and, and_false, Nat.reduceEqDiff, reduceCtorEq, ↓reduceIte, eq_self, and_self, true_and, and_true]
  · refine Or.inr ⟨1, 0, sI σ 21 0 1, 0, fun _ => rfl, by decide, ?_, ?_, hI.qs (Qs.sI (by omega)), by simp only [sI_1, sI_2, sL_1, sL_2, false_and, and_false, Nat.reduceEqDiff, reduceCtorEq, ↓reduceIte, eq_self, and_self, true_and, and_true]⟩
    · rw [C_no21]
      simp only [f_X7_tick, rR_f h, bx_r]
    · simp only [f_X8_tick, f_X8_tick_b32, iI_f h, bd_s, gd, lt_, yB_k, yB_i0, yB_i0_s, yB_i1, z_10, z_le1, ↓reduceIte, sI_1, sI_2, sL_1, sL_2, false_and, and_false, Nat.reduceEqDiff, reduceCtorEq, ↓reduceIte, eq_self, and_self, true_and, and_true]
