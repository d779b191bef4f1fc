/-! ===== PURE: the law asks of the moons, of all sums, of a lane ===== -/
theorem low_64 {v : Int32} {M : Mem} : f_L_low v (64 : Int32) M = some (M, nI (lw v 64)) := e_L_low (n := 64) (by omega) (by omega)
theorem tW_G {nn C o m : Nat} {σ : Sg} (h : InvG nn σ) (hC : C = 17) : InvG nn (tW σ C o m) := by subst hC; exact h.qs Qs.tw
section M11
variable {b d nn mm nc ns L : Nat} {xs : Nat → Int32} {σ : Sg} {M : Mem} {a1 a2 a3 : Int64} {n18 w19 w20 w21 w22 w24 : Int32}
theorem s_1787 {j : Nat} {z1 : Int64} {z2 z3 : Int32} {k281 : _} {k1787 : _} (hb : nc + 1 ≤ 600104 ∧ ns + 6 ≤ 7301314) (hM : InvM mm σ) (hm : mm ≤ 5) (hj : j < mm) :
    f_L_law_b1787 L xs k281 k1787 b (yLa d) (yAn d) (yMa d) (yUn d) (yDa d) (yTh d) (yHm d) (yC d) (yM d) a1 a2 a3 (nI nn) (nI mm) w19 w20 w21 w22 w24 z1 z2 z3 (nI j) (memC b σ) (memM d σ) nc ns = k1787 b (yLa d) (yAn d) (yMa d) (yUn d) (yDa d) (yTh d) (yHm d) (yC d) (yM d) a1 a2 a3 (nI nn) (nI mm) w19 w20 w21 w22 w24 z1 z2 z3 (nI (j + 1)) (memC b σ) (memM d σ) (nc + 1) (ns + 6) := by
  have hle := nle_t hj (by omega)
  have hj5 : j < 5 := by omega
  have h31 : 3 * j + 1 < 16 := by omega
  have ka := k_angle (b := b) hM hj
  simp only [f_L_law_b1787, hle, hj5, h31, hb, ka, m3, xB_k, gk_1, bn_l, nI_1, yM_k, yM_n, yM_m1, cl_16, gd, lt_, rd, bd, ↓reduceIte, eq_self, and_self, true_and, and_true, not_false_eq_true, vi_t, cl_6, cl_20, cl_21, cl_40, cl_64, cl_80, cl_1280, Nat.reduceLT, tn_0, true_or, or_true, ab_f, yLa_k, yLa_n, yLa_ik, yLa_ik_s, yAn_k, yAn_n, yAn_ik, yAn_ik_s, yMa_k, yMa_n, yMa_ik, yMa_ik_s, yUn_k, yUn_n, yUn_ik, yUn_ik_s, yDa_k, yDa_n, yDa_ik, yDa_ik_s, yTh_k, yTh_n, yTh_ik, yTh_ik_s, yHm_k, yHm_n, yHm_ik, yHm_ik_s, yC_k, yC_n, yC_i1, yC_i1_s, yC_i2, yC_i2_s, yC_i3, yC_i3_s, yC_i4, yC_i4_s, yC_i5, yC_i5_s, yC_i6, yC_i6_s, yC_i7, yC_i7_s, yC_i8, yC_i8_s, yC_i9, yC_i9_s, yM_k, yM_n, yM_m0, yM_m0_s, yM_m1, yM_m1_s, yM_m2, yM_m2_s, M_no11, M_no12, M_no13, M_no14, M_no15, M_no16, M_no17, M_no18, M_no19, M_no20, M_no21, M_no22, M_nl0, M_nl1, M_nl2, M_nl3, M_nl4, M_nl5]
theorem x_1787 {k281 : _} {k1787 : _} (hb : nc + 18 ≤ 600104 ∧ ns + 108 ≤ 7301314) (hG : InvG nn σ) (hC : Cm σ) :
    f_L_law_b1787 L xs k281 k1787 b (yLa d) (yAn d) (yMa d) (yUn d) (yDa d) (yTh d) (yHm d) (yC d) (yM d) (σ.2 1) (σ.2 2) (σ.2 0) (nI nn) (nI mm) w19 w20 w21 w22 w24 (mo σ nn) (su σ nn) (cn σ nn) (nI mm) (memC b σ) (memM d σ) nc ns = f_L_law_L2038 L xs k281 200 b (yLa d) (yAn d) (yMa d) (yUn d) (yDa d) (yTh d) (yHm d) (yC d) (yM d) (σ.2 1) (σ.2 2) (σ.2 0) (nI nn) (nI mm) w19 w20 w21 w22 (nI (lw (w24 >>> ((7 : Int32) &&& 31)) 64)) (0 : Int32) (0 : Int32) (memC b (tW σ 17 0 80)) (memM d σ) (nc + 18) (ns + 108) := by
  have hg : nc + 1 ≤ 600104 ∧ nc + 1 + 1 ≤ 600104 ∧ nc + 1 + 1 + 1 ≤ 600104 ∧ nc + 1 + 1 + 1 + 1 ≤ 600104 ∧ nc + 1 + 1 + 1 + 1 + 1 ≤ 600104 ∧ nc + 1 + 1 + 1 + 1 + 1 + 1 ≤ 600104 ∧ nc + 1 + 1 + 1 + 1 + 1 + 1 + 1 ≤ 600104 ∧ nc + 1 + 1 + 1 + 1 + 1 + 1 + 1 + 1 ≤ 600104 ∧ nc + 1 + 1 + 1 + 1 + 1 + 1 + 1 + 1 + 1 ≤ 600104 ∧ nc + 1 + 1 + 1 + 1 + 1 + 1 + 1 + 1 + 1 + 1 ≤ 600104 ∧ nc + 1 + 1 + 1 + 1 + 1 + 1 + 1 + 1 + 1 + 1 + 1 ≤ 600104 ∧ nc + 1 + 1 + 1 + 1 + 1 + 1 + 1 + 1 + 1 + 1 + 1 + 1 ≤ 600104 ∧ nc + 1 + 1 + 1 + 1 + 1 + 1 + 1 + 1 + 1 + 1 + 1 + 1 + 1 ≤ 600104 ∧ nc + 1 + 1 + 1 + 1 + 1 + 1 + 1 + 1 + 1 + 1 + 1 + 1 + 1 + 1 ≤ 600104 ∧ nc + 1 + 1 + 1 + 1 + 1 + 1 + 1 + 1 + 1 + 1 + 1 + 1 + 1 + 1 + 1 ≤ 600104 ∧ nc + 1 + 1 + 1 + 1 + 1 + 1 + 1 + 1 + 1 + 1 + 1 + 1 + 1 + 1 + 1 + 1 ≤ 600104 ∧ nc + 1 + 1 + 1 + 1 + 1 + 1 + 1 + 1 + 1 + 1 + 1 + 1 + 1 + 1 + 1 + 1 + 1 ≤ 600104 ∧ nc + 1 + 1 + 1 + 1 + 1 + 1 + 1 + 1 + 1 + 1 + 1 + 1 + 1 + 1 + 1 + 1 + 1 + 1 ≤ 600104 ∧ nc + 1 + 1 + 1 + 1 + 1 + 1 + 1 + 1 + 1 + 1 + 1 + 1 + 1 + 0 ≤ 600104 := by omega
  have hg2 : ns + 6 ≤ 7301314 ∧ ns + 6 + 6 ≤ 7301314 ∧ ns + 6 + 6 + 6 ≤ 7301314 ∧ ns + 6 + 6 + 6 + 6 ≤ 7301314 ∧ ns + 6 + 6 + 6 + 6 + 6 ≤ 7301314 ∧ ns + 6 + 6 + 6 + 6 + 6 + 6 ≤ 7301314 ∧ ns + 6 + 6 + 6 + 6 + 6 + 6 + 6 ≤ 7301314 ∧ ns + 6 + 6 + 6 + 6 + 6 + 6 + 6 + 6 ≤ 7301314 ∧ ns + 6 + 6 + 6 + 6 + 6 + 6 + 6 + 6 + 6 ≤ 7301314 ∧ ns + 6 + 6 + 6 + 6 + 6 + 6 + 6 + 6 + 6 + 6 ≤ 7301314 ∧ ns + 6 + 6 + 6 + 6 + 6 + 6 + 6 + 6 + 6 + 6 + 6 ≤ 7301314 ∧ ns + 6 + 6 + 6 + 6 + 6 + 6 + 6 + 6 + 6 + 6 + 6 + 6 ≤ 7301314 ∧ ns + 6 + 6 + 6 + 6 + 6 + 6 + 6 + 6 + 6 + 6 + 6 + 6 + 6 ≤ 7301314 ∧ ns + 6 + 6 + 6 + 6 + 6 + 6 + 6 + 6 + 6 + 6 + 6 + 6 + 6 + 6 ≤ 7301314 ∧ ns + 6 + 6 + 6 + 6 + 6 + 6 + 6 + 6 + 6 + 6 + 6 + 6 + 6 + 6 + 6 ≤ 7301314 ∧ ns + 6 + 6 + 6 + 6 + 6 + 6 + 6 + 6 + 6 + 6 + 6 + 6 + 6 + 6 + 6 + 6 ≤ 7301314 ∧ ns + 6 + 6 + 6 + 6 + 6 + 6 + 6 + 6 + 6 + 6 + 6 + 6 + 6 + 6 + 6 + 6 + 6 ≤ 7301314 ∧ ns + 6 + 6 + 6 + 6 + 6 + 6 + 6 + 6 + 6 + 6 + 6 + 6 + 6 + 6 + 6 + 6 + 6 + 6 ≤ 7301314 ∧ ns + 6 + 6 + 6 + 6 + 6 + 6 + 6 + 6 + 6 + 6 + 6 + 6 + 6 + 0 ≤ 7301314 := by omega
  have q1 : nc + 1 + 1 + 1 + 1 + 1 + 1 + 1 + 1 + 1 + 1 + 1 + 1 + 1 + 1 + 1 + 1 + 1 + 1 = nc + 18 := by omega
  have q2 : ns + 6 + 6 + 6 + 6 + 6 + 6 + 6 + 6 + 6 + 6 + 6 + 6 + 6 + 6 + 6 + 6 + 6 + 6 = ns + 108 := by omega
  have e0 := hG.1
  have es := su_all hG
  have eC : σ.2 0 + σ.2 1 - σ.2 2 = mo σ 80 + σ.2 3 + σ.2 4 := hC
  have kb := k_byLanes (b := b) hG
  rw [← mo_end hG, ← su_end hG, ← cn_end hG]
  simp only [f_L_law_b1787, Int32.le_refl, hg, hg2, q1, q2, e0, es, eC, kb, kc0, kc1, kc2, kc3, kc4, kc5, kc6, ks0, ks1, ks2, ks3, kq0, kq1, kq2, kq3, kq4, kq5, lg_0, tW_2, low_64, xB_k, gk_1, gk_C, bn_l, bd_s, cs_1, cv_1, cs_2, cv_2, cs_3, cv_3, cs_4, cv_4, cs_5, cv_5, cs_6, cv_6, cs_7, cv_7, cs_8, cv_8, cs_9, cv_9, yC_k, yC_n, yC_i1, yC_i2, yC_i3, yC_i4, yC_i5, gd, lt_, ↓reduceIte, eq_self, and_self, true_and, and_true, not_false_eq_true]
theorem l_1787 {k281 : _} (hb : nc + 30 ≤ 600104 ∧ ns + 180 ≤ 7301314) (hG : InvG nn σ) (hC : Cm σ) (hM : InvM mm σ) (hm : mm ≤ 5) : ∀ f j, j ≤ mm → mm < j + f →
    f_L_law_L1787 L xs k281 f b (yLa d) (yAn d) (yMa d) (yUn d) (yDa d) (yTh d) (yHm d) (yC d) (yM d) (σ.2 1) (σ.2 2) (σ.2 0) (nI nn) (nI mm) w19 w20 w21 w22 w24 (mo σ nn) (su σ nn) (cn σ nn) (nI j) (memC b σ) (memM d σ) (nc + j) (ns + 6 * j) = f_L_law_L2038 L xs k281 200 b (yLa d) (yAn d) (yMa d) (yUn d) (yDa d) (yTh d) (yHm d) (yC d) (yM d) (σ.2 1) (σ.2 2) (σ.2 0) (nI nn) (nI mm) w19 w20 w21 w22 (nI (lw (w24 >>> ((7 : Int32) &&& 31)) 64)) (0 : Int32) (0 : Int32) (memC b (tW σ 17 0 80)) (memM d σ) (nc + mm + 18) (ns + 6 * mm + 108) := by
  intro f
  induction f with
  | zero => intro i h1 h2; omega
  | succ f ih =>
    intro j h1 h2
    show f_L_law_b1787 L xs k281 (f_L_law_L1787 L xs k281 f) _ _ _ _ _ _ _ _ _ _ _ _ _ _ _ _ _ _ _ _ _ _ _ (nI j) _ _ _ _ = _
    rcases Nat.lt_or_ge j mm with hj | hj
    · rw [s_1787 (by omega) hM hm hj, show nc + j + 1 = nc + (j + 1) by omega, show ns + 6 * j + 6 = ns + 6 * (j + 1) by omega]
      exact ih (j + 1) (by omega) (by omega)
    · obtain rfl : j = mm := by omega
      exact x_1787 (by omega) hG hC
/-! the mass of a lane -/
theorem s_2038 {i : Nat} {x : Int32} {k281 : _} {k2038 : _} (hG : InvG nn σ) (hnn : nn < 64) (hi : i < nn) :
    f_L_law_b2038 L xs k281 k2038 b (yLa d) (yAn d) (yMa d) (yUn d) (yDa d) (yTh d) (yHm d) (yC d) (yM d) a1 a2 a3 (nI nn) n18 w19 w20 w21 w22 x (lm σ x i) (nI i) M (memM d σ) nc ns = k2038 b (yLa d) (yAn d) (yMa d) (yUn d) (yDa d) (yTh d) (yHm d) (yC d) (yM d) a1 a2 a3 (nI nn) n18 w19 w20 w21 w22 x (lm σ x (i + 1)) (nI (i + 1)) M (memM d σ) nc ns := by
  have hle := nle_t hi (by omega)
  have hi6 : i < 64 := by omega
  rcases hG.okG i (by omega) with h5 | ⟨h5, -⟩
  · have e : lm σ x (i + 1) = lm σ x i := if_neg (fun q => q.1 h5)
    rw [e]
    simp only [f_L_law_b2038, f_L_law_b2073, hle, hi6, h5, z01, nI_1, gd, lt_, rd, bd, ↓reduceIte, eq_self, and_self, true_and, and_true, not_false_eq_true, vi_t, cl_6, cl_20, cl_21, cl_40, cl_64, cl_80, cl_1280, Nat.reduceLT, tn_0, true_or, or_true, ab_f, yLa_k, yLa_n, yLa_ik, yLa_ik_s, yAn_k, yAn_n, yAn_ik, yAn_ik_s, yMa_k, yMa_n, yMa_ik, yMa_ik_s, yUn_k, yUn_n, yUn_ik, yUn_ik_s, yDa_k, yDa_n, yDa_ik, yDa_ik_s, yTh_k, yTh_n, yTh_ik, yTh_ik_s, yHm_k, yHm_n, yHm_ik, yHm_ik_s, yC_k, yC_n, yC_i1, yC_i1_s, yC_i2, yC_i2_s, yC_i3, yC_i3_s, yC_i4, yC_i4_s, yC_i5, yC_i5_s, yC_i6, yC_i6_s, yC_i7, yC_i7_s, yC_i8, yC_i8_s, yC_i9, yC_i9_s, yM_k, yM_n, yM_m0, yM_m0_s, yM_m1, yM_m1_s, yM_m2, yM_m2_s, M_no11, M_no12, M_no13, M_no14, M_no15, M_no16, M_no17, M_no18, M_no19, M_no20, M_no21, M_no22, M_nl0, M_nl1, M_nl2, M_nl3, M_nl4, M_nl5]
  · have z1 : ¬ σ.1 5 i = 0 := by rw [h5]; decide
    by_cases h0 : σ.1 0 i = x
    · have e : lm σ x (i + 1) = lm σ x i + σ.1 2 i := if_pos ⟨z1, h0⟩
      rw [e]
      simp only [f_L_law_b2038, f_L_law_b2073, hle, hi6, h5, h0, nI_1, gd, lt_, rd, bd, ↓reduceIte, eq_self, and_self, true_and, and_true, not_false_eq_true, vi_t, cl_6, cl_20, cl_21, cl_40, cl_64, cl_80, cl_1280, Nat.reduceLT, tn_0, true_or, or_true, ab_f, yLa_k, yLa_n, yLa_ik, yLa_ik_s, yAn_k, yAn_n, yAn_ik, yAn_ik_s, yMa_k, yMa_n, yMa_ik, yMa_ik_s, yUn_k, yUn_n, yUn_ik, yUn_ik_s, yDa_k, yDa_n, yDa_ik, yDa_ik_s, yTh_k, yTh_n, yTh_ik, yTh_ik_s, yHm_k, yHm_n, yHm_ik, yHm_ik_s, yC_k, yC_n, yC_i1, yC_i1_s, yC_i2, yC_i2_s, yC_i3, yC_i3_s, yC_i4, yC_i4_s, yC_i5, yC_i5_s, yC_i6, yC_i6_s, yC_i7, yC_i7_s, yC_i8, yC_i8_s, yC_i9, yC_i9_s, yM_k, yM_n, yM_m0, yM_m0_s, yM_m1, yM_m1_s, yM_m2, yM_m2_s, M_no11, M_no12, M_no13, M_no14, M_no15, M_no16, M_no17, M_no18, M_no19, M_no20, M_no21, M_no22, M_nl0, M_nl1, M_nl2, M_nl3, M_nl4, M_nl5]
    · have e : lm σ x (i + 1) = lm σ x i := if_neg (fun q => h0 q.2)
      rw [e]
      simp only [f_L_law_b2038, f_L_law_b2073, hle, hi6, h5, h0, nI_1, gd, lt_, rd, bd, ↓reduceIte, eq_self, and_self, true_and, and_true, not_false_eq_true, vi_t, cl_6, cl_20, cl_21, cl_40, cl_64, cl_80, cl_1280, Nat.reduceLT, tn_0, true_or, or_true, ab_f, yLa_k, yLa_n, yLa_ik, yLa_ik_s, yAn_k, yAn_n, yAn_ik, yAn_ik_s, yMa_k, yMa_n, yMa_ik, yMa_ik_s, yUn_k, yUn_n, yUn_ik, yUn_ik_s, yDa_k, yDa_n, yDa_ik, yDa_ik_s, yTh_k, yTh_n, yTh_ik, yTh_ik_s, yHm_k, yHm_n, yHm_ik, yHm_ik_s, yC_k, yC_n, yC_i1, yC_i1_s, yC_i2, yC_i2_s, yC_i3, yC_i3_s, yC_i4, yC_i4_s, yC_i5, yC_i5_s, yC_i6, yC_i6_s, yC_i7, yC_i7_s, yC_i8, yC_i8_s, yC_i9, yC_i9_s, yM_k, yM_n, yM_m0, yM_m0_s, yM_m1, yM_m1_s, yM_m2, yM_m2_s, M_no11, M_no12, M_no13, M_no14, M_no15, M_no16, M_no17, M_no18, M_no19, M_no20, M_no21, M_no22, M_nl0, M_nl1, M_nl2, M_nl3, M_nl4, M_nl5]
theorem x_2038 {l t : Nat} {k281 : _} {k2038 : _} {τ : Sg} (hb : nc + 2 ≤ 600104 ∧ ns + 12 ≤ 7301314) (hG : InvG nn τ) (hl : l < 64) (hs : spd τ (nI l) = spd σ (nI l)) (hm : lm τ (nI l) nn = lm σ (nI l) nn) :
    f_L_law_b2038 L xs k281 k2038 b (yLa d) (yAn d) (yMa d) (yUn d) (yDa d) (yTh d) (yHm d) (yC d) (yM d) a1 a2 a3 (nI nn) n18 w19 w20 w21 (nI t) (nI l) (lm σ (nI l) nn) (nI nn) (memC b τ) (memM d σ) nc ns = k281 b (yLa d) (yAn d) (yMa d) (yUn d) (yDa d) (yTh d) (yHm d) (yC d) (yM d) a1 a2 a3 (nI nn) n18 w19 w20 w21 (nI (t + 1)) (memC b (tW τ 17 0 80)) (memM d σ) (nc + 2) (ns + 12) := by
  have hg : nc + 1 ≤ 600104 ∧ nc + 1 + 1 ≤ 600104 := by omega
  have hg2 : ns + 6 ≤ 7301314 ∧ ns + 6 + 6 ≤ 7301314 := by omega
  have q1 : nc + 1 + 1 = nc + 2 := by omega
  have q2 : ns + 6 + 6 = ns + 12 := by omega
  have km := k_mass (b := b) hG hl
  have h63 : OKr 0 (nI l) 63 := okr_num (n := 64) hl (by omega)
  have ks : f_X7_speed b (nI l) (memC b (tW τ 17 0 80)) = some (memC b (tW τ 17 0 80), .inl (spd σ (nI l))) := by
    rw [k_speed h63]
    have : spd (tW τ 17 0 80) (nI l) = spd τ (nI l) := by unfold spd; rw [tW_c (by decide)]
    rw [this, hs]
  have kl : f_L_speed (yC d) (nI l) (memM d σ) = some (memM d σ, spd σ (nI l)) := e_L_speed (ln_of h63)
  rw [← hm]
  simp only [f_L_law_b2038, Int32.le_refl, hg, hg2, q1, q2, km, ks, kl, xB_k, gk_1, gk_C, bn_l, bd_s, nI_1, gd, lt_, ↓reduceIte, eq_self, and_self, true_and, and_true, not_false_eq_true]
theorem l_2038 {l t : Nat} {k281 : _} {τ : Sg} (hb : nc + 2 ≤ 600104 ∧ ns + 12 ≤ 7301314) (hG : InvG nn σ) (hGτ : InvG nn τ) (hnn : nn < 64) (hl : l < 64) (hs : spd τ (nI l) = spd σ (nI l)) (hm : lm τ (nI l) nn = lm σ (nI l) nn) : ∀ f i, i ≤ nn → nn < i + f →
    f_L_law_L2038 L xs k281 f b (yLa d) (yAn d) (yMa d) (yUn d) (yDa d) (yTh d) (yHm d) (yC d) (yM d) a1 a2 a3 (nI nn) n18 w19 w20 w21 (nI t) (nI l) (lm σ (nI l) i) (nI i) (memC b τ) (memM d σ) nc ns = k281 b (yLa d) (yAn d) (yMa d) (yUn d) (yDa d) (yTh d) (yHm d) (yC d) (yM d) a1 a2 a3 (nI nn) n18 w19 w20 w21 (nI (t + 1)) (memC b (tW τ 17 0 80)) (memM d σ) (nc + 2) (ns + 12) := by
  intro f
  induction f with
  | zero => intro i h1 h2; omega
  | succ f ih =>
    intro i h1 h2
    show f_L_law_b2038 L xs k281 (f_L_law_L2038 L xs k281 f) _ _ _ _ _ _ _ _ _ _ _ _ _ _ _ _ _ _ _ _ _ (nI i) _ _ _ _ = _
    rcases Nat.lt_or_ge i nn with hi | hi
    · rw [s_2038 hG hnn hi]
      exact ih (i + 1) (by omega) (by omega)
    · obtain rfl : i = nn := by omega
      exact x_2038 hb hGτ hl hs hm
/-- all questions of a turn -/
theorem s_asks {t : Nat} {k281 : _} (hb : nc + 12 * nn + 40 ≤ 600104 ∧ ns + 72 * nn + 240 ≤ 7301314) (hG : InvG nn σ) (hC : Cm σ) (hM : InvM mm σ) (hm : mm ≤ 5) (hnn : nn < 64) :
    f_L_law_b1632 L xs k281 b (yLa d) (yAn d) (yMa d) (yUn d) (yDa d) (yTh d) (yHm d) (yC d) (yM d) (σ.2 1) (σ.2 2) (σ.2 0) (nI nn) (nI mm) w19 w20 w21 (nI t) w24 (memC b σ) (memM d σ) nc ns = k281 b (yLa d) (yAn d) (yMa d) (yUn d) (yDa d) (yTh d) (yHm d) (yC d) (yM d) (σ.2 1) (σ.2 2) (σ.2 0) (nI nn) (nI mm) w19 w20 w21 (nI (t + 1)) (memC b (tW (tW σ 17 0 80) 17 0 80)) (memM d σ) (nc + 12 * nn + mm + 20) (ns + 72 * nn + 6 * mm + 120) := by
  have s1 := l_1644 (b := b) (d := d) (nc := nc) (ns := ns) (L := L) (xs := xs) (a1 := σ.2 1) (a2 := σ.2 2) (a3 := σ.2 0) (n18 := nI mm) (w19 := w19) (w20 := w20) (w21 := w21) (w22 := nI t) (w24 := w24) (k281 := k281) (by omega) hG hnn 200 0 (by omega) (by omega)
  have s2 := l_1787 (b := b) (d := d) (nc := nc + 12 * nn) (ns := ns + 72 * nn) (L := L) (xs := xs) (w19 := w19) (w20 := w20) (w21 := w21) (w22 := nI t) (w24 := w24) (k281 := k281) (by omega) hG hC hM hm 200 0 (by omega) (by omega)
  have hl := lw_lt (w24 >>> ((7 : Int32) &&& 31)) (n := 64) (by omega)
  generalize lw (w24 >>> ((7 : Int32) &&& 31)) 64 = l at s2 hl
  have s3 := l_2038 (b := b) (d := d) (nc := nc + 12 * nn + mm + 18) (ns := ns + 72 * nn + 6 * mm + 108) (L := L) (xs := xs) (a1 := σ.2 1) (a2 := σ.2 2) (a3 := σ.2 0) (n18 := nI mm) (w19 := w19) (w20 := w20) (w21 := w21) (t := t) (k281 := k281) (τ := tW σ 17 0 80) (by omega) hG (tW_G hG rfl) hnn hl (by unfold spd; rw [tW_c (by decide)]) (lm_congr (fun k => ⟨tW_c (by decide), tW_c (by decide), tW_c (by decide)⟩) nn) 200 0 (by omega) (by omega)
  have e1 : mo σ 0 = 0 := rfl
  have e2 : su σ 0 = 0 := rfl
  have e3 : cn σ 0 = 0 := rfl
  have e4 : lm σ (nI l) 0 = 0 := rfl
  have n0 : nI 0 = 0 := rfl
  simp only [e1, e2, e3, n0, Nat.mul_zero, Nat.add_zero] at s1
  simp only [n0, Nat.mul_zero, Nat.add_zero] at s2
  rw [e4, n0] at s3
  unfold f_L_law_b1632
  rw [s1, s2, s3]
end M11
