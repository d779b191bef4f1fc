/-! ===== PURE: framed, holds, disputes ===== -/
theorem op_framed {b : Nat} (p0 p1 : Int32) : OpI (I2 b) (xO b) (b + 177) (f_L_framed b p0 p1 (xO b)) (f_X8_framed (b + 177) p0 p1) := by
  refine OpI_mk (E := _) (g := f_X7_framed b p0 p1) (fun σ hI => ?_)
  have h0 : Inv (sI σ 21 0 0) := hI.qs (Qs.sI (by omega))
  obtain ⟨nn, mm, ff, cc, g1, g2, g3, g4⟩ := h0
  have hff := g3.2.1
  have g15 := g3.1
  have c15 : σ.1 10 15 = nI ff := by rw [← g15]; exact (c21 (by decide)).symm
  have t13 : (sI σ 21 0 0).1 21 0 = 0 := by simp only [sI_1, sI_2, sL_1, sL_2, false_and, and_false, Nat.reduceEqDiff, reduceCtorEq, ↓reduceIte, eq_self, and_self, true_and, and_true]
  by_cases hF : OKr 0 p0 (nI ff - 1)
  · by_cases hL : OKr 0 p1 63
    · obtain ⟨f, hf, rfl⟩ := num_of (by omega) hF
      obtain ⟨l, hl, rfl⟩ := ln_of hL
      have hf20 : f < 20 := by omega
      have hk : 64 * f + l < 1280 := by omega
      refine Or.inl ⟨sI σ 21 0 0, (sI σ 21 0 0).1 12 (64 * f + l), ?_, ?_, hI.qs (Qs.sI (by omega)), t13⟩
      · generalize sI σ 21 0 0 = σ at g15
        simp only [f_X7_framed, g15, rN_t (show ff ≤ 80 by omega) hF, rL_t hL, bx_l, hf20, hl, gd, lt_, rd, bd, ↓reduceIte, eq_self, and_self, true_and, and_true, not_false_eq_true, vi_t, cl_6, cl_20, cl_21, cl_40, cl_64, cl_80, cl_1280, Nat.reduceLT, tn_0, true_or, or_true, ab_f, xB_k, xB_r0, xB_r1, xB_r3, xB_r5, xB_r8, xB_r9, xB_r10, xB_i2, xB_i2_s, xB_i4, xB_i4_s, xB_i6, xB_i6_s, xB_i7, xB_i7_s, xH_k, xH_r0, xH_r1, xH_r2, xH_i3, xH_i3_s, xH_i4, xH_i4_s, xH_i5, xH_i5_s, xH_i6, xH_i6_s, xP_k, xP_i0, xP_i0_s, xL_k, xL_i0, xL_i0_s, xL_i1, xL_i1_s, xL_i2, xL_i2_s, xL_i3, xL_i3_s, xL_i4, xL_i4_s, xL_i5, xL_i5_s, xL_i6, xL_i6_s, xL_i7, xL_i7_s, xL_l8, xL_l8_s, xL_l9, xL_l9_s, xL_l10, xL_l10_s, xL_l11, xL_l11_s, xL_l12, xL_l12_s, xA_k, xA_n, xA_rk, xG_k, xG_i0, xG_i0_s, xG_i1, xG_i1_s, xG_i2, xG_i2_s, xG_i3, xG_i3_s, xG_i4, xG_i4_s, xG_i5, xG_i5_s, xG_i6, xG_i6_s, xMA_k, xMA_n, xMA_rk, xM_k, xM_i0, xM_i0_s, xM_i1, xM_i1_s, xM_i2, xM_i2_s, xFA_k, xFA_n, xFA_rk, xF_k, xF_r0, xF_i1, xF_i1_s, xFm_k, xFm_n, xFm_ik, xFm_ik_s, xCA_k, xCA_n, xCA_rk, xC_k, xC_i0, xC_i0_s, xC_i1, xC_i1_s, xC_i2, xC_i2_s, xC_i3, xC_i3_s, xW_k, xW_n, xW_ik, xW_ik_s, x1_k, x1_n, x1_ik, x1_ik_s, x2_k, x2_n, x2_ik, x2_ik_s, xO_k, xO_n, xO_lk, xO_lk_s, C_no20, C_no21, C_no22]
      · simp only [f_X8_framed, f_X8_framed_b25, f_X8_framed_b50, iF_t c15 hF, iL_t hL, bd_s, gd, lt_, rd, yB_k, z_10, yB_i0_s, ↓reduceIte]
        generalize sI σ 21 0 0 = σ at t13
        simp only [yB_i0, t13, z_le0, e_f64 f hf20 l hl, yB_r30, yB_k, yFr_k, yFr_n, vi_t hk, cl_1280 hk, yFr_ik hk, Nat.reduceLT, true_and, ↓reduceIte]
    · refine Or.inr ⟨2, 0, sI σ 21 0 2, 0, fun _ => rfl, by decide, ?_, ?_, hI.qs (Qs.sI (by omega)), by simp only [sI_1, sI_2, sL_1, sL_2, false_and, and_false, Nat.reduceEqDiff, reduceCtorEq, ↓reduceIte, eq_self, and_self, true_and, and_true]⟩
      · rw [C_no21]
        simp only [f_X7_framed, c15, rN_t (show ff ≤ 80 by omega) hF, rL_f hL, bx_l, bx_r, gd, xB_k, xB_i4, ↓reduceIte]
      · simp only [f_X8_framed, f_X8_framed_b25, f_X8_framed_b50, iF_t c15 hF, iL_f hL, bd_s, gd, lt_, yB_k, z_10, z_le2, yB_i0, yB_i0_s, ↓reduceIte, sI_1, sI_2, sL_1, sL_2, false_and, and_false, Nat.reduceEqDiff, reduceCtorEq, ↓reduceIte, eq_self, and_self, true_and, and_true]
  · refine Or.inr ⟨1, 2, sI σ 21 0 1, 0, fun _ => rfl, by decide, ?_, ?_, hI.qs (Qs.sI (by omega)), by simp only [sI_1, sI_2, sL_1, sL_2, false_and, and_false, Nat.reduceEqDiff, reduceCtorEq, ↓reduceIte, eq_self, and_self, true_and, and_true]⟩
    · rw [C_no21]
      simp only [f_X7_framed, c15, rN_f (show ff ≤ 80 by omega) hF, bx_r, gd, xB_k, xB_i4, ↓reduceIte]
    · simp only [f_X8_framed, f_X8_framed_b25, f_X8_framed_b50, iF_f c15 hF, bd_s, gd, lt_, yB_k, z_le1, yB_i0, yB_i0_s, ↓reduceIte, sI_1, sI_2, sL_1, sL_2, false_and, and_false, Nat.reduceEqDiff, reduceCtorEq, ↓reduceIte, eq_self, and_self, true_and, and_true]
/-- does frame f keep to claim k, from lane x on, d lanes -/
def hrA (σ : Sg) (f k : Nat) : Nat → Nat → Int32
  | 0, _ => 1
  | d + 1, x => if σ.1 12 (64 * f + x) ≤ σ.1 16 k then hrA σ f k d (x + 1) else 0
theorem hrA_in {σ : Sg} {f k : Nat} : ∀ d x, hrA σ f k d x = 0 ∨ hrA σ f k d x = 1 := by
  intro d
  induction d with
  | zero => intro x; exact Or.inr rfl
  | succ d ih =>
    intro x
    rw [hrA]
    split
    · exact ih _
    · exact Or.inl rfl
theorem nle32 {x y : Int32} : (¬ x ≤ y) = (y < x) := by
  rw [Int32.le_iff_toInt_le, Int32.lt_iff_toInt_lt]
  exact propext ⟨fun h => by omega, fun h => by omega⟩
theorem l_holdsC {b f k c : Nat} {σ : Sg} (hf : f < 20) (hk : k < 40) (hc : c < 64) (h15 : σ.1 15 k = nI c) : ∀ d x g, x ≤ 64 → d = c + 1 - x → d < g → f_X0_holdsBy_L5 g (xC b k) (xF b f) (nI x) (memC b σ) = some (memC b σ, hrA σ f k d x) := by
  intro d
  induction d with
  | zero =>
    intro x g hx h1 h2
    obtain ⟨g, rfl⟩ : ∃ q, g = q + 1 := ⟨g - 1, by omega⟩
    have hlt : (nI c < nI x) = True := eq_true (nI_lt (show c < x by omega) (by omega))
    show f_X0_holdsBy_b5 _ (xC b k) (xF b f) (nI x) _ = _
    simp only [f_X0_holdsBy_b5, f_X0_holdsBy_b40, hk, h15, hlt, gd, xC_k, xC_i2, or_true, ↓reduceIte, hrA]
  | succ d ih =>
    intro x g hx h1 h2
    obtain ⟨g, rfl⟩ : ∃ q, g = q + 1 := ⟨g - 1, by omega⟩
    have hx64 : x < 64 := by omega
    have hlt : (nI c < nI x) = False := by
      rw [← nle32]
      refine eq_false (fun h => h ?_)
      rw [Int32.le_iff_toInt_le, ln_all c hc, ln_all x hx64]
      omega
    have hle := nle_t hx64 (by decide)
    rw [show nI 64 = (64 : Int32) from rfl] at hle
    show f_X0_holdsBy_b5 _ (xC b k) (xF b f) (nI x) _ = _
    simp only [f_X0_holdsBy_b5, f_X0_holdsBy_b40, hk, hf, hx64, h15, hlt, hle, nI_1, gd, lt_, rd, bd, ↓reduceIte, eq_self, and_self, true_and, and_true, not_false_eq_true, vi_t, cl_6, cl_20, cl_21, cl_40, cl_64, cl_80, cl_1280, Nat.reduceLT, tn_0, true_or, or_true, ab_f, xC_k, xC_i2, xC_i3, xF_k, xF_r0, xFm_k, xFm_n, xFm_ik, hrA]
    rw [ih (x + 1) g (by omega) (by omega) (by omega)]
    split <;> rfl
theorem e_holdsC {b f k : Nat} {σ : Sg} (hf : f < 20) (hk : k < 40) {a c : Nat} (ha : a < 64) (hc : c < 64) (h14 : σ.1 14 k = nI a) (h15 : σ.1 15 k = nI c) : f_X0_holdsBy (xC b k) (xF b f) (memC b σ) = some (memC b σ, hrA σ f k (c + 1 - a) a) := by
  rw [← l_holdsC hf hk hc h15 (c + 1 - a) a 200 (by omega) rfl (by omega)]
  simp only [f_X0_holdsBy, gd, lt_, xC_k hk, xC_i1 hk, h14, ↓reduceIte]
theorem l_holdsM0 {b f k c : Nat} {σ : Sg} (hk : k < 40) (hc : c < 64) (h15 : σ.1 15 k = nI c) : ∀ d x g, x ≤ 64 → d = c + 1 - x → d < g → f_X8_holdsBy_L10 g b (nI k) (nI f) 0 (nI x) (memM b σ) = some (memM b σ, 0) := by
  intro d
  induction d with
  | zero =>
    intro x g hx h1 h2
    obtain ⟨g, rfl⟩ : ∃ q, g = q + 1 := ⟨g - 1, by omega⟩
    have hlt : (nI c < nI x) = True := eq_true (nI_lt (show c < x by omega) (by omega))
    show f_X8_holdsBy_b10 _ b (nI k) (nI f) 0 (nI x) _ = _
    simp only [f_X8_holdsBy_b10, hk, h15, hlt, gd, lt_, rd, bd, ↓reduceIte, eq_self, and_self, true_and, and_true, not_false_eq_true, vi_t, cl_6, cl_20, cl_21, cl_40, cl_64, cl_80, cl_1280, Nat.reduceLT, tn_0, true_or, or_true, ab_f, yB_k, yB_r7, yB_r8, yB_r9, yB_r10, yB_r11, yB_r12, yB_r13, yB_r15, yB_r16, yB_r17, yB_r30, yB_r31, yB_r33, yB_r34, yB_r35, yB_r36, yB_i0, yB_i0_s, yB_i1, yB_i1_s, yB_i2, yB_i2_s, yB_i3, yB_i3_s, yB_i4, yB_i4_s, yB_i5, yB_i5_s, yB_i6, yB_i6_s, yB_i14, yB_i14_s, yB_i18, yB_i18_s, yB_i19, yB_i19_s, yB_i20, yB_i20_s, yB_i21, yB_i21_s, yB_i22, yB_i22_s, yB_i23, yB_i23_s, yB_i24, yB_i24_s, yB_i25, yB_i25_s, yB_i29, yB_i29_s, yB_i32, yB_i32_s, yB_l26, yB_l26_s, yB_l27, yB_l27_s, yB_l28, yB_l28_s, yLa_k, yLa_n, yLa_ik, yLa_ik_s, yAn_k, yAn_n, yAn_ik, yAn_ik_s, yMa_k, yMa_n, yMa_ik, yMa_ik_s, yUn_k, yUn_n, yUn_ik, yUn_ik_s, yDa_k, yDa_n, yDa_ik, yDa_ik_s, yTh_k, yTh_n, yTh_ik, yTh_ik_s, yHm_k, yHm_n, yHm_ik, yHm_ik_s, yML_k, yML_n, yML_ik, yML_ik_s, yMn_k, yMn_n, yMn_ik, yMn_ik_s, yMm_k, yMm_n, yMm_ik, yMm_ik_s, yFr_k, yFr_n, yFr_ik, yFr_ik_s, yFt_k, yFt_n, yFt_ik, yFt_ik_s, yCf_k, yCf_n, yCf_ik, yCf_ik_s, yCo_k, yCo_n, yCo_ik, yCo_ik_s, yCt_k, yCt_n, yCt_ik, yCt_ik_s, yCm_k, yCm_n, yCm_ik, yCm_ik_s, M_no6, M_no9, M_no17, M_no18, M_no19, M_nl3, M_nl4, M_nl5]
  | succ d ih =>
    intro x g hx h1 h2
    obtain ⟨g, rfl⟩ : ∃ q, g = q + 1 := ⟨g - 1, by omega⟩
    have hx64 : x < 64 := by omega
    have hlt : (nI c < nI x) = False := by
      rw [← nle32]
      refine eq_false (fun h => h ?_)
      rw [Int32.le_iff_toInt_le, ln_all c hc, ln_all x hx64]
      omega
    show f_X8_holdsBy_b10 _ b (nI k) (nI f) 0 (nI x) _ = _
    simp only [f_X8_holdsBy_b10, f_X8_holdsBy_b50, f_X8_holdsBy_b51, hk, h15, hlt, nI_1, gd, lt_, rd, bd, ↓reduceIte, eq_self, and_self, true_and, and_true, not_false_eq_true, vi_t, cl_6, cl_20, cl_21, cl_40, cl_64, cl_80, cl_1280, Nat.reduceLT, tn_0, true_or, or_true, ab_f, yB_k, yB_r7, yB_r8, yB_r9, yB_r10, yB_r11, yB_r12, yB_r13, yB_r15, yB_r16, yB_r17, yB_r30, yB_r31, yB_r33, yB_r34, yB_r35, yB_r36, yB_i0, yB_i0_s, yB_i1, yB_i1_s, yB_i2, yB_i2_s, yB_i3, yB_i3_s, yB_i4, yB_i4_s, yB_i5, yB_i5_s, yB_i6, yB_i6_s, yB_i14, yB_i14_s, yB_i18, yB_i18_s, yB_i19, yB_i19_s, yB_i20, yB_i20_s, yB_i21, yB_i21_s, yB_i22, yB_i22_s, yB_i23, yB_i23_s, yB_i24, yB_i24_s, yB_i25, yB_i25_s, yB_i29, yB_i29_s, yB_i32, yB_i32_s, yB_l26, yB_l26_s, yB_l27, yB_l27_s, yB_l28, yB_l28_s, yLa_k, yLa_n, yLa_ik, yLa_ik_s, yAn_k, yAn_n, yAn_ik, yAn_ik_s, yMa_k, yMa_n, yMa_ik, yMa_ik_s, yUn_k, yUn_n, yUn_ik, yUn_ik_s, yDa_k, yDa_n, yDa_ik, yDa_ik_s, yTh_k, yTh_n, yTh_ik, yTh_ik_s, yHm_k, yHm_n, yHm_ik, yHm_ik_s, yML_k, yML_n, yML_ik, yML_ik_s, yMn_k, yMn_n, yMn_ik, yMn_ik_s, yMm_k, yMm_n, yMm_ik, yMm_ik_s, yFr_k, yFr_n, yFr_ik, yFr_ik_s, yFt_k, yFt_n, yFt_ik, yFt_ik_s, yCf_k, yCf_n, yCf_ik, yCf_ik_s, yCo_k, yCo_n, yCo_ik, yCo_ik_s, yCt_k, yCt_n, yCt_ik, yCt_ik_s, yCm_k, yCm_n, yCm_ik, yCm_ik_s, M_no6, M_no9, M_no17, M_no18, M_no19, M_nl3, M_nl4, M_nl5]
    exact ih (x + 1) g (by omega) (by omega) (by omega)
theorem l_holdsM {b f k c : Nat} {σ : Sg} (hf : f < 20) (hk : k < 40) (hc : c < 64) (h15 : σ.1 15 k = nI c) : ∀ d x g, x ≤ 64 → d = c + 1 - x → d < g → f_X8_holdsBy_L10 g b (nI k) (nI f) 1 (nI x) (memM b σ) = some (memM b σ, hrA σ f k d x) := by
  intro d
  induction d with
  | zero =>
    intro x g hx h1 h2
    obtain ⟨g, rfl⟩ : ∃ q, g = q + 1 := ⟨g - 1, by omega⟩
    have hlt : (nI c < nI x) = True := eq_true (nI_lt (show c < x by omega) (by omega))
    show f_X8_holdsBy_b10 _ b (nI k) (nI f) 1 (nI x) _ = _
    simp only [f_X8_holdsBy_b10, hk, h15, hlt, hrA, gd, lt_, rd, bd, ↓reduceIte, eq_self, and_self, true_and, and_true, not_false_eq_true, vi_t, cl_6, cl_20, cl_21, cl_40, cl_64, cl_80, cl_1280, Nat.reduceLT, tn_0, true_or, or_true, ab_f, yB_k, yB_r7, yB_r8, yB_r9, yB_r10, yB_r11, yB_r12, yB_r13, yB_r15, yB_r16, yB_r17, yB_r30, yB_r31, yB_r33, yB_r34, yB_r35, yB_r36, yB_i0, yB_i0_s, yB_i1, yB_i1_s, yB_i2, yB_i2_s, yB_i3, yB_i3_s, yB_i4, yB_i4_s, yB_i5, yB_i5_s, yB_i6, yB_i6_s, yB_i14, yB_i14_s, yB_i18, yB_i18_s, yB_i19, yB_i19_s, yB_i20, yB_i20_s, yB_i21, yB_i21_s, yB_i22, yB_i22_s, yB_i23, yB_i23_s, yB_i24, yB_i24_s, yB_i25, yB_i25_s, yB_i29, yB_i29_s, yB_i32, yB_i32_s, yB_l26, yB_l26_s, yB_l27, yB_l27_s, yB_l28, yB_l28_s, yLa_k, yLa_n, yLa_ik, yLa_ik_s, yAn_k, yAn_n, yAn_ik, yAn_ik_s, yMa_k, yMa_n, yMa_ik, yMa_ik_s, yUn_k, yUn_n, yUn_ik, yUn_ik_s, yDa_k, yDa_n, yDa_ik, yDa_ik_s, yTh_k, yTh_n, yTh_ik, yTh_ik_s, yHm_k, yHm_n, yHm_ik, yHm_ik_s, yML_k, yML_n, yML_ik, yML_ik_s, yMn_k, yMn_n, yMn_ik, yMn_ik_s, yMm_k, yMm_n, yMm_ik, yMm_ik_s, yFr_k, yFr_n, yFr_ik, yFr_ik_s, yFt_k, yFt_n, yFt_ik, yFt_ik_s, yCf_k, yCf_n, yCf_ik, yCf_ik_s, yCo_k, yCo_n, yCo_ik, yCo_ik_s, yCt_k, yCt_n, yCt_ik, yCt_ik_s, yCm_k, yCm_n, yCm_ik, yCm_ik_s, M_no6, M_no9, M_no17, M_no18, M_no19, M_nl3, M_nl4, M_nl5]
  | succ d ih =>
    intro x g hx h1 h2
    obtain ⟨g, rfl⟩ : ∃ q, g = q + 1 := ⟨g - 1, by omega⟩
    have hx64 : x < 64 := by omega
    have hlt : (nI c < nI x) = False := by
      rw [← nle32]
      refine eq_false (fun h => h ?_)
      rw [Int32.le_iff_toInt_le, ln_all c hc, ln_all x hx64]
      omega
    have hkk : 64 * f + x < 1280 := by omega
    show f_X8_holdsBy_b10 _ b (nI k) (nI f) 1 (nI x) _ = _
    have i1 := ih (x + 1) g (by omega) (by omega) (by omega)
    have i0 := l_holdsM0 (b := b) (f := f) hk hc h15 d (x + 1) g (by omega) (by omega) (by omega)
    simp only [f_X8_holdsBy_b10, f_X8_holdsBy_b50, f_X8_holdsBy_b51, hk, hkk, h15, hlt, z_10, e_f64 f hf x hx64, nI_1, i1, i0, hrA, ← nle32, gd, lt_, rd, bd, ↓reduceIte, eq_self, and_self, true_and, and_true, not_false_eq_true, vi_t, cl_6, cl_20, cl_21, cl_40, cl_64, cl_80, cl_1280, Nat.reduceLT, tn_0, true_or, or_true, ab_f, yB_k, yB_r7, yB_r8, yB_r9, yB_r10, yB_r11, yB_r12, yB_r13, yB_r15, yB_r16, yB_r17, yB_r30, yB_r31, yB_r33, yB_r34, yB_r35, yB_r36, yB_i0, yB_i0_s, yB_i1, yB_i1_s, yB_i2, yB_i2_s, yB_i3, yB_i3_s, yB_i4, yB_i4_s, yB_i5, yB_i5_s, yB_i6, yB_i6_s, yB_i14, yB_i14_s, yB_i18, yB_i18_s, yB_i19, yB_i19_s, yB_i20, yB_i20_s, yB_i21, yB_i21_s, yB_i22, yB_i22_s, yB_i23, yB_i23_s, yB_i24, yB_i24_s, yB_i25, yB_i25_s, yB_i29, yB_i29_s, yB_i32, yB_i32_s, yB_l26, yB_l26_s, yB_l27, yB_l27_s, yB_l28, yB_l28_s, yLa_k, yLa_n, yLa_ik, yLa_ik_s, yAn_k, yAn_n, yAn_ik, yAn_ik_s, yMa_k, yMa_n, yMa_ik, yMa_ik_s, yUn_k, yUn_n, yUn_ik, yUn_ik_s, yDa_k, yDa_n, yDa_ik, yDa_ik_s, yTh_k, yTh_n, yTh_ik, yTh_ik_s, yHm_k, yHm_n, yHm_ik, yHm_ik_s, yML_k, yML_n, yML_ik, yML_ik_s, yMn_k, yMn_n, yMn_ik, yMn_ik_s, yMm_k, yMm_n, yMm_ik, yMm_ik_s, yFr_k, yFr_n, yFr_ik, yFr_ik_s, yFt_k, yFt_n, yFt_ik, yFt_ik_s, yCf_k, yCf_n, yCf_ik, yCf_ik_s, yCo_k, yCo_n, yCo_ik, yCo_ik_s, yCt_k, yCt_n, yCt_ik, yCt_ik_s, yCm_k, yCm_n, yCm_ik, yCm_ik_s, M_no6, M_no9, M_no17, M_no18, M_no19, M_nl3, M_nl4, M_nl5]
    by_cases h : σ.1 12 (64 * f + x) ≤ σ.1 16 k
    · rw [if_neg (fun q => q h), if_pos h]
    · rw [if_pos h, if_neg h]
theorem e_holdsM {b f k : Nat} {σ : Sg} (hf : f < 20) (hk : k < 40) {a c : Nat} (ha : a < 64) (hc : c < 64) (h14 : σ.1 14 k = nI a) (h15 : σ.1 15 k = nI c) : f_X8_holdsBy b (nI k) (nI f) (memM b σ) = some (memM b σ, hrA σ f k (c + 1 - a) a) := by
  rw [← l_holdsM hf hk hc h15 (c + 1 - a) a 200 (by omega) rfl (by omega)]
  simp only [f_X8_holdsBy, hk, h14, gd, lt_, rd, bd, ↓reduceIte, eq_self, and_self, true_and, and_true, not_false_eq_true, vi_t, cl_6, cl_20, cl_21, cl_40, cl_64, cl_80, cl_1280, Nat.reduceLT, tn_0, true_or, or_true, ab_f, yB_k, yB_r7, yB_r8, yB_r9, yB_r10, yB_r11, yB_r12, yB_r13, yB_r15, yB_r16, yB_r17, yB_r30, yB_r31, yB_r33, yB_r34, yB_r35, yB_r36, yB_i0, yB_i0_s, yB_i1, yB_i1_s, yB_i2, yB_i2_s, yB_i3, yB_i3_s, yB_i4, yB_i4_s, yB_i5, yB_i5_s, yB_i6, yB_i6_s, yB_i14, yB_i14_s, yB_i18, yB_i18_s, yB_i19, yB_i19_s, yB_i20, yB_i20_s, yB_i21, yB_i21_s, yB_i22, yB_i22_s, yB_i23, yB_i23_s, yB_i24, yB_i24_s, yB_i25, yB_i25_s, yB_i29, yB_i29_s, yB_i32, yB_i32_s, yB_l26, yB_l26_s, yB_l27, yB_l27_s, yB_l28, yB_l28_s, yLa_k, yLa_n, yLa_ik, yLa_ik_s, yAn_k, yAn_n, yAn_ik, yAn_ik_s, yMa_k, yMa_n, yMa_ik, yMa_ik_s, yUn_k, yUn_n, yUn_ik, yUn_ik_s, yDa_k, yDa_n, yDa_ik, yDa_ik_s, yTh_k, yTh_n, yTh_ik, yTh_ik_s, yHm_k, yHm_n, yHm_ik, yHm_ik_s, yML_k, yML_n, yML_ik, yML_ik_s, yMn_k, yMn_n, yMn_ik, yMn_ik_s, yMm_k, yMm_n, yMm_ik, yMm_ik_s, yFr_k, yFr_n, yFr_ik, yFr_ik_s, yFt_k, yFt_n, yFt_ik, yFt_ik_s, yCf_k, yCf_n, yCf_ik, yCf_ik_s, yCo_k, yCo_n, yCo_ik, yCo_ik_s, yCt_k, yCt_n, yCt_ik, yCt_ik_s, yCm_k, yCm_n, yCm_ik, yCm_ik_s, M_no6, M_no9, M_no17, M_no18, M_no19, M_nl3, M_nl4, M_nl5]
def hS (σ : Sg) (f k : Nat) : Int32 := hrA σ f k ((σ.1 15 k).toNatClampNeg + 1 - (σ.1 14 k).toNatClampNeg) (σ.1 14 k).toNatClampNeg
theorem hS_eq {σ : Sg} {f k a c : Nat} (ha : a < 64) (hc : c < 64) (h14 : σ.1 14 k = nI a) (h15 : σ.1 15 k = nI c) : hS σ f k = hrA σ f k (c + 1 - a) a := by
  unfold hS
  rw [h14, h15, cl_64 ha, cl_64 hc]
theorem s_holds {b f k ff cc : Nat} {σ : Sg} (h : InvF ff cc σ) (hf : f < ff) (hk : k < cc) : f_X0_holdsBy (xC b k) (xF b f) (memC b σ) = some (memC b σ, hS σ f k) ∧ f_X8_holdsBy (b + 177) (nI k) (nI f) (memM (b + 177) σ) = some (memM (b + 177) σ, hS σ f k) := by
  obtain ⟨-, hff, -, hcc, h5⟩ := h
  obtain ⟨-, ⟨a, ha, ea⟩, ⟨c, hc, ec⟩⟩ := h5 k hk
  rw [hS_eq ha hc ea ec]
  exact ⟨e_holdsC (by omega) (by omega) ha hc ea ec, e_holdsM (by omega) (by omega) ha hc ea ec⟩
theorem e_holds28 {b f k ff cc : Nat} {σ : Sg} (h : InvF ff cc σ) (hf : f < ff) (hk : k < cc) (hF : OKr 0 (nI f) (nI ff - 1)) : f_X7_holds_b28 (nI f) b (xC b k) (memC b σ) = some (memC b σ, .inl (hS σ f k)) := by
  have hff := h.2.1
  have hcc := h.2.2.2.1
  have g15 := h.1
  have hf20 : f < 20 := by omega
  have hk40 : k < 40 := by omega
  have hr : (hS σ f k = 0 ∨ hS σ f k = 1) := hrA_in _ _
  simp only [f_X7_holds_b28, g15, rN_t (show ff ≤ 80 by omega) hF, bx_l, hf20, hk40, (s_holds h hf hk).1, bd_s, gd, rd, xB_k, xB_r3, xB_i4, xFA_k, xFA_n, xFA_rk, xC_k, vi_t, cl_20, Nat.reduceLT, true_and, not_false_eq_true, ↓reduceIte]
  rw [if_pos hr]
theorem OK_of {f n : Nat} (h : f < n) (hn : n ≤ 80) : OKr 0 (nI f) (nI n - 1) := by
  refine ⟨?_, ?_⟩
  · rw [Int32.lt_iff_toInt_lt, (nIt f (by omega)).1]
    show ¬ _ < (0 : Int)
    omega
  · rw [Int32.le_iff_toInt_le, (nIt f (by omega)).1, (nIt n hn).2]
    omega
theorem op_holds {b : Nat} (p0 p1 : Int32) : OpZ (I2 b) (xO b) (b + 177) (f_L_holds b p0 p1 (xO b)) (f_X8_holds (b + 177) p0 p1) := by
  rintro M1 M2 ⟨σ, rfl, rfl, hI⟩
  have h0 : Inv (sI σ 21 0 0) := hI.qs (Qs.sI (by omega))
  have h0' := h0
  obtain ⟨nn, mm, ff, cc, g1, g2, g3, g4⟩ := h0
  have hff := g3.2.1
  have hcc := g3.2.2.2.1
  have g16 := g3.2.2.1
  have c16 : σ.1 10 16 = nI cc := by rw [← g16]; exact (c21 (by decide)).symm
  have g15 := g3.1
  have c15 : σ.1 10 15 = nI ff := by rw [← g15]; exact (c21 (by decide)).symm
  have t13 : (sI σ 21 0 0).1 21 0 = 0 := by simp only [sI_1, sI_2, sL_1, sL_2, false_and, and_false, Nat.reduceEqDiff, reduceCtorEq, ↓reduceIte, eq_self, and_self, true_and, and_true]
  have zz : ((0 : Int32) = 0) = True := eq_true rfl
  have hno : (f_X7_holds b p0 p1 (memC b σ) = some (memC b σ, .inr 2)) → (f_X8_holds (b + 177) p0 p1 (memM (b + 177) σ) = some (memM (b + 177) (sI σ 21 0 1), 0)) → ∃ (M1' : Mem) (k : Int32) (M2' : Mem) (v : Int32), f_L_holds b p0 p1 (xO b) (memC b σ) = some (M1', k) ∧ f_X8_holds (b + 177) p0 p1 (memM (b + 177) σ) = some (M2', v) ∧ f_X8_thrown (b + 177) M2' = some (M2', k) ∧ (k = 0 → mm_l M1' (xO b) 0 = if v = 0 then 0 else 1) ∧ I2 b M1' M2' := fun q1 q2 => by
    refine ⟨memC b (sI σ 21 0 1), 1, memM (b + 177) (sI σ 21 0 1), 0, ?_, q2, by rw [e_thrown]; simp only [sI_1, sI_2, sL_1, sL_2, false_and, and_false, Nat.reduceEqDiff, reduceCtorEq, ↓reduceIte, eq_self, and_self, true_and, and_true], fun q => absurd q (by decide), ⟨_, rfl, rfl, hI.qs (Qs.sI (by omega))⟩⟩
    rw [C_no21]
    simp only [f_L_holds, gd, xB_k, if_true, q1, bc]
    rfl
  have hyes : ∀ f k, f < ff → k < cc → (f_X7_holds b p0 p1 (memC b (sI σ 21 0 0)) = some (memC b (sI σ 21 0 0), .inl (hS (sI σ 21 0 0) f k))) → (f_X8_holds (b + 177) p0 p1 (memM (b + 177) σ) = some (memM (b + 177) (sI σ 21 0 0), hS (sI σ 21 0 0) f k)) → ∃ (M1' : Mem) (k : Int32) (M2' : Mem) (v : Int32), f_L_holds b p0 p1 (xO b) (memC b σ) = some (M1', k) ∧ f_X8_holds (b + 177) p0 p1 (memM (b + 177) σ) = some (M2', v) ∧ f_X8_thrown (b + 177) M2' = some (M2', k) ∧ (k = 0 → mm_l M1' (xO b) 0 = if v = 0 then 0 else 1) ∧ I2 b M1' M2' := fun f k hf hk q1 q2 => by
    refine ⟨memC b (sL (sI σ 21 0 0) 5 (if hS (sI σ 21 0 0) f k = 0 then 0 else 1)), 0, memM (b + 177) (sI σ 21 0 0), _, ?_, q2, by rw [e_thrown, t13], fun _ => by rw [xO_lk (by decide), sL_2, if_pos rfl], ⟨_, rfl, by rw [M_nl5], h0'.qs Qs.sL⟩⟩
    rw [← C_no21 (σ := σ) (i := 0) (v := 0)]
    generalize sI σ 21 0 0 = τ at q1
    simp only [f_L_holds, gd, xB_k, if_true, q1, bc]
    by_cases hz : hS τ f k = 0
    · rw [if_pos hz, if_pos hz]; exact e_out
    · rw [if_neg hz, if_neg hz]; exact e_out
  by_cases hC : OKr 0 p0 (nI cc - 1)
  · obtain ⟨k, hk, rfl⟩ := num_of (by omega) hC
    have hk40 : k < 40 := by omega
    by_cases hm : p1 = -1
    · subst hm
      obtain ⟨⟨f, hf, ef⟩, -⟩ := g3.2.2.2.2 k hk
      have hF := OK_of hf (show ff ≤ 80 by omega)
      refine hyes f k hf hk ?_ ?_
      · generalize sI σ 21 0 0 = σ at g3 g16 ef
        have e := e_holds28 (b := b) g3 hf hk hF
        simp only [f_X7_holds, g16, rN_t (show cc ≤ 80 by omega) hC, bx_l, hk40, ef, e, gd, rd, xB_k, xB_r5, xB_i6, xCA_k, xCA_n, xCA_rk, xC_k, xC_i0, vi_t, cl_40, Nat.reduceLT, true_and, not_false_eq_true, ↓reduceIte]
      · simp only [f_X8_holds, f_X8_holds_b22, f_X8_holds_b27, iC_t c16 hC, z_10, bd_s, gd, lt_, yB_k, yB_i0_s, ↓reduceIte]
        generalize sI σ 21 0 0 = σ at g3 t13 ef
        have e := (s_holds (b := b) g3 hf hk).2
        simp only [f_X8_holds_b54, f_X8_holds_b64, f_X8_holds_b65, yB_i0, t13, hk40, ef, e, bd_s, gd, rd, yB_k, yB_r33, yCf_k, yCf_n, yCf_ik, vi_t, cl_40, Nat.reduceLT, true_and, not_false_eq_true, ↓reduceIte, true_or, or_true]
        rcases hrA_in (σ := σ) (f := f) (k := k) ((σ.1 15 k).toNatClampNeg + 1 - (σ.1 14 k).toNatClampNeg) (σ.1 14 k).toNatClampNeg with hz | hz
        · have hz' : hS σ f k = 0 := hz
          rw [if_pos hz', hz']
        · have hz' : hS σ f k = 1 := hz
          rw [if_neg (by rw [hz']; decide), hz']
    · have hmF : (p1 = -1) = False := eq_false hm
      by_cases hF : OKr 0 p1 (nI ff - 1)
      · obtain ⟨f, hf, rfl⟩ := num_of (by omega) hF
        refine hyes f k hf hk ?_ ?_
        · generalize sI σ 21 0 0 = σ at g3 g16
          have e := e_holds28 (b := b) g3 hf hk hF
          simp only [f_X7_holds, g16, rN_t (show cc ≤ 80 by omega) hC, bx_l, hk40, hmF, e, gd, rd, xB_k, xB_r5, xB_i6, xCA_k, xCA_n, xCA_rk, vi_t, cl_40, Nat.reduceLT, true_and, not_false_eq_true, ↓reduceIte]
        · simp only [f_X8_holds, f_X8_holds_b22, f_X8_holds_b27, iC_t c16 hC, iF_t c15 hF, hmF, z_10, bd_s, gd, lt_, yB_k, yB_i0_s, ↓reduceIte]
          generalize sI σ 21 0 0 = σ at g3 t13
          have e := (s_holds (b := b) g3 hf hk).2
          simp only [f_X8_holds_b54, f_X8_holds_b64, f_X8_holds_b65, yB_i0, t13, e, bd_s, gd, rd, yB_k, ↓reduceIte, true_or, or_true]
          rcases hrA_in (σ := σ) (f := f) (k := k) ((σ.1 15 k).toNatClampNeg + 1 - (σ.1 14 k).toNatClampNeg) (σ.1 14 k).toNatClampNeg with hz | hz
          · have hz' : hS σ f k = 0 := hz
            rw [if_pos hz', hz']
          · have hz' : hS σ f k = 1 := hz
            rw [if_neg (by rw [hz']; decide), hz']
      · refine hno ?_ ?_
        · simp only [f_X7_holds, f_X7_holds_b28, c15, c16, rN_t (show cc ≤ 80 by omega) hC, rN_f (show ff ≤ 80 by omega) hF, bx_l, bx_r, hk40, hmF, gd, rd, xB_k, xB_r5, xB_i4, xB_i6, xCA_k, xCA_n, xCA_rk, vi_t, cl_40, Nat.reduceLT, true_and, not_false_eq_true, ↓reduceIte]
        · simp only [f_X8_holds, f_X8_holds_b26, f_X8_holds_b27, f_X8_holds_b64, f_X8_holds_b65, iC_t c16 hC, iF_f c15 hF, hmF, z_10, bd_s, gd, lt_, yB_k, yB_i0, yB_i0_s, true_or, ↓reduceIte, sI_1, sI_2, sL_1, sL_2, false_and, and_false, Nat.reduceEqDiff, reduceCtorEq, ↓reduceIte, eq_self, and_self, true_and, and_true]
  · refine hno ?_ ?_
    · simp only [f_X7_holds, c16, rN_f (show cc ≤ 80 by omega) hC, bx_r, gd, xB_k, xB_i6, ↓reduceIte]
    · simp only [f_X8_holds, f_X8_holds_b26, f_X8_holds_b27, f_X8_holds_b64, f_X8_holds_b65, iC_f c16 hC, z_10, bd_s, gd, lt_, yB_k, yB_i0, yB_i0_s, true_or, ↓reduceIte, sI_1, sI_2, sL_1, sL_2, false_and, and_false, Nat.reduceEqDiff, reduceCtorEq, ↓reduceIte, eq_self, and_self, true_and, and_true]
