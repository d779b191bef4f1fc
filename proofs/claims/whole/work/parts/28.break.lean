/-! ===== PURE: a grain breaks ===== -/
def tBr0 (σ : Sg) (g n : Nat) : Sg := sI (sI (sI (sI (sI (sI (sI (sI (sI σ 10 0 (nI (n + 1))) 0 n (σ.1 0 g)) 1 n (σ.1 1 g)) 4 n (σ.1 4 g)) 3 n 0) 5 n 1) 2 n (σ.1 2 g - σ.1 2 g / (2 : Int32))) 2 g (σ.1 2 g / (2 : Int32))) 3 g 0
def tBrE (τ : Sg) (g n : Nat) (m0 : Int64) : Sg := sL (sI τ 10 7 (τ.1 10 7 + 1)) 2 (τ.2 2 + (m0 - car τ g - car τ n))
def tBreak (σ : Sg) (g n : Nat) : Sg := sI (tBrE (tGo (tGo (tBr0 σ g n) g (σ.1 0 g + -1)) n (σ.1 0 g + 1)) g n (car σ g)) 22 n 1
theorem e_X3_breakUp {b g n : Nat} {σ : Sg} (hg : g < 80) (hn : n < 80) (h1 : (g = n) = False) (h2 : (n = g) = False) (hc : σ.1 10 0 = nI n) : f_X3_breakUp (xH b) (xG b g) (memC b σ) = some (memC b (tBreak σ g n)) := by
  have hlt : (nI n < (80 : Int32)) = True := eq_true (nI_lt hn (by decide))
  have e : f_X3_breakUp (xH b) (xG b g) (memC b σ) = bd (f_X3_shift (xH b) (xG b g) (-1) (memC b (tBr0 σ g n))) fun z13 => gd (z13.1 (xH b) = 3) <| bd (f_X3_shift (xH b) (xG b n) (1) z13) fun z14 => gd (z14.1 (xH b) = 3) <| rd (mm_r z14 (xH b) 1) fun a15 => gd (z14.1 a15 = 4) <| gd (z14.1 a15 = 4) <| lt_ (ms_i z14 a15 1 ((mm_i z14 a15 1) + (1 : Int32))) fun M16 => gd (M16.1 (xH b) = 3) <| rd (mm_r M16 (xH b) 1) fun a17 => gd (M16.1 a17 = 4) <| gd (M16.1 (xG b g) = 2) <| bd (f_X2_carried (xG b g) M16) fun z18 => gd (z18.1.1 (xG b n) = 2) <| bd (f_X2_carried (xG b n) z18.1) fun z19 => gd (z19.1.1 a17 = 4) <| lt_ (ms_l z19.1 a17 12 ((mm_l M16 a17 12) + ((car σ g - z18.2) - z19.2))) fun M20 => some M20 := by
    simp only [f_X3_breakUp, hc, hlt, hg, hn, h1, h2, e_X2_carried hg, nI_1, tBr0, gd, lt_, rd, bd, ↓reduceIte, eq_self, and_self, true_and, and_true, not_false_eq_true, vi_t, cl_80, Nat.reduceLT, xB_k, xB_r0, xB_r1, xB_r3, xB_r5, xB_r8, xB_r9, xB_r10, xB_i2, xB_i2_s, xB_i4, xB_i4_s, xB_i6, xB_i6_s, xB_i7, xB_i7_s, xH_k, xH_r0, xH_r1, xH_r2, xH_i3, xH_i3_s, xH_i4, xH_i4_s, xH_i5, xH_i5_s, xH_i6, xH_i6_s, xP_k, xP_i0, xP_i0_s, xL_k, xL_i0, xL_i0_s, xL_i1, xL_i1_s, xL_i2, xL_i2_s, xL_i3, xL_i3_s, xL_i4, xL_i4_s, xL_i5, xL_i5_s, xL_i6, xL_i6_s, xL_i7, xL_i7_s, xL_l8, xL_l8_s, xL_l9, xL_l9_s, xL_l10, xL_l10_s, xL_l11, xL_l11_s, xL_l12, xL_l12_s, xA_k, xA_n, xA_rk, xG_k, xG_i0, xG_i0_s, xG_i1, xG_i1_s, xG_i2, xG_i2_s, xG_i3, xG_i3_s, xG_i4, xG_i4_s, xG_i5, xG_i5_s, xG_i6, xG_i6_s, xMA_k, xMA_n, xMA_rk, xM_k, xM_i0, xM_i0_s, xM_i1, xM_i1_s, xM_i2, xM_i2_s, xFA_k, xFA_n, xFA_rk, xF_k, xF_r0, xF_i1, xF_i1_s, xFm_k, xFm_n, xFm_ik, xFm_ik_s, xCA_k, xCA_n, xCA_rk, xC_k, xC_i0, xC_i0_s, xC_i1, xC_i1_s, xC_i2, xC_i2_s, xC_i3, xC_i3_s, xW_k, xW_n, xW_ik, xW_ik_s, x1_k, x1_n, x1_ik, x1_ik_s, x2_k, x2_n, x2_ik, x2_ik_s, xO_k, xO_n, xO_lk, xO_lk_s, C_no20, C_no21, C_no22, sI_1, sI_2, sL_1, sL_2, false_and, and_false, Nat.reduceEqDiff, reduceCtorEq, ↓reduceIte, eq_self, and_self, true_and, and_true]
  rw [e, e_X3_shift hg]
  have e0 : (tBr0 σ g n).1 0 g = σ.1 0 g := by simp only [tBr0, sI_1, sI_2, sL_1, sL_2, false_and, and_false, Nat.reduceEqDiff, reduceCtorEq, ↓reduceIte, eq_self, and_self, true_and, and_true, h1]
  have en : (tGo (tBr0 σ g n) g (σ.1 0 g + -1)).1 0 n = σ.1 0 g := by
    rw [tGo_0 (fun q => by rw [h2] at q; exact q : n ≠ g)]
    simp only [tBr0, sI_1, sI_2, sL_1, sL_2, false_and, and_false, Nat.reduceEqDiff, reduceCtorEq, ↓reduceIte, eq_self, and_self, true_and, and_true, h1, h2]
  rw [e0]
  unfold tBreak
  generalize tGo (tBr0 σ g n) g (σ.1 0 g + -1) = τ at en ⊢
  simp only [bd, gd, xH_k, e_X3_shift hn, ↓reduceIte, en]
  generalize tGo τ n (σ.1 0 g + 1) = υ
  simp only [hg, hn, e_X2_carried hg, e_X2_carried hn, gd, lt_, rd, bd, ↓reduceIte, eq_self, and_self, true_and, and_true, not_false_eq_true, vi_t, cl_6, cl_20, cl_21, cl_40, cl_64, cl_80, cl_1280, Nat.reduceLT, tn_0, true_or, or_true, ab_f, xB_k, xB_r0, xB_r1, xB_r3, xB_r5, xB_r8, xB_r9, xB_r10, xB_i2, xB_i2_s, xB_i4, xB_i4_s, xB_i6, xB_i6_s, xB_i7, xB_i7_s, xH_k, xH_r0, xH_r1, xH_r2, xH_i3, xH_i3_s, xH_i4, xH_i4_s, xH_i5, xH_i5_s, xH_i6, xH_i6_s, xP_k, xP_i0, xP_i0_s, xL_k, xL_i0, xL_i0_s, xL_i1, xL_i1_s, xL_i2, xL_i2_s, xL_i3, xL_i3_s, xL_i4, xL_i4_s, xL_i5, xL_i5_s, xL_i6, xL_i6_s, xL_i7, xL_i7_s, xL_l8, xL_l8_s, xL_l9, xL_l9_s, xL_l10, xL_l10_s, xL_l11, xL_l11_s, xL_l12, xL_l12_s, xA_k, xA_n, xA_rk, xG_k, xG_i0, xG_i0_s, xG_i1, xG_i1_s, xG_i2, xG_i2_s, xG_i3, xG_i3_s, xG_i4, xG_i4_s, xG_i5, xG_i5_s, xG_i6, xG_i6_s, xMA_k, xMA_n, xMA_rk, xM_k, xM_i0, xM_i0_s, xM_i1, xM_i1_s, xM_i2, xM_i2_s, xFA_k, xFA_n, xFA_rk, xF_k, xF_r0, xF_i1, xF_i1_s, xFm_k, xFm_n, xFm_ik, xFm_ik_s, xCA_k, xCA_n, xCA_rk, xC_k, xC_i0, xC_i0_s, xC_i1, xC_i1_s, xC_i2, xC_i2_s, xC_i3, xC_i3_s, xW_k, xW_n, xW_ik, xW_ik_s, x1_k, x1_n, x1_ik, x1_ik_s, x2_k, x2_n, x2_ik, x2_ik_s, xO_k, xO_n, xO_lk, xO_lk_s, C_no20, C_no21, C_no22]
  simp only [tBrE, car_sI _ 10 _ _ _ (by decide : (10:Nat) ≠ 0 ∧ (10:Nat) ≠ 2), sI_2]
theorem tBr0_eq (σ : Sg) {g n : Nat} (hgn : g ≠ n) : tBr0 σ g n = sI (sI (sI (sI (sI (sI (sI (sI (sI σ 2 g (σ.1 2 g / (2 : Int32))) 3 g 0) 10 0 (nI (n + 1))) 0 n (σ.1 0 g)) 1 n (σ.1 1 g)) 4 n (σ.1 4 g)) 3 n 0) 5 n 1) 2 n (σ.1 2 g - σ.1 2 g / (2 : Int32)) := by
  refine Sg_ext (fun c k => ?_) (fun _ => rfl)
  simp only [tBr0, sI_1]
  grind
/-- what the reference adds -/
def tAdd (τ : Sg) (n : Nat) (l a m u d : Int32) : Sg := sI (sI (sI (sI (sI (sI (sI τ 0 n l) 1 n a) 2 n m) 3 n u) 4 n d) 5 n 1) 10 0 (nI (n + 1))
theorem e_X8_adds {b n : Nat} {τ : Sg} {l a m u d : Int32} (hn : n < 80) (hc : τ.1 10 0 = nI n) : f_X8_adds b l a m u d (memM b τ) = some (memM b (tAdd τ n l a m u d), nI n) := by
  have e : nI (n + 1) - 1 = nI n := nI_pred n
  simp only [f_X8_adds, hc, hn, nI_1, tAdd, e, gd, lt_, rd, bd, ↓reduceIte, eq_self, and_self, true_and, and_true, not_false_eq_true, vi_t, cl_6, cl_20, cl_21, cl_40, cl_64, cl_80, cl_1280, Nat.reduceLT, tn_0, true_or, or_true, ab_f, yB_k, yB_r7, yB_r8, yB_r9, yB_r10, yB_r11, yB_r12, yB_r13, yB_r15, yB_r16, yB_r17, yB_r30, yB_r31, yB_r33, yB_r34, yB_r35, yB_r36, yB_i0, yB_i0_s, yB_i1, yB_i1_s, yB_i2, yB_i2_s, yB_i3, yB_i3_s, yB_i4, yB_i4_s, yB_i5, yB_i5_s, yB_i6, yB_i6_s, yB_i14, yB_i14_s, yB_i18, yB_i18_s, yB_i19, yB_i19_s, yB_i20, yB_i20_s, yB_i21, yB_i21_s, yB_i22, yB_i22_s, yB_i23, yB_i23_s, yB_i24, yB_i24_s, yB_i25, yB_i25_s, yB_i29, yB_i29_s, yB_i32, yB_i32_s, yB_l26, yB_l26_s, yB_l27, yB_l27_s, yB_l28, yB_l28_s, yLa_k, yLa_n, yLa_ik, yLa_ik_s, yAn_k, yAn_n, yAn_ik, yAn_ik_s, yMa_k, yMa_n, yMa_ik, yMa_ik_s, yUn_k, yUn_n, yUn_ik, yUn_ik_s, yDa_k, yDa_n, yDa_ik, yDa_ik_s, yTh_k, yTh_n, yTh_ik, yTh_ik_s, yHm_k, yHm_n, yHm_ik, yHm_ik_s, yML_k, yML_n, yML_ik, yML_ik_s, yMn_k, yMn_n, yMn_ik, yMn_ik_s, yMm_k, yMm_n, yMm_ik, yMm_ik_s, yFr_k, yFr_n, yFr_ik, yFr_ik_s, yFt_k, yFt_n, yFt_ik, yFt_ik_s, yCf_k, yCf_n, yCf_ik, yCf_ik_s, yCo_k, yCo_n, yCo_ik, yCo_ik_s, yCt_k, yCt_n, yCt_ik, yCt_ik_s, yCm_k, yCm_n, yCm_ik, yCm_ik_s, M_no6, M_no9, M_no17, M_no18, M_no19, M_nl3, M_nl4, M_nl5, sI_1, sI_2, sL_1, sL_2, false_and, and_false, Nat.reduceEqDiff, reduceCtorEq, ↓reduceIte, eq_self, and_self, true_and, and_true]
theorem tGo_br {σ : Sg} {g n : Nat} {v : Int32} (hgn : n ≠ g) : tGo (tBr0 σ g n) g v = tAdd (tGo (sI (sI σ 2 g (σ.1 2 g / (2 : Int32))) 3 g 0) g v) n (σ.1 0 g) (σ.1 1 g) (σ.1 2 g - σ.1 2 g / (2 : Int32)) 0 (σ.1 4 g) := by
  rw [tBr0_eq σ (fun e => hgn e.symm)]
  rw [tGo_sI (Or.inr (Or.inl ⟨by decide, hgn⟩)), tGo_sI (Or.inr (Or.inl ⟨by decide, hgn⟩)), tGo_sI (Or.inl (by decide)), tGo_sI (Or.inl (by decide)), tGo_sI (Or.inl (by decide)), tGo_sI (Or.inr (Or.inl ⟨by decide, hgn⟩)), tGo_sI (Or.inr (Or.inr (by decide)))]
  generalize tGo (sI (sI σ 2 g (σ.1 2 g / (2 : Int32))) 3 g 0) g v = τ
  refine Sg_ext (fun c k => ?_) (fun _ => rfl)
  simp only [tAdd, sI_1]
  grind
theorem c_go (υ : Sg) (k i : Nat) (v : Int32) (n : Nat) (h : n ≠ 9 ∧ n ≠ 10 ∧ n ≠ 11 ∧ n ≠ 12) : (tGo υ i v).1 10 n = υ.1 10 n := by
  obtain ⟨h9, h10, h11, h12⟩ := h
  unfold tGo
  split
  · split <;> simp only [sI_1, sI_2, sL_1, sL_2, false_and, and_false, Nat.reduceEqDiff, reduceCtorEq, ↓reduceIte, eq_self, and_self, true_and, and_true, h9, h10, h11, h12]
  · simp only [sI_1, sI_2, sL_1, sL_2, false_and, and_false, Nat.reduceEqDiff, reduceCtorEq, ↓reduceIte, eq_self, and_self, true_and, and_true, h9, h10, h11, h12]
/-- the reference's way: before the first go, between, behind -/
def tBrM (σ : Sg) (g n : Nat) : Sg := sI (sI (tGo (tGo (tBr0 σ g n) g (σ.1 0 g + -1)) n (σ.1 0 g + 1)) 22 n 1) 10 7 (σ.1 10 7 + 1)
theorem s_breaks2 {b n : Nat} {τ : Sg} {v : Int32} (hn : n < 80) : (bd (f_X8_goes b (nI n) v (memM b τ)) fun z16 => gd (z16.1 b = 8) <| gd (z16.1 b = 8) <| lt_ (ms_i z16 b 19 ((mm_i z16 b 19) + (1 : Int32))) fun M17 => some M17) = some (memM b (sI (tGo τ n v) 10 7 (τ.1 10 7 + 1))) := by
  rw [e_X8_goes hn]
  have h := c_go τ 0 n v 7 (by decide)
  generalize tGo τ n v = υ at h ⊢
  simp only [gd, lt_, rd, bd, ↓reduceIte, eq_self, and_self, true_and, and_true, not_false_eq_true, vi_t, cl_6, cl_20, cl_21, cl_40, cl_64, cl_80, cl_1280, Nat.reduceLT, tn_0, true_or, or_true, ab_f, yB_k, yB_r7, yB_r8, yB_r9, yB_r10, yB_r11, yB_r12, yB_r13, yB_r15, yB_r16, yB_r17, yB_r30, yB_r31, yB_r33, yB_r34, yB_r35, yB_r36, yB_i0, yB_i0_s, yB_i1, yB_i1_s, yB_i2, yB_i2_s, yB_i3, yB_i3_s, yB_i4, yB_i4_s, yB_i5, yB_i5_s, yB_i6, yB_i6_s, yB_i14, yB_i14_s, yB_i18, yB_i18_s, yB_i19, yB_i19_s, yB_i20, yB_i20_s, yB_i21, yB_i21_s, yB_i22, yB_i22_s, yB_i23, yB_i23_s, yB_i24, yB_i24_s, yB_i25, yB_i25_s, yB_i29, yB_i29_s, yB_i32, yB_i32_s, yB_l26, yB_l26_s, yB_l27, yB_l27_s, yB_l28, yB_l28_s, yLa_k, yLa_n, yLa_ik, yLa_ik_s, yAn_k, yAn_n, yAn_ik, yAn_ik_s, yMa_k, yMa_n, yMa_ik, yMa_ik_s, yUn_k, yUn_n, yUn_ik, yUn_ik_s, yDa_k, yDa_n, yDa_ik, yDa_ik_s, yTh_k, yTh_n, yTh_ik, yTh_ik_s, yHm_k, yHm_n, yHm_ik, yHm_ik_s, yML_k, yML_n, yML_ik, yML_ik_s, yMn_k, yMn_n, yMn_ik, yMn_ik_s, yMm_k, yMm_n, yMm_ik, yMm_ik_s, yFr_k, yFr_n, yFr_ik, yFr_ik_s, yFt_k, yFt_n, yFt_ik, yFt_ik_s, yCf_k, yCf_n, yCf_ik, yCf_ik_s, yCo_k, yCo_n, yCo_ik, yCo_ik_s, yCt_k, yCt_n, yCt_ik, yCt_ik_s, yCm_k, yCm_n, yCm_ik, yCm_ik_s, M_no6, M_no9, M_no17, M_no18, M_no19, M_nl3, M_nl4, M_nl5, h]
theorem s_breaks1 {b g n : Nat} {τ : Sg} {l m v : Int32} (hg : g < 80) (hn : n < 80) (hc : τ.1 10 0 = nI n) :
    (rd (mm_r (memM b τ) b 8) fun a11 => gd ((memM b τ).1 a11 = 9 ∧ vi_ (nI g) (mm_N (memM b τ) a11)) <| gd ((memM b τ).1 b = 8) <| rd (mm_r (memM b τ) b 11) fun a12 => gd ((memM b τ).1 a12 = 9 ∧ vi_ (nI g) (mm_N (memM b τ) a12)) <| gd ((memM b τ).1 b = 8) <| bd (f_X8_adds b l (mm_i (memM b τ) a11 (nI g).toNatClampNeg) m (0 : Int32) (mm_i (memM b τ) a12 (nI g).toNatClampNeg) (memM b τ)) fun z13 => gd (z13.1.1 b = 8) <| rd (mm_r z13.1 b 13) fun a14 => gd (z13.1.1 a14 = 10 ∧ vi_ z13.2 (mm_N z13.1 a14)) <| lt_ (ms_i z13.1 a14 (z13.2).toNatClampNeg (1 : Int32)) fun M15 => gd (M15.1 b = 8) <| bd (f_X8_goes b z13.2 v M15) fun z16 => gd (z16.1 b = 8) <| gd (z16.1 b = 8) <| lt_ (ms_i z16 b 19 ((mm_i z16 b 19) + (1 : Int32))) fun M17 => some M17) = some (memM b (sI (tGo (sI (tAdd τ n l (τ.1 1 g) m 0 (τ.1 4 g)) 22 n 1) n v) 10 7 ((sI (tAdd τ n l (τ.1 1 g) m 0 (τ.1 4 g)) 22 n 1).1 10 7 + 1))) := by
  simp only [yB_k, yB_r8, yB_r11, yAn_k, yAn_n, yDa_k, yDa_n, yAn_ik, yDa_ik, hg, gd, rd, ↓reduceIte, true_and, not_false_eq_true, vi_t, cl_80, Nat.reduceLT, e_X8_adds hn hc]
  generalize tAdd τ n l (τ.1 1 g) m 0 (τ.1 4 g) = υ
  have e : (bd (some (memM b υ, nI n)) fun z13 => gd (z13.1.1 b = 8) <| rd (mm_r z13.1 b 13) fun a14 => gd (z13.1.1 a14 = 10 ∧ vi_ z13.2 (mm_N z13.1 a14)) <| lt_ (ms_i z13.1 a14 (z13.2).toNatClampNeg (1 : Int32)) fun M15 => gd (M15.1 b = 8) <| bd (f_X8_goes b z13.2 v M15) fun z16 => gd (z16.1 b = 8) <| gd (z16.1 b = 8) <| lt_ (ms_i z16 b 19 ((mm_i z16 b 19) + (1 : Int32))) fun M17 => some M17) = bd (f_X8_goes b (nI n) v (memM b (sI υ 22 n 1))) fun z16 => gd (z16.1 b = 8) <| gd (z16.1 b = 8) <| lt_ (ms_i z16 b 19 ((mm_i z16 b 19) + (1 : Int32))) fun M17 => some M17 := by
    simp only [bd, yB_k, yB_r13, yHm_k, yHm_n, yHm_ik_s, hn, gd, rd, lt_, ↓reduceIte, true_and, not_false_eq_true, vi_t, cl_80, Nat.reduceLT]
  have e2 := s_breaks2 (b := b) (τ := sI υ 22 n 1) (v := v) hn
  rw [← e] at e2
  simp only [gd, rd, lt_] at e2 ⊢
  exact e2
theorem s_breaks0 {b g : Nat} {σ : Sg} (hg : g < 80) : f_X8_breaks b (nI g) (memM b σ) = bd (f_X8_goes b (nI g) (σ.1 0 g - 1) (memM b (sI (sI σ 2 g (σ.1 2 g / (2 : Int32))) 3 g 0))) fun z10 => gd (z10.1 b = 8) <| rd (mm_r z10 b 8) fun a11 => gd (z10.1 a11 = 9 ∧ vi_ (nI g) (mm_N z10 a11)) <| gd (z10.1 b = 8) <| rd (mm_r z10 b 11) fun a12 => gd (z10.1 a12 = 9 ∧ vi_ (nI g) (mm_N z10 a12)) <| gd (z10.1 b = 8) <| bd (f_X8_adds b (σ.1 0 g) (mm_i z10 a11 (nI g).toNatClampNeg) (σ.1 2 g - σ.1 2 g / (2 : Int32)) (0 : Int32) (mm_i z10 a12 (nI g).toNatClampNeg) z10) fun z13 => gd (z13.1.1 b = 8) <| rd (mm_r z13.1 b 13) fun a14 => gd (z13.1.1 a14 = 10 ∧ vi_ z13.2 (mm_N z13.1 a14)) <| lt_ (ms_i z13.1 a14 (z13.2).toNatClampNeg (1 : Int32)) fun M15 => gd (M15.1 b = 8) <| bd (f_X8_goes b z13.2 (σ.1 0 g + (1 : Int32)) M15) fun z16 => gd (z16.1 b = 8) <| gd (z16.1 b = 8) <| lt_ (ms_i z16 b 19 ((mm_i z16 b 19) + (1 : Int32))) fun M17 => some M17 := by
  have v80 : ((nI g).toNatClampNeg) = g := cl_80 hg
  have w80 : (¬ (nI g < 0 ∨ 80 ≤ (nI g).toNatClampNeg)) = True := vi_t hg (by decide)
  have g8 : ∀ τ : Sg, ∀ {α : Type} (k : Option α), gd ((memM b τ).1 b = 8) k = k := fun τ _ k => by unfold gd; rw [if_pos yB_k]
  have g7 : ∀ τ : Sg, ∀ {α : Type} (F : Nat → Option α), rd (mm_r (memM b τ) b 7) F = F (yLa b) := fun τ _ F => by rw [yB_r7]; rfl
  have g9 : ∀ τ : Sg, ∀ {α : Type} (F : Nat → Option α), rd (mm_r (memM b τ) b 9) F = F (yMa b) := fun τ _ F => by rw [yB_r9]; rfl
  have g10 : ∀ τ : Sg, ∀ {α : Type} (F : Nat → Option α), rd (mm_r (memM b τ) b 10) F = F (yUn b) := fun τ _ F => by rw [yB_r10]; rfl
  have i7 : ∀ τ : Sg, ∀ {α : Type} (k : Option α), gd ((memM b τ).1 (yLa b) = 9 ∧ vi_ (nI g) (mm_N (memM b τ) (yLa b))) k = k := fun τ _ k => by unfold gd; rw [if_pos ⟨yLa_k, by rw [yLa_n]; exact of_eq_true w80⟩]
  have i9 : ∀ τ : Sg, ∀ {α : Type} (k : Option α), gd ((memM b τ).1 (yMa b) = 9 ∧ vi_ (nI g) (mm_N (memM b τ) (yMa b))) k = k := fun τ _ k => by unfold gd; rw [if_pos ⟨yMa_k, by rw [yMa_n]; exact of_eq_true w80⟩]
  have i10 : ∀ τ : Sg, ∀ {α : Type} (k : Option α), gd ((memM b τ).1 (yUn b) = 9 ∧ vi_ (nI g) (mm_N (memM b τ) (yUn b))) k = k := fun τ _ k => by unfold gd; rw [if_pos ⟨yUn_k, by rw [yUn_n]; exact of_eq_true w80⟩]
  have j7 : ∀ τ : Sg, mm_i (memM b τ) (yLa b) (nI g).toNatClampNeg = τ.1 0 g := fun τ => by rw [v80]; exact yLa_ik hg
  have j9 : ∀ τ : Sg, mm_i (memM b τ) (yMa b) (nI g).toNatClampNeg = τ.1 2 g := fun τ => by rw [v80]; exact yMa_ik hg
  have s9 : ∀ τ : Sg, ∀ v, ms_i (memM b τ) (yMa b) (nI g).toNatClampNeg v = memM b (sI τ 2 g v) := fun τ v => by rw [v80]; exact yMa_ik_s hg
  have s10 : ∀ τ : Sg, ∀ v, ms_i (memM b τ) (yUn b) (nI g).toNatClampNeg v = memM b (sI τ 3 g v) := fun τ v => by rw [v80]; exact yUn_ik_s hg
  unfold f_X8_breaks
  rw [g8, g7, i7, j7]
  show (gd _ <| rd _ _) = _
  rw [g8, g9, i9, g8, g9, i9, j9]
  show (gd _ <| rd _ _) = _
  rw [g8, g9, i9, i9, j9, s9]
  show (gd _ <| rd _ _) = _
  rw [g8, g10, i10, s10]
  show (gd _ <| bd _ _) = _
  rw [g8]
theorem e_X8_breaks {b g n : Nat} {σ : Sg} (hg : g < 80) (hn : n < 80) (h1 : (g = n) = False) (h2 : (n = g) = False) (hc : σ.1 10 0 = nI n) :
    ∃ τ, f_X8_breaks b (nI g) (memM b σ) = some (memM b τ) ∧ τ.2 2 = σ.2 2 ∧ sL τ 2 (τ.2 2 + (car σ g - car τ g - car τ n)) = tBreak σ g n := by
  have hng : n ≠ g := fun q => by rw [h2] at q; exact q
  refine ⟨tBrM σ g n, ?_, ?_, ?_⟩
  · rw [s_breaks0 hg, e_X8_goes hg]
    have c1 : (tGo (sI (sI σ 2 g (σ.1 2 g / (2 : Int32))) 3 g 0) g (σ.1 0 g - 1)).1 1 g = σ.1 1 g := by rw [tGo_c _ _ _ 1 _ (by decide)]; simp only [sI_1, sI_2, sL_1, sL_2, false_and, and_false, Nat.reduceEqDiff, reduceCtorEq, ↓reduceIte, eq_self, and_self, true_and, and_true]
    have c4 : (tGo (sI (sI σ 2 g (σ.1 2 g / (2 : Int32))) 3 g 0) g (σ.1 0 g - 1)).1 4 g = σ.1 4 g := by rw [tGo_c _ _ _ 4 _ (by decide)]; simp only [sI_1, sI_2, sL_1, sL_2, false_and, and_false, Nat.reduceEqDiff, reduceCtorEq, ↓reduceIte, eq_self, and_self, true_and, and_true]
    have cn : (tGo (sI (sI σ 2 g (σ.1 2 g / (2 : Int32))) 3 g 0) g (σ.1 0 g - 1)).1 10 0 = nI n := by rw [c_go _ 0 _ _ 0 (by decide), ← hc]; simp only [sI_1, sI_2, sL_1, sL_2, false_and, and_false, Nat.reduceEqDiff, reduceCtorEq, ↓reduceIte, eq_self, and_self, true_and, and_true]
    have c7 : (tGo (sI (sI σ 2 g (σ.1 2 g / (2 : Int32))) 3 g 0) g (σ.1 0 g - 1)).1 10 7 = σ.1 10 7 := by rw [c_go _ 0 _ _ 7 (by decide)]; simp only [sI_1, sI_2, sL_1, sL_2, false_and, and_false, Nat.reduceEqDiff, reduceCtorEq, ↓reduceIte, eq_self, and_self, true_and, and_true]
    unfold tBrM
    rw [tGo_br hng]
    rw [Int32.sub_eq_add_neg] at c1 c4 cn c7 ⊢
    generalize tGo (sI (sI σ 2 g (σ.1 2 g / (2 : Int32))) 3 g 0) g (σ.1 0 g + -1) = τ at c1 c4 cn c7 ⊢
    rw [show ∀ (F : Mem → Option Mem), bd (some (memM b τ)) F = F (memM b τ) from fun _ => rfl]
    have g8 : ∀ {α : Type} (k : Option α), gd ((memM b τ).1 b = 8) k = k := fun k => by unfold gd; rw [if_pos yB_k]
    show (gd _ <| rd _ _) = _
    rw [g8, s_breaks1 hg hn cn, c1, c4, tGo_sI (Or.inl (by decide))]
    simp only [tAdd, sI_1, sI_2, sL_1, sL_2, false_and, and_false, Nat.reduceEqDiff, reduceCtorEq, ↓reduceIte, eq_self, and_self, true_and, and_true, c7]
  · simp only [tBrM, sI_2, tGo_l _ _ _ 2 (by decide), tBr0]
  · have c7 : (tGo (tGo (tBr0 σ g n) g (σ.1 0 g + -1)) n (σ.1 0 g + 1)).1 10 7 = σ.1 10 7 := by
      rw [c_go _ 0 _ _ 7 (by decide), c_go _ 0 _ _ 7 (by decide)]
      simp only [tBr0, sI_1, sI_2, sL_1, sL_2, false_and, and_false, Nat.reduceEqDiff, reduceCtorEq, ↓reduceIte, eq_self, and_self, true_and, and_true]
    unfold tBreak tBrM
    generalize tGo (tGo (tBr0 σ g n) g (σ.1 0 g + -1)) n (σ.1 0 g + 1) = υ at c7 ⊢
    unfold tBrE
    rw [car_sI _ 10 _ _ _ (by decide), car_sI _ 10 _ _ _ (by decide), car_sI _ 22 _ _ _ (by decide), car_sI _ 22 _ _ _ (by decide), c7, sL_sI, sI_sI_ne υ 1 _ (Or.inl (by decide))]
    rfl
