/-! ===== PURE: .. the reference's bump ===== -/
/-- unrest first, then the two go (any order: they are two) -/
def tPar (σ : Sg) (i j : Nat) : Sg := sI (sI σ 3 i (σ.1 3 i * σ.1 10 5 / (100 : Int32))) 3 j (σ.1 3 j * σ.1 10 5 / (100 : Int32))
theorem s_parts31 {b i j u v : Nat} {σ : Sg} (hi : i < 80) (hj : j < 80) (hu : u < 80) (hv : v < 80) (hij : (i = j) = False) (hji : (j = i) = False) (huv : v ≠ u) :
    f_X8_parts_b31 (nI v) b (nI i) (nI j) (nI u) (memM b σ) = some (memM b (sI (tGo (tGo (tPar σ i j) u (σ.1 0 u - 1)) v (σ.1 0 v + 1)) 10 8 (σ.1 10 8 + 1))) := by
  have e : f_X8_parts_b31 (nI v) b (nI i) (nI j) (nI u) (memM b σ) = bd (f_X8_goes b (nI u) (σ.1 0 u - 1) (memM b (tPar σ i j))) fun z8 => gd (z8.1 b = 8) <| rd (mm_r z8 b 7) fun a9 => gd (z8.1 a9 = 9 ∧ vi_ (nI v) (mm_N z8 a9)) <| gd (z8.1 b = 8) <| bd (f_X8_goes b (nI v) ((mm_i z8 a9 (nI v).toNatClampNeg) + (1 : Int32)) z8) fun z10 => gd (z10.1 b = 8) <| gd (z10.1 b = 8) <| lt_ (ms_i z10 b 20 ((mm_i z10 b 20) + (1 : Int32))) fun M11 => some M11 := by
    simp only [f_X8_parts_b31, hi, hj, hu, hij, hji, tPar, gd, lt_, rd, ↓reduceIte, eq_self, and_self, true_and, and_true, not_false_eq_true, vi_t, cl_80, Nat.reduceLT, yB_k, yB_r7, yB_r8, yB_r9, yB_r10, yB_r11, yB_r12, yB_r13, yB_r15, yB_r16, yB_r17, yB_r30, yB_r31, yB_r33, yB_r34, yB_r35, yB_r36, yB_i0, yB_i0_s, yB_i1, yB_i1_s, yB_i2, yB_i2_s, yB_i3, yB_i3_s, yB_i4, yB_i4_s, yB_i5, yB_i5_s, yB_i6, yB_i6_s, yB_i14, yB_i14_s, yB_i18, yB_i18_s, yB_i19, yB_i19_s, yB_i20, yB_i20_s, yB_i21, yB_i21_s, yB_i22, yB_i22_s, yB_i23, yB_i23_s, yB_i24, yB_i24_s, yB_i25, yB_i25_s, yB_i29, yB_i29_s, yB_i32, yB_i32_s, yB_l26, yB_l26_s, yB_l27, yB_l27_s, yB_l28, yB_l28_s, yLa_k, yLa_n, yLa_ik, yLa_ik_s, yAn_k, yAn_n, yAn_ik, yAn_ik_s, yMa_k, yMa_n, yMa_ik, yMa_ik_s, yUn_k, yUn_n, yUn_ik, yUn_ik_s, yDa_k, yDa_n, yDa_ik, yDa_ik_s, yTh_k, yTh_n, yTh_ik, yTh_ik_s, yHm_k, yHm_n, yHm_ik, yHm_ik_s, yML_k, yML_n, yML_ik, yML_ik_s, yMn_k, yMn_n, yMn_ik, yMn_ik_s, yMm_k, yMm_n, yMm_ik, yMm_ik_s, yFr_k, yFr_n, yFr_ik, yFr_ik_s, yFt_k, yFt_n, yFt_ik, yFt_ik_s, yCf_k, yCf_n, yCf_ik, yCf_ik_s, yCo_k, yCo_n, yCo_ik, yCo_ik_s, yCt_k, yCt_n, yCt_ik, yCt_ik_s, yCm_k, yCm_n, yCm_ik, yCm_ik_s, M_no6, M_no9, M_no17, M_no18, M_no19, M_nl3, M_nl4, M_nl5, sI_1, sI_2, sL_1, sL_2, false_and, and_false, Nat.reduceEqDiff, reduceCtorEq, ↓reduceIte, eq_self, and_self, true_and, and_true]
  rw [e, e_X8_goes hu]
  have e8 : (tGo (tPar σ i j) u (σ.1 0 u - 1)).1 10 8 = σ.1 10 8 := by
    unfold tGo
    split
    · split <;> simp only [tPar, sI_1, sI_2, sL_1, sL_2, false_and, and_false, Nat.reduceEqDiff, reduceCtorEq, ↓reduceIte, eq_self, and_self, true_and, and_true]
    · simp only [tPar, sI_1, sI_2, sL_1, sL_2, false_and, and_false, Nat.reduceEqDiff, reduceCtorEq, ↓reduceIte, eq_self, and_self, true_and, and_true]
  have e0 : (tGo (tPar σ i j) u (σ.1 0 u - 1)).1 0 v = σ.1 0 v := by
    rw [tGo_0 huv]
    simp only [tPar, sI_1, sI_2, sL_1, sL_2, false_and, and_false, Nat.reduceEqDiff, reduceCtorEq, ↓reduceIte, eq_self, and_self, true_and, and_true]
  generalize tGo (tPar σ i j) u (σ.1 0 u - 1) = τ at e8 e0 ⊢
  simp only [bd, gd, rd, e_X8_goes hv, hv, ↓reduceIte, eq_self, and_self, true_and, and_true, not_false_eq_true, vi_t, cl_80, Nat.reduceLT, yB_k, yB_r7, yB_r8, yB_r9, yB_r10, yB_r11, yB_r12, yB_r13, yB_r15, yB_r16, yB_r17, yB_r30, yB_r31, yB_r33, yB_r34, yB_r35, yB_r36, yB_i0, yB_i0_s, yB_i1, yB_i1_s, yB_i2, yB_i2_s, yB_i3, yB_i3_s, yB_i4, yB_i4_s, yB_i5, yB_i5_s, yB_i6, yB_i6_s, yB_i14, yB_i14_s, yB_i18, yB_i18_s, yB_i19, yB_i19_s, yB_i20, yB_i20_s, yB_i21, yB_i21_s, yB_i22, yB_i22_s, yB_i23, yB_i23_s, yB_i24, yB_i24_s, yB_i25, yB_i25_s, yB_i29, yB_i29_s, yB_i32, yB_i32_s, yB_l26, yB_l26_s, yB_l27, yB_l27_s, yB_l28, yB_l28_s, yLa_k, yLa_n, yLa_ik, yLa_ik_s, yAn_k, yAn_n, yAn_ik, yAn_ik_s, yMa_k, yMa_n, yMa_ik, yMa_ik_s, yUn_k, yUn_n, yUn_ik, yUn_ik_s, yDa_k, yDa_n, yDa_ik, yDa_ik_s, yTh_k, yTh_n, yTh_ik, yTh_ik_s, yHm_k, yHm_n, yHm_ik, yHm_ik_s, yML_k, yML_n, yML_ik, yML_ik_s, yMn_k, yMn_n, yMn_ik, yMn_ik_s, yMm_k, yMm_n, yMm_ik, yMm_ik_s, yFr_k, yFr_n, yFr_ik, yFr_ik_s, yFt_k, yFt_n, yFt_ik, yFt_ik_s, yCf_k, yCf_n, yCf_ik, yCf_ik_s, yCo_k, yCo_n, yCo_ik, yCo_ik_s, yCt_k, yCt_n, yCt_ik, yCt_ik_s, yCm_k, yCm_n, yCm_ik, yCm_ik_s, M_no6, M_no9, M_no17, M_no18, M_no19, M_nl3, M_nl4, M_nl5, e0]
  have e9 : (tGo τ v (σ.1 0 v + 1)).1 10 8 = σ.1 10 8 := by
    rw [← e8]
    unfold tGo
    split
    · split <;> simp only [sI_1, sI_2, sL_1, sL_2, false_and, and_false, Nat.reduceEqDiff, reduceCtorEq, ↓reduceIte, eq_self, and_self, true_and, and_true]
    · simp only [sI_1, sI_2, sL_1, sL_2, false_and, and_false, Nat.reduceEqDiff, reduceCtorEq, ↓reduceIte, eq_self, and_self, true_and, and_true]
  generalize tGo τ v (σ.1 0 v + 1) = υ at e9 ⊢
  simp only [gd, lt_, rd, bd, ↓reduceIte, eq_self, and_self, true_and, and_true, not_false_eq_true, vi_t, cl_6, cl_20, cl_21, cl_40, cl_64, cl_80, cl_1280, Nat.reduceLT, tn_0, true_or, or_true, ab_f, yB_k, yB_r7, yB_r8, yB_r9, yB_r10, yB_r11, yB_r12, yB_r13, yB_r15, yB_r16, yB_r17, yB_r30, yB_r31, yB_r33, yB_r34, yB_r35, yB_r36, yB_i0, yB_i0_s, yB_i1, yB_i1_s, yB_i2, yB_i2_s, yB_i3, yB_i3_s, yB_i4, yB_i4_s, yB_i5, yB_i5_s, yB_i6, yB_i6_s, yB_i14, yB_i14_s, yB_i18, yB_i18_s, yB_i19, yB_i19_s, yB_i20, yB_i20_s, yB_i21, yB_i21_s, yB_i22, yB_i22_s, yB_i23, yB_i23_s, yB_i24, yB_i24_s, yB_i25, yB_i25_s, yB_i29, yB_i29_s, yB_i32, yB_i32_s, yB_l26, yB_l26_s, yB_l27, yB_l27_s, yB_l28, yB_l28_s, yLa_k, yLa_n, yLa_ik, yLa_ik_s, yAn_k, yAn_n, yAn_ik, yAn_ik_s, yMa_k, yMa_n, yMa_ik, yMa_ik_s, yUn_k, yUn_n, yUn_ik, yUn_ik_s, yDa_k, yDa_n, yDa_ik, yDa_ik_s, yTh_k, yTh_n, yTh_ik, yTh_ik_s, yHm_k, yHm_n, yHm_ik, yHm_ik_s, yML_k, yML_n, yML_ik, yML_ik_s, yMn_k, yMn_n, yMn_ik, yMn_ik_s, yMm_k, yMm_n, yMm_ik, yMm_ik_s, yFr_k, yFr_n, yFr_ik, yFr_ik_s, yFt_k, yFt_n, yFt_ik, yFt_ik_s, yCf_k, yCf_n, yCf_ik, yCf_ik_s, yCo_k, yCo_n, yCo_ik, yCo_ik_s, yCt_k, yCt_n, yCt_ik, yCt_ik_s, yCm_k, yCm_n, yCm_ik, yCm_ik_s, M_no6, M_no9, M_no17, M_no18, M_no19, M_nl3, M_nl4, M_nl5, e9]
theorem nI_inj {a b : Nat} (ha : a < 80) (hb : b < 80) : (nI a = nI b) = (a = b) := propext (nI_eq (by omega) (by omega))
theorem tGo_un {σ : Sg} {i k : Nat} {v x : Int32} : tGo (sI σ 3 k x) i v = sI (tGo σ i v) 3 k x := tGo_sI (Or.inl (by decide))
theorem lt_nle {x y : Int32} : (x ≤ y) = ¬ y < x := by
  rw [Int32.le_iff_toInt_le, Int32.lt_iff_toInt_lt]
  exact propext ⟨fun h => by omega, fun h => by omega⟩
theorem e_X8_parts {b i j : Nat} {σ : Sg} (hi : i < 80) (hj : j < 80) (hij : (i = j) = False) (hji : (j = i) = False) :
    ∃ τ, f_X8_parts b (nI i) (nI j) (memM b σ) = some (memM b τ) ∧ sL τ 2 (τ.2 2 + (car σ i + car σ j - car τ i - car τ j)) = tBump σ i j ∧ τ.2 2 = σ.2 2 := by
  have hne : i ≠ j := fun e => by rw [hij] at e; exact e
  have c5 : ∀ k v, (tGo σ k v).1 10 5 = σ.1 10 5 := fun k v => by
    unfold tGo
    split
    · split <;> simp only [sI_1, sI_2, sL_1, sL_2, false_and, and_false, Nat.reduceEqDiff, reduceCtorEq, ↓reduceIte, eq_self, and_self, true_and, and_true]
    · simp only [sI_1, sI_2, sL_1, sL_2, false_and, and_false, Nat.reduceEqDiff, reduceCtorEq, ↓reduceIte, eq_self, and_self, true_and, and_true]
  have c8 : ∀ υ : Sg, ∀ k v, (tGo υ k v).1 10 8 = υ.1 10 8 := fun υ k v => by
    unfold tGo
    split
    · split <;> simp only [sI_1, sI_2, sL_1, sL_2, false_and, and_false, Nat.reduceEqDiff, reduceCtorEq, ↓reduceIte, eq_self, and_self, true_and, and_true]
    · simp only [sI_1, sI_2, sL_1, sL_2, false_and, and_false, Nat.reduceEqDiff, reduceCtorEq, ↓reduceIte, eq_self, and_self, true_and, and_true]
  have c5' : ∀ υ : Sg, ∀ k v, (tGo υ k v).1 10 5 = υ.1 10 5 := fun υ k v => by
    unfold tGo
    split
    · split <;> simp only [sI_1, sI_2, sL_1, sL_2, false_and, and_false, Nat.reduceEqDiff, reduceCtorEq, ↓reduceIte, eq_self, and_self, true_and, and_true]
    · simp only [sI_1, sI_2, sL_1, sL_2, false_and, and_false, Nat.reduceEqDiff, reduceCtorEq, ↓reduceIte, eq_self, and_self, true_and, and_true]
  by_cases h : σ.1 0 j < σ.1 0 i
  · refine ⟨sI (tGo (tGo (tPar σ i j) j (σ.1 0 j - 1)) i (σ.1 0 i + 1)) 10 8 (σ.1 10 8 + 1), ?_, ?_, ?_⟩
    · have h2 : (σ.1 0 i ≤ σ.1 0 j) = False := by rw [lt_nle]; exact eq_false (fun q => q h)
      simp only [f_X8_parts, f_X8_parts_b20, hi, hj, h2, nI_inj hj hi, hji, s_parts31 hi hj hj hi hij hji hne, gd, lt_, rd, bd, ↓reduceIte, eq_self, and_self, true_and, and_true, not_false_eq_true, vi_t, cl_6, cl_20, cl_21, cl_40, cl_64, cl_80, cl_1280, Nat.reduceLT, tn_0, true_or, or_true, ab_f, yB_k, yB_r7, yB_r8, yB_r9, yB_r10, yB_r11, yB_r12, yB_r13, yB_r15, yB_r16, yB_r17, yB_r30, yB_r31, yB_r33, yB_r34, yB_r35, yB_r36, yB_i0, yB_i0_s, yB_i1, yB_i1_s, yB_i2, yB_i2_s, yB_i3, yB_i3_s, yB_i4, yB_i4_s, yB_i5, yB_i5_s, yB_i6, yB_i6_s, yB_i14, yB_i14_s, yB_i18, yB_i18_s, yB_i19, yB_i19_s, yB_i20, yB_i20_s, yB_i21, yB_i21_s, yB_i22, yB_i22_s, yB_i23, yB_i23_s, yB_i24, yB_i24_s, yB_i25, yB_i25_s, yB_i29, yB_i29_s, yB_i32, yB_i32_s, yB_l26, yB_l26_s, yB_l27, yB_l27_s, yB_l28, yB_l28_s, yLa_k, yLa_n, yLa_ik, yLa_ik_s, yAn_k, yAn_n, yAn_ik, yAn_ik_s, yMa_k, yMa_n, yMa_ik, yMa_ik_s, yUn_k, yUn_n, yUn_ik, yUn_ik_s, yDa_k, yDa_n, yDa_ik, yDa_ik_s, yTh_k, yTh_n, yTh_ik, yTh_ik_s, yHm_k, yHm_n, yHm_ik, yHm_ik_s, yML_k, yML_n, yML_ik, yML_ik_s, yMn_k, yMn_n, yMn_ik, yMn_ik_s, yMm_k, yMm_n, yMm_ik, yMm_ik_s, yFr_k, yFr_n, yFr_ik, yFr_ik_s, yFt_k, yFt_n, yFt_ik, yFt_ik_s, yCf_k, yCf_n, yCf_ik, yCf_ik_s, yCo_k, yCo_n, yCo_ik, yCo_ik_s, yCt_k, yCt_n, yCt_ik, yCt_ik_s, yCm_k, yCm_n, yCm_ik, yCm_ik_s, M_no6, M_no9, M_no17, M_no18, M_no19, M_nl3, M_nl4, M_nl5]
    · unfold tBump
      rw [if_pos h, tGo_comm hne, ← Int32.sub_eq_add_neg]
      simp only [tPar, tGo_un, tBuE, sI_1, c8, c5', car_sI _ 3 _ _ _ (by decide : (3:Nat) ≠ 0 ∧ (3:Nat) ≠ 2), car_sI _ 10 _ _ _ (by decide : (10:Nat) ≠ 0 ∧ (10:Nat) ≠ 2), tGo_c _ _ _ 3 _ (by decide), sI_1, sI_2, sL_1, sL_2, false_and, and_false, Nat.reduceEqDiff, reduceCtorEq, ↓reduceIte, eq_self, and_self, true_and, and_true]
    · simp only [sI_2, tGo_l _ _ _ 2 (by decide), tPar]
  · refine ⟨sI (tGo (tGo (tPar σ i j) i (σ.1 0 i - 1)) j (σ.1 0 j + 1)) 10 8 (σ.1 10 8 + 1), ?_, ?_, ?_⟩
    · have h2 : (σ.1 0 i ≤ σ.1 0 j) = True := by rw [lt_nle]; exact eq_true h
      simp only [f_X8_parts, f_X8_parts_b20, hi, hj, h2, s_parts31 hi hj hi hj hij hji hne.symm, gd, lt_, rd, bd, ↓reduceIte, eq_self, and_self, true_and, and_true, not_false_eq_true, vi_t, cl_6, cl_20, cl_21, cl_40, cl_64, cl_80, cl_1280, Nat.reduceLT, tn_0, true_or, or_true, ab_f, yB_k, yB_r7, yB_r8, yB_r9, yB_r10, yB_r11, yB_r12, yB_r13, yB_r15, yB_r16, yB_r17, yB_r30, yB_r31, yB_r33, yB_r34, yB_r35, yB_r36, yB_i0, yB_i0_s, yB_i1, yB_i1_s, yB_i2, yB_i2_s, yB_i3, yB_i3_s, yB_i4, yB_i4_s, yB_i5, yB_i5_s, yB_i6, yB_i6_s, yB_i14, yB_i14_s, yB_i18, yB_i18_s, yB_i19, yB_i19_s, yB_i20, yB_i20_s, yB_i21, yB_i21_s, yB_i22, yB_i22_s, yB_i23, yB_i23_s, yB_i24, yB_i24_s, yB_i25, yB_i25_s, yB_i29, yB_i29_s, yB_i32, yB_i32_s, yB_l26, yB_l26_s, yB_l27, yB_l27_s, yB_l28, yB_l28_s, yLa_k, yLa_n, yLa_ik, yLa_ik_s, yAn_k, yAn_n, yAn_ik, yAn_ik_s, yMa_k, yMa_n, yMa_ik, yMa_ik_s, yUn_k, yUn_n, yUn_ik, yUn_ik_s, yDa_k, yDa_n, yDa_ik, yDa_ik_s, yTh_k, yTh_n, yTh_ik, yTh_ik_s, yHm_k, yHm_n, yHm_ik, yHm_ik_s, yML_k, yML_n, yML_ik, yML_ik_s, yMn_k, yMn_n, yMn_ik, yMn_ik_s, yMm_k, yMm_n, yMm_ik, yMm_ik_s, yFr_k, yFr_n, yFr_ik, yFr_ik_s, yFt_k, yFt_n, yFt_ik, yFt_ik_s, yCf_k, yCf_n, yCf_ik, yCf_ik_s, yCo_k, yCo_n, yCo_ik, yCo_ik_s, yCt_k, yCt_n, yCt_ik, yCt_ik_s, yCm_k, yCm_n, yCm_ik, yCm_ik_s, M_no6, M_no9, M_no17, M_no18, M_no19, M_nl3, M_nl4, M_nl5]
    · unfold tBump
      rw [if_neg h, ← Int32.sub_eq_add_neg]
      simp only [tPar, tGo_un, tBuE, sI_1, c8, c5', car_sI _ 3 _ _ _ (by decide : (3:Nat) ≠ 0 ∧ (3:Nat) ≠ 2), car_sI _ 10 _ _ _ (by decide : (10:Nat) ≠ 0 ∧ (10:Nat) ≠ 2), tGo_c _ _ _ 3 _ (by decide), sI_1, sI_2, sL_1, sL_2, false_and, and_false, Nat.reduceEqDiff, reduceCtorEq, ↓reduceIte, eq_self, and_self, true_and, and_true]
    · simp only [sI_2, tGo_l _ _ _ 2 (by decide), tPar]
