/-! ===== PURE: the law's meeting of two: stick, bump, break ===== -/
theorem i32_mul {x y : Int32} (h1 : -2147483648 ≤ x.toInt * y.toInt) (h2 : x.toInt * y.toInt < 2147483648) : (x * y).toInt = x.toInt * y.toInt := by
  rw [Int32.toInt_mul]
  exact Int.bmod_eq_of_le (by omega) (by omega)
/-- the mean by masses, in ints as the law has it -/
theorem bl_int {σ : Sg} {c i j : Nat} (hm : msP σ i j) (h1 : 0 ≤ (σ.1 c i).toInt ∧ (σ.1 c i).toInt ≤ 1000) (h2 : 0 ≤ (σ.1 c j).toInt ∧ (σ.1 c j).toInt ≤ 1000) : (σ.1 2 i * σ.1 c i + σ.1 2 j * σ.1 c j) / (σ.1 2 i + σ.1 2 j) = blS σ c i j := by
  have hs := msP_sum hm
  obtain ⟨m1, m2, m3⟩ := hm
  have p1 : 0 ≤ (σ.1 2 i).toInt * (σ.1 c i).toInt := Int.mul_nonneg (by omega) h1.1
  have p2 : 0 ≤ (σ.1 2 j).toInt * (σ.1 c j).toInt := Int.mul_nonneg (by omega) h2.1
  have q1 : (σ.1 2 i).toInt * (σ.1 c i).toInt ≤ (σ.1 2 i).toInt * 1000 := Int.mul_le_mul_of_nonneg_left h1.2 (by omega)
  have q2 : (σ.1 2 j).toInt * (σ.1 c j).toInt ≤ (σ.1 2 j).toInt * 1000 := Int.mul_le_mul_of_nonneg_left h2.2 (by omega)
  have e1 : ((σ.1 2 i).toInt64 * (σ.1 c i).toInt64 + (σ.1 2 j).toInt64 * (σ.1 c j).toInt64).toInt = (σ.1 2 i).toInt * (σ.1 c i).toInt + (σ.1 2 j).toInt * (σ.1 c j).toInt := by
    rw [Int64.toInt_add, Int64.toInt_mul, Int64.toInt_mul, i64_of, i64_of, i64_of, i64_of]
    rw [show ((σ.1 2 i).toInt * (σ.1 c i).toInt).bmod (2 ^ 64) = (σ.1 2 i).toInt * (σ.1 c i).toInt from Int.bmod_eq_of_le (by omega) (by omega)]
    rw [show ((σ.1 2 j).toInt * (σ.1 c j).toInt).bmod (2 ^ 64) = (σ.1 2 j).toInt * (σ.1 c j).toInt from Int.bmod_eq_of_le (by omega) (by omega)]
    exact Int.bmod_eq_of_le (by omega) (by omega)
  have d1 := Int.ediv_nonneg (a := (σ.1 2 i).toInt * (σ.1 c i).toInt + (σ.1 2 j).toInt * (σ.1 c j).toInt) (b := (σ.1 2 i).toInt + (σ.1 2 j).toInt) (by omega) (by omega)
  have d2 := Int.ediv_le_self (a := (σ.1 2 i).toInt * (σ.1 c i).toInt + (σ.1 2 j).toInt * (σ.1 c j).toInt) ((σ.1 2 i).toInt + (σ.1 2 j).toInt) (by omega)
  have e2 : (((σ.1 2 i).toInt64 * (σ.1 c i).toInt64 + (σ.1 2 j).toInt64 * (σ.1 c j).toInt64) / ((σ.1 2 i).toInt64 + (σ.1 2 j).toInt64)).toInt = ((σ.1 2 i).toInt * (σ.1 c i).toInt + (σ.1 2 j).toInt * (σ.1 c j).toInt) / ((σ.1 2 i).toInt + (σ.1 2 j).toInt) := by
    rw [Int64.toInt_div, e1, hs, Int.tdiv_eq_ediv_of_nonneg (by omega)]
    exact Int.bmod_eq_of_le (by omega) (by omega)
  have g1 : (σ.1 2 i * σ.1 c i).toInt = (σ.1 2 i).toInt * (σ.1 c i).toInt := i32_mul (by omega) (by omega)
  have g2 : (σ.1 2 j * σ.1 c j).toInt = (σ.1 2 j).toInt * (σ.1 c j).toInt := i32_mul (by omega) (by omega)
  have g3 : (σ.1 2 i * σ.1 c i + σ.1 2 j * σ.1 c j).toInt = (σ.1 2 i).toInt * (σ.1 c i).toInt + (σ.1 2 j).toInt * (σ.1 c j).toInt := by
    rw [i32_add' (by omega) (by omega), g1, g2]
  have g4 : (σ.1 2 i + σ.1 2 j).toInt = (σ.1 2 i).toInt + (σ.1 2 j).toInt := i32_add' (by omega) (by omega)
  apply Int32.toInt_inj.mp
  rw [Int32.toInt_div, g3, g4, Int.tdiv_eq_ediv_of_nonneg (by omega), Int.bmod_eq_of_le (by omega) (by omega)]
  unfold blS
  rw [Int64.toInt_toInt32, e2, Int.bmod_eq_of_le (by omega) (by omega)]
theorem ms_nz {σ : Sg} {i j : Nat} (hm : msP σ i j) : ¬ σ.1 2 i + σ.1 2 j = 0 := by
  obtain ⟨m1, m2, m3⟩ := hm
  have g4 : (σ.1 2 i + σ.1 2 j).toInt = (σ.1 2 i).toInt + (σ.1 2 j).toInt := i32_add' (by omega) (by omega)
  intro e
  rw [e] at g4
  have : (0 : Int32).toInt = 0 := rfl
  omega
theorem i64_s1 (h a n : Int64) : h + a - n = h + (a - n) := by grind
section M3
variable {b d nc ns L : Nat} {xs : Nat → Int32} {σ : Sg} {M : Mem} {a1 a3 : Int64} {n17 n18 w19 w20 w21 w22 w24 n26 : Int32}
theorem s_1575 {i j : Nat} {H : Int64} {k281 : _} {k937 : _} {k950 : _} {N : Mem} : f_L_law_b1575 L xs k281 k937 k950 b (yLa d) (yAn d) (yMa d) (yUn d) (yDa d) (yTh d) (yHm d) (yC d) (yM d) a1 H a3 n17 n18 w19 w20 w21 w22 w24 n26 (nI i) (nI j) M N nc ns = k950 b (yLa d) (yAn d) (yMa d) (yUn d) (yDa d) (yTh d) (yHm d) (yC d) (yM d) a1 H a3 n17 n18 w19 w20 w21 w22 w24 n26 (nI i) (nI (j + 1)) M N nc ns := by
  simp only [f_L_law_b1575, lt_, nI_1]
/-- sticking -/
theorem s_stick {i j g : Nat} {v29 v31 : Int32} {k281 : _} {k937 : _} {k950 : _} (hb : nc ≤ 600104 ∧ ns ≤ 7301314) (hi : i < 64) (hj : j < 64) (hij : (i = j) = False) (hji : (j = i) = False) (hm : msP σ i j) (l1 : lnOk (σ.1 0 i)) (l2 : lnOk (σ.1 0 j))
    (d1 : 0 ≤ (σ.1 4 i).toInt ∧ (σ.1 4 i).toInt ≤ 1000) (d2 : 0 ≤ (σ.1 4 j).toInt ∧ (σ.1 4 j).toInt ≤ 1000) (hc : ¬ σ.1 10 3 < v31) :
    f_L_law_b1135 L xs k281 k937 k950 (nI g) b (yLa d) (yAn d) (yMa d) (yUn d) (yDa d) (yTh d) (yHm d) (yC d) (yM d) a1 (σ.2 2 + (car σ i + car σ j)) a3 n17 n18 w19 w20 w21 w22 w24 n26 (nI i) (nI j) v29 v31 M (memM d σ) nc ns = k950 b (yLa d) (yAn d) (yMa d) (yUn d) (yDa d) (yTh d) (yHm d) (yC d) (yM d) a1 ((tStick σ i j).2 2) a3 n17 n18 w19 w20 w21 w22 w24 n26 (nI i) (nI (j + 1)) M (memM d (tStick σ i j)) nc ns := by
  have q1 := lnOk_iff.mp l1
  have q2 := lnOk_iff.mp l2
  have b0 := bl_int (c := 0) hm (by omega) (by omega)
  have b4 := bl_int (c := 4) hm d1 d2
  have nz := ms_nz hm
  have e : ∀ z : Int32, memM d (sI (sI (sI (sI (sI (sI σ 0 i (blS σ 0 i j)) 4 i (blS σ 4 i j)) 2 i (σ.1 2 i + σ.1 2 j)) 3 i z) 5 j 0) 10 6 (σ.1 10 6 + 1)) = memM d (sI (tStick σ i j) 3 i z) := fun z => by
    refine memM_congr (fun c k hc => ?_) (fun k h1 h2 => ?_) <;> simp only [tStick, sI_1, sL_1] <;> grind (splits := 40)
  have e0 : (tStick σ i j).1 3 i = if σ.1 3 j < σ.1 3 i then σ.1 3 j else σ.1 3 i := by simp only [tStick, sI_1, sI_2, sL_1, sL_2, false_and, and_false, Nat.reduceEqDiff, reduceCtorEq, ↓reduceIte, eq_self, and_self, true_and, and_true]
  have e9 : ∀ τ : Sg, sI τ 3 i (τ.1 3 i) = τ := fun τ => Sg_ext (fun c k => by rw [sI_1]; split <;> grind) (fun _ => rfl)
  have eh : (tStick σ i j).2 2 = σ.2 2 + (car σ i + car σ j - (σ.1 2 i + σ.1 2 j).toInt64 * (blS σ 0 i j + (20 : Int32)).toInt64) := by simp only [tStick, sI_1, sI_2, sL_1, sL_2, false_and, and_false, Nat.reduceEqDiff, reduceCtorEq, ↓reduceIte, eq_self, and_self, true_and, and_true]
  have mo1 : ∀ τ : Sg, f_L_moment (yLa d) (yMa d) (nI i) (memM d τ) = some (memM d τ, (τ.1 2 i).toInt64 * (τ.1 0 i + (20 : Int32)).toInt64) := fun τ => e_L_moment hi
  have hx : ∀ z : Int32, z = (if σ.1 3 j < σ.1 3 i then σ.1 3 j else σ.1 3 i) → memM d (sI (sI (sI (sI (sI (sI σ 0 i (blS σ 0 i j)) 4 i (blS σ 4 i j)) 2 i (σ.1 2 i + σ.1 2 j)) 3 i z) 5 j 0) 10 6 (σ.1 10 6 + 1)) = memM d (tStick σ i j) := fun z hz => by
    rw [e, hz, ← e0, e9]
  by_cases h : σ.1 3 i ≤ σ.1 3 j
  · have h3 : (if σ.1 3 j < σ.1 3 i then σ.1 3 j else σ.1 3 i) = σ.1 3 i := if_neg (by rw [lt_nle] at h; exact h)
    have e2 : memM d (sI (sI (sI (sI (sI σ 0 i (blS σ 0 i j)) 4 i (blS σ 4 i j)) 2 i (σ.1 2 i + σ.1 2 j)) 5 j 0) 10 6 (σ.1 10 6 + 1)) = memM d (tStick σ i j) := by
      rw [← hx _ h3.symm]
      refine memM_congr (fun c k hc => ?_) (fun k h1 h2 => ?_) <;> simp only [sI_1] <;> grind (splits := 40)
    rw [← e2, eh]
    simp only [f_L_law_b1135, f_L_law_b1249, s_1575, hi, hj, hij, hji, hc, hb, nz, b0, b4, h, mo1, gk_1, i64_s1, cs_1, cv_1, cs_2, cv_2, cs_3, cv_3, cs_4, cv_4, cs_5, cv_5, cs_6, cv_6, cs_7, cv_7, cs_8, cv_8, cs_9, cv_9, yC_k, yC_n, yC_i7, yC_i1, yC_i1_s, gd, lt_, rd, bd, ↓reduceIte, eq_self, and_self, true_and, and_true, not_false_eq_true, vi_t, cl_6, cl_20, cl_21, cl_40, cl_64, cl_80, cl_1280, Nat.reduceLT, tn_0, true_or, or_true, ab_f, yLa_k, yLa_n, yLa_ik, yLa_ik_s, yAn_k, yAn_n, yAn_ik, yAn_ik_s, yMa_k, yMa_n, yMa_ik, yMa_ik_s, yUn_k, yUn_n, yUn_ik, yUn_ik_s, yDa_k, yDa_n, yDa_ik, yDa_ik_s, yTh_k, yTh_n, yTh_ik, yTh_ik_s, yHm_k, yHm_n, yHm_ik, yHm_ik_s, yC_k, yC_n, yC_i1, yC_i1_s, yC_i2, yC_i2_s, yC_i3, yC_i3_s, yC_i4, yC_i4_s, yC_i5, yC_i5_s, yC_i6, yC_i6_s, yC_i7, yC_i7_s, yC_i8, yC_i8_s, yC_i9, yC_i9_s, yM_k, yM_n, yM_m0, yM_m0_s, yM_m1, yM_m1_s, yM_m2, yM_m2_s, M_no11, M_no12, M_no13, M_no14, M_no15, M_no16, M_no17, M_no18, M_no19, M_no20, M_no21, M_no22, M_nl0, M_nl1, M_nl2, M_nl3, M_nl4, M_nl5, sI_1, sI_2, sL_1, sL_2, false_and, and_false, Nat.reduceEqDiff, reduceCtorEq, ↓reduceIte, eq_self, and_self, true_and, and_true]
  · have h3 : (if σ.1 3 j < σ.1 3 i then σ.1 3 j else σ.1 3 i) = σ.1 3 j := if_pos (by rw [lt_nle] at h; exact Classical.not_not.mp h)
    rw [← hx _ h3.symm, eh]
    simp only [f_L_law_b1135, f_L_law_b1249, s_1575, hi, hj, hij, hji, hc, hb, nz, b0, b4, h, mo1, gk_1, i64_s1, cs_1, cv_1, cs_2, cv_2, cs_3, cv_3, cs_4, cv_4, cs_5, cv_5, cs_6, cv_6, cs_7, cv_7, cs_8, cv_8, cs_9, cv_9, yC_k, yC_n, yC_i7, yC_i1, yC_i1_s, gd, lt_, rd, bd, ↓reduceIte, eq_self, and_self, true_and, and_true, not_false_eq_true, vi_t, cl_6, cl_20, cl_21, cl_40, cl_64, cl_80, cl_1280, Nat.reduceLT, tn_0, true_or, or_true, ab_f, yLa_k, yLa_n, yLa_ik, yLa_ik_s, yAn_k, yAn_n, yAn_ik, yAn_ik_s, yMa_k, yMa_n, yMa_ik, yMa_ik_s, yUn_k, yUn_n, yUn_ik, yUn_ik_s, yDa_k, yDa_n, yDa_ik, yDa_ik_s, yTh_k, yTh_n, yTh_ik, yTh_ik_s, yHm_k, yHm_n, yHm_ik, yHm_ik_s, yC_k, yC_n, yC_i1, yC_i1_s, yC_i2, yC_i2_s, yC_i3, yC_i3_s, yC_i4, yC_i4_s, yC_i5, yC_i5_s, yC_i6, yC_i6_s, yC_i7, yC_i7_s, yC_i8, yC_i8_s, yC_i9, yC_i9_s, yM_k, yM_n, yM_m0, yM_m0_s, yM_m1, yM_m1_s, yM_m2, yM_m2_s, M_no11, M_no12, M_no13, M_no14, M_no15, M_no16, M_no17, M_no18, M_no19, M_no20, M_no21, M_no22, M_nl0, M_nl1, M_nl2, M_nl3, M_nl4, M_nl5, sI_1, sI_2, sL_1, sL_2, false_and, and_false, Nat.reduceEqDiff, reduceCtorEq, ↓reduceIte, eq_self, and_self, true_and, and_true]
end M3
