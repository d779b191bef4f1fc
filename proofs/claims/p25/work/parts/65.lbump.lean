/-! ===== PURE: the law's meeting: bump ===== -/
theorem go_2 {τ : Sg} {g k : Nat} {v : Int32} : (tGo τ g v).1 2 k = τ.1 2 k := tGo_c _ _ _ 2 _ (by decide)
theorem go_3 {τ : Sg} {g k : Nat} {v : Int32} : (tGo τ g v).1 3 k = τ.1 3 k := tGo_c _ _ _ 3 _ (by decide)
theorem go_108 {τ : Sg} {g : Nat} {v : Int32} : (tGo τ g v).1 10 8 = τ.1 10 8 := c_go _ 0 _ _ 8 (by decide)
theorem go_107 {τ : Sg} {g : Nat} {v : Int32} : (tGo τ g v).1 10 7 = τ.1 10 7 := c_go _ 0 _ _ 7 (by decide)
theorem go_105 {τ : Sg} {g : Nat} {v : Int32} : (tGo τ g v).1 10 5 = τ.1 10 5 := c_go _ 0 _ _ 5 (by decide)
theorem go_l2 {τ : Sg} {g : Nat} {v : Int32} : (tGo τ g v).2 2 = τ.2 2 := tGo_l _ _ _ 2 (by decide)
theorem go_0 {τ : Sg} {g : Nat} {v : Int32} : (tGo τ g v).1 0 g = v := by
  unfold tGo
  split
  · split <;> simp only [sI_1, sI_2, sL_1, sL_2, false_and, and_false, Nat.reduceEqDiff, reduceCtorEq, ↓reduceIte, eq_self, and_self, true_and, and_true]
  · simp only [sI_1, sI_2, sL_1, sL_2, false_and, and_false, Nat.reduceEqDiff, reduceCtorEq, ↓reduceIte, eq_self, and_self, true_and, and_true]
/-- the two go, whichever first; unrest ahead or behind -/
theorem bu_mem {d : Nat} {σ : Sg} {i j : Nat} {v w : Int32} {m0 : Int64} (hij : i ≠ j) : memM d (sI (tGo (tGo (sI (sI σ 3 i (σ.1 3 i * σ.1 10 5 / (100 : Int32))) 3 j (σ.1 3 j * σ.1 10 5 / (100 : Int32))) i v) j w) 10 8 (σ.1 10 8 + 1)) = memM d (tBuE (tGo (tGo σ i v) j w) i j m0) := by
  have hji : j ≠ i := fun e => hij e.symm
  rw [tGo_un, tGo_un, tGo_un, tGo_un]
  unfold tBuE
  rw [go_3, go_3, go_105, go_105, go_108, go_108]
  refine memM_congr (fun c k hc => ?_) (fun k h1 h2 => ?_) <;> simp only [sI_1, sL_1, go_3, go_105, hji, and_false, if_false, Nat.reduceEqDiff, false_and]
theorem bu_car {σ : Sg} {i j : Nat} {v w : Int32} {m0 : Int64} (hij : i ≠ j) : (tBuE (tGo (tGo σ i v) j w) i j m0).2 2 = σ.2 2 + (m0 - (σ.1 2 i).toInt64 * (v + (20 : Int32)).toInt64 - (σ.1 2 j).toInt64 * (w + (20 : Int32)).toInt64) := by
  simp only [tBuE, sL_2, sI_2, if_true, go_l2, car, go_2, go_0, tGo_0 hij]
section M4
variable {b d nc ns L : Nat} {xs : Nat → Int32} {σ : Sg} {M : Mem} {a1 a3 : Int64} {n17 n18 w19 w20 w21 w22 w24 n26 : Int32}
theorem i64_b3 (h m a c : Int64) : h + m - (a + c) = h + (m - a - c) := by grind
theorem i64_b4 (h m a c : Int64) : h + m - (a + c) = h + (m - c - a) := by grind
theorem s_bump {i j : Nat} {k281 : _} {k937 : _} {k950 : _} (hb : nc ≤ 600104 ∧ ns ≤ 7301314) (hi : i < 64) (hj : j < 64) (hij : i ≠ j) (l1 : lnOk (σ.1 0 i)) (l2 : lnOk (σ.1 0 j)) :
    f_L_law_b1449 L xs k281 k937 k950 b (yLa d) (yAn d) (yMa d) (yUn d) (yDa d) (yTh d) (yHm d) (yC d) (yM d) a1 (σ.2 2 + (car σ i + car σ j)) a3 n17 n18 w19 w20 w21 w22 w24 n26 (nI i) (nI j) (σ.1 0 j - σ.1 0 i) M (memM d σ) nc ns = k950 b (yLa d) (yAn d) (yMa d) (yUn d) (yDa d) (yTh d) (yHm d) (yC d) (yM d) a1 ((tBump σ i j).2 2) a3 n17 n18 w19 w20 w21 w22 w24 n26 (nI i) (nI (j + 1)) M (memM d (tBump σ i j)) nc ns := by
  have hji : j ≠ i := fun e => hij e.symm
  have q1 := lnOk_iff.mp l1
  have q2 := lnOk_iff.mp l2
  have hs : (σ.1 0 j - σ.1 0 i).toInt = (σ.1 0 j).toInt - (σ.1 0 i).toInt := i32_sub (by omega) (by omega)
  have hd : (0 ≤ σ.1 0 j - σ.1 0 i) = ¬ (σ.1 0 j < σ.1 0 i) := by
    rw [Int32.le_iff_toInt_le, Int32.lt_iff_toInt_lt, hs]
    have z : (0 : Int32).toInt = 0 := rfl
    rw [z]
    exact propext ⟨fun h => by omega, fun h => by omega⟩
  have nji : (nI j = nI i) = False := by rw [nI_inj (by omega) (by omega)]; exact fF hji
  by_cases h : σ.1 0 j < σ.1 0 i
  · have et : tBump σ i j = tBuE (tGo (tGo σ i (σ.1 0 i + 1)) j (σ.1 0 j + -1)) i j (car σ i + car σ j) := if_pos h
    have em := bu_mem (d := d) (σ := σ) (v := σ.1 0 i + 1) (w := σ.1 0 j + -1) (m0 := car σ i + car σ j) hij
    rw [tGo_comm hij] at em
    have ec := bu_car (σ := σ) (v := σ.1 0 i + 1) (w := σ.1 0 j + -1) (m0 := car σ i + car σ j) hij
    rw [et, ec, ← em, ← i64_b4]
    have g0 : ∀ (τ : Sg) (v : Int32), (tGo τ j v).1 0 i = τ.1 0 i := fun τ v => tGo_0 hij
    simp only [f_L_law_b1449, f_L_law_b1461, f_L_law_b1542, f_L_law_b1557, s_1575, hd, h, hi, hj, hij, hji, nji, hb, g0, go_2, go_108, e_L_comes hj (vOk_dn l2), e_L_comes hi (vOk_up l1), gk_1, gk_M, sub_1, not_true_eq_false, cs_1, cv_1, cs_2, cv_2, cs_3, cv_3, cs_4, cv_4, cs_5, cv_5, cs_6, cv_6, cs_7, cv_7, cs_8, cv_8, cs_9, cv_9, yC_k, yC_n, yC_i9, yC_i3, yC_i3_s, gd, lt_, rd, bd, ↓reduceIte, eq_self, and_self, true_and, and_true, not_false_eq_true, vi_t, cl_6, cl_20, cl_21, cl_40, cl_64, cl_80, cl_1280, Nat.reduceLT, tn_0, true_or, or_true, ab_f, yLa_k, yLa_n, yLa_ik, yLa_ik_s, yAn_k, yAn_n, yAn_ik, yAn_ik_s, yMa_k, yMa_n, yMa_ik, yMa_ik_s, yUn_k, yUn_n, yUn_ik, yUn_ik_s, yDa_k, yDa_n, yDa_ik, yDa_ik_s, yTh_k, yTh_n, yTh_ik, yTh_ik_s, yHm_k, yHm_n, yHm_ik, yHm_ik_s, yC_k, yC_n, yC_i1, yC_i1_s, yC_i2, yC_i2_s, yC_i3, yC_i3_s, yC_i4, yC_i4_s, yC_i5, yC_i5_s, yC_i6, yC_i6_s, yC_i7, yC_i7_s, yC_i8, yC_i8_s, yC_i9, yC_i9_s, yM_k, yM_n, yM_m0, yM_m0_s, yM_m1, yM_m1_s, yM_m2, yM_m2_s, M_no11, M_no12, M_no13, M_no14, M_no15, M_no16, M_no17, M_no18, M_no19, M_no20, M_no21, M_no22, M_nl0, M_nl1, M_nl2, M_nl3, M_nl4, M_nl5, sI_1, sI_2, sL_1, sL_2, false_and, and_false, Nat.reduceEqDiff, reduceCtorEq, ↓reduceIte, eq_self, and_self, true_and, and_true]
  · have et : tBump σ i j = tBuE (tGo (tGo σ i (σ.1 0 i + -1)) j (σ.1 0 j + 1)) i j (car σ i + car σ j) := if_neg h
    have em := bu_mem (d := d) (σ := σ) (v := σ.1 0 i + -1) (w := σ.1 0 j + 1) (m0 := car σ i + car σ j) hij
    have ec := bu_car (σ := σ) (v := σ.1 0 i + -1) (w := σ.1 0 j + 1) (m0 := car σ i + car σ j) hij
    rw [et, ec, ← em, ← i64_b3]
    have g0 : ∀ (τ : Sg) (v : Int32), (tGo τ i v).1 0 j = τ.1 0 j := fun τ v => tGo_0 hji
    simp only [f_L_law_b1449, f_L_law_b1461, f_L_law_b1542, f_L_law_b1557, s_1575, hd, h, hi, hj, hij, hji, nji, hb, g0, go_2, go_108, e_L_comes hi (vOk_dn l1), e_L_comes hj (vOk_up l2), gk_1, gk_M, sub_1, cs_1, cv_1, cs_2, cv_2, cs_3, cv_3, cs_4, cv_4, cs_5, cv_5, cs_6, cv_6, cs_7, cv_7, cs_8, cv_8, cs_9, cv_9, yC_k, yC_n, yC_i9, yC_i3, yC_i3_s, gd, lt_, rd, bd, ↓reduceIte, eq_self, and_self, true_and, and_true, not_false_eq_true, vi_t, cl_6, cl_20, cl_21, cl_40, cl_64, cl_80, cl_1280, Nat.reduceLT, tn_0, true_or, or_true, ab_f, yLa_k, yLa_n, yLa_ik, yLa_ik_s, yAn_k, yAn_n, yAn_ik, yAn_ik_s, yMa_k, yMa_n, yMa_ik, yMa_ik_s, yUn_k, yUn_n, yUn_ik, yUn_ik_s, yDa_k, yDa_n, yDa_ik, yDa_ik_s, yTh_k, yTh_n, yTh_ik, yTh_ik_s, yHm_k, yHm_n, yHm_ik, yHm_ik_s, yC_k, yC_n, yC_i1, yC_i1_s, yC_i2, yC_i2_s, yC_i3, yC_i3_s, yC_i4, yC_i4_s, yC_i5, yC_i5_s, yC_i6, yC_i6_s, yC_i7, yC_i7_s, yC_i8, yC_i8_s, yC_i9, yC_i9_s, yM_k, yM_n, yM_m0, yM_m0_s, yM_m1, yM_m1_s, yM_m2, yM_m2_s, M_no11, M_no12, M_no13, M_no14, M_no15, M_no16, M_no17, M_no18, M_no19, M_no20, M_no21, M_no22, M_nl0, M_nl1, M_nl2, M_nl3, M_nl4, M_nl5, sI_1, sI_2, sL_1, sL_2, false_and, and_false, Nat.reduceEqDiff, reduceCtorEq, ↓reduceIte, eq_self, and_self, true_and, and_true]
end M4
