/-! ===== PURE: the law's meetings, one by one ===== -/
theorem mt_c {σ : Sg} {i j c k : Nat} (h6 : c ≠ 6) (h22 : c ≠ 22) : (tMet σ i j).1 c k = σ.1 c k := by simp only [tMet, sI_1, sI_2, sL_1, sL_2, false_and, and_false, Nat.reduceEqDiff, reduceCtorEq, ↓reduceIte, eq_self, and_self, true_and, and_true, h6, h22]
theorem mt_2 {σ : Sg} {i j c : Nat} : (tMet σ i j).2 c = σ.2 c := rfl
theorem mt_car {σ : Sg} {i j k : Nat} : car (tMet σ i j) k = car σ k := by
  unfold car
  rw [mt_c (by decide) (by decide), mt_c (by decide) (by decide)]
theorem mt_mem {d : Nat} {σ : Sg} {i j : Nat} : memM d (sI (sI σ 6 i 1) 6 j 1) = memM d (tMet σ i j) := by
  unfold tMet
  rw [M_no22, M_no22]
theorem stick_n {σ : Sg} {i j : Nat} : (tStick σ i j).1 10 0 = σ.1 10 0 := by simp only [tStick, sI_1, sI_2, sL_1, sL_2, false_and, and_false, Nat.reduceEqDiff, reduceCtorEq, ↓reduceIte, eq_self, and_self, true_and, and_true]
section M6
variable {b d nn nc ns L : Nat} {xs : Nat → Int32} {σ : Sg} {M : Mem} {a1 a3 : Int64} {n18 w19 w20 w21 w22 w24 n26 : Int32}
theorem s_1090 {i j : Nat} {s0 s1 : Int32} {k281 : _} {k937 : _} {k950 : _} (hb : nc ≤ 600104 ∧ ns ≤ 7301314) (hG : InvG nn σ) (hnn : nn < 64) (hi : i < nn) (hj : j < nn) (hij : i ≠ j) (h5 : σ.1 5 i = 1) (h5' : σ.1 5 j = 1) (hc : s1 + s0 = clS σ i j) :
    f_L_law_b1090 L xs k281 k937 k950 s0 s1 b (yLa d) (yAn d) (yMa d) (yUn d) (yDa d) (yTh d) (yHm d) (yC d) (yM d) a1 (σ.2 2) a3 (nI nn) n18 w19 w20 w21 w22 w24 n26 (nI i) (nI j) (σ.1 0 j - σ.1 0 i) M (memM d (tMet σ i j)) nc ns = k950 b (yLa d) (yAn d) (yMa d) (yUn d) (yDa d) (yTh d) (yHm d) (yC d) (yM d) a1 ((tMeet σ i j nn).2 2) a3 ((tMeet σ i j nn).1 10 0) n18 w19 w20 w21 w22 w24 n26 (nI i) (nI (j + 1)) M (memM d (tMeet σ i j nn)) nc ns := by
  have hi6 : i < 64 := by omega
  have hj6 : j < 64 := by omega
  have m := hG.met (i := i) (j := j)
  have l1 := ((hG.okG i (by omega)).resolve_left (by rw [h5]; decide)).2
  have l2 := ((hG.okG j (by omega)).resolve_left (by rw [h5']; decide)).2
  obtain ⟨-, -, -, d1, d2⟩ := (hG.2.2.1 i (by omega)).resolve_left (by rw [h5]; decide)
  obtain ⟨-, -, -, d3, d4⟩ := (hG.2.2.1 j (by omega)).resolve_left (by rw [h5']; decide)
  have hm : msP (tMet σ i j) i j := m.msP (by omega) (by omega) hij h5 h5'
  have e2 : σ.2 2 = (tMet σ i j).2 2 := rfl
  have ev : σ.1 0 j - σ.1 0 i = (tMet σ i j).1 0 j - (tMet σ i j).1 0 i := by rw [mt_c (by decide) (by decide), mt_c (by decide) (by decide)]
  have c3 : σ.1 10 3 = (tMet σ i j).1 10 3 := (mt_c (by decide) (by decide)).symm
  have c4 : σ.1 10 4 = (tMet σ i j).1 10 4 := (mt_c (by decide) (by decide)).symm
  have cm : ∀ k, σ.1 2 k = (tMet σ i j).1 2 k := fun k => (mt_c (by decide) (by decide)).symm
  have cn : nI nn = (tMet σ i j).1 10 0 := by rw [mt_c (by decide) (by decide), hG.1]
  have l1' : lnOk ((tMet σ i j).1 0 i) := l1
  have l2' : lnOk ((tMet σ i j).1 0 j) := l2
  have d12 : 0 ≤ ((tMet σ i j).1 4 i).toInt ∧ ((tMet σ i j).1 4 i).toInt ≤ 1000 := ⟨d1, d2⟩
  have d34 : 0 ≤ ((tMet σ i j).1 4 j).toInt ∧ ((tMet σ i j).1 4 j).toInt ≤ 1000 := ⟨d3, d4⟩
  have hX : ∀ g h : Nat, (g = i ∧ h = j ∨ g = j ∧ h = i) → f_L_law_b1135 L xs k281 k937 k950 (nI g) b (yLa d) (yAn d) (yMa d) (yUn d) (yDa d) (yTh d) (yHm d) (yC d) (yM d) a1 ((tMet σ i j).2 2 + (car (tMet σ i j) i + car (tMet σ i j) j)) a3 (nI nn) n18 w19 w20 w21 w22 w24 n26 (nI i) (nI j) ((tMet σ i j).1 0 j - (tMet σ i j).1 0 i) (clS σ i j) M (memM d (tMet σ i j)) nc ns =
      (fun τ : Sg => k950 b (yLa d) (yAn d) (yMa d) (yUn d) (yDa d) (yTh d) (yHm d) (yC d) (yM d) a1 (τ.2 2) a3 (τ.1 10 0) n18 w19 w20 w21 w22 w24 n26 (nI i) (nI (j + 1)) M (memM d τ) nc ns) (if σ.1 10 3 < clS σ i j then
    (if clS σ i j ≤ σ.1 10 4 then tBump (tMet σ i j) i j
     else if σ.1 2 g < 2 then tBump (tMet σ i j) i j
     else if 80 ≤ nn then tBump (tMet σ i j) i j
     else tBreak (tMet σ i j) g nn)
  else tStick (tMet σ i j) i j) := by
    intro g h hg
    have hg6 : g < 64 := by omega
    have lg : lnOk ((tMet σ i j).1 0 g) := by rcases hg with ⟨rfl, -⟩ | ⟨rfl, -⟩; exact l1'; exact l2'
    rw [c3, c4, cm g]
    generalize tMet σ i j = τ at *
    by_cases h1 : τ.1 10 3 < clS σ i j
    · rw [if_pos h1]
      by_cases h2 : clS σ i j ≤ τ.1 10 4
      · rw [if_pos h2]
        show _ = k950 b (yLa d) (yAn d) (yMa d) (yUn d) (yDa d) (yTh d) (yHm d) (yC d) (yM d) a1 ((tBump τ i j).2 2) a3 ((tBump τ i j).1 10 0) n18 w19 w20 w21 w22 w24 n26 (nI i) (nI (j + 1)) M (memM d (tBump τ i j)) nc ns
        rw [tBump_n, ← cn, ← s_bump hb hi6 hj6 hij l1' l2' (k281 := k281) (k937 := k937) (k950 := k950) (L := L) (xs := xs)]
        simp only [f_L_law_b1135, h1, h2, cs_1, cv_1, cs_2, cv_2, cs_3, cv_3, cs_4, cv_4, cs_5, cv_5, cs_6, cv_6, cs_7, cv_7, cs_8, cv_8, cs_9, cv_9, yC_k, yC_n, yC_i7, yC_i8, gd, lt_, rd, bd, ↓reduceIte, eq_self, and_self, true_and, and_true, not_false_eq_true, vi_t, cl_6, cl_20, cl_21, cl_40, cl_64, cl_80, cl_1280, Nat.reduceLT, tn_0, true_or, or_true, ab_f]
      · rw [if_neg h2]
        by_cases h3 : τ.1 2 g < 2
        · rw [if_pos h3]
          show _ = k950 b (yLa d) (yAn d) (yMa d) (yUn d) (yDa d) (yTh d) (yHm d) (yC d) (yM d) a1 ((tBump τ i j).2 2) a3 ((tBump τ i j).1 10 0) n18 w19 w20 w21 w22 w24 n26 (nI i) (nI (j + 1)) M (memM d (tBump τ i j)) nc ns
          rw [tBump_n, ← cn, ← s_bump hb hi6 hj6 hij l1' l2' (k281 := k281) (k937 := k937) (k950 := k950) (L := L) (xs := xs)]
          rw [← i32_2] at h3
          simp only [f_L_law_b1135, hg6, h1, h2, h3, cs_1, cv_1, cs_2, cv_2, cs_3, cv_3, cs_4, cv_4, cs_5, cv_5, cs_6, cv_6, cs_7, cv_7, cs_8, cv_8, cs_9, cv_9, yC_k, yC_n, yC_i7, yC_i8, gd, lt_, rd, bd, ↓reduceIte, eq_self, and_self, true_and, and_true, not_false_eq_true, vi_t, cl_6, cl_20, cl_21, cl_40, cl_64, cl_80, cl_1280, Nat.reduceLT, tn_0, true_or, or_true, ab_f, yLa_k, yLa_n, yLa_ik, yLa_ik_s, yAn_k, yAn_n, yAn_ik, yAn_ik_s, yMa_k, yMa_n, yMa_ik, yMa_ik_s, yUn_k, yUn_n, yUn_ik, yUn_ik_s, yDa_k, yDa_n, yDa_ik, yDa_ik_s, yTh_k, yTh_n, yTh_ik, yTh_ik_s, yHm_k, yHm_n, yHm_ik, yHm_ik_s, yC_k, yC_n, yC_i1, yC_i1_s, yC_i2, yC_i2_s, yC_i3, yC_i3_s, yC_i4, yC_i4_s, yC_i5, yC_i5_s, yC_i6, yC_i6_s, yC_i7, yC_i7_s, yC_i8, yC_i8_s, yC_i9, yC_i9_s, yM_k, yM_n, yM_m0, yM_m0_s, yM_m1, yM_m1_s, yM_m2, yM_m2_s, M_no11, M_no12, M_no13, M_no14, M_no15, M_no16, M_no17, M_no18, M_no19, M_no20, M_no21, M_no22, M_nl0, M_nl1, M_nl2, M_nl3, M_nl4, M_nl5]
        · rw [if_neg h3, if_neg (by omega)]
          show _ = k950 b (yLa d) (yAn d) (yMa d) (yUn d) (yDa d) (yTh d) (yHm d) (yC d) (yM d) a1 ((tBreak τ g nn).2 2) a3 ((tBreak τ g nn).1 10 0) n18 w19 w20 w21 w22 w24 n26 (nI i) (nI (j + 1)) M (memM d (tBreak τ g nn)) nc ns
          rw [← i32_2] at h3
          rw [tBreak_n]
          exact s_break hb hi6 hj6 hnn hij (by omega) (by omega) hg lg h1 h2 h3
    · rw [if_neg h1]
      show _ = k950 b (yLa d) (yAn d) (yMa d) (yUn d) (yDa d) (yTh d) (yHm d) (yC d) (yM d) a1 ((tStick τ i j).2 2) a3 ((tStick τ i j).1 10 0) n18 w19 w20 w21 w22 w24 n26 (nI i) (nI (j + 1)) M (memM d (tStick τ i j)) nc ns
      rw [stick_n, ← cn]
      exact s_stick hb hi6 hj6 (fF hij) (fF (fun e => hij e.symm)) hm l1' l2' d12 d34 h1
  have eL : f_L_law_b1090 L xs k281 k937 k950 s0 s1 b (yLa d) (yAn d) (yMa d) (yUn d) (yDa d) (yTh d) (yHm d) (yC d) (yM d) a1 (σ.2 2) a3 (nI nn) n18 w19 w20 w21 w22 w24 n26 (nI i) (nI j) (σ.1 0 j - σ.1 0 i) M (memM d (tMet σ i j)) nc ns = if (tMet σ i j).1 2 j ≤ (tMet σ i j).1 2 i then f_L_law_b1135 L xs k281 k937 k950 (nI j) b (yLa d) (yAn d) (yMa d) (yUn d) (yDa d) (yTh d) (yHm d) (yC d) (yM d) a1 ((tMet σ i j).2 2 + (car (tMet σ i j) i + car (tMet σ i j) j)) a3 (nI nn) n18 w19 w20 w21 w22 w24 n26 (nI i) (nI j) ((tMet σ i j).1 0 j - (tMet σ i j).1 0 i) (clS σ i j) M (memM d (tMet σ i j)) nc ns else f_L_law_b1135 L xs k281 k937 k950 (nI i) b (yLa d) (yAn d) (yMa d) (yUn d) (yDa d) (yTh d) (yHm d) (yC d) (yM d) a1 ((tMet σ i j).2 2 + (car (tMet σ i j) i + car (tMet σ i j) j)) a3 (nI nn) n18 w19 w20 w21 w22 w24 n26 (nI i) (nI j) ((tMet σ i j).1 0 j - (tMet σ i j).1 0 i) (clS σ i j) M (memM d (tMet σ i j)) nc ns := by
    rw [← ev, e2]
    generalize tMet σ i j = τ
    simp only [f_L_law_b1090, hc, hi6, hj6, hb, e_L_moment hi6, e_L_moment hj6, gk_1, gd, lt_, rd, bd, ↓reduceIte, eq_self, and_self, true_and, and_true, not_false_eq_true, vi_t, cl_6, cl_20, cl_21, cl_40, cl_64, cl_80, cl_1280, Nat.reduceLT, tn_0, true_or, or_true, ab_f, yLa_k, yLa_n, yLa_ik, yLa_ik_s, yAn_k, yAn_n, yAn_ik, yAn_ik_s, yMa_k, yMa_n, yMa_ik, yMa_ik_s, yUn_k, yUn_n, yUn_ik, yUn_ik_s, yDa_k, yDa_n, yDa_ik, yDa_ik_s, yTh_k, yTh_n, yTh_ik, yTh_ik_s, yHm_k, yHm_n, yHm_ik, yHm_ik_s, yC_k, yC_n, yC_i1, yC_i1_s, yC_i2, yC_i2_s, yC_i3, yC_i3_s, yC_i4, yC_i4_s, yC_i5, yC_i5_s, yC_i6, yC_i6_s, yC_i7, yC_i7_s, yC_i8, yC_i8_s, yC_i9, yC_i9_s, yM_k, yM_n, yM_m0, yM_m0_s, yM_m1, yM_m1_s, yM_m2, yM_m2_s, M_no11, M_no12, M_no13, M_no14, M_no15, M_no16, M_no17, M_no18, M_no19, M_no20, M_no21, M_no22, M_nl0, M_nl1, M_nl2, M_nl3, M_nl4, M_nl5]
  rw [eL, ← cm i, ← cm j]
  unfold tMeet
  by_cases h : σ.1 2 j ≤ σ.1 2 i
  · rw [if_pos h, if_pos h]; exact hX j i (Or.inr ⟨rfl, rfl⟩)
  · rw [if_neg h, if_neg h]; exact hX i j (Or.inl ⟨rfl, rfl⟩)
end M6
