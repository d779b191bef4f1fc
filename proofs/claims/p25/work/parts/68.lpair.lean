/-! ===== PURE: the law's look at a pair ===== -/
theorem z1n {x : Int32} (h : x = 0 ∨ x = 1) : (x = 1) = ¬ (x = 0) := by
  rcases h with rfl | rfl <;> decide
theorem near_lt {x y : Int32} (hx : lnOk x) (hy : lnOk y) : (1 : Int32) < ab_ (x - y) ↔ ((1 : Int32) < y - x ∨ y - x < (-1 : Int32)) := by
  have q1 := lnOk_iff.mp hx
  have q2 := lnOk_iff.mp hy
  have h1 : (x - y).toInt = x.toInt - y.toInt := i32_sub (by omega) (by omega)
  have h2 : (y - x).toInt = y.toInt - x.toInt := i32_sub (by omega) (by omega)
  have h3 := ab_toInt (x := x - y) (by omega)
  have e1 : (1 : Int32).toInt = 1 := rfl
  have e2 : (-1 : Int32).toInt = -1 := rfl
  rw [Int32.lt_iff_toInt_lt, Int32.lt_iff_toInt_lt, Int32.lt_iff_toInt_lt, h3, h1, h2, e1, e2]
  split <;> omega
theorem ab_neg (x : Int32) : ab_ x = if 0 ≤ x then x else -x := ab_n x
section M7
variable {b d nn n0 nc ns L : Nat} {xs : Nat → Int32} {σ : Sg} {M : Mem} {a1 a3 : Int64} {n18 w19 w20 w21 w22 w24 n26 : Int32}
theorem s_950 {i j : Nat} {k281 : _} {k937 : _} {k950 : _} (hb : nc ≤ 600104 ∧ ns ≤ 7301314) (hG : InvG nn σ) (hnn : nn < 64) (h6 : ∀ k, k < n0 → σ.1 6 k = σ.1 22 k) (h01 : M01 σ) (hR : Rn σ) (hi : i < n0) (hj : j < n0) (hij : i ≠ j) (hn0 : n0 ≤ nn) :
    f_L_law_b950 L xs k281 k937 k950 b (yLa d) (yAn d) (yMa d) (yUn d) (yDa d) (yTh d) (yHm d) (yC d) (yM d) a1 (σ.2 2) a3 (σ.1 10 0) n18 w19 w20 w21 w22 w24 (nI n0) (nI i) (nI j) M (memM d σ) nc ns = k950 b (yLa d) (yAn d) (yMa d) (yUn d) (yDa d) (yTh d) (yHm d) (yC d) (yM d) a1 ((tStep σ i j).2 2) a3 ((tStep σ i j).1 10 0) n18 w19 w20 w21 w22 w24 (nI n0) (nI i) (nI (j + 1)) M (memM d (tStep σ i j)) nc ns := by
  have hle := nle_t hj (by omega)
  have hi6 : i < 64 := by omega
  have hj6 : j < 64 := by omega
  have mi := h6 i hi
  have mj := h6 j hj
  have zi := z1n (h01 i (by omega))
  have zj := z1n (h01 j (by omega))
  by_cases hc : cmS σ i j
  · have et : tStep σ i j = tMeet σ i j nn := by unfold tStep; rw [if_pos hc, gn_eq hG]
    obtain ⟨c1, c2, c3, c4, c5⟩ := id hc
    obtain ⟨x5, xl, -⟩ := hG.one (by omega) c1
    obtain ⟨y5, yl, -⟩ := hG.one (by omega) c2
    have hn := near_lt xl yl
    have hap : ∀ K, f_L_apart (σ.1 1 i) (σ.1 1 j) K = some (K, apt (σ.1 1 i) (σ.1 1 j)) := fun K => e_L_apart (hR i (by omega)).1 (hR j (by omega)).1
    unfold nearS nrS at c5
    have c6 : ¬ (1 : Int32) < ab_ (σ.1 0 i - σ.1 0 j) := fun q => c5 (by rw [if_pos q])
    rw [if_neg c6] at c5
    have c7 : ¬ (100 : Int32) < apt (σ.1 1 i) (σ.1 1 j) := fun q => c5 (by rw [if_pos q])
    have c8 : (apt (σ.1 1 i) (σ.1 1 j) ≤ (100 : Int32)) = True := by rw [lt_nle]; exact eq_true c7
    have n1 : ¬ (1 : Int32) < σ.1 0 j - σ.1 0 i := fun q => c6 (hn.mpr (Or.inl q))
    have n2 : ¬ σ.1 0 j - σ.1 0 i < (-1 : Int32) := fun q => c6 (hn.mpr (Or.inr q))
    rw [c3] at mi
    rw [c4] at mj
    have z6i : ¬ σ.1 6 i = 1 := by rw [mi]; decide
    have z6j : ¬ σ.1 6 j = 1 := by rw [mj]; decide
    rw [et, hG.1]
    have cl : ∀ s0 : Int32, s0 = ab_ (spd σ (σ.1 0 i) - spd σ (σ.1 0 j)) → σ.1 3 i + σ.1 3 j + s0 = clS σ i j := fun s0 h => by rw [h]; rfl
    have l0i : lnOk ((tMet σ i j).1 0 i) := xl
    have l0j : lnOk ((tMet σ i j).1 0 j) := yl
    have hmt : ∀ K : Mem → Option Int32, K (memM d (sI (sI σ 6 i 1) 6 j 1)) = K (memM d (tMet σ i j)) := fun K => by rw [mt_mem]
    have spm : ∀ x, spd (tMet σ i j) x = spd σ x := fun x => by unfold spd; rw [mt_c (by decide) (by decide)]
    have r0 : ∀ k, (tMet σ i j).1 0 k = σ.1 0 k := fun k => mt_c (by decide) (by decide)
    have r3 : ∀ k, (tMet σ i j).1 3 k = σ.1 3 k := fun k => mt_c (by decide) (by decide)
    by_cases hs : 0 ≤ spd σ (σ.1 0 i) - spd σ (σ.1 0 j)
    · refine Eq.trans ?_ (s_1090 (L := L) (xs := xs) (k281 := k281) (k937 := k937) (k950 := k950) hb hG hnn (i := i) (j := j) (by omega) (by omega) hij x5 y5 (cl (spd σ (σ.1 0 i) - spd σ (σ.1 0 j)) (by rw [ab_neg, if_pos hs])))
      simp only [f_L_law_b950, hle, hi6, hj6, hb, c1, c2, z6i, z6j, n1, n2, hap, c8, gk_1, gk_M, mt_mem, r0, r3, e_L_speed xl, e_L_speed yl, spm, hs, gd, lt_, rd, bd, ↓reduceIte, eq_self, and_self, true_and, and_true, not_false_eq_true, vi_t, cl_6, cl_20, cl_21, cl_40, cl_64, cl_80, cl_1280, Nat.reduceLT, tn_0, true_or, or_true, ab_f, yLa_k, yLa_n, yLa_ik, yLa_ik_s, yAn_k, yAn_n, yAn_ik, yAn_ik_s, yMa_k, yMa_n, yMa_ik, yMa_ik_s, yUn_k, yUn_n, yUn_ik, yUn_ik_s, yDa_k, yDa_n, yDa_ik, yDa_ik_s, yTh_k, yTh_n, yTh_ik, yTh_ik_s, yHm_k, yHm_n, yHm_ik, yHm_ik_s, yC_k, yC_n, yC_i1, yC_i1_s, yC_i2, yC_i2_s, yC_i3, yC_i3_s, yC_i4, yC_i4_s, yC_i5, yC_i5_s, yC_i6, yC_i6_s, yC_i7, yC_i7_s, yC_i8, yC_i8_s, yC_i9, yC_i9_s, yM_k, yM_n, yM_m0, yM_m0_s, yM_m1, yM_m1_s, yM_m2, yM_m2_s, M_no11, M_no12, M_no13, M_no14, M_no15, M_no16, M_no17, M_no18, M_no19, M_no20, M_no21, M_no22, M_nl0, M_nl1, M_nl2, M_nl3, M_nl4, M_nl5]
    · refine Eq.trans ?_ (s_1090 (L := L) (xs := xs) (k281 := k281) (k937 := k937) (k950 := k950) hb hG hnn (i := i) (j := j) (by omega) (by omega) hij x5 y5 (cl (-(spd σ (σ.1 0 i) - spd σ (σ.1 0 j))) (by rw [ab_neg, if_neg hs])))
      simp only [f_L_law_b950, hle, hi6, hj6, hb, c1, c2, z6i, z6j, n1, n2, hap, c8, gk_1, gk_M, mt_mem, r0, r3, e_L_speed xl, e_L_speed yl, spm, hs, gd, lt_, rd, bd, ↓reduceIte, eq_self, and_self, true_and, and_true, not_false_eq_true, vi_t, cl_6, cl_20, cl_21, cl_40, cl_64, cl_80, cl_1280, Nat.reduceLT, tn_0, true_or, or_true, ab_f, yLa_k, yLa_n, yLa_ik, yLa_ik_s, yAn_k, yAn_n, yAn_ik, yAn_ik_s, yMa_k, yMa_n, yMa_ik, yMa_ik_s, yUn_k, yUn_n, yUn_ik, yUn_ik_s, yDa_k, yDa_n, yDa_ik, yDa_ik_s, yTh_k, yTh_n, yTh_ik, yTh_ik_s, yHm_k, yHm_n, yHm_ik, yHm_ik_s, yC_k, yC_n, yC_i1, yC_i1_s, yC_i2, yC_i2_s, yC_i3, yC_i3_s, yC_i4, yC_i4_s, yC_i5, yC_i5_s, yC_i6, yC_i6_s, yC_i7, yC_i7_s, yC_i8, yC_i8_s, yC_i9, yC_i9_s, yM_k, yM_n, yM_m0, yM_m0_s, yM_m1, yM_m1_s, yM_m2, yM_m2_s, M_no11, M_no12, M_no13, M_no14, M_no15, M_no16, M_no17, M_no18, M_no19, M_no20, M_no21, M_no22, M_nl0, M_nl1, M_nl2, M_nl3, M_nl4, M_nl5]
  · have et : tStep σ i j = σ := by unfold tStep; rw [if_neg hc]
    rw [et]
    by_cases c1 : σ.1 5 i = 0
    · simp only [f_L_law_b950, s_1575, hle, hi6, hj6, c1, gd, lt_, rd, bd, ↓reduceIte, eq_self, and_self, true_and, and_true, not_false_eq_true, vi_t, cl_6, cl_20, cl_21, cl_40, cl_64, cl_80, cl_1280, Nat.reduceLT, tn_0, true_or, or_true, ab_f, yLa_k, yLa_n, yLa_ik, yLa_ik_s, yAn_k, yAn_n, yAn_ik, yAn_ik_s, yMa_k, yMa_n, yMa_ik, yMa_ik_s, yUn_k, yUn_n, yUn_ik, yUn_ik_s, yDa_k, yDa_n, yDa_ik, yDa_ik_s, yTh_k, yTh_n, yTh_ik, yTh_ik_s, yHm_k, yHm_n, yHm_ik, yHm_ik_s, yC_k, yC_n, yC_i1, yC_i1_s, yC_i2, yC_i2_s, yC_i3, yC_i3_s, yC_i4, yC_i4_s, yC_i5, yC_i5_s, yC_i6, yC_i6_s, yC_i7, yC_i7_s, yC_i8, yC_i8_s, yC_i9, yC_i9_s, yM_k, yM_n, yM_m0, yM_m0_s, yM_m1, yM_m1_s, yM_m2, yM_m2_s, M_no11, M_no12, M_no13, M_no14, M_no15, M_no16, M_no17, M_no18, M_no19, M_no20, M_no21, M_no22, M_nl0, M_nl1, M_nl2, M_nl3, M_nl4, M_nl5]
    by_cases c2 : σ.1 5 j = 0
    · simp only [f_L_law_b950, s_1575, hle, hi6, hj6, c1, c2, gd, lt_, rd, bd, ↓reduceIte, eq_self, and_self, true_and, and_true, not_false_eq_true, vi_t, cl_6, cl_20, cl_21, cl_40, cl_64, cl_80, cl_1280, Nat.reduceLT, tn_0, true_or, or_true, ab_f, yLa_k, yLa_n, yLa_ik, yLa_ik_s, yAn_k, yAn_n, yAn_ik, yAn_ik_s, yMa_k, yMa_n, yMa_ik, yMa_ik_s, yUn_k, yUn_n, yUn_ik, yUn_ik_s, yDa_k, yDa_n, yDa_ik, yDa_ik_s, yTh_k, yTh_n, yTh_ik, yTh_ik_s, yHm_k, yHm_n, yHm_ik, yHm_ik_s, yC_k, yC_n, yC_i1, yC_i1_s, yC_i2, yC_i2_s, yC_i3, yC_i3_s, yC_i4, yC_i4_s, yC_i5, yC_i5_s, yC_i6, yC_i6_s, yC_i7, yC_i7_s, yC_i8, yC_i8_s, yC_i9, yC_i9_s, yM_k, yM_n, yM_m0, yM_m0_s, yM_m1, yM_m1_s, yM_m2, yM_m2_s, M_no11, M_no12, M_no13, M_no14, M_no15, M_no16, M_no17, M_no18, M_no19, M_no20, M_no21, M_no22, M_nl0, M_nl1, M_nl2, M_nl3, M_nl4, M_nl5]
    by_cases c3 : σ.1 6 i = 1
    · simp only [f_L_law_b950, s_1575, hle, hi6, hj6, c1, c2, c3, gd, lt_, rd, bd, ↓reduceIte, eq_self, and_self, true_and, and_true, not_false_eq_true, vi_t, cl_6, cl_20, cl_21, cl_40, cl_64, cl_80, cl_1280, Nat.reduceLT, tn_0, true_or, or_true, ab_f, yLa_k, yLa_n, yLa_ik, yLa_ik_s, yAn_k, yAn_n, yAn_ik, yAn_ik_s, yMa_k, yMa_n, yMa_ik, yMa_ik_s, yUn_k, yUn_n, yUn_ik, yUn_ik_s, yDa_k, yDa_n, yDa_ik, yDa_ik_s, yTh_k, yTh_n, yTh_ik, yTh_ik_s, yHm_k, yHm_n, yHm_ik, yHm_ik_s, yC_k, yC_n, yC_i1, yC_i1_s, yC_i2, yC_i2_s, yC_i3, yC_i3_s, yC_i4, yC_i4_s, yC_i5, yC_i5_s, yC_i6, yC_i6_s, yC_i7, yC_i7_s, yC_i8, yC_i8_s, yC_i9, yC_i9_s, yM_k, yM_n, yM_m0, yM_m0_s, yM_m1, yM_m1_s, yM_m2, yM_m2_s, M_no11, M_no12, M_no13, M_no14, M_no15, M_no16, M_no17, M_no18, M_no19, M_no20, M_no21, M_no22, M_nl0, M_nl1, M_nl2, M_nl3, M_nl4, M_nl5]
    by_cases c4 : σ.1 6 j = 1
    · simp only [f_L_law_b950, s_1575, hle, hi6, hj6, c1, c2, c3, c4, gd, lt_, rd, bd, ↓reduceIte, eq_self, and_self, true_and, and_true, not_false_eq_true, vi_t, cl_6, cl_20, cl_21, cl_40, cl_64, cl_80, cl_1280, Nat.reduceLT, tn_0, true_or, or_true, ab_f, yLa_k, yLa_n, yLa_ik, yLa_ik_s, yAn_k, yAn_n, yAn_ik, yAn_ik_s, yMa_k, yMa_n, yMa_ik, yMa_ik_s, yUn_k, yUn_n, yUn_ik, yUn_ik_s, yDa_k, yDa_n, yDa_ik, yDa_ik_s, yTh_k, yTh_n, yTh_ik, yTh_ik_s, yHm_k, yHm_n, yHm_ik, yHm_ik_s, yC_k, yC_n, yC_i1, yC_i1_s, yC_i2, yC_i2_s, yC_i3, yC_i3_s, yC_i4, yC_i4_s, yC_i5, yC_i5_s, yC_i6, yC_i6_s, yC_i7, yC_i7_s, yC_i8, yC_i8_s, yC_i9, yC_i9_s, yM_k, yM_n, yM_m0, yM_m0_s, yM_m1, yM_m1_s, yM_m2, yM_m2_s, M_no11, M_no12, M_no13, M_no14, M_no15, M_no16, M_no17, M_no18, M_no19, M_no20, M_no21, M_no22, M_nl0, M_nl1, M_nl2, M_nl3, M_nl4, M_nl5]
    obtain ⟨x5, xl, -⟩ := hG.one (by omega) c1
    obtain ⟨y5, yl, -⟩ := hG.one (by omega) c2
    have hn := near_lt xl yl
    have hap : ∀ K, f_L_apart (σ.1 1 i) (σ.1 1 j) K = some (K, apt (σ.1 1 i) (σ.1 1 j)) := fun K => e_L_apart (hR i (by omega)).1 (hR j (by omega)).1
    by_cases c5 : (1 : Int32) < σ.1 0 j - σ.1 0 i
    · simp only [f_L_law_b950, s_1575, hle, hi6, hj6, c1, c2, c3, c4, c5, gd, lt_, rd, bd, ↓reduceIte, eq_self, and_self, true_and, and_true, not_false_eq_true, vi_t, cl_6, cl_20, cl_21, cl_40, cl_64, cl_80, cl_1280, Nat.reduceLT, tn_0, true_or, or_true, ab_f, yLa_k, yLa_n, yLa_ik, yLa_ik_s, yAn_k, yAn_n, yAn_ik, yAn_ik_s, yMa_k, yMa_n, yMa_ik, yMa_ik_s, yUn_k, yUn_n, yUn_ik, yUn_ik_s, yDa_k, yDa_n, yDa_ik, yDa_ik_s, yTh_k, yTh_n, yTh_ik, yTh_ik_s, yHm_k, yHm_n, yHm_ik, yHm_ik_s, yC_k, yC_n, yC_i1, yC_i1_s, yC_i2, yC_i2_s, yC_i3, yC_i3_s, yC_i4, yC_i4_s, yC_i5, yC_i5_s, yC_i6, yC_i6_s, yC_i7, yC_i7_s, yC_i8, yC_i8_s, yC_i9, yC_i9_s, yM_k, yM_n, yM_m0, yM_m0_s, yM_m1, yM_m1_s, yM_m2, yM_m2_s, M_no11, M_no12, M_no13, M_no14, M_no15, M_no16, M_no17, M_no18, M_no19, M_no20, M_no21, M_no22, M_nl0, M_nl1, M_nl2, M_nl3, M_nl4, M_nl5]
    by_cases c6 : σ.1 0 j - σ.1 0 i < (-1 : Int32)
    · simp only [f_L_law_b950, s_1575, hle, hi6, hj6, c1, c2, c3, c4, c5, c6, gd, lt_, rd, bd, ↓reduceIte, eq_self, and_self, true_and, and_true, not_false_eq_true, vi_t, cl_6, cl_20, cl_21, cl_40, cl_64, cl_80, cl_1280, Nat.reduceLT, tn_0, true_or, or_true, ab_f, yLa_k, yLa_n, yLa_ik, yLa_ik_s, yAn_k, yAn_n, yAn_ik, yAn_ik_s, yMa_k, yMa_n, yMa_ik, yMa_ik_s, yUn_k, yUn_n, yUn_ik, yUn_ik_s, yDa_k, yDa_n, yDa_ik, yDa_ik_s, yTh_k, yTh_n, yTh_ik, yTh_ik_s, yHm_k, yHm_n, yHm_ik, yHm_ik_s, yC_k, yC_n, yC_i1, yC_i1_s, yC_i2, yC_i2_s, yC_i3, yC_i3_s, yC_i4, yC_i4_s, yC_i5, yC_i5_s, yC_i6, yC_i6_s, yC_i7, yC_i7_s, yC_i8, yC_i8_s, yC_i9, yC_i9_s, yM_k, yM_n, yM_m0, yM_m0_s, yM_m1, yM_m1_s, yM_m2, yM_m2_s, M_no11, M_no12, M_no13, M_no14, M_no15, M_no16, M_no17, M_no18, M_no19, M_no20, M_no21, M_no22, M_nl0, M_nl1, M_nl2, M_nl3, M_nl4, M_nl5]
    have c7 : ¬ apt (σ.1 1 i) (σ.1 1 j) ≤ (100 : Int32) := fun q => hc ⟨c1, c2, by rw [← mi]; rw [zi] at c3; exact Classical.not_not.mp c3, by rw [← mj]; rw [zj] at c4; exact Classical.not_not.mp c4, by
      unfold nearS nrS
      rw [if_neg (fun z => (hn.mp z).elim c5 c6), if_neg (by rw [lt_nle] at q; exact q)]
      decide⟩
    simp only [f_L_law_b950, s_1575, hle, hi6, hj6, hb, c1, c2, c3, c4, c5, c6, c7, hap, gk_1, gd, lt_, rd, bd, ↓reduceIte, eq_self, and_self, true_and, and_true, not_false_eq_true, vi_t, cl_6, cl_20, cl_21, cl_40, cl_64, cl_80, cl_1280, Nat.reduceLT, tn_0, true_or, or_true, ab_f, yLa_k, yLa_n, yLa_ik, yLa_ik_s, yAn_k, yAn_n, yAn_ik, yAn_ik_s, yMa_k, yMa_n, yMa_ik, yMa_ik_s, yUn_k, yUn_n, yUn_ik, yUn_ik_s, yDa_k, yDa_n, yDa_ik, yDa_ik_s, yTh_k, yTh_n, yTh_ik, yTh_ik_s, yHm_k, yHm_n, yHm_ik, yHm_ik_s, yC_k, yC_n, yC_i1, yC_i1_s, yC_i2, yC_i2_s, yC_i3, yC_i3_s, yC_i4, yC_i4_s, yC_i5, yC_i5_s, yC_i6, yC_i6_s, yC_i7, yC_i7_s, yC_i8, yC_i8_s, yC_i9, yC_i9_s, yM_k, yM_n, yM_m0, yM_m0_s, yM_m1, yM_m1_s, yM_m2, yM_m2_s, M_no11, M_no12, M_no13, M_no14, M_no15, M_no16, M_no17, M_no18, M_no19, M_no20, M_no21, M_no22, M_nl0, M_nl1, M_nl2, M_nl3, M_nl4, M_nl5]
end M7
