/-! ===== PURE: the law's tick: moons push ===== -/
/-- angles and unrest in their ranges -/
def Rn (σ : Sg) : Prop := ∀ k, k < 80 → aOk (σ.1 1 k) ∧ 0 ≤ (σ.1 3 k).toInt ∧ (σ.1 3 k).toInt ≤ 99
theorem lt_ab {w x : Int32} (hx : -2147483648 < x.toInt) : w < ab_ x ↔ (w < x ∨ w < -x) := by
  have h1 := ab_toInt hx
  have h2 := i32_neg hx
  rw [Int32.lt_iff_toInt_lt, Int32.lt_iff_toInt_lt, Int32.lt_iff_toInt_lt, h1, h2]
  split <;> omega
theorem un_5 {x : Int32} (h1 : 0 ≤ x.toInt) (h2 : x.toInt ≤ 99) : ((99 : Int32) < x + 5) = ¬ (x ≤ (94 : Int32)) := by
  have e5 : (x + 5).toInt = x.toInt + 5 := i32_add' (y := 5) (by show -2147483648 ≤ x.toInt + 5; omega) (by show x.toInt + 5 < 2147483648; omega)
  rw [Int32.lt_iff_toInt_lt, Int32.le_iff_toInt_le, e5]
  show ((99 : Int) < _) = ¬ (_ ≤ (94 : Int))
  exact propext ⟨fun h => by omega, fun h => by omega⟩
theorem car_go {σ : Sg} {i : Nat} {v : Int32} : car (tGo σ i v) i = (σ.1 2 i).toInt64 * (v + (20 : Int32)).toInt64 := by
  unfold car
  rw [tGo_c _ _ _ 2 _ (by decide)]
  have : (tGo σ i v).1 0 i = v := by
    unfold tGo
    split
    · split <;> simp only [sI_1, sI_2, sL_1, sL_2, false_and, and_false, Nat.reduceEqDiff, reduceCtorEq, ↓reduceIte, eq_self, and_self, true_and, and_true]
    · simp only [sI_1, sI_2, sL_1, sL_2, false_and, and_false, Nat.reduceEqDiff, reduceCtorEq, ↓reduceIte, eq_self, and_self, true_and, and_true]
  rw [this]
theorem i64_g (a m c : Int64) : a - m + c = a + (c - m) := by grind
theorem sub_1 (x : Int32) : x - 1 = x + -1 := Int32.sub_eq_add_neg x 1
section M2
variable {b d nn mm nc ns L : Nat} {xs : Nat → Int32} {σ : Sg} {M : Mem} {a1 a2 a3 : Int64} {n18 w19 w20 w21 w22 w24 : Int32}
theorem s_885 {i j : Nat} {v : Int32} {k281 : _} {k748 : _} {k758 : _} (hb : nc ≤ 600104 ∧ ns ≤ 7301314) (hi6 : i < 64) (hv : vOk v) (hR : Rn σ) :
    f_L_law_b885 L xs k281 k748 k758 v (nI i) (yC d) (yTh d) (yMa d) (yLa d) (σ.2 1 - car σ i) b (yLa d) (yAn d) (yMa d) (yUn d) (yDa d) (yTh d) (yHm d) (yC d) (yM d) a2 a3 (nI nn) n18 w19 w20 w21 w22 w24 (nI j) (nI i) M (memM d σ) nc ns = k758 b (yLa d) (yAn d) (yMa d) (yUn d) (yDa d) (yTh d) (yHm d) (yC d) (yM d) ((tPuE (tGo σ i v) i (car σ i)).2 1) a2 a3 (nI nn) n18 w19 w20 w21 w22 w24 (nI j) (nI (i + 1)) M (memM d (tPuE (tGo σ i v) i (car σ i))) nc ns := by
  obtain ⟨-, r1, r2⟩ := hR i (by omega)
  have e3 : (tGo σ i v).1 3 i = σ.1 3 i := tGo_c _ _ _ 3 _ (by decide)
  have el : (tGo σ i v).2 1 = σ.2 1 := tGo_l _ _ _ 1 (by decide)
  have hu := un_5 r1 r2
  have hc := car_go (σ := σ) (i := i) (v := v)
  simp only [f_L_law_b885, f_L_law_b917, f_L_law_b918, e_L_comes hi6 hv, hb, gk_M, bd_s, gd, lt_, ↓reduceIte, and_self, true_and, not_false_eq_true]
  rw [← hc]
  generalize tGo σ i v = τ at e3 el hc ⊢
  rw [← e3] at hu r1 r2
  by_cases h : τ.1 3 i ≤ (94 : Int32)
  · simp only [hi6, h, tPuE, hu, el, i64_g, sL_2, nI_1, not_true_eq_false, gd, lt_, rd, bd, ↓reduceIte, eq_self, and_self, true_and, and_true, not_false_eq_true, vi_t, cl_6, cl_20, cl_21, cl_40, cl_64, cl_80, cl_1280, Nat.reduceLT, tn_0, true_or, or_true, ab_f, yLa_k, yLa_n, yLa_ik, yLa_ik_s, yAn_k, yAn_n, yAn_ik, yAn_ik_s, yMa_k, yMa_n, yMa_ik, yMa_ik_s, yUn_k, yUn_n, yUn_ik, yUn_ik_s, yDa_k, yDa_n, yDa_ik, yDa_ik_s, yTh_k, yTh_n, yTh_ik, yTh_ik_s, yHm_k, yHm_n, yHm_ik, yHm_ik_s, yC_k, yC_n, yC_i1, yC_i1_s, yC_i2, yC_i2_s, yC_i3, yC_i3_s, yC_i4, yC_i4_s, yC_i5, yC_i5_s, yC_i6, yC_i6_s, yC_i7, yC_i7_s, yC_i8, yC_i8_s, yC_i9, yC_i9_s, yM_k, yM_n, yM_m0, yM_m0_s, yM_m1, yM_m1_s, yM_m2, yM_m2_s, M_no11, M_no12, M_no13, M_no14, M_no15, M_no16, M_no17, M_no18, M_no19, M_no20, M_no21, M_no22, M_nl0, M_nl1, M_nl2, M_nl3, M_nl4, M_nl5]
  · simp only [hi6, h, tPuE, hu, el, i64_g, sL_2, nI_1, gd, lt_, rd, bd, ↓reduceIte, eq_self, and_self, true_and, and_true, not_false_eq_true, vi_t, cl_6, cl_20, cl_21, cl_40, cl_64, cl_80, cl_1280, Nat.reduceLT, tn_0, true_or, or_true, ab_f, yLa_k, yLa_n, yLa_ik, yLa_ik_s, yAn_k, yAn_n, yAn_ik, yAn_ik_s, yMa_k, yMa_n, yMa_ik, yMa_ik_s, yUn_k, yUn_n, yUn_ik, yUn_ik_s, yDa_k, yDa_n, yDa_ik, yDa_ik_s, yTh_k, yTh_n, yTh_ik, yTh_ik_s, yHm_k, yHm_n, yHm_ik, yHm_ik_s, yC_k, yC_n, yC_i1, yC_i1_s, yC_i2, yC_i2_s, yC_i3, yC_i3_s, yC_i4, yC_i4_s, yC_i5, yC_i5_s, yC_i6, yC_i6_s, yC_i7, yC_i7_s, yC_i8, yC_i8_s, yC_i9, yC_i9_s, yM_k, yM_n, yM_m0, yM_m0_s, yM_m1, yM_m1_s, yM_m2, yM_m2_s, M_no11, M_no12, M_no13, M_no14, M_no15, M_no16, M_no17, M_no18, M_no19, M_no20, M_no21, M_no22, M_nl0, M_nl1, M_nl2, M_nl3, M_nl4, M_nl5]
theorem s_758 {i j : Nat} {k281 : _} {k748 : _} {k758 : _} (hb : nc ≤ 600104 ∧ ns ≤ 7301314) (hG : InvG nn σ) (hM : InvM mm σ) (hR : Rn σ) (hA : aOk (σ.1 8 j)) (hn : nn ≤ 64) (hm : mm ≤ 5) (hi : i < nn) (hj : j < mm) :
    f_L_law_b758 L xs k281 k748 k758 b (yLa d) (yAn d) (yMa d) (yUn d) (yDa d) (yTh d) (yHm d) (yC d) (yM d) (σ.2 1) a2 a3 (nI nn) n18 w19 w20 w21 w22 w24 (nI j) (nI i) M (memM d σ) nc ns = k758 b (yLa d) (yAn d) (yMa d) (yUn d) (yDa d) (yTh d) (yHm d) (yC d) (yM d) ((tPush σ j i).2 1) a2 a3 (nI nn) n18 w19 w20 w21 w22 w24 (nI j) (nI (i + 1)) M (memM d (tPush σ j i)) nc ns := by
  have hle := nle_t hi (by omega)
  have hi6 : i < 64 := by omega
  have hj5 : j < 5 := by omega
  have h30 : 3 * j < 16 := by omega
  have h31 : 3 * j + 1 < 16 := by omega
  have h32 : 3 * j + 2 < 16 := by omega
  rcases hG.okG i (by omega) with h5 | ⟨h5, l0⟩
  · simp only [f_L_law_b758, f_L_law_b918, hle, hi6, hj5, h30, h5, m3, nI_1, tPush, yM_k, yM_n, yM_m0, cl_16, gd, lt_, rd, bd, ↓reduceIte, eq_self, and_self, true_and, and_true, not_false_eq_true, vi_t, cl_6, cl_20, cl_21, cl_40, cl_64, cl_80, cl_1280, Nat.reduceLT, tn_0, true_or, or_true, ab_f, yLa_k, yLa_n, yLa_ik, yLa_ik_s, yAn_k, yAn_n, yAn_ik, yAn_ik_s, yMa_k, yMa_n, yMa_ik, yMa_ik_s, yUn_k, yUn_n, yUn_ik, yUn_ik_s, yDa_k, yDa_n, yDa_ik, yDa_ik_s, yTh_k, yTh_n, yTh_ik, yTh_ik_s, yHm_k, yHm_n, yHm_ik, yHm_ik_s, yC_k, yC_n, yC_i1, yC_i1_s, yC_i2, yC_i2_s, yC_i3, yC_i3_s, yC_i4, yC_i4_s, yC_i5, yC_i5_s, yC_i6, yC_i6_s, yC_i7, yC_i7_s, yC_i8, yC_i8_s, yC_i9, yC_i9_s, yM_k, yM_n, yM_m0, yM_m0_s, yM_m1, yM_m1_s, yM_m2, yM_m2_s, M_no11, M_no12, M_no13, M_no14, M_no15, M_no16, M_no17, M_no18, M_no19, M_no20, M_no21, M_no22, M_nl0, M_nl1, M_nl2, M_nl3, M_nl4, M_nl5]
  · have z1 : ¬ σ.1 5 i = 0 := by rw [h5]; decide
    have l7 := (hM.2.2 j hj).1
    have q0 := lnOk_iff.mp l0
    have q7 := lnOk_iff.mp l7
    have hs : (σ.1 0 i - σ.1 7 j).toInt = (σ.1 0 i).toInt - (σ.1 7 j).toInt := i32_sub (by omega) (by omega)
    have hab := lt_ab (w := σ.1 9 j) (x := σ.1 0 i - σ.1 7 j) (by omega)
    have hdir : (0 ≤ σ.1 0 i - σ.1 7 j) = (σ.1 7 j ≤ σ.1 0 i) := by
      rw [Int32.le_iff_toInt_le, Int32.le_iff_toInt_le, hs]
      have z : (0 : Int32).toInt = 0 := rfl
      rw [z]
      exact propext ⟨fun h => by omega, fun h => by omega⟩
    have hap : ∀ K, f_L_apart (σ.1 1 i) (σ.1 8 j) K = some (K, apt (σ.1 1 i) (σ.1 8 j)) := fun K => e_L_apart (hR i (by omega)).1 hA
    by_cases c1 : σ.1 9 j < ab_ (σ.1 0 i - σ.1 7 j)
    · have e : tPush σ j i = σ := by
        unfold tPush nrS
        rw [if_neg z1, if_pos c1, if_pos rfl]
      rw [e]
      by_cases c2 : σ.1 9 j < σ.1 0 i - σ.1 7 j
      · simp only [f_L_law_b758, f_L_law_b918, hle, hi6, hj5, h30, h32, z1, c2, m3, nI_1, nI_2, yM_k, yM_n, yM_m0, yM_m2, cl_16, gd, lt_, rd, bd, ↓reduceIte, eq_self, and_self, true_and, and_true, not_false_eq_true, vi_t, cl_6, cl_20, cl_21, cl_40, cl_64, cl_80, cl_1280, Nat.reduceLT, tn_0, true_or, or_true, ab_f, yLa_k, yLa_n, yLa_ik, yLa_ik_s, yAn_k, yAn_n, yAn_ik, yAn_ik_s, yMa_k, yMa_n, yMa_ik, yMa_ik_s, yUn_k, yUn_n, yUn_ik, yUn_ik_s, yDa_k, yDa_n, yDa_ik, yDa_ik_s, yTh_k, yTh_n, yTh_ik, yTh_ik_s, yHm_k, yHm_n, yHm_ik, yHm_ik_s, yC_k, yC_n, yC_i1, yC_i1_s, yC_i2, yC_i2_s, yC_i3, yC_i3_s, yC_i4, yC_i4_s, yC_i5, yC_i5_s, yC_i6, yC_i6_s, yC_i7, yC_i7_s, yC_i8, yC_i8_s, yC_i9, yC_i9_s, yM_k, yM_n, yM_m0, yM_m0_s, yM_m1, yM_m1_s, yM_m2, yM_m2_s, M_no11, M_no12, M_no13, M_no14, M_no15, M_no16, M_no17, M_no18, M_no19, M_no20, M_no21, M_no22, M_nl0, M_nl1, M_nl2, M_nl3, M_nl4, M_nl5]
      · have c3 := (hab.mp c1).resolve_left c2
        simp only [f_L_law_b758, f_L_law_b918, hle, hi6, hj5, h30, h32, z1, c2, c3, m3, nI_1, nI_2, yM_k, yM_n, yM_m0, yM_m2, cl_16, gd, lt_, rd, bd, ↓reduceIte, eq_self, and_self, true_and, and_true, not_false_eq_true, vi_t, cl_6, cl_20, cl_21, cl_40, cl_64, cl_80, cl_1280, Nat.reduceLT, tn_0, true_or, or_true, ab_f, yLa_k, yLa_n, yLa_ik, yLa_ik_s, yAn_k, yAn_n, yAn_ik, yAn_ik_s, yMa_k, yMa_n, yMa_ik, yMa_ik_s, yUn_k, yUn_n, yUn_ik, yUn_ik_s, yDa_k, yDa_n, yDa_ik, yDa_ik_s, yTh_k, yTh_n, yTh_ik, yTh_ik_s, yHm_k, yHm_n, yHm_ik, yHm_ik_s, yC_k, yC_n, yC_i1, yC_i1_s, yC_i2, yC_i2_s, yC_i3, yC_i3_s, yC_i4, yC_i4_s, yC_i5, yC_i5_s, yC_i6, yC_i6_s, yC_i7, yC_i7_s, yC_i8, yC_i8_s, yC_i9, yC_i9_s, yM_k, yM_n, yM_m0, yM_m0_s, yM_m1, yM_m1_s, yM_m2, yM_m2_s, M_no11, M_no12, M_no13, M_no14, M_no15, M_no16, M_no17, M_no18, M_no19, M_no20, M_no21, M_no22, M_nl0, M_nl1, M_nl2, M_nl3, M_nl4, M_nl5]
    · have c2 : ¬ σ.1 9 j < σ.1 0 i - σ.1 7 j := fun h => c1 (hab.mpr (Or.inl h))
      have c3 : ¬ σ.1 9 j < -(σ.1 0 i - σ.1 7 j) := fun h => c1 (hab.mpr (Or.inr h))
      by_cases c4 : (1000 : Int32) < apt (σ.1 1 i) (σ.1 8 j)
      · have e : tPush σ j i = σ := by
          unfold tPush nrS
          rw [if_neg z1, if_neg c1, if_pos c4, if_pos rfl]
        have c5 : (apt (σ.1 1 i) (σ.1 8 j) ≤ (1000 : Int32)) = False := by rw [lt_nle]; exact eq_false (fun h => h c4)
        rw [e]
        simp only [f_L_law_b758, f_L_law_b918, hle, hi6, hj5, h30, h31, h32, z1, c2, c3, c5, hap, hb, gk_1, m3, nI_1, nI_2, yM_k, yM_n, yM_m0, yM_m1, yM_m2, cl_16, gd, lt_, rd, bd, ↓reduceIte, eq_self, and_self, true_and, and_true, not_false_eq_true, vi_t, cl_6, cl_20, cl_21, cl_40, cl_64, cl_80, cl_1280, Nat.reduceLT, tn_0, true_or, or_true, ab_f, yLa_k, yLa_n, yLa_ik, yLa_ik_s, yAn_k, yAn_n, yAn_ik, yAn_ik_s, yMa_k, yMa_n, yMa_ik, yMa_ik_s, yUn_k, yUn_n, yUn_ik, yUn_ik_s, yDa_k, yDa_n, yDa_ik, yDa_ik_s, yTh_k, yTh_n, yTh_ik, yTh_ik_s, yHm_k, yHm_n, yHm_ik, yHm_ik_s, yC_k, yC_n, yC_i1, yC_i1_s, yC_i2, yC_i2_s, yC_i3, yC_i3_s, yC_i4, yC_i4_s, yC_i5, yC_i5_s, yC_i6, yC_i6_s, yC_i7, yC_i7_s, yC_i8, yC_i8_s, yC_i9, yC_i9_s, yM_k, yM_n, yM_m0, yM_m0_s, yM_m1, yM_m1_s, yM_m2, yM_m2_s, M_no11, M_no12, M_no13, M_no14, M_no15, M_no16, M_no17, M_no18, M_no19, M_no20, M_no21, M_no22, M_nl0, M_nl1, M_nl2, M_nl3, M_nl4, M_nl5]
      · have c5 : (apt (σ.1 1 i) (σ.1 8 j) ≤ (1000 : Int32)) = True := by rw [lt_nle]; exact eq_true c4
        have e : tPush σ j i = tPuE (tGo σ i (if σ.1 7 j ≤ σ.1 0 i then σ.1 0 i + 1 else σ.1 0 i + -1)) i (car σ i) := by
          unfold tPush nrS
          rw [if_neg z1, if_neg c1, if_neg c4, if_neg (by decide)]
        rw [e]
        by_cases c6 : σ.1 7 j ≤ σ.1 0 i
        · rw [if_pos c6]
          refine Eq.trans ?_ (s_885 (L := L) (xs := xs) (k281 := k281) (k748 := k748) (k758 := k758) hb hi6 (vOk_up l0) hR)
          simp only [f_L_law_b758, hle, hi6, hj5, h30, h31, h32, z1, c2, c3, c5, c6, hdir, hap, hb, e_L_moment hi6, gk_1, m3, nI_1, nI_2, yM_k, yM_n, yM_m0, yM_m1, yM_m2, cl_16, gd, lt_, rd, bd, ↓reduceIte, eq_self, and_self, true_and, and_true, not_false_eq_true, vi_t, cl_6, cl_20, cl_21, cl_40, cl_64, cl_80, cl_1280, Nat.reduceLT, tn_0, true_or, or_true, ab_f, yLa_k, yLa_n, yLa_ik, yLa_ik_s, yAn_k, yAn_n, yAn_ik, yAn_ik_s, yMa_k, yMa_n, yMa_ik, yMa_ik_s, yUn_k, yUn_n, yUn_ik, yUn_ik_s, yDa_k, yDa_n, yDa_ik, yDa_ik_s, yTh_k, yTh_n, yTh_ik, yTh_ik_s, yHm_k, yHm_n, yHm_ik, yHm_ik_s, yC_k, yC_n, yC_i1, yC_i1_s, yC_i2, yC_i2_s, yC_i3, yC_i3_s, yC_i4, yC_i4_s, yC_i5, yC_i5_s, yC_i6, yC_i6_s, yC_i7, yC_i7_s, yC_i8, yC_i8_s, yC_i9, yC_i9_s, yM_k, yM_n, yM_m0, yM_m0_s, yM_m1, yM_m1_s, yM_m2, yM_m2_s, M_no11, M_no12, M_no13, M_no14, M_no15, M_no16, M_no17, M_no18, M_no19, M_no20, M_no21, M_no22, M_nl0, M_nl1, M_nl2, M_nl3, M_nl4, M_nl5]
        · rw [if_neg c6]
          refine Eq.trans ?_ (s_885 (L := L) (xs := xs) (k281 := k281) (k748 := k748) (k758 := k758) hb hi6 (vOk_dn l0) hR)
          simp only [f_L_law_b758, hle, hi6, hj5, h30, h31, h32, z1, c2, c3, c5, c6, hdir, hap, hb, e_L_moment hi6, gk_1, m3, nI_1, nI_2, sub_1, yM_k, yM_n, yM_m0, yM_m1, yM_m2, cl_16, gd, lt_, rd, bd, ↓reduceIte, eq_self, and_self, true_and, and_true, not_false_eq_true, vi_t, cl_6, cl_20, cl_21, cl_40, cl_64, cl_80, cl_1280, Nat.reduceLT, tn_0, true_or, or_true, ab_f, yLa_k, yLa_n, yLa_ik, yLa_ik_s, yAn_k, yAn_n, yAn_ik, yAn_ik_s, yMa_k, yMa_n, yMa_ik, yMa_ik_s, yUn_k, yUn_n, yUn_ik, yUn_ik_s, yDa_k, yDa_n, yDa_ik, yDa_ik_s, yTh_k, yTh_n, yTh_ik, yTh_ik_s, yHm_k, yHm_n, yHm_ik, yHm_ik_s, yC_k, yC_n, yC_i1, yC_i1_s, yC_i2, yC_i2_s, yC_i3, yC_i3_s, yC_i4, yC_i4_s, yC_i5, yC_i5_s, yC_i6, yC_i6_s, yC_i7, yC_i7_s, yC_i8, yC_i8_s, yC_i9, yC_i9_s, yM_k, yM_n, yM_m0, yM_m0_s, yM_m1, yM_m1_s, yM_m2, yM_m2_s, M_no11, M_no12, M_no13, M_no14, M_no15, M_no16, M_no17, M_no18, M_no19, M_no20, M_no21, M_no22, M_nl0, M_nl1, M_nl2, M_nl3, M_nl4, M_nl5]
/-! ranges are kept -/
theorem Rn.same {σ τ : Sg} (h : Rn σ) (e : ∀ k, k < 80 → τ.1 1 k = σ.1 1 k ∧ τ.1 3 k = σ.1 3 k) : Rn τ := fun k hk => by
  obtain ⟨e1, e3⟩ := e k hk
  rw [e1, e3]
  exact h k hk
theorem un_in {x : Int32} (h1 : 0 ≤ x.toInt) (h2 : x.toInt ≤ 99) : 0 ≤ (if (99 : Int32) < x + 5 then (99 : Int32) else x + 5).toInt ∧ (if (99 : Int32) < x + 5 then (99 : Int32) else x + 5).toInt ≤ 99 := by
  have e5 : (x + 5).toInt = x.toInt + 5 := i32_add' (y := 5) (by show -2147483648 ≤ x.toInt + 5; omega) (by show x.toInt + 5 < 2147483648; omega)
  by_cases h : (99 : Int32) < x + 5
  · rw [if_pos h]; decide
  · rw [if_neg h]
    rw [Int32.lt_iff_toInt_lt, e5] at h
    have : (99 : Int32).toInt = 99 := rfl
    rw [e5]
    omega
theorem Rn.puE {τ : Sg} {i : Nat} {m0 : Int64} (h : Rn τ) : Rn (tPuE τ i m0) := fun k hk => by
  have e1 : (tPuE τ i m0).1 1 k = τ.1 1 k := by simp only [tPuE, sI_1, sI_2, sL_1, sL_2, false_and, and_false, Nat.reduceEqDiff, reduceCtorEq, ↓reduceIte, eq_self, and_self, true_and, and_true]
  have e3 : (tPuE τ i m0).1 3 k = if k = i then (if (99 : Int32) < τ.1 3 i + 5 then 99 else τ.1 3 i + 5) else τ.1 3 k := by simp only [tPuE, sI_1, sI_2, sL_1, sL_2, false_and, and_false, Nat.reduceEqDiff, reduceCtorEq, ↓reduceIte, eq_self, and_self, true_and, and_true]
  rw [e1, e3]
  refine ⟨(h k hk).1, ?_⟩
  by_cases hki : k = i
  · rw [if_pos hki, ← hki]; exact un_in (h k hk).2.1 (h k hk).2.2
  · rw [if_neg hki]; exact (h k hk).2
theorem Rn.go {σ : Sg} {i : Nat} {v : Int32} (h : Rn σ) : Rn (tGo σ i v) := h.same (fun k _ => ⟨tGo_c _ _ _ 1 _ (by decide), tGo_c _ _ _ 3 _ (by decide)⟩)
theorem Rn.push {σ : Sg} {j i : Nat} (h : Rn σ) : Rn (tPush σ j i) := by
  unfold tPush
  split
  · exact h
  split
  · exact h
  exact h.go.puE
theorem Rn.pushN {σ : Sg} {j : Nat} (h : Rn σ) : ∀ k, Rn (tPushN σ j k) := by
  intro k
  induction k with
  | zero => exact h
  | succ k ih => exact ih.push
theorem Rn.pa {σ : Sg} (h : Rn σ) : ∀ m, Rn (tPA σ m) := by
  intro m
  induction m with
  | zero => exact h
  | succ m ih => exact ih.pushN 80
/-! the two loops -/
theorem l_758 {j : Nat} {k281 : _} {k748 : _} (hb : nc ≤ 600104 ∧ ns ≤ 7301314) (hG : InvG nn σ) (hM : InvM mm σ) (hR : Rn σ) (hA : aOk (σ.1 8 j)) (hn : nn ≤ 64) (hm : mm ≤ 5) (hj : j < mm) : ∀ f i, i ≤ nn → nn < i + f →
    f_L_law_L758 L xs k281 k748 f b (yLa d) (yAn d) (yMa d) (yUn d) (yDa d) (yTh d) (yHm d) (yC d) (yM d) ((tPushN σ j i).2 1) a2 a3 (nI nn) n18 w19 w20 w21 w22 w24 (nI j) (nI i) M (memM d (tPushN σ j i)) nc ns = k748 b (yLa d) (yAn d) (yMa d) (yUn d) (yDa d) (yTh d) (yHm d) (yC d) (yM d) ((tPushN σ j 80).2 1) a2 a3 (nI nn) n18 w19 w20 w21 w22 w24 (nI (j + 1)) M (memM d (tPushN σ j 80)) nc ns := by
  intro f
  induction f with
  | zero => intro i h1 h2; omega
  | succ f ih =>
    intro i h1 h2
    show f_L_law_b758 L xs k281 k748 (f_L_law_L758 L xs k281 k748 f) _ _ _ _ _ _ _ _ _ _ _ _ _ _ _ _ _ _ _ _ _ (nI i) _ _ _ _ = _
    rcases Nat.lt_or_ge i nn with hi | hi
    · have hn80 := hG.2.1
      have e8 : (tPushN σ j i).1 8 j = σ.1 8 j := tPushN_c _ _ 8 _ (by decide) i
      rw [s_758 hb (hG.pushN (j := j) i (by omega)) (hM.sk (Sm.pushN i).sk) (hR.pushN i) (by rw [e8]; exact hA) hn hm hi hj]
      exact ih (i + 1) (by omega) (by omega)
    · obtain rfl : i = nn := by omega
      rw [tPushN_end hG 80 hG.2.1 (Nat.le_refl _)]
      simp only [f_L_law_b758, Int32.le_refl, lt_, nI_1, ↓reduceIte]
theorem l_748 {k281 : _} (hb : nc ≤ 600104 ∧ ns ≤ 7301314) (hG : InvG nn σ) (hM : InvM mm σ) (hR : Rn σ) (hA : ∀ j, j < mm → aOk (σ.1 8 j)) (hn : nn ≤ 64) (hm : mm ≤ 5) : ∀ f j, j ≤ mm → mm < j + f →
    f_L_law_L748 L xs k281 f b (yLa d) (yAn d) (yMa d) (yUn d) (yDa d) (yTh d) (yHm d) (yC d) (yM d) ((tPA σ j).2 1) a2 a3 (nI nn) (nI mm) w19 w20 w21 w22 w24 (nI j) M (memM d (tPA σ j)) nc ns = f_L_law_L937 L xs k281 200 b (yLa d) (yAn d) (yMa d) (yUn d) (yDa d) (yTh d) (yHm d) (yC d) (yM d) ((tPA σ mm).2 1) a2 a3 (nI nn) (nI mm) w19 w20 w21 w22 w24 (nI nn) (nI 0) M (memM d (tPA σ mm)) nc ns := by
  intro f
  induction f with
  | zero => intro i h1 h2; omega
  | succ f ih =>
    intro j h1 h2
    show f_L_law_b748 L xs k281 (f_L_law_L748 L xs k281 f) _ _ _ _ _ _ _ _ _ _ _ _ _ _ _ _ _ _ _ _ (nI j) _ _ _ _ = _
    rcases Nat.lt_or_ge j mm with hj | hj
    · have hle := nle_t hj (by omega)
      have e8 : (tPA σ j).1 8 j = σ.1 8 j := (Sm.pa (σ := σ) j).1 8 j (by omega)
      have hM2 : InvM mm (tPA σ j) := hM.sk (Sm.pa j).sk
      have e := l_758 (L := L) (xs := xs) (b := b) (d := d) (M := M) (a2 := a2) (a3 := a3) (n18 := nI mm) (w19 := w19) (w20 := w20) (w21 := w21) (w22 := w22) (w24 := w24) (k281 := k281) (k748 := f_L_law_L748 L xs k281 f) hb (hG.pa j) hM2 (hR.pa j) (by rw [e8]; exact hA j hj) hn hm hj 200 0 (by omega) (by omega)
      have e0 : tPushN (tPA σ j) j 0 = tPA σ j := rfl
      have e1 : tPushN (tPA σ j) j 80 = tPA σ (j + 1) := rfl
      rw [e0, e1] at e
      simp only [f_L_law_b748, hle, ↓reduceIte]
      rw [show (0 : Int32) = nI 0 from rfl, e]
      exact ih (j + 1) (by omega) (by omega)
    · obtain rfl : j = mm := by omega
      simp only [f_L_law_b748, Int32.le_refl, ↓reduceIte]
      rfl
end M2
