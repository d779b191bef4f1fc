/-! ===== PURE: the law's meeting: break ===== -/
def tBl (σ : Sg) (g n : Nat) : Sg := sI (sI (sI (sI (sI (sI (sI (sI σ 0 n (σ.1 0 g)) 1 n (σ.1 1 g)) 2 n (σ.1 2 g - σ.1 2 g / (2 : Int32))) 2 g (σ.1 2 g / (2 : Int32))) 3 n 0) 3 g 0) 4 n (σ.1 4 g)) 5 n 1
theorem tBl_eq {σ : Sg} {g n : Nat} (hgn : g ≠ n) : tBr0 σ g n = sI (tBl σ g n) 10 0 (nI (n + 1)) := by
  refine Sg_ext (fun c k => ?_) (fun _ => rfl)
  simp only [tBr0, tBl, sI_1]
  grind (splits := 40)
theorem br_go {σ : Sg} {g n : Nat} {v w : Int32} (hgn : g ≠ n) : tGo (tGo (tBr0 σ g n) g v) n w = sI (tGo (tGo (tBl σ g n) g v) n w) 10 0 (nI (n + 1)) := by
  rw [tBl_eq hgn, tGo_sI (Or.inr (Or.inr ⟨rfl, by decide, by decide, by decide, by decide⟩)), tGo_sI (Or.inr (Or.inr ⟨rfl, by decide, by decide, by decide, by decide⟩))]
theorem tBl_107 {σ : Sg} {g n : Nat} : (tBl σ g n).1 10 7 = σ.1 10 7 := by simp only [tBl, sI_1, sI_2, sL_1, sL_2, false_and, and_false, Nat.reduceEqDiff, reduceCtorEq, ↓reduceIte, eq_self, and_self, true_and, and_true]
theorem tBl_2g {σ : Sg} {g n : Nat} : (tBl σ g n).1 2 g = σ.1 2 g / (2 : Int32) := by simp only [tBl, sI_1, sI_2, sL_1, sL_2, false_and, and_false, Nat.reduceEqDiff, reduceCtorEq, ↓reduceIte, eq_self, and_self, true_and, and_true]
theorem tBl_2n {σ : Sg} {g n : Nat} (hgn : g ≠ n) : (tBl σ g n).1 2 n = σ.1 2 g - σ.1 2 g / (2 : Int32) := by
  have h : n ≠ g := fun e => hgn e.symm
  simp only [tBl, sI_1, sI_2, sL_1, sL_2, false_and, and_false, Nat.reduceEqDiff, reduceCtorEq, ↓reduceIte, eq_self, and_self, true_and, and_true, h]
theorem br_mem {d : Nat} {σ : Sg} {g n : Nat} (hgn : g ≠ n) : memM d (sI (tGo (tGo (tBl σ g n) g (σ.1 0 g + -1)) n (σ.1 0 g + 1)) 10 7 (σ.1 10 7 + 1)) = memM d (tBreak σ g n) := by
  unfold tBreak tBrE
  rw [br_go hgn]
  have e : (sI (tGo (tGo (tBl σ g n) g (σ.1 0 g + -1)) n (σ.1 0 g + 1)) 10 0 (nI (n + 1))).1 10 7 = σ.1 10 7 := by
    rw [sI_1, if_neg (by decide), go_107, go_107, tBl_107]
  rw [e]
  refine memM_congr (fun c k hc => ?_) (fun k h1 h2 => ?_) <;> simp only [sI_1, sL_1] <;> grind (splits := 20)
theorem br_heat {σ : Sg} {g n : Nat} (hgn : g ≠ n) : (tBreak σ g n).2 2 = σ.2 2 + (car σ g - (σ.1 2 g / (2 : Int32)).toInt64 * (σ.1 0 g + -1 + (20 : Int32)).toInt64 - (σ.1 2 g - σ.1 2 g / (2 : Int32)).toInt64 * (σ.1 0 g + 1 + (20 : Int32)).toInt64) := by
  unfold tBreak tBrE
  rw [br_go hgn]
  simp only [sI_2, sL_2, if_true, car_sI _ 10 _ _ _ (by decide : (10:Nat) ≠ 0 ∧ (10:Nat) ≠ 2), go_l2]
  have e1 : car (tGo (tGo (tBl σ g n) g (σ.1 0 g + -1)) n (σ.1 0 g + 1)) g = (σ.1 2 g / (2 : Int32)).toInt64 * (σ.1 0 g + -1 + (20 : Int32)).toInt64 := by
    unfold car
    rw [go_2, go_2, tGo_0 hgn, go_0, tBl_2g]
  have e2 : car (tGo (tGo (tBl σ g n) g (σ.1 0 g + -1)) n (σ.1 0 g + 1)) n = (σ.1 2 g - σ.1 2 g / (2 : Int32)).toInt64 * (σ.1 0 g + 1 + (20 : Int32)).toInt64 := by
    unfold car
    rw [go_2, go_2, go_0, tBl_2n hgn]
  rw [e1, e2]
  rfl
theorem i64_k1 {h x y a c : Int64} : h + (x + y) - (a + c + y) = h + (x - a - c) := by grind
theorem i64_k2 {h x y a c : Int64} : h + (x + y) - (a + c + x) = h + (y - a - c) := by grind
section M5
variable {b d nc ns L : Nat} {xs : Nat → Int32} {σ : Sg} {M : Mem} {a1 a3 : Int64} {n18 w19 w20 w21 w22 w24 n26 : Int32}
theorem s_break {i j g h n : Nat} {v29 v31 : Int32} {k281 : _} {k937 : _} {k950 : _} (hb : nc ≤ 600104 ∧ ns ≤ 7301314) (hi : i < 64) (hj : j < 64) (hn : n < 64) (hij : i ≠ j) (hin : i ≠ n) (hjn : j ≠ n) (hg : g = i ∧ h = j ∨ g = j ∧ h = i) (l1 : lnOk (σ.1 0 g))
    (hc : σ.1 10 3 < v31) (hc2 : ¬ v31 ≤ σ.1 10 4) (hc3 : ¬ σ.1 2 g ≤ 1) :
    f_L_law_b1135 L xs k281 k937 k950 (nI g) b (yLa d) (yAn d) (yMa d) (yUn d) (yDa d) (yTh d) (yHm d) (yC d) (yM d) a1 (σ.2 2 + (car σ i + car σ j)) a3 (nI n) n18 w19 w20 w21 w22 w24 n26 (nI i) (nI j) v29 v31 M (memM d σ) nc ns = k950 b (yLa d) (yAn d) (yMa d) (yUn d) (yDa d) (yTh d) (yHm d) (yC d) (yM d) a1 ((tBreak σ g n).2 2) a3 (nI (n + 1)) n18 w19 w20 w21 w22 w24 n26 (nI i) (nI (j + 1)) M (memM d (tBreak σ g n)) nc ns := by
  have hji : j ≠ i := fun e => hij e.symm
  have hni : n ≠ i := fun e => hin e.symm
  have hnj : n ≠ j := fun e => hjn e.symm
  have nij : (nI i = nI j) = False := by rw [nI_inj (by omega) (by omega)]; exact fF hij
  have nji : (nI j = nI i) = False := by rw [nI_inj (by omega) (by omega)]; exact fF hji
  rcases hg with ⟨rfl, rfl⟩ | ⟨rfl, rfl⟩
  · rw [br_heat hin, ← br_mem hin, ← i64_k1 (y := car σ h)]
    have g0 : ∀ (τ : Sg) (v : Int32) (k : Nat), k ≠ g → (tGo τ g v).1 0 k = τ.1 0 k := fun τ v k hk => tGo_0 hk
    have g1 : ∀ (τ : Sg) (v : Int32), (tGo τ n v).1 0 h = τ.1 0 h := fun τ v => tGo_0 hjn
    simp only [f_L_law_b1135, f_L_law_b1428, s_1575, hi, hj, hn, hij, hji, hin, hni, hjn, hnj, nij, nji, hc, hc2, hc3, hb, g0 _ _ n hni, g0 _ _ h hji, g1, go_2, go_107, e_L_comes hi (vOk_dn l1), e_L_comes hn (vOk_up l1), e_L_moment hj, gk_1, gk_M, sub_1, tBl, car, nI_1, cs_1, cv_1, cs_2, cv_2, cs_3, cv_3, cs_4, cv_4, cs_5, cv_5, cs_6, cv_6, cs_7, cv_7, cs_8, cv_8, cs_9, cv_9, yC_k, yC_n, yC_i7, yC_i8, yC_i2, yC_i2_s, gd, lt_, rd, bd, ↓reduceIte, eq_self, and_self, true_and, and_true, not_false_eq_true, vi_t, cl_6, cl_20, cl_21, cl_40, cl_64, cl_80, cl_1280, Nat.reduceLT, tn_0, true_or, or_true, ab_f, yLa_k, yLa_n, yLa_ik, yLa_ik_s, yAn_k, yAn_n, yAn_ik, yAn_ik_s, yMa_k, yMa_n, yMa_ik, yMa_ik_s, yUn_k, yUn_n, yUn_ik, yUn_ik_s, yDa_k, yDa_n, yDa_ik, yDa_ik_s, yTh_k, yTh_n, yTh_ik, yTh_ik_s, yHm_k, yHm_n, yHm_ik, yHm_ik_s, yC_k, yC_n, yC_i1, yC_i1_s, yC_i2, yC_i2_s, yC_i3, yC_i3_s, yC_i4, yC_i4_s, yC_i5, yC_i5_s, yC_i6, yC_i6_s, yC_i7, yC_i7_s, yC_i8, yC_i8_s, yC_i9, yC_i9_s, yM_k, yM_n, yM_m0, yM_m0_s, yM_m1, yM_m1_s, yM_m2, yM_m2_s, M_no11, M_no12, M_no13, M_no14, M_no15, M_no16, M_no17, M_no18, M_no19, M_no20, M_no21, M_no22, M_nl0, M_nl1, M_nl2, M_nl3, M_nl4, M_nl5, sI_1, sI_2, sL_1, sL_2, false_and, and_false, Nat.reduceEqDiff, reduceCtorEq, ↓reduceIte, eq_self, and_self, true_and, and_true]
  · rw [br_heat hjn, ← br_mem hjn, ← i64_k2 (x := car σ h)]
    have g0 : ∀ (τ : Sg) (v : Int32) (k : Nat), k ≠ g → (tGo τ g v).1 0 k = τ.1 0 k := fun τ v k hk => tGo_0 hk
    have g1 : ∀ (τ : Sg) (v : Int32), (tGo τ n v).1 0 h = τ.1 0 h := fun τ v => tGo_0 hin
    simp only [f_L_law_b1135, f_L_law_b1428, s_1575, hi, hj, hn, hij, hji, hin, hni, hjn, hnj, nij, nji, hc, hc2, hc3, hb, g0 _ _ n hnj, g0 _ _ h hij, g1, go_2, go_107, e_L_comes hj (vOk_dn l1), e_L_comes hn (vOk_up l1), e_L_moment hi, gk_1, gk_M, sub_1, tBl, car, nI_1, cs_1, cv_1, cs_2, cv_2, cs_3, cv_3, cs_4, cv_4, cs_5, cv_5, cs_6, cv_6, cs_7, cv_7, cs_8, cv_8, cs_9, cv_9, yC_k, yC_n, yC_i7, yC_i8, yC_i2, yC_i2_s, gd, lt_, rd, bd, ↓reduceIte, eq_self, and_self, true_and, and_true, not_false_eq_true, vi_t, cl_6, cl_20, cl_21, cl_40, cl_64, cl_80, cl_1280, Nat.reduceLT, tn_0, true_or, or_true, ab_f, yLa_k, yLa_n, yLa_ik, yLa_ik_s, yAn_k, yAn_n, yAn_ik, yAn_ik_s, yMa_k, yMa_n, yMa_ik, yMa_ik_s, yUn_k, yUn_n, yUn_ik, yUn_ik_s, yDa_k, yDa_n, yDa_ik, yDa_ik_s, yTh_k, yTh_n, yTh_ik, yTh_ik_s, yHm_k, yHm_n, yHm_ik, yHm_ik_s, yC_k, yC_n, yC_i1, yC_i1_s, yC_i2, yC_i2_s, yC_i3, yC_i3_s, yC_i4, yC_i4_s, yC_i5, yC_i5_s, yC_i6, yC_i6_s, yC_i7, yC_i7_s, yC_i8, yC_i8_s, yC_i9, yC_i9_s, yM_k, yM_n, yM_m0, yM_m0_s, yM_m1, yM_m1_s, yM_m2, yM_m2_s, M_no11, M_no12, M_no13, M_no14, M_no15, M_no16, M_no17, M_no18, M_no19, M_no20, M_no21, M_no22, M_nl0, M_nl1, M_nl2, M_nl3, M_nl4, M_nl5, sI_1, sI_2, sL_1, sL_2, false_and, and_false, Nat.reduceEqDiff, reduceCtorEq, ↓reduceIte, eq_self, and_self, true_and, and_true]
end M5
