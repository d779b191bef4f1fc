/-! ===== PURE: the law's helpers on its arrays ===== -/
theorem memM_congr {b : Nat} {σ τ : Sg} (h : ∀ c k, c ≤ 9 → σ.1 c k = τ.1 c k) (h10 : ∀ k, 2 ≤ k → k ≤ 10 → σ.1 10 k = τ.1 10 k) : memM b σ = memM b τ := by
  refine Prod.ext rfl (Prod.ext rfl (Prod.ext (funext fun a => funext fun j => ?_) (Prod.ext (funext fun a => funext fun j => ?_) rfl)))
  · show (if (itM b a j).1 = 99 then 0 else σ.1 (itM b a j).1 (itM b a j).2) = (if (itM b a j).1 = 99 then 0 else τ.1 (itM b a j).1 (itM b a j).2)
    by_cases h9 : (itM b a j).1 = 99
    · rw [if_pos h9, if_pos h9]
    · rw [if_neg h9, if_neg h9]
      have hc := itM_code b a j
      have h6 : (itM b a j).1 ≤ 9 ∨ ((itM b a j).1 = 10 ∧ 2 ≤ (itM b a j).2 ∧ (itM b a j).2 ≤ 10) := by
        unfold itM at h9 ⊢
        grind (splits := 80)
      rcases h6 with h6 | ⟨h6, h7, h8⟩
      · exact h _ _ h6
      · rw [h6]; exact h10 _ h7 h8
  · show (if lgM b a j = 99 then 0 else σ.2 (lgM b a j)) = (if lgM b a j = 99 then 0 else τ.2 (lgM b a j))
    rfl
theorem gd_b {α : Type} {a b : Nat} {g : Option α} (h : a ≤ 600104 ∧ b ≤ 7301314) : gd (a ≤ 600104 ∧ b ≤ 7301314) g = g := if_pos h
theorem gk_M {α : Type} {b : Nat} {σ τ : Sg} {g : Option α} : gk ((memM b τ).1 = (memM b σ).1) g = g := gk_t rfl
theorem gk_C {α : Type} {b : Nat} {σ τ : Sg} {g : Option α} : gk ((memC b τ).1 = (memC b σ).1) g = g := gk_t rfl
theorem bn_l {α β : Type} (M : Mem) (v : β) (F : Mem → β → Option α) : bn (some (M, .inl v)) F = F M v := rfl
theorem cl_16 {i : Nat} (h : i < 16) : (nI i).toNatClampNeg = i := nI_clamp (by omega)
theorem cs_1 : (1 : Int32).toNatClampNeg = 1 := by decide
theorem cs_2 : (2 : Int32).toNatClampNeg = 2 := by decide
theorem cs_3 : (3 : Int32).toNatClampNeg = 3 := by decide
theorem cs_4 : (4 : Int32).toNatClampNeg = 4 := by decide
theorem cs_5 : (5 : Int32).toNatClampNeg = 5 := by decide
theorem cs_6 : (6 : Int32).toNatClampNeg = 6 := by decide
theorem cs_7 : (7 : Int32).toNatClampNeg = 7 := by decide
theorem cs_8 : (8 : Int32).toNatClampNeg = 8 := by decide
theorem cs_9 : (9 : Int32).toNatClampNeg = 9 := by decide
theorem cv_1 : (¬ ((1 : Int32) < 0 ∨ 16 ≤ (1 : Int32).toNatClampNeg)) = True := eq_true (by decide)
theorem cv_2 : (¬ ((2 : Int32) < 0 ∨ 16 ≤ (2 : Int32).toNatClampNeg)) = True := eq_true (by decide)
theorem cv_3 : (¬ ((3 : Int32) < 0 ∨ 16 ≤ (3 : Int32).toNatClampNeg)) = True := eq_true (by decide)
theorem cv_4 : (¬ ((4 : Int32) < 0 ∨ 16 ≤ (4 : Int32).toNatClampNeg)) = True := eq_true (by decide)
theorem cv_5 : (¬ ((5 : Int32) < 0 ∨ 16 ≤ (5 : Int32).toNatClampNeg)) = True := eq_true (by decide)
theorem cv_6 : (¬ ((6 : Int32) < 0 ∨ 16 ≤ (6 : Int32).toNatClampNeg)) = True := eq_true (by decide)
theorem cv_7 : (¬ ((7 : Int32) < 0 ∨ 16 ≤ (7 : Int32).toNatClampNeg)) = True := eq_true (by decide)
theorem cv_8 : (¬ ((8 : Int32) < 0 ∨ 16 ≤ (8 : Int32).toNatClampNeg)) = True := eq_true (by decide)
theorem cv_9 : (¬ ((9 : Int32) < 0 ∨ 16 ≤ (9 : Int32).toNatClampNeg)) = True := eq_true (by decide)
/-- a number out of the script, below a bound -/
def lw (v : Int32) (n : Nat) : Nat := (v &&& (2147483647 : Int32)).toNatClampNeg % n
theorem and_nn (v : Int32) : ¬ (v &&& (2147483647 : Int32)) < 0 := by
  rw [Int32.lt_iff_toInt_lt]
  show ¬ ((v &&& (2147483647 : Int32)).toBitVec).toInt < 0
  rw [Int32.toBitVec_and]
  have h : (v.toBitVec &&& (2147483647 : Int32).toBitVec).msb = false := by
    rw [BitVec.msb_and]
    have : (2147483647 : Int32).toBitVec.msb = false := by decide
    rw [this, Bool.and_false]
  rw [BitVec.toInt_eq_toNat_of_msb h]
  omega
theorem e_L_low {v : Int32} {n : Nat} {M : Mem} (h0 : 0 < n) (hn : n < 2147483648) : f_L_low v (nI n) M = some (M, nI (lw v n)) := by
  obtain ⟨j, hj, e⟩ := nI_of (and_nn v)
  have hz : ¬ nI n = 0 := nI_ne0 h0 (by omega)
  unfold f_L_low gd lw
  rw [if_pos hz, e, nI_clamp (by omega), pk_rem (by omega) h0 (by omega)]
theorem lw_lt (v : Int32) {n : Nat} (h0 : 0 < n) : lw v n < n := Nat.mod_lt _ h0
theorem e_L_speed {d : Nat} {σ : Sg} {x : Int32} (h : lnOk x) : f_L_speed (yC d) x (memM d σ) = some (memM d σ, spd σ x) := by
  obtain ⟨m, hm, rfl⟩ := h
  obtain ⟨h1, h2, h3⟩ := rad_ok m hm
  simp only [f_L_speed, h2, h3, spd, cs_6, cv_6, yC_k, yC_n, yC_i6, gd, lt_, ↓reduceIte, and_self, not_false_eq_true]
theorem e_L_moment {d i : Nat} {σ : Sg} (hi : i < 64) : f_L_moment (yLa d) (yMa d) (nI i) (memM d σ) = some (memM d σ, car σ i) := by
  simp only [f_L_moment, hi, car, gd, lt_, rd, bd, ↓reduceIte, eq_self, and_self, true_and, and_true, not_false_eq_true, vi_t, cl_6, cl_20, cl_21, cl_40, cl_64, cl_80, cl_1280, Nat.reduceLT, tn_0, true_or, or_true, ab_f, yLa_k, yLa_n, yLa_ik, yLa_ik_s, yAn_k, yAn_n, yAn_ik, yAn_ik_s, yMa_k, yMa_n, yMa_ik, yMa_ik_s, yUn_k, yUn_n, yUn_ik, yUn_ik_s, yDa_k, yDa_n, yDa_ik, yDa_ik_s, yTh_k, yTh_n, yTh_ik, yTh_ik_s, yHm_k, yHm_n, yHm_ik, yHm_ik_s, yC_k, yC_n, yC_i1, yC_i1_s, yC_i2, yC_i2_s, yC_i3, yC_i3_s, yC_i4, yC_i4_s, yC_i5, yC_i5_s, yC_i6, yC_i6_s, yC_i7, yC_i7_s, yC_i8, yC_i8_s, yC_i9, yC_i9_s, yM_k, yM_n, yM_m0, yM_m0_s, yM_m1, yM_m1_s, yM_m2, yM_m2_s, M_no11, M_no12, M_no13, M_no14, M_no15, M_no16, M_no17, M_no18, M_no19, M_no20, M_no21, M_no22, M_nl0, M_nl1, M_nl2, M_nl3, M_nl4, M_nl5]
/-- an angle -/
def aOk (a : Int32) : Prop := 0 ≤ a.toInt ∧ a.toInt < 36000
theorem i32_sub {x y : Int32} (h1 : -2147483648 ≤ x.toInt - y.toInt) (h2 : x.toInt - y.toInt < 2147483648) : (x - y).toInt = x.toInt - y.toInt := by
  rw [Int32.toInt_sub]
  exact Int.bmod_eq_of_le (by omega) (by omega)
theorem i32_add' {x y : Int32} (h1 : -2147483648 ≤ x.toInt + y.toInt) (h2 : x.toInt + y.toInt < 2147483648) : (x + y).toInt = x.toInt + y.toInt := by
  rw [Int32.toInt_add]
  exact Int.bmod_eq_of_le (by omega) (by omega)
theorem i32_neg {x : Int32} (h1 : -2147483648 < x.toInt) : (-x).toInt = -x.toInt := by
  have := x.toInt_lt
  rw [Int32.toInt_neg]
  exact Int.bmod_eq_of_le (by omega) (by omega)
theorem ab_toInt {x : Int32} (h1 : -2147483648 < x.toInt) : (ab_ x).toInt = if 0 ≤ x.toInt then x.toInt else - x.toInt := by
  have z : (0 : Int32).toInt = 0 := rfl
  unfold ab_
  by_cases h : 0 ≤ x
  · rw [if_pos h]
    rw [Int32.le_iff_toInt_le, z] at h
    rw [if_pos h]
  · rw [if_neg h]
    rw [Int32.le_iff_toInt_le, z] at h
    have := x.toInt_lt
    rw [if_neg h, i32_sub (by rw [z]; omega) (by rw [z]; omega), z]
    omega
theorem e_L_apart {a o : Int32} {M : Mem} (ha : aOk a) (ho : aOk o) : f_L_apart a o M = some (M, apt a o) := by
  obtain ⟨a1, a2⟩ := ha
  obtain ⟨o1, o2⟩ := ho
  have hs : (a - o).toInt = a.toInt - o.toInt := i32_sub (by omega) (by omega)
  have e1 : (if o ≤ a then a - o else o - a) = ab_ (a - o) := by
    apply Int32.toInt_inj.mp
    rw [ab_toInt (by omega), hs]
    by_cases h : o ≤ a
    · rw [if_pos h]
      rw [Int32.le_iff_toInt_le] at h
      rw [hs, if_pos (by omega)]
    · rw [if_neg h]
      rw [Int32.le_iff_toInt_le] at h
      rw [i32_sub (by omega) (by omega), if_neg (by omega)]
      omega
  have e2 : ∀ x : Int32, f_L_apart_b14 x M = some (M, if (36000 : Int32) - x ≤ x then (36000 : Int32) - x else x) := by
    intro x
    unfold f_L_apart_b14 f_L_apart_b31
    split <;> rfl
  have e3 : f_L_apart a o M = f_L_apart_b14 (ab_ (a - o)) M := by
    rw [← e1]
    unfold f_L_apart
    split <;> rfl
  rw [e3, e2]
  unfold apt
  refine congrArg (fun z => some (M, z)) ?_
  by_cases h : (36000 : Int32) - ab_ (a - o) < ab_ (a - o)
  · rw [if_pos h, if_pos (Int32.le_of_lt h)]
  · rw [if_neg h]
    by_cases h2 : (36000 : Int32) - ab_ (a - o) ≤ ab_ (a - o)
    · rw [if_pos h2]
      apply Int32.toInt_inj.mp
      rw [Int32.le_iff_toInt_le] at h2
      rw [Int32.lt_iff_toInt_lt] at h
      omega
    · rw [if_neg h2]
theorem m1_20 : ((-1 : Int32) + (20 : Int32)) = 19 := by decide
theorem ln_ne {v : Int32} (h : lnOk v) : (v = (-1 : Int32)) = False ∧ (v = (64 : Int32)) = False := by
  obtain ⟨m, hm, rfl⟩ := h
  have : ∀ m : Nat, m < 64 → ¬ nI m = (-1 : Int32) ∧ ¬ nI m = (64 : Int32) := by decide +kernel
  exact ⟨eq_false (this m hm).1, eq_false (this m hm).2⟩
theorem e_L_comes {d i : Nat} {σ : Sg} {v : Int32} (hi : i < 64) (hv : vOk v) : f_L_comes (yLa d) (yMa d) (yTh d) (yC d) (nI i) v (memM d σ) = some (memM d (tGo σ i v), (σ.1 2 i).toInt64 * (v + (20 : Int32)).toInt64) := by
  rcases hv with rfl | rfl | hv
  · have e : memM d (tGo σ i (-1)) = memM d (sI (sI (sI σ 0 i (-1)) 10 9 (σ.1 10 9 + 1)) 5 i 0) := by
      rw [tGo_m1]
      refine memM_congr (fun c k hc => ?_) (fun k h1 h2 => ?_) <;> simp only [sI_1, sL_1] <;> grind
    have z1 : ((-1 : Int32) = (64 : Int32)) = False := eq_false (by decide)
    rw [e]
    simp only [f_L_comes, f_L_comes_b19, f_L_comes_b33, f_L_comes_b46, f_L_comes_b51, hi, z1, cs_4, cv_4, yC_k, yC_n, yC_i4, yC_i4_s, gd, lt_, rd, bd, ↓reduceIte, eq_self, and_self, true_and, and_true, not_false_eq_true, vi_t, cl_6, cl_20, cl_21, cl_40, cl_64, cl_80, cl_1280, Nat.reduceLT, tn_0, true_or, or_true, ab_f, yLa_k, yLa_n, yLa_ik, yLa_ik_s, yAn_k, yAn_n, yAn_ik, yAn_ik_s, yMa_k, yMa_n, yMa_ik, yMa_ik_s, yUn_k, yUn_n, yUn_ik, yUn_ik_s, yDa_k, yDa_n, yDa_ik, yDa_ik_s, yTh_k, yTh_n, yTh_ik, yTh_ik_s, yHm_k, yHm_n, yHm_ik, yHm_ik_s, yC_k, yC_n, yC_i1, yC_i1_s, yC_i2, yC_i2_s, yC_i3, yC_i3_s, yC_i4, yC_i4_s, yC_i5, yC_i5_s, yC_i6, yC_i6_s, yC_i7, yC_i7_s, yC_i8, yC_i8_s, yC_i9, yC_i9_s, yM_k, yM_n, yM_m0, yM_m0_s, yM_m1, yM_m1_s, yM_m2, yM_m2_s, M_no11, M_no12, M_no13, M_no14, M_no15, M_no16, M_no17, M_no18, M_no19, M_no20, M_no21, M_no22, M_nl0, M_nl1, M_nl2, M_nl3, M_nl4, M_nl5, sI_1, sI_2, sL_1, sL_2, false_and, and_false, Nat.reduceEqDiff, reduceCtorEq, ↓reduceIte, eq_self, and_self, true_and, and_true]
  · have e : memM d (tGo σ i 64) = memM d (sI (sI (sI σ 0 i 64) 10 10 (σ.1 10 10 + 1)) 5 i 0) := by
      rw [tGo_64]
      refine memM_congr (fun c k hc => ?_) (fun k h1 h2 => ?_) <;> simp only [sI_1, sL_1] <;> grind
    have z1 : ((64 : Int32) = (-1 : Int32)) = False := eq_false (by decide)
    rw [e]
    simp only [f_L_comes, f_L_comes_b19, f_L_comes_b33, f_L_comes_b46, f_L_comes_b51, hi, z1, cs_5, cv_5, yC_k, yC_n, yC_i5, yC_i5_s, gd, lt_, rd, bd, ↓reduceIte, eq_self, and_self, true_and, and_true, not_false_eq_true, vi_t, cl_6, cl_20, cl_21, cl_40, cl_64, cl_80, cl_1280, Nat.reduceLT, tn_0, true_or, or_true, ab_f, yLa_k, yLa_n, yLa_ik, yLa_ik_s, yAn_k, yAn_n, yAn_ik, yAn_ik_s, yMa_k, yMa_n, yMa_ik, yMa_ik_s, yUn_k, yUn_n, yUn_ik, yUn_ik_s, yDa_k, yDa_n, yDa_ik, yDa_ik_s, yTh_k, yTh_n, yTh_ik, yTh_ik_s, yHm_k, yHm_n, yHm_ik, yHm_ik_s, yC_k, yC_n, yC_i1, yC_i1_s, yC_i2, yC_i2_s, yC_i3, yC_i3_s, yC_i4, yC_i4_s, yC_i5, yC_i5_s, yC_i6, yC_i6_s, yC_i7, yC_i7_s, yC_i8, yC_i8_s, yC_i9, yC_i9_s, yM_k, yM_n, yM_m0, yM_m0_s, yM_m1, yM_m1_s, yM_m2, yM_m2_s, M_no11, M_no12, M_no13, M_no14, M_no15, M_no16, M_no17, M_no18, M_no19, M_no20, M_no21, M_no22, M_nl0, M_nl1, M_nl2, M_nl3, M_nl4, M_nl5, sI_1, sI_2, sL_1, sL_2, false_and, and_false, Nat.reduceEqDiff, reduceCtorEq, ↓reduceIte, eq_self, and_self, true_and, and_true]
  · obtain ⟨z1, z2⟩ := ln_ne hv
    rw [tGo_in hv]
    simp only [f_L_comes, f_L_comes_b19, f_L_comes_b33, f_L_comes_b51, hi, z1, z2, gd, lt_, rd, bd, ↓reduceIte, eq_self, and_self, true_and, and_true, not_false_eq_true, vi_t, cl_6, cl_20, cl_21, cl_40, cl_64, cl_80, cl_1280, Nat.reduceLT, tn_0, true_or, or_true, ab_f, yLa_k, yLa_n, yLa_ik, yLa_ik_s, yAn_k, yAn_n, yAn_ik, yAn_ik_s, yMa_k, yMa_n, yMa_ik, yMa_ik_s, yUn_k, yUn_n, yUn_ik, yUn_ik_s, yDa_k, yDa_n, yDa_ik, yDa_ik_s, yTh_k, yTh_n, yTh_ik, yTh_ik_s, yHm_k, yHm_n, yHm_ik, yHm_ik_s, yC_k, yC_n, yC_i1, yC_i1_s, yC_i2, yC_i2_s, yC_i3, yC_i3_s, yC_i4, yC_i4_s, yC_i5, yC_i5_s, yC_i6, yC_i6_s, yC_i7, yC_i7_s, yC_i8, yC_i8_s, yC_i9, yC_i9_s, yM_k, yM_n, yM_m0, yM_m0_s, yM_m1, yM_m1_s, yM_m2, yM_m2_s, M_no11, M_no12, M_no13, M_no14, M_no15, M_no16, M_no17, M_no18, M_no19, M_no20, M_no21, M_no22, M_nl0, M_nl1, M_nl2, M_nl3, M_nl4, M_nl5, sI_1, sI_2, sL_1, sL_2, false_and, and_false, Nat.reduceEqDiff, reduceCtorEq, ↓reduceIte, eq_self, and_self, true_and, and_true]
