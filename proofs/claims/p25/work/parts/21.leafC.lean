/-! ===== PURE: what the class's small methods make of the state ===== -/
theorem vi_t {i N : Nat} (h : i < N) (hN : N < 2147483648) : (¬ (nI i < 0 ∨ N ≤ (nI i).toNatClampNeg)) = True := by
  have := vp_in_nI h (by omega)
  exact eq_true this
theorem cl_6 {i : Nat} (h : i < 6) : (nI i).toNatClampNeg = i := nI_clamp (by omega)
theorem cl_20 {i : Nat} (h : i < 20) : (nI i).toNatClampNeg = i := nI_clamp (by omega)
theorem cl_21 {i : Nat} (h : i < 21) : (nI i).toNatClampNeg = i := nI_clamp (by omega)
theorem cl_40 {i : Nat} (h : i < 40) : (nI i).toNatClampNeg = i := nI_clamp (by omega)
theorem cl_64 {i : Nat} (h : i < 64) : (nI i).toNatClampNeg = i := nI_clamp (by omega)
theorem cl_80 {i : Nat} (h : i < 80) : (nI i).toNatClampNeg = i := nI_clamp (by omega)
theorem cl_1280 {i : Nat} (h : i < 1280) : (nI i).toNatClampNeg = i := nI_clamp (by omega)
theorem tn_0 : (0 : Int32).toNatClampNeg = 0 := by decide
def lnOk (x : Int32) : Prop := ∃ m : Nat, m < 64 ∧ x = nI m
theorem rad_ok : ∀ m : Nat, m < 64 → (1 : Int32) ≤ nI m + 20 ∧ ¬ nI m + 20 = 0 ∧ ¬ (nI m + 20) * (nI m + 20) = 0 := by decide +kernel
def ab_ (x : Int32) : Int32 := if 0 ≤ x then x else 0 - x
theorem ab_f {x : Int32} : (if 0 ≤ x then x else 0 - x) = ab_ x := rfl
def apt (a o : Int32) : Int32 := if (36000 : Int32) - ab_ (a - o) < ab_ (a - o) then (36000 : Int32) - ab_ (a - o) else ab_ (a - o)
def trn (a v : Int32) : Int32 := (a + v) - (a + v) / (36000 : Int32) * (36000 : Int32)
def spd (σ : Sg) (x : Int32) : Int32 := (36000 : Int32) / (x + (20 : Int32)) + (100 : Int32) * σ.1 10 2 / ((x + (20 : Int32)) * (x + (20 : Int32)))
def car (σ : Sg) (i : Nat) : Int64 := (σ.1 2 i).toInt64 * (σ.1 0 i + (20 : Int32)).toInt64
def nrS (σ : Sg) (i : Nat) (x a w k : Int32) : Int32 := if w < ab_ (σ.1 0 i - x) then 0 else if k < apt (σ.1 1 i) a then 0 else 1
theorem e_X7_radiusOf {x : Int32} {M : Mem} : f_X7_radiusOf x M = some (M, x + (20 : Int32)) := rfl
theorem e_X7_turned {a v : Int32} {M : Mem} : f_X7_turned a v M = some (M, trn a v) := rfl
theorem e_X7_anglesApart {a o : Int32} {M : Mem} : f_X7_anglesApart a o M = some (M, apt a o) := rfl
theorem e_X6_speedIn {b : Nat} {σ : Sg} {x : Int32} (h : lnOk x) : f_X6_speedIn (xP b) x (memC b σ) = some (memC b σ, spd σ x) := by
  obtain ⟨m, hm, rfl⟩ := h
  obtain ⟨h1, h2, h3⟩ := rad_ok m hm
  simp only [f_X6_speedIn, e_X7_radiusOf, h1, h2, h3, spd, gd, lt_, rd, bd, ↓reduceIte, eq_self, and_self, true_and, and_true, not_false_eq_true, vi_t, cl_6, cl_20, cl_21, cl_40, cl_64, cl_80, cl_1280, Nat.reduceLT, tn_0, true_or, or_true, ab_f, xB_k, xB_r0, xB_r1, xB_r3, xB_r5, xB_r8, xB_r9, xB_r10, xB_i2, xB_i2_s, xB_i4, xB_i4_s, xB_i6, xB_i6_s, xB_i7, xB_i7_s, xH_k, xH_r0, xH_r1, xH_r2, xH_i3, xH_i3_s, xH_i4, xH_i4_s, xH_i5, xH_i5_s, xH_i6, xH_i6_s, xP_k, xP_i0, xP_i0_s, xL_k, xL_i0, xL_i0_s, xL_i1, xL_i1_s, xL_i2, xL_i2_s, xL_i3, xL_i3_s, xL_i4, xL_i4_s, xL_i5, xL_i5_s, xL_i6, xL_i6_s, xL_i7, xL_i7_s, xL_l8, xL_l8_s, xL_l9, xL_l9_s, xL_l10, xL_l10_s, xL_l11, xL_l11_s, xL_l12, xL_l12_s, xA_k, xA_n, xA_rk, xG_k, xG_i0, xG_i0_s, xG_i1, xG_i1_s, xG_i2, xG_i2_s, xG_i3, xG_i3_s, xG_i4, xG_i4_s, xG_i5, xG_i5_s, xG_i6, xG_i6_s, xMA_k, xMA_n, xMA_rk, xM_k, xM_i0, xM_i0_s, xM_i1, xM_i1_s, xM_i2, xM_i2_s, xFA_k, xFA_n, xFA_rk, xF_k, xF_r0, xF_i1, xF_i1_s, xFm_k, xFm_n, xFm_ik, xFm_ik_s, xCA_k, xCA_n, xCA_rk, xC_k, xC_i0, xC_i0_s, xC_i1, xC_i1_s, xC_i2, xC_i2_s, xC_i3, xC_i3_s, xW_k, xW_n, xW_ik, xW_ik_s, x1_k, x1_n, x1_ik, x1_ik_s, x2_k, x2_n, x2_ik, x2_ik_s, C_no20, C_no21, C_no22]
theorem e_X2_carried {b i : Nat} {σ : Sg} (hi : i < 80) : f_X2_carried (xG b i) (memC b σ) = some (memC b σ, car σ i) := by
  simp only [f_X2_carried, hi, car, gd, lt_, rd, bd, ↓reduceIte, eq_self, and_self, true_and, and_true, not_false_eq_true, vi_t, cl_6, cl_20, cl_21, cl_40, cl_64, cl_80, cl_1280, Nat.reduceLT, tn_0, true_or, or_true, ab_f, xB_k, xB_r0, xB_r1, xB_r3, xB_r5, xB_r8, xB_r9, xB_r10, xB_i2, xB_i2_s, xB_i4, xB_i4_s, xB_i6, xB_i6_s, xB_i7, xB_i7_s, xH_k, xH_r0, xH_r1, xH_r2, xH_i3, xH_i3_s, xH_i4, xH_i4_s, xH_i5, xH_i5_s, xH_i6, xH_i6_s, xP_k, xP_i0, xP_i0_s, xL_k, xL_i0, xL_i0_s, xL_i1, xL_i1_s, xL_i2, xL_i2_s, xL_i3, xL_i3_s, xL_i4, xL_i4_s, xL_i5, xL_i5_s, xL_i6, xL_i6_s, xL_i7, xL_i7_s, xL_l8, xL_l8_s, xL_l9, xL_l9_s, xL_l10, xL_l10_s, xL_l11, xL_l11_s, xL_l12, xL_l12_s, xA_k, xA_n, xA_rk, xG_k, xG_i0, xG_i0_s, xG_i1, xG_i1_s, xG_i2, xG_i2_s, xG_i3, xG_i3_s, xG_i4, xG_i4_s, xG_i5, xG_i5_s, xG_i6, xG_i6_s, xMA_k, xMA_n, xMA_rk, xM_k, xM_i0, xM_i0_s, xM_i1, xM_i1_s, xM_i2, xM_i2_s, xFA_k, xFA_n, xFA_rk, xF_k, xF_r0, xF_i1, xF_i1_s, xFm_k, xFm_n, xFm_ik, xFm_ik_s, xCA_k, xCA_n, xCA_rk, xC_k, xC_i0, xC_i0_s, xC_i1, xC_i1_s, xC_i2, xC_i2_s, xC_i3, xC_i3_s, xW_k, xW_n, xW_ik, xW_ik_s, x1_k, x1_n, x1_ik, x1_ik_s, x2_k, x2_n, x2_ik, x2_ik_s, C_no20, C_no21, C_no22]
theorem e_X2_isNear {b i : Nat} {σ : Sg} {x a w k : Int32} (hi : i < 80) : f_X2_isNear (xG b i) x a w k (memC b σ) = some (memC b σ, nrS σ i x a w k) := by
  simp only [f_X2_isNear, f_X2_isNear_b30, f_X2_isNear_b31, e_X7_anglesApart, hi, gd, lt_, rd, bd, ↓reduceIte, eq_self, and_self, true_and, and_true, not_false_eq_true, vi_t, cl_6, cl_20, cl_21, cl_40, cl_64, cl_80, cl_1280, Nat.reduceLT, tn_0, true_or, or_true, ab_f, xB_k, xB_r0, xB_r1, xB_r3, xB_r5, xB_r8, xB_r9, xB_r10, xB_i2, xB_i2_s, xB_i4, xB_i4_s, xB_i6, xB_i6_s, xB_i7, xB_i7_s, xH_k, xH_r0, xH_r1, xH_r2, xH_i3, xH_i3_s, xH_i4, xH_i4_s, xH_i5, xH_i5_s, xH_i6, xH_i6_s, xP_k, xP_i0, xP_i0_s, xL_k, xL_i0, xL_i0_s, xL_i1, xL_i1_s, xL_i2, xL_i2_s, xL_i3, xL_i3_s, xL_i4, xL_i4_s, xL_i5, xL_i5_s, xL_i6, xL_i6_s, xL_i7, xL_i7_s, xL_l8, xL_l8_s, xL_l9, xL_l9_s, xL_l10, xL_l10_s, xL_l11, xL_l11_s, xL_l12, xL_l12_s, xA_k, xA_n, xA_rk, xG_k, xG_i0, xG_i0_s, xG_i1, xG_i1_s, xG_i2, xG_i2_s, xG_i3, xG_i3_s, xG_i4, xG_i4_s, xG_i5, xG_i5_s, xG_i6, xG_i6_s, xMA_k, xMA_n, xMA_rk, xM_k, xM_i0, xM_i0_s, xM_i1, xM_i1_s, xM_i2, xM_i2_s, xFA_k, xFA_n, xFA_rk, xF_k, xF_r0, xF_i1, xF_i1_s, xFm_k, xFm_n, xFm_ik, xFm_ik_s, xCA_k, xCA_n, xCA_rk, xC_k, xC_i0, xC_i0_s, xC_i1, xC_i1_s, xC_i2, xC_i2_s, xC_i3, xC_i3_s, xW_k, xW_n, xW_ik, xW_ik_s, x1_k, x1_n, x1_ik, x1_ik_s, x2_k, x2_n, x2_ik, x2_ik_s, C_no20, C_no21, C_no22]
  unfold nrS
  by_cases h1 : w < ab_ (σ.1 0 i - x)
  · rw [if_pos h1, if_pos h1]
  · rw [if_neg h1, if_neg h1]
    by_cases h2 : k < apt (σ.1 1 i) a
    · rw [if_pos h2, if_pos h2]
    · rw [if_neg h2, if_neg h2]
def mmS (σ : Sg) (i : Nat) : Int32 := if σ.1 5 i = 0 then 0 else if σ.1 6 i = 0 then 1 else 0
theorem e_X2_mayMeet {b i : Nat} {σ : Sg} (hi : i < 80) : f_X2_mayMeet (xG b i) (memC b σ) = some (memC b σ, mmS σ i) := by
  simp only [f_X2_mayMeet, f_X2_mayMeet_b18, f_X2_mayMeet_b19, hi, mmS, gd, lt_, rd, bd, ↓reduceIte, eq_self, and_self, true_and, and_true, not_false_eq_true, vi_t, cl_6, cl_20, cl_21, cl_40, cl_64, cl_80, cl_1280, Nat.reduceLT, tn_0, true_or, or_true, ab_f, xB_k, xB_r0, xB_r1, xB_r3, xB_r5, xB_r8, xB_r9, xB_r10, xB_i2, xB_i2_s, xB_i4, xB_i4_s, xB_i6, xB_i6_s, xB_i7, xB_i7_s, xH_k, xH_r0, xH_r1, xH_r2, xH_i3, xH_i3_s, xH_i4, xH_i4_s, xH_i5, xH_i5_s, xH_i6, xH_i6_s, xP_k, xP_i0, xP_i0_s, xL_k, xL_i0, xL_i0_s, xL_i1, xL_i1_s, xL_i2, xL_i2_s, xL_i3, xL_i3_s, xL_i4, xL_i4_s, xL_i5, xL_i5_s, xL_i6, xL_i6_s, xL_i7, xL_i7_s, xL_l8, xL_l8_s, xL_l9, xL_l9_s, xL_l10, xL_l10_s, xL_l11, xL_l11_s, xL_l12, xL_l12_s, xA_k, xA_n, xA_rk, xG_k, xG_i0, xG_i0_s, xG_i1, xG_i1_s, xG_i2, xG_i2_s, xG_i3, xG_i3_s, xG_i4, xG_i4_s, xG_i5, xG_i5_s, xG_i6, xG_i6_s, xMA_k, xMA_n, xMA_rk, xM_k, xM_i0, xM_i0_s, xM_i1, xM_i1_s, xM_i2, xM_i2_s, xFA_k, xFA_n, xFA_rk, xF_k, xF_r0, xF_i1, xF_i1_s, xFm_k, xFm_n, xFm_ik, xFm_ik_s, xCA_k, xCA_n, xCA_rk, xC_k, xC_i0, xC_i0_s, xC_i1, xC_i1_s, xC_i2, xC_i2_s, xC_i3, xC_i3_s, xW_k, xW_n, xW_ik, xW_ik_s, x1_k, x1_n, x1_ik, x1_ik_s, x2_k, x2_n, x2_ik, x2_ik_s, C_no20, C_no21, C_no22]
  split
  · rfl
  · split <;> rfl
/-- a grain goes to a lane; behind the first or the last one it is gone -/
def tGo (σ : Sg) (i : Nat) (v : Int32) : Sg :=
  if 0 ≤ v then (if v < 64 then sI σ 0 i v else sL (sI (sI (sI (sI σ 0 i v) 5 i 0) 10 10 (σ.1 10 10 + 1)) 10 12 (σ.1 10 12 + σ.1 2 i)) 4 (σ.2 4 + (σ.1 2 i).toInt64 * (v + (20 : Int32)).toInt64))
  else sL (sI (sI (sI (sI σ 0 i v) 5 i 0) 10 9 (σ.1 10 9 + 1)) 10 11 (σ.1 10 11 + σ.1 2 i)) 3 (σ.2 3 + (σ.1 2 i).toInt64 * (v + (20 : Int32)).toInt64)
theorem e_X3_shift {b i : Nat} {σ : Sg} {d : Int32} (hi : i < 80) : f_X3_shift (xH b) (xG b i) d (memC b σ) = some (memC b (tGo σ i (σ.1 0 i + d))) := by
  simp only [f_X3_shift, f_X3_shift_b129, e_X2_carried hi, hi, gd, lt_, rd, bd, ↓reduceIte, eq_self, and_self, true_and, and_true, not_false_eq_true, vi_t, cl_6, cl_20, cl_21, cl_40, cl_64, cl_80, cl_1280, Nat.reduceLT, tn_0, true_or, or_true, ab_f, xB_k, xB_r0, xB_r1, xB_r3, xB_r5, xB_r8, xB_r9, xB_r10, xB_i2, xB_i2_s, xB_i4, xB_i4_s, xB_i6, xB_i6_s, xB_i7, xB_i7_s, xH_k, xH_r0, xH_r1, xH_r2, xH_i3, xH_i3_s, xH_i4, xH_i4_s, xH_i5, xH_i5_s, xH_i6, xH_i6_s, xP_k, xP_i0, xP_i0_s, xL_k, xL_i0, xL_i0_s, xL_i1, xL_i1_s, xL_i2, xL_i2_s, xL_i3, xL_i3_s, xL_i4, xL_i4_s, xL_i5, xL_i5_s, xL_i6, xL_i6_s, xL_i7, xL_i7_s, xL_l8, xL_l8_s, xL_l9, xL_l9_s, xL_l10, xL_l10_s, xL_l11, xL_l11_s, xL_l12, xL_l12_s, xA_k, xA_n, xA_rk, xG_k, xG_i0, xG_i0_s, xG_i1, xG_i1_s, xG_i2, xG_i2_s, xG_i3, xG_i3_s, xG_i4, xG_i4_s, xG_i5, xG_i5_s, xG_i6, xG_i6_s, xMA_k, xMA_n, xMA_rk, xM_k, xM_i0, xM_i0_s, xM_i1, xM_i1_s, xM_i2, xM_i2_s, xFA_k, xFA_n, xFA_rk, xF_k, xF_r0, xF_i1, xF_i1_s, xFm_k, xFm_n, xFm_ik, xFm_ik_s, xCA_k, xCA_n, xCA_rk, xC_k, xC_i0, xC_i0_s, xC_i1, xC_i1_s, xC_i2, xC_i2_s, xC_i3, xC_i3_s, xW_k, xW_n, xW_ik, xW_ik_s, x1_k, x1_n, x1_ik, x1_ik_s, x2_k, x2_n, x2_ik, x2_ik_s, C_no20, C_no21, C_no22, sI_1, sI_2, sL_1, sL_2, false_and, and_false, Nat.reduceEqDiff, reduceCtorEq, ↓reduceIte, eq_self, and_self, true_and, and_true, car]
  unfold tGo
  split
  · split <;> rfl
  · rfl
