/-! ===== PURE: two grains bump; moves of two grains change places ===== -/
theorem Sg_ext {σ τ : Sg} (h1 : ∀ c i, σ.1 c i = τ.1 c i) (h2 : ∀ j, σ.2 j = τ.2 j) : σ = τ := Prod.ext (funext fun c => funext fun i => h1 c i) (funext h2)
theorem sI_sI_ne (σ : Sg) {c i c' i' : Nat} (v v' : Int32) (h : c ≠ c' ∨ i ≠ i') : sI (sI σ c i v) c' i' v' = sI (sI σ c' i' v') c i v := by
  refine Sg_ext (fun a k => ?_) (fun _ => rfl)
  simp only [sI_1]
  by_cases h1 : a = c' ∧ k = i'
  · rw [if_pos h1, if_neg (by omega), if_pos h1]
  · rw [if_neg h1, if_neg h1]
theorem sI_sI_eq (σ : Sg) (c i : Nat) (v v' : Int32) : sI (sI σ c i v) c i v' = sI σ c i v' := by
  refine Sg_ext (fun a k => ?_) (fun _ => rfl)
  simp only [sI_1]
  split <;> rfl
theorem sL_sI (σ : Sg) (c i j : Nat) (v : Int32) (w : Int64) : sI (sL σ j w) c i v = sL (sI σ c i v) j w := rfl
theorem sL_sL_ne (σ : Sg) {j j' : Nat} (w w' : Int64) (h : j ≠ j') : sL (sL σ j w) j' w' = sL (sL σ j' w') j w := by
  refine Sg_ext (fun _ _ => rfl) (fun a => ?_)
  simp only [sL_2]
  by_cases h1 : a = j'
  · rw [if_pos h1, if_neg (by omega), if_pos h1]
  · rw [if_neg h1, if_neg h1]
theorem sL_sL_eq (σ : Sg) (j : Nat) (w w' : Int64) : sL (sL σ j w) j w' = sL σ j w' := by
  refine Sg_ext (fun _ _ => rfl) (fun a => ?_)
  simp only [sL_2]
  split <;> rfl
/-- a move commutes with what it neither reads nor writes -/
theorem tGo_sI {σ : Sg} {i c k : Nat} {v x : Int32} (h : (c ≠ 0 ∧ c ≠ 2 ∧ c ≠ 5 ∧ c ≠ 10) ∨ ((c = 0 ∨ c = 2 ∨ c = 5) ∧ k ≠ i) ∨ (c = 10 ∧ k ≠ 9 ∧ k ≠ 10 ∧ k ≠ 11 ∧ k ≠ 12)) : tGo (sI σ c k x) i v = sI (tGo σ i v) c k x := by
  have r : ∀ n, (n = 9 ∨ n = 10 ∨ n = 11 ∨ n = 12) → (sI σ c k x).1 10 n = σ.1 10 n := fun n hn => by
    rw [sI_1, if_neg (by omega)]
  have r2 : (sI σ c k x).1 2 i = σ.1 2 i := by rw [sI_1, if_neg (by omega)]
  have w0 : ∀ τ : Sg, ∀ y, sI (sI τ c k x) 0 i y = sI (sI τ 0 i y) c k x := fun τ y => sI_sI_ne τ x y (by omega)
  have w5 : ∀ τ : Sg, ∀ y, sI (sI τ c k x) 5 i y = sI (sI τ 5 i y) c k x := fun τ y => sI_sI_ne τ x y (by omega)
  have w10 : ∀ τ : Sg, ∀ y n, (n = 9 ∨ n = 10 ∨ n = 11 ∨ n = 12) → sI (sI τ c k x) 10 n y = sI (sI τ 10 n y) c k x := fun τ y n hn => sI_sI_ne τ x y (by omega)
  unfold tGo
  rw [r 9 (by omega), r 10 (by omega), r 11 (by omega), r 12 (by omega), r2]
  simp only [sI_2, w0, w5, w10 _ _ 9 (by omega), w10 _ _ 10 (by omega), w10 _ _ 11 (by omega), w10 _ _ 12 (by omega), ← sL_sI]
  split
  · split <;> rfl
  · rfl
theorem tGo_sL {σ : Sg} {i j : Nat} {v : Int32} {w : Int64} (h : j ≠ 3 ∧ j ≠ 4) : tGo (sL σ j w) i v = sL (tGo σ i v) j w := by
  have h3 : ¬ 3 = j := fun e => h.1 e.symm
  have h4 : ¬ 4 = j := fun e => h.2 e.symm
  unfold tGo
  simp only [sL_1, sL_2, h3, h4, if_false]
  split
  · split
    · rfl
    · exact sL_sL_ne (j := j) (j' := 4) (sI (sI (sI (sI σ 0 i v) 5 i 0) 10 10 (σ.1 10 10 + 1)) 10 12 (σ.1 10 12 + σ.1 2 i)) _ _ h.2
  · exact sL_sL_ne (j := j) (j' := 3) (sI (sI (sI (sI σ 0 i v) 5 i 0) 10 9 (σ.1 10 9 + 1)) 10 11 (σ.1 10 11 + σ.1 2 i)) _ _ h.1
theorem i32_ac (a x y : Int32) : a + x + y = a + y + x := by rw [Int32.add_assoc, Int32.add_comm x y, ← Int32.add_assoc]
theorem i64_ac (a x y : Int64) : a + x + y = a + y + x := by rw [Int64.add_assoc, Int64.add_comm x y, ← Int64.add_assoc]
theorem tGo_comm {σ : Sg} {i j : Nat} {v w : Int32} (hij : i ≠ j) : tGo (tGo σ i v) j w = tGo (tGo σ j w) i v := by
  have hji : j ≠ i := fun e => hij e.symm
  refine Sg_ext (fun c k => ?_) (fun c => ?_)
  · unfold tGo
    by_cases h1 : 0 ≤ v <;> by_cases h2 : v < 64 <;> by_cases h3 : 0 ≤ w <;> by_cases h4 : w < 64 <;> simp only [h1, h2, h3, h4, if_true, if_false, sI_1, sI_2, sL_1, sL_2, false_and, and_false, Nat.reduceEqDiff, reduceCtorEq, ↓reduceIte, eq_self, and_self, true_and, and_true, hij, hji] <;> grind [i32_ac]
  · unfold tGo
    by_cases h1 : 0 ≤ v <;> by_cases h2 : v < 64 <;> by_cases h3 : 0 ≤ w <;> by_cases h4 : w < 64 <;> simp only [h1, h2, h3, h4, if_true, if_false, sI_1, sI_2, sL_1, sL_2, false_and, and_false, Nat.reduceEqDiff, reduceCtorEq, ↓reduceIte, eq_self, and_self, true_and, and_true, hij, hji] <;> grind [i64_ac]
theorem tGo_0 {σ : Sg} {i j : Nat} {v : Int32} (hij : j ≠ i) : (tGo σ i v).1 0 j = σ.1 0 j := by
  unfold tGo
  split
  · split <;> simp only [sI_1, sI_2, sL_1, sL_2, false_and, and_false, Nat.reduceEqDiff, reduceCtorEq, ↓reduceIte, eq_self, and_self, true_and, and_true, hij]
  · simp only [sI_1, sI_2, sL_1, sL_2, false_and, and_false, Nat.reduceEqDiff, reduceCtorEq, ↓reduceIte, eq_self, and_self, true_and, and_true, hij]
def tBuE (τ : Sg) (i j : Nat) (m0 : Int64) : Sg :=
  sL (sI (sI (sI τ 3 i (τ.1 3 i * τ.1 10 5 / (100 : Int32))) 3 j (τ.1 3 j * τ.1 10 5 / (100 : Int32))) 10 8 (τ.1 10 8 + 1)) 2 (τ.2 2 + (m0 - car τ i - car τ j))
def tBump (σ : Sg) (i j : Nat) : Sg :=
  if σ.1 0 j < σ.1 0 i then tBuE (tGo (tGo σ i (σ.1 0 i + 1)) j (σ.1 0 j + -1)) i j (car σ i + car σ j)
  else tBuE (tGo (tGo σ i (σ.1 0 i + -1)) j (σ.1 0 j + 1)) i j (car σ i + car σ j)
theorem s_bump26 {b i j : Nat} {σ : Sg} {d : Int32} {m0 : Int64} (hi : i < 80) (hj : j < 80) (hij : (i = j) = False) (hji : (j = i) = False) :
    f_X3_bump_b26 d (xH b) (xG b i) (xG b j) m0 (memC b σ) = some (memC b (tBuE (tGo (tGo σ i (σ.1 0 i + d)) j (σ.1 0 j + -d)) i j m0)) := by
  simp only [f_X3_bump_b26, gd, xH_k, e_X3_shift hi, ↓reduceIte]
  rw [show tGo (tGo σ i (σ.1 0 i + d)) j (σ.1 0 j + -d) = tGo (tGo σ i (σ.1 0 i + d)) j ((tGo σ i (σ.1 0 i + d)).1 0 j + -d) from by rw [tGo_0 (by simp [hji])]]
  generalize tGo σ i (σ.1 0 i + d) = τ
  simp only [bd, xH_k, e_X3_shift hj, ↓reduceIte]
  generalize tGo τ j (τ.1 0 j + -d) = υ
  simp only [hi, hj, e_X2_carried hi, e_X2_carried hj, gd, lt_, rd, bd, ↓reduceIte, eq_self, and_self, true_and, and_true, not_false_eq_true, vi_t, cl_6, cl_20, cl_21, cl_40, cl_64, cl_80, cl_1280, Nat.reduceLT, tn_0, true_or, or_true, ab_f, xB_k, xB_r0, xB_r1, xB_r3, xB_r5, xB_r8, xB_r9, xB_r10, xB_i2, xB_i2_s, xB_i4, xB_i4_s, xB_i6, xB_i6_s, xB_i7, xB_i7_s, xH_k, xH_r0, xH_r1, xH_r2, xH_i3, xH_i3_s, xH_i4, xH_i4_s, xH_i5, xH_i5_s, xH_i6, xH_i6_s, xP_k, xP_i0, xP_i0_s, xL_k, xL_i0, xL_i0_s, xL_i1, xL_i1_s, xL_i2, xL_i2_s, xL_i3, xL_i3_s, xL_i4, xL_i4_s, xL_i5, xL_i5_s, xL_i6, xL_i6_s, xL_i7, xL_i7_s, xL_l8, xL_l8_s, xL_l9, xL_l9_s, xL_l10, xL_l10_s, xL_l11, xL_l11_s, xL_l12, xL_l12_s, xA_k, xA_n, xA_rk, xG_k, xG_i0, xG_i0_s, xG_i1, xG_i1_s, xG_i2, xG_i2_s, xG_i3, xG_i3_s, xG_i4, xG_i4_s, xG_i5, xG_i5_s, xG_i6, xG_i6_s, xMA_k, xMA_n, xMA_rk, xM_k, xM_i0, xM_i0_s, xM_i1, xM_i1_s, xM_i2, xM_i2_s, xFA_k, xFA_n, xFA_rk, xF_k, xF_r0, xF_i1, xF_i1_s, xFm_k, xFm_n, xFm_ik, xFm_ik_s, xCA_k, xCA_n, xCA_rk, xC_k, xC_i0, xC_i0_s, xC_i1, xC_i1_s, xC_i2, xC_i2_s, xC_i3, xC_i3_s, xW_k, xW_n, xW_ik, xW_ik_s, x1_k, x1_n, x1_ik, x1_ik_s, x2_k, x2_n, x2_ik, x2_ik_s, C_no20, C_no21, C_no22]
  simp only [tBuE, car_sI _ 3 _ _ _ (by decide : (3:Nat) ≠ 0 ∧ (3:Nat) ≠ 2), car_sI _ 10 _ _ _ (by decide : (10:Nat) ≠ 0 ∧ (10:Nat) ≠ 2), hij, hji, sI_1, sI_2, sL_1, sL_2, false_and, and_false, Nat.reduceEqDiff, reduceCtorEq, ↓reduceIte, eq_self, and_self, true_and, and_true]
theorem e_X3_bump {b i j : Nat} {σ : Sg} (hi : i < 80) (hj : j < 80) (hij : (i = j) = False) (hji : (j = i) = False) : f_X3_bump (xH b) (xG b i) (xG b j) (memC b σ) = some (memC b (tBump σ i j)) := by
  simp only [f_X3_bump, hi, hj, e_X2_carried hi, e_X2_carried hj, s_bump26 hi hj hij hji, gd, lt_, rd, bd, ↓reduceIte, eq_self, and_self, true_and, and_true, not_false_eq_true, vi_t, cl_6, cl_20, cl_21, cl_40, cl_64, cl_80, cl_1280, Nat.reduceLT, tn_0, true_or, or_true, ab_f, xB_k, xB_r0, xB_r1, xB_r3, xB_r5, xB_r8, xB_r9, xB_r10, xB_i2, xB_i2_s, xB_i4, xB_i4_s, xB_i6, xB_i6_s, xB_i7, xB_i7_s, xH_k, xH_r0, xH_r1, xH_r2, xH_i3, xH_i3_s, xH_i4, xH_i4_s, xH_i5, xH_i5_s, xH_i6, xH_i6_s, xP_k, xP_i0, xP_i0_s, xL_k, xL_i0, xL_i0_s, xL_i1, xL_i1_s, xL_i2, xL_i2_s, xL_i3, xL_i3_s, xL_i4, xL_i4_s, xL_i5, xL_i5_s, xL_i6, xL_i6_s, xL_i7, xL_i7_s, xL_l8, xL_l8_s, xL_l9, xL_l9_s, xL_l10, xL_l10_s, xL_l11, xL_l11_s, xL_l12, xL_l12_s, xA_k, xA_n, xA_rk, xG_k, xG_i0, xG_i0_s, xG_i1, xG_i1_s, xG_i2, xG_i2_s, xG_i3, xG_i3_s, xG_i4, xG_i4_s, xG_i5, xG_i5_s, xG_i6, xG_i6_s, xMA_k, xMA_n, xMA_rk, xM_k, xM_i0, xM_i0_s, xM_i1, xM_i1_s, xM_i2, xM_i2_s, xFA_k, xFA_n, xFA_rk, xF_k, xF_r0, xF_i1, xF_i1_s, xFm_k, xFm_n, xFm_ik, xFm_ik_s, xCA_k, xCA_n, xCA_rk, xC_k, xC_i0, xC_i0_s, xC_i1, xC_i1_s, xC_i2, xC_i2_s, xC_i3, xC_i3_s, xW_k, xW_n, xW_ik, xW_ik_s, x1_k, x1_n, x1_ik, x1_ik_s, x2_k, x2_n, x2_ik, x2_ik_s, C_no20, C_no21, C_no22]
  unfold tBump
  split <;> rfl
