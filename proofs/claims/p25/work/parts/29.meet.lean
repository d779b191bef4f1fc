/-! ===== PURE: two grains meet ===== -/
theorem tBump_n {σ : Sg} {i j : Nat} : (tBump σ i j).1 10 0 = σ.1 10 0 := by
  unfold tBump tBuE
  split <;> simp only [sI_1, sI_2, sL_1, sL_2, false_and, and_false, Nat.reduceEqDiff, reduceCtorEq, ↓reduceIte, eq_self, and_self, true_and, and_true, c_go _ 0 _ _ 0 (by decide)]
theorem tBreak_n {σ : Sg} {g n : Nat} : (tBreak σ g n).1 10 0 = nI (n + 1) := by
  simp only [tBreak, tBrE, sI_1, sI_2, sL_1, sL_2, false_and, and_false, Nat.reduceEqDiff, reduceCtorEq, ↓reduceIte, eq_self, and_self, true_and, and_true, c_go _ 0 _ _ 0 (by decide), tBr0]
theorem tBreak_car {σ : Sg} {g n k : Nat} (h1 : k ≠ g) (h2 : k ≠ n) : car (tBreak σ g n) k = car σ k := by
  unfold tBreak tBrE
  rw [car_sI _ 22 _ _ _ (by decide), car_sL, car_sI _ 10 _ _ _ (by decide)]
  unfold car
  rw [tGo_0 h2, tGo_0 h1, tGo_c _ _ _ 2 _ (by decide), tGo_c _ _ _ 2 _ (by decide)]
  simp only [tBr0, sI_1, sI_2, sL_1, sL_2, false_and, and_false, Nat.reduceEqDiff, reduceCtorEq, ↓reduceIte, eq_self, and_self, true_and, and_true, h1, h2]
def clS (σ : Sg) (i j : Nat) : Int32 := σ.1 3 i + σ.1 3 j + ab_ (spd σ (σ.1 0 i) - spd σ (σ.1 0 j))
def tMet (σ : Sg) (i j : Nat) : Sg := sI (sI (sI (sI σ 6 i 1) 6 j 1) 22 i 1) 22 j 1
def tMeet (σ : Sg) (i j n : Nat) : Sg :=
  if σ.1 10 3 < clS σ i j then
    (if clS σ i j ≤ σ.1 10 4 then tBump (tMet σ i j) i j
     else if σ.1 2 (if σ.1 2 j ≤ σ.1 2 i then j else i) < 2 then tBump (tMet σ i j) i j
     else if 80 ≤ n then tBump (tMet σ i j) i j
     else tBreak (tMet σ i j) (if σ.1 2 j ≤ σ.1 2 i then j else i) n)
  else tStick (tMet σ i j) i j
theorem n80 {n : Nat} (h : n ≤ 80) : ((80 : Int32) ≤ nI n) = (80 ≤ n) := propext (nI_leI (a := 80) (b := n) (by omega) (by omega))
theorem e_X3_meet {b i j n : Nat} {σ : Sg} (hi : i < 80) (hj : j < 80) (hij : (i = j) = False) (hji : (j = i) = False) (hin : (i = n) = False) (hni : (n = i) = False) (hjn : (j = n) = False) (hnj : (n = j) = False) (hm : msP σ i j) (hl1 : lnOk (σ.1 0 i)) (hl2 : lnOk (σ.1 0 j)) (hc : σ.1 10 0 = nI n) (hn : n ≤ 80) :
    f_X3_meet (xH b) (xG b i) (xG b j) (memC b σ) = some (memC b (tMeet σ i j n)) := by
  have e1 : memC b (sI (sI σ 6 i 1) 6 j 1) = memC b (tMet σ i j) := by unfold tMet; rw [C_no22, C_no22]
  have r : ∀ c k, c ≠ 6 → c ≠ 22 → (tMet σ i j).1 c k = σ.1 c k := fun c k h6 h22 => by simp only [tMet, sI_1, sI_2, sL_1, sL_2, false_and, and_false, Nat.reduceEqDiff, reduceCtorEq, ↓reduceIte, eq_self, and_self, true_and, and_true, h6, h22]
  have hs : ∀ x, spd (tMet σ i j) x = spd σ x := fun x => by unfold spd; rw [r 10 2 (by decide) (by decide)]
  have b63 : ∀ g, g < 80 → (g = n) = False → (n = g) = False → f_X3_meet_b63 (xG b g) (xH b) (xG b i) (xG b j) (clS σ i j) (memC b (tMet σ i j)) = some (memC b (if σ.1 10 3 < clS σ i j then
    (if clS σ i j ≤ σ.1 10 4 then tBump (tMet σ i j) i j
     else if σ.1 2 g < 2 then tBump (tMet σ i j) i j
     else if 80 ≤ n then tBump (tMet σ i j) i j
     else tBreak (tMet σ i j) g n)
  else tStick (tMet σ i j) i j)) := by
    intro g hg g1 g2
    have hm' : msP (tMet σ i j) i j := by unfold msP; rw [r 2 i (by decide) (by decide), r 2 j (by decide) (by decide)]; exact hm
    have q3 := r 10 3 (by decide) (by decide)
    have q4 := r 10 4 (by decide) (by decide)
    have q0 : (tMet σ i j).1 10 0 = nI n := (r 10 0 (by decide) (by decide)).trans hc
    have qg := r 2 g (by decide) (by decide)
    simp only [f_X3_meet_b63, f_X3_meet_b117, f_X3_meet_b123, hg, hi, hj, e_X3_bump hi hj hij hji, e_X3_stick hi hj hij hji hm', q3, q4, q0, qg, n80 hn, gd, lt_, rd, bd, ↓reduceIte, eq_self, and_self, true_and, and_true, not_false_eq_true, vi_t, cl_6, cl_20, cl_21, cl_40, cl_64, cl_80, cl_1280, Nat.reduceLT, tn_0, true_or, or_true, ab_f, xB_k, xB_r0, xB_r1, xB_r3, xB_r5, xB_r8, xB_r9, xB_r10, xB_i2, xB_i2_s, xB_i4, xB_i4_s, xB_i6, xB_i6_s, xB_i7, xB_i7_s, xH_k, xH_r0, xH_r1, xH_r2, xH_i3, xH_i3_s, xH_i4, xH_i4_s, xH_i5, xH_i5_s, xH_i6, xH_i6_s, xP_k, xP_i0, xP_i0_s, xL_k, xL_i0, xL_i0_s, xL_i1, xL_i1_s, xL_i2, xL_i2_s, xL_i3, xL_i3_s, xL_i4, xL_i4_s, xL_i5, xL_i5_s, xL_i6, xL_i6_s, xL_i7, xL_i7_s, xL_l8, xL_l8_s, xL_l9, xL_l9_s, xL_l10, xL_l10_s, xL_l11, xL_l11_s, xL_l12, xL_l12_s, xA_k, xA_n, xA_rk, xG_k, xG_i0, xG_i0_s, xG_i1, xG_i1_s, xG_i2, xG_i2_s, xG_i3, xG_i3_s, xG_i4, xG_i4_s, xG_i5, xG_i5_s, xG_i6, xG_i6_s, xMA_k, xMA_n, xMA_rk, xM_k, xM_i0, xM_i0_s, xM_i1, xM_i1_s, xM_i2, xM_i2_s, xFA_k, xFA_n, xFA_rk, xF_k, xF_r0, xF_i1, xF_i1_s, xFm_k, xFm_n, xFm_ik, xFm_ik_s, xCA_k, xCA_n, xCA_rk, xC_k, xC_i0, xC_i0_s, xC_i1, xC_i1_s, xC_i2, xC_i2_s, xC_i3, xC_i3_s, xW_k, xW_n, xW_ik, xW_ik_s, x1_k, x1_n, x1_ik, x1_ik_s, x2_k, x2_n, x2_ik, x2_ik_s, C_no20, C_no21, C_no22]
    by_cases h1 : σ.1 10 3 < clS σ i j
    · rw [if_pos h1, if_pos h1]
      by_cases h2 : clS σ i j ≤ σ.1 10 4
      · rw [if_pos h2, if_pos h2]
      · rw [if_neg h2, if_neg h2]
        by_cases h3 : σ.1 2 g < 2
        · rw [if_pos h3, if_pos h3]
        · rw [if_neg h3, if_neg h3]
          by_cases h4 : 80 ≤ n
          · rw [if_pos h4, if_pos h4]
          · rw [if_neg h4, if_neg h4, e_X3_breakUp hg (by omega) g1 g2 q0]
    · rw [if_neg h1, if_neg h1]
  have e2 : f_X3_meet (xH b) (xG b i) (xG b j) (memC b σ) = if σ.1 2 j ≤ σ.1 2 i then f_X3_meet_b63 (xG b j) (xH b) (xG b i) (xG b j) (clS σ i j) (memC b (tMet σ i j)) else f_X3_meet_b63 (xG b i) (xH b) (xG b i) (xG b j) (clS σ i j) (memC b (tMet σ i j)) := by
    simp only [f_X3_meet, hi, hj, xG_k, xH_k, xP_k, xH_r0, xG_i6_s, gd, lt_, rd, ↓reduceIte]
    rw [e1]
    simp only [hi, hj, xG_k, xH_k, xP_k, xH_r0, xG_i0, xG_i2, xG_i3, r 0 _ (by decide) (by decide), r 2 _ (by decide) (by decide), r 3 _ (by decide) (by decide), e_X6_speedIn hl1, e_X6_speedIn hl2, hs, bd, ab_f, clS, gd, lt_, rd, ↓reduceIte]
  rw [e2]
  unfold tMeet
  by_cases h : σ.1 2 j ≤ σ.1 2 i
  · simp only [if_pos h]; exact b63 j hj hjn hnj
  · simp only [if_neg h]; exact b63 i hi hin hni
theorem i32_2 {x : Int32} : (x ≤ 1) = (x < 2) := by
  rw [Int32.le_iff_toInt_le, Int32.lt_iff_toInt_lt]
  have h1 : (1 : Int32).toInt = 1 := rfl
  have h2 : (2 : Int32).toInt = 2 := rfl
  rw [h1, h2]
  exact propext ⟨fun h => by omega, fun h => by omega⟩
theorem i64_b1 (a c a' x : Int64) : a + c - a' - c - x = a - a' - x := by grind
theorem i64_b2 (a c c' x : Int64) : a + c - a - c' - x = c - c' - x := by grind
theorem i64_z (x : Int64) : x - 0 = x := by grind
