/-! ===== PURE: the law asks of all grains, of the moons, of the sums ===== -/
theorem td0 {b nn i : Nat} {σ : Sg} (g : InvG nn σ) (hi : i < nn) : f_X7_told b (nI i) (0 : Int32) (memC b σ) = some (memC b σ, .inl (σ.1 0 i)) := k_told g hi (by decide)
theorem td1 {b nn i : Nat} {σ : Sg} (g : InvG nn σ) (hi : i < nn) : f_X7_told b (nI i) (1 : Int32) (memC b σ) = some (memC b σ, .inl (σ.1 1 i)) := k_told g hi (by decide)
theorem td2 {b nn i : Nat} {σ : Sg} (g : InvG nn σ) (hi : i < nn) : f_X7_told b (nI i) (2 : Int32) (memC b σ) = some (memC b σ, .inl (σ.1 2 i)) := k_told g hi (by decide)
theorem td3 {b nn i : Nat} {σ : Sg} (g : InvG nn σ) (hi : i < nn) : f_X7_told b (nI i) (3 : Int32) (memC b σ) = some (memC b σ, .inl (σ.1 3 i)) := k_told g hi (by decide)
theorem td4 {b nn i : Nat} {σ : Sg} (g : InvG nn σ) (hi : i < nn) : f_X7_told b (nI i) (4 : Int32) (memC b σ) = some (memC b σ, .inl (σ.1 4 i)) := k_told g hi (by decide)
theorem td5 {b nn i : Nat} {σ : Sg} (g : InvG nn σ) (hi : i < nn) : f_X7_told b (nI i) (5 : Int32) (memC b σ) = some (memC b σ, .inl (σ.1 5 i)) := by
  have h := k_told (b := b) (p1 := (5 : Int32)) g hi (by decide)
  rw [h]
  have e : tdV σ i 5 = if σ.1 5 i = 0 then 0 else 1 := rfl
  have hn := g.2.1
  rw [e]
  rcases g.okG i (by omega) with h5 | ⟨h5, -⟩
  · rw [if_pos h5, h5]
  · rw [if_neg (by rw [h5]; decide), h5]
section M10
variable {b d nn mm nc ns L : Nat} {xs : Nat → Int32} {σ : Sg} {M : Mem} {a1 a2 a3 : Int64} {n18 w19 w20 w21 w22 w24 : Int32}
theorem s_1644 {i : Nat} {k281 : _} {k1644 : _} (hb : nc + 12 ≤ 600104 ∧ ns + 72 ≤ 7301314) (hG : InvG nn σ) (hnn : nn < 64) (hi : i < nn) :
    f_L_law_b1644 L xs k281 k1644 b (yLa d) (yAn d) (yMa d) (yUn d) (yDa d) (yTh d) (yHm d) (yC d) (yM d) a1 a2 a3 (nI nn) n18 w19 w20 w21 w22 w24 (mo σ i) (su σ i) (cn σ i) (nI i) (memC b σ) (memM d σ) nc ns = k1644 b (yLa d) (yAn d) (yMa d) (yUn d) (yDa d) (yTh d) (yHm d) (yC d) (yM d) a1 a2 a3 (nI nn) n18 w19 w20 w21 w22 w24 (mo σ (i + 1)) (su σ (i + 1)) (cn σ (i + 1)) (nI (i + 1)) (memC b σ) (memM d σ) (nc + 12) (ns + 72) := by
  have hle := nle_t hi (by omega)
  have hi6 : i < 64 := by omega
  have t0 := td0 (b := b) hG hi
  have t1 := td1 (b := b) hG hi
  have t2 := td2 (b := b) hG hi
  have t3 := td3 (b := b) hG hi
  have t4 := td4 (b := b) hG hi
  have t5 := td5 (b := b) hG hi
  have hg : nc + 2 ≤ 600104 ∧ nc + 2 + 2 ≤ 600104 ∧ nc + 2 + 2 + 2 ≤ 600104 ∧ nc + 2 + 2 + 2 + 2 ≤ 600104 ∧ nc + 2 + 2 + 2 + 2 + 2 ≤ 600104 ∧ nc + 2 + 2 + 2 + 2 + 2 + 2 ≤ 600104 := by omega
  have hg2 : ns + 12 ≤ 7301314 ∧ ns + 12 + 12 ≤ 7301314 ∧ ns + 12 + 12 + 12 ≤ 7301314 ∧ ns + 12 + 12 + 12 + 12 ≤ 7301314 ∧ ns + 12 + 12 + 12 + 12 + 12 ≤ 7301314 ∧ ns + 12 + 12 + 12 + 12 + 12 + 12 ≤ 7301314 := by omega
  have q1 : nc + 2 + 2 + 2 + 2 + 2 + 2 = nc + 12 := by omega
  have q2 : ns + 12 + 12 + 12 + 12 + 12 + 12 = ns + 72 := by omega
  rcases hG.okG i (by omega) with h5 | ⟨h5, -⟩
  · rw [h5] at t5
    have em : mo σ (i + 1) = mo σ i := if_pos h5
    have es : su σ (i + 1) = su σ i := if_pos h5
    have ec : cn σ (i + 1) = cn σ i := if_pos h5
    rw [em, es, ec]
    simp only [f_L_law_b1644, f_L_law_b1778, hg, hg2, hle, hi6, t0, t1, t2, t3, t4, t5, h5, xB_k, gk_1, bn_l, nI_1, q1, q2, gd, lt_, rd, bd, ↓reduceIte, eq_self, and_self, true_and, and_true, not_false_eq_true, vi_t, cl_6, cl_20, cl_21, cl_40, cl_64, cl_80, cl_1280, Nat.reduceLT, tn_0, true_or, or_true, ab_f, yLa_k, yLa_n, yLa_ik, yLa_ik_s, yAn_k, yAn_n, yAn_ik, yAn_ik_s, yMa_k, yMa_n, yMa_ik, yMa_ik_s, yUn_k, yUn_n, yUn_ik, yUn_ik_s, yDa_k, yDa_n, yDa_ik, yDa_ik_s, yTh_k, yTh_n, yTh_ik, yTh_ik_s, yHm_k, yHm_n, yHm_ik, yHm_ik_s, yC_k, yC_n, yC_i1, yC_i1_s, yC_i2, yC_i2_s, yC_i3, yC_i3_s, yC_i4, yC_i4_s, yC_i5, yC_i5_s, yC_i6, yC_i6_s, yC_i7, yC_i7_s, yC_i8, yC_i8_s, yC_i9, yC_i9_s, yM_k, yM_n, yM_m0, yM_m0_s, yM_m1, yM_m1_s, yM_m2, yM_m2_s, M_no11, M_no12, M_no13, M_no14, M_no15, M_no16, M_no17, M_no18, M_no19, M_no20, M_no21, M_no22, M_nl0, M_nl1, M_nl2, M_nl3, M_nl4, M_nl5]
  · have z1 : ¬ σ.1 5 i = 0 := by rw [h5]; decide
    rw [h5] at t5
    have em : mo σ (i + 1) = mo σ i + car σ i := if_neg z1
    have es : su σ (i + 1) = su σ i + σ.1 2 i := if_neg z1
    have ec : cn σ (i + 1) = cn σ i + 1 := if_neg z1
    have z10 : ¬ (1 : Int32) = 0 := by decide
    rw [em, es, ec]
    simp only [f_L_law_b1644, f_L_law_b1778, hg, hg2, hle, hi6, t0, t1, t2, t3, t4, t5, h5, z10, e_L_moment hi6, xB_k, gk_1, bn_l, nI_1, q1, q2, gd, lt_, rd, bd, ↓reduceIte, eq_self, and_self, true_and, and_true, not_false_eq_true, vi_t, cl_6, cl_20, cl_21, cl_40, cl_64, cl_80, cl_1280, Nat.reduceLT, tn_0, true_or, or_true, ab_f, yLa_k, yLa_n, yLa_ik, yLa_ik_s, yAn_k, yAn_n, yAn_ik, yAn_ik_s, yMa_k, yMa_n, yMa_ik, yMa_ik_s, yUn_k, yUn_n, yUn_ik, yUn_ik_s, yDa_k, yDa_n, yDa_ik, yDa_ik_s, yTh_k, yTh_n, yTh_ik, yTh_ik_s, yHm_k, yHm_n, yHm_ik, yHm_ik_s, yC_k, yC_n, yC_i1, yC_i1_s, yC_i2, yC_i2_s, yC_i3, yC_i3_s, yC_i4, yC_i4_s, yC_i5, yC_i5_s, yC_i6, yC_i6_s, yC_i7, yC_i7_s, yC_i8, yC_i8_s, yC_i9, yC_i9_s, yM_k, yM_n, yM_m0, yM_m0_s, yM_m1, yM_m1_s, yM_m2, yM_m2_s, M_no11, M_no12, M_no13, M_no14, M_no15, M_no16, M_no17, M_no18, M_no19, M_no20, M_no21, M_no22, M_nl0, M_nl1, M_nl2, M_nl3, M_nl4, M_nl5]
theorem l_1644 {k281 : _} (hb : nc + 12 * nn ≤ 600104 ∧ ns + 72 * nn ≤ 7301314) (hG : InvG nn σ) (hnn : nn < 64) : ∀ f i, i ≤ nn → nn < i + f →
    f_L_law_L1644 L xs k281 f b (yLa d) (yAn d) (yMa d) (yUn d) (yDa d) (yTh d) (yHm d) (yC d) (yM d) a1 a2 a3 (nI nn) n18 w19 w20 w21 w22 w24 (mo σ i) (su σ i) (cn σ i) (nI i) (memC b σ) (memM d σ) (nc + 12 * i) (ns + 72 * i) = f_L_law_L1787 L xs k281 200 b (yLa d) (yAn d) (yMa d) (yUn d) (yDa d) (yTh d) (yHm d) (yC d) (yM d) a1 a2 a3 (nI nn) n18 w19 w20 w21 w22 w24 (mo σ nn) (su σ nn) (cn σ nn) (nI 0) (memC b σ) (memM d σ) (nc + 12 * nn) (ns + 72 * nn) := by
  intro f
  induction f with
  | zero => intro i h1 h2; omega
  | succ f ih =>
    intro i h1 h2
    show f_L_law_b1644 L xs k281 (f_L_law_L1644 L xs k281 f) _ _ _ _ _ _ _ _ _ _ _ _ _ _ _ _ _ _ _ _ _ _ _ (nI i) _ _ _ _ = _
    rcases Nat.lt_or_ge i nn with hi | hi
    · rw [s_1644 (by omega) hG hnn hi, show nc + 12 * i + 12 = nc + 12 * (i + 1) by omega, show ns + 72 * i + 72 = ns + 72 * (i + 1) by omega]
      exact ih (i + 1) (by omega) (by omega)
    · obtain rfl : i = nn := by omega
      simp only [f_L_law_b1644, Int32.le_refl, ↓reduceIte]
      rfl
/-! the moons, then all sums -/
theorem kc0 {b : Nat} {σ : Sg} : f_X7_count b (0 : Int32) (memC b σ) = some (memC b σ, .inl (σ.1 10 0)) := k_count (t := 0) (by omega)
theorem kc1 {b : Nat} {σ : Sg} : f_X7_count b (1 : Int32) (memC b σ) = some (memC b σ, .inl (cn σ 80)) := k_count (t := 1) (by omega)
theorem kc2 {b : Nat} {σ : Sg} : f_X7_count b (2 : Int32) (memC b σ) = some (memC b σ, .inl (σ.1 10 6)) := k_count (t := 2) (by omega)
theorem kc3 {b : Nat} {σ : Sg} : f_X7_count b (3 : Int32) (memC b σ) = some (memC b σ, .inl (σ.1 10 7)) := k_count (t := 3) (by omega)
theorem kc4 {b : Nat} {σ : Sg} : f_X7_count b (4 : Int32) (memC b σ) = some (memC b σ, .inl (σ.1 10 8)) := k_count (t := 4) (by omega)
theorem kc5 {b : Nat} {σ : Sg} : f_X7_count b (5 : Int32) (memC b σ) = some (memC b σ, .inl (σ.1 10 9)) := k_count (t := 5) (by omega)
theorem kc6 {b : Nat} {σ : Sg} : f_X7_count b (6 : Int32) (memC b σ) = some (memC b σ, .inl (σ.1 10 10)) := k_count (t := 6) (by omega)
theorem ks0 {b : Nat} {σ : Sg} : f_X7_sum b (0 : Int32) (memC b σ) = some (memC b σ, .inl (su σ 80)) := k_sum (t := 0) (by omega)
theorem ks1 {b : Nat} {σ : Sg} : f_X7_sum b (1 : Int32) (memC b σ) = some (memC b σ, .inl (σ.1 10 11)) := k_sum (t := 1) (by omega)
theorem ks2 {b : Nat} {σ : Sg} : f_X7_sum b (2 : Int32) (memC b σ) = some (memC b σ, .inl (σ.1 10 12)) := k_sum (t := 2) (by omega)
theorem ks3 {b : Nat} {σ : Sg} : f_X7_sum b (3 : Int32) (memC b σ) = some (memC b σ, .inl (σ.1 10 13)) := k_sum (t := 3) (by omega)
theorem kq0 {b : Nat} {σ : Sg} : f_X7_momentum b (0 : Int32) (memC b σ) = some (memC b σ, .inl (mo σ 80)) := k_momentum (t := 0) (by omega)
theorem kq1 {b : Nat} {σ : Sg} : f_X7_momentum b (1 : Int32) (memC b σ) = some (memC b σ, .inl (σ.2 3)) := k_momentum (t := 1) (by omega)
theorem kq2 {b : Nat} {σ : Sg} : f_X7_momentum b (2 : Int32) (memC b σ) = some (memC b σ, .inl (σ.2 4)) := k_momentum (t := 2) (by omega)
theorem kq3 {b : Nat} {σ : Sg} : f_X7_momentum b (3 : Int32) (memC b σ) = some (memC b σ, .inl (σ.2 0)) := k_momentum (t := 3) (by omega)
theorem kq4 {b : Nat} {σ : Sg} : f_X7_momentum b (4 : Int32) (memC b σ) = some (memC b σ, .inl (σ.2 1)) := k_momentum (t := 4) (by omega)
theorem kq5 {b : Nat} {σ : Sg} : f_X7_momentum b (5 : Int32) (memC b σ) = some (memC b σ, .inl (σ.2 2)) := k_momentum (t := 5) (by omega)
theorem lg_0 (x : Int64) : (lg_cmp x x = 0) = True := eq_true ((lg_cmp_eq x x).mpr rfl)
theorem su_toInt {nn : Nat} {σ : Sg} (hG : InvG nn σ) : ∀ k, k ≤ 80 → (su σ k).toInt = smZ (wt σ) k ∧ 0 ≤ smZ (wt σ) k ∧ smZ (wt σ) k ≤ smZ (wt σ) 80 := by
  have hw : ∀ k, k < 80 → 0 ≤ wt σ k := fun k hk => wt_ge (hG.2.2.1 k hk)
  have htot : smZ (wt σ) 80 ≤ 800000 := by
    obtain ⟨-, hn, -, -, hs, hr, he, hp, -⟩ := hG
    omega
  intro k
  induction k with
  | zero => intro _; exact ⟨rfl, Int.le_refl _, (smZ_ge 80 hw).1⟩
  | succ k ih =>
    intro hk
    obtain ⟨i1, i2, -⟩ := ih (by omega)
    have e : smZ (wt σ) (k + 1) = smZ (wt σ) k + wt σ k := rfl
    have h1 := hw k (by omega)
    have h3 : smZ (wt σ) (k + 1) ≤ smZ (wt σ) 80 := smZ_mono hw 80 hk (Nat.le_refl _)
    refine ⟨?_, by omega, h3⟩
    rw [e]
    by_cases h5 : σ.1 5 k = 0
    · have e2 : su σ (k + 1) = su σ k := if_pos h5
      have e3 : wt σ k = 0 := if_pos h5
      rw [e2, e3, i1]; omega
    · have e2 : su σ (k + 1) = su σ k + σ.1 2 k := if_neg h5
      have e3 : wt σ k = (σ.1 2 k).toInt := if_neg h5
      rw [e2, i32_add' (by omega) (by omega), i1, e3]
theorem su_all {nn : Nat} {σ : Sg} (hG : InvG nn σ) : su σ 80 + σ.1 10 11 + σ.1 10 12 = σ.1 10 13 := by
  obtain ⟨s1, s2, -⟩ := su_toInt hG 80 (Nat.le_refl _)
  obtain ⟨-, hn, -, -, hs, hr, he, hp, -⟩ := hG
  apply Int32.toInt_inj.mp
  have a1 : (su σ 80 + σ.1 10 11).toInt = (su σ 80).toInt + (σ.1 10 11).toInt := i32_add' (by omega) (by omega)
  rw [i32_add' (by omega) (by omega), a1, s1]
  exact hs
theorem tW_2 {σ : Sg} {C o m j : Nat} : (tW σ C o m).2 j = σ.2 j := rfl
end M10
