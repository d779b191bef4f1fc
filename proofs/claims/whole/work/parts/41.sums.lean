/-! ===== PURE: frame ===== -/
theorem e_f64 : ∀ f : Nat, f < 20 → ∀ j : Nat, j < 64 → (64 : Int32) * nI f + nI j = nI (64 * f + j) := by decide +kernel
def tF (σ : Sg) (f j nn : Nat) : Sg := (fun c k => if c = 12 ∧ 64 * f ≤ k ∧ k < 64 * f + j then lm σ (nI (k - 64 * f)) nn else σ.1 c k, σ.2)
theorem tF_0 {σ : Sg} {f nn : Nat} : tF σ f 0 nn = σ := Sg_ext (fun c k => if_neg (by omega)) (fun _ => rfl)
theorem tF_c {σ : Sg} {f j nn c k : Nat} (h : c ≠ 12) : (tF σ f j nn).1 c k = σ.1 c k := if_neg (fun q => h q.1)
theorem tF_s {σ : Sg} {f j nn : Nat} : sI (tF σ f j nn) 12 (64 * f + j) (lm σ (nI j) nn) = tF σ f (j + 1) nn := by
  refine Sg_ext (fun c k => ?_) (fun _ => rfl)
  simp only [sI_1, tF]
  by_cases h : c = 12 ∧ k = 64 * f + j
  · rw [if_pos h, if_pos ⟨h.1, by omega, by omega⟩, show k - 64 * f = j by omega]
  · rw [if_neg h]
    by_cases h2 : c = 12 ∧ 64 * f ≤ k ∧ k < 64 * f + j
    · rw [if_pos h2, if_pos ⟨h2.1, h2.2.1, by omega⟩]
    · rw [if_neg h2, if_neg (fun q => h2 ⟨q.1, q.2.1, by omega⟩)]
def tFrame (σ : Sg) (f nn : Nat) : Sg := sI (sI (tF σ f 64 nn) 11 f (σ.1 10 14)) 10 15 (nI (f + 1))
theorem l_frameM {b f nn : Nat} {σ : Sg} (hf : f < 20) (h15 : σ.1 10 15 = nI f) (hn : σ.1 10 0 = nI nn) (hnn : nn ≤ 80) : ∀ g j, j ≤ 64 → 64 < j + g → f_X8_frame_L29 g b (nI j) (memM b (tF σ f j nn)) = some (memM b (tFrame σ f nn), nI f) := by
  intro g
  induction g with
  | zero => intro i h1 h2; omega
  | succ g ih =>
    intro j h1 h2
    show f_X8_frame_b29 (f_X8_frame_L29 g) b (nI j) _ = _
    have d15 : (tF σ f j nn).1 10 15 = nI f := (tF_c (by decide)).trans h15
    have d0 : (tF σ f j nn).1 10 0 = nI nn := (tF_c (by decide)).trans hn
    rcases Nat.lt_or_ge j 64 with hj | hj
    · have hle := nle_t hj (by decide)
      rw [show nI 64 = (64 : Int32) from rfl] at hle
      have hk : 64 * f + j < 1280 := by omega
      have em : f_X8_massOf b (nI j) (memM b (tF σ f j nn)) = some (memM b (tF σ f j nn), lm σ (nI j) nn) := by
        rw [e_massOf d0 hnn, lm_congr (fun k => ⟨tF_c (by decide), tF_c (by decide), tF_c (by decide)⟩)]
      simp only [f_X8_frame_b29, hle, em, d15, e_f64 f hf j hj, bd_s, gd, lt_, rd, yB_k, yB_r30, yB_i29, yFr_k, yFr_n, vi_t hk, cl_1280 hk, yFr_ik_s hk, nI_1, Nat.reduceLT, true_and, ↓reduceIte]
      rw [tF_s]
      exact ih (j + 1) (by omega) (by omega)
    · obtain rfl : j = 64 := (by omega)
      have d14 : (tF σ f 64 nn).1 10 14 = σ.1 10 14 := tF_c (by decide)
      have ep : nI (f + 1) - 1 = nI f := nI_pred f
      have h64 : ((64 : Int32) ≤ nI 64) = True := eq_true (by decide)
      unfold tFrame
      rw [← d14]
      generalize tF σ f 64 nn = τ at d15 d14
      simp only [f_X8_frame_b29, h64, d15, hf, nI_1, ep, gd, lt_, rd, bd, ↓reduceIte, eq_self, and_self, true_and, and_true, not_false_eq_true, vi_t, cl_6, cl_20, cl_21, cl_40, cl_64, cl_80, cl_1280, Nat.reduceLT, tn_0, true_or, or_true, ab_f, yB_k, yB_r7, yB_r8, yB_r9, yB_r10, yB_r11, yB_r12, yB_r13, yB_r15, yB_r16, yB_r17, yB_r30, yB_r31, yB_r33, yB_r34, yB_r35, yB_r36, yB_i0, yB_i0_s, yB_i1, yB_i1_s, yB_i2, yB_i2_s, yB_i3, yB_i3_s, yB_i4, yB_i4_s, yB_i5, yB_i5_s, yB_i6, yB_i6_s, yB_i14, yB_i14_s, yB_i18, yB_i18_s, yB_i19, yB_i19_s, yB_i20, yB_i20_s, yB_i21, yB_i21_s, yB_i22, yB_i22_s, yB_i23, yB_i23_s, yB_i24, yB_i24_s, yB_i25, yB_i25_s, yB_i29, yB_i29_s, yB_i32, yB_i32_s, yB_l26, yB_l26_s, yB_l27, yB_l27_s, yB_l28, yB_l28_s, yLa_k, yLa_n, yLa_ik, yLa_ik_s, yAn_k, yAn_n, yAn_ik, yAn_ik_s, yMa_k, yMa_n, yMa_ik, yMa_ik_s, yUn_k, yUn_n, yUn_ik, yUn_ik_s, yDa_k, yDa_n, yDa_ik, yDa_ik_s, yTh_k, yTh_n, yTh_ik, yTh_ik_s, yHm_k, yHm_n, yHm_ik, yHm_ik_s, yML_k, yML_n, yML_ik, yML_ik_s, yMn_k, yMn_n, yMn_ik, yMn_ik_s, yMm_k, yMm_n, yMm_ik, yMm_ik_s, yFr_k, yFr_n, yFr_ik, yFr_ik_s, yFt_k, yFt_n, yFt_ik, yFt_ik_s, yCf_k, yCf_n, yCf_ik, yCf_ik_s, yCo_k, yCo_n, yCo_ik, yCo_ik_s, yCt_k, yCt_n, yCt_ik, yCt_ik_s, yCm_k, yCm_n, yCm_ik, yCm_ik_s, M_no6, M_no9, M_no17, M_no18, M_no19, M_nl3, M_nl4, M_nl5, sI_1, sI_2, sL_1, sL_2, false_and, and_false, Nat.reduceEqDiff, reduceCtorEq, ↓reduceIte, eq_self, and_self, true_and, and_true]
theorem tFrame_C {b f nn : Nat} {σ : Sg} (hG : InvG nn σ) : sI (tW (sI σ 11 f (σ.1 10 14)) 12 (64 * f) 80) 10 15 (nI (f + 1)) = tFrame σ f nn := by
  refine Sg_ext (fun c k => ?_) (fun _ => rfl)
  have e : ∀ x, lm (sI σ 11 f (σ.1 10 14)) x 80 = lm σ x nn := fun x => by
    rw [lm_congr (σ := σ) (fun k => ⟨by simp only [sI_1, sI_2, sL_1, sL_2, false_and, and_false, Nat.reduceEqDiff, reduceCtorEq, ↓reduceIte, eq_self, and_self, true_and, and_true], by simp only [sI_1, sI_2, sL_1, sL_2, false_and, and_false, Nat.reduceEqDiff, reduceCtorEq, ↓reduceIte, eq_self, and_self, true_and, and_true], by simp only [sI_1, sI_2, sL_1, sL_2, false_and, and_false, Nat.reduceEqDiff, reduceCtorEq, ↓reduceIte, eq_self, and_self, true_and, and_true]⟩), lm_end hG 80 hG.2.1 (Nat.le_refl _)]
  simp only [tFrame, sI_1, tW, tF, e]
  grind
theorem Inv.frame {n m ff cc : Nat} {σ : Sg} (h1 : InvG n σ) (h2 : InvM m σ) (h3 : InvF ff cc σ) (h4 : InvD σ) (hf : ff < 20) : Inv (tFrame σ ff n) := by
  have r : ∀ c k, ¬ (c = 11 ∨ c = 12 ∨ (c = 10 ∧ k = 15)) → (tFrame σ ff n).1 c k = σ.1 c k := fun c k hc => by
    simp only [tFrame, sI_1]
    rw [if_neg (by omega), if_neg (by omega), tF_c (by omega)]
  refine ⟨n, m, ff + 1, cc, h1.same (fun j hj => ⟨r _ _ (by omega), r _ _ (by omega), r _ _ (by omega), r _ _ (by omega)⟩) ⟨r _ _ (by omega), r _ _ (by omega), r _ _ (by omega), r _ _ (by omega)⟩ ⟨rfl, rfl⟩, ?_, ?_, h4.same (r _ _ (by omega)) (fun j _ _ => r _ _ (by omega))⟩
  · obtain ⟨a1, a2, a3⟩ := h2
    refine ⟨(r 10 1 (by omega)).trans a1, a2, fun j hj => ?_⟩
    rw [r 7 j (by omega), r 9 j (by omega), r 20 j (by omega)]
    exact a3 j hj
  · obtain ⟨a1, a2, a3, a4, a5⟩ := h3
    refine ⟨by simp only [tFrame, sI_1, sI_2, sL_1, sL_2, false_and, and_false, Nat.reduceEqDiff, reduceCtorEq, ↓reduceIte, eq_self, and_self, true_and, and_true], by omega, (r 10 16 (by omega)).trans a3, a4, fun j hj => ?_⟩
    rw [r 13 j (by omega), r 14 j (by omega), r 15 j (by omega)]
    obtain ⟨⟨g, q1, q2⟩, q3⟩ := a5 j hj
    exact ⟨⟨g, by omega, q2⟩, q3⟩
theorem op_frame {b : Nat} : OpI (I2 b) (xO b) (b + 177) (f_L_frame b (xO b)) (f_X8_frame (b + 177)) := by
  refine OpI_mk (E := _) (g := f_X7_frame b) (fun σ hI => ?_)
  have h0 : Inv (sI σ 21 0 0) := hI.qs (Qs.sI (by omega))
  obtain ⟨nn, mm, ff, cc, g1, g2, g3, g4⟩ := h0
  have hff := g3.2.1
  have g15 := g3.1
  have c15 : σ.1 10 15 = nI ff := by rw [← g15]; exact (c21 (by decide)).symm
  have e20 : (nI ff < (20 : Int32)) = (ff < 20) := propext (nI_ltI (by omega) (by decide))
  by_cases hn : ff < 20
  · have hlt : (nI ff < (20 : Int32)) = True := by rw [e20]; exact eq_true hn
    have hne : (nI ff = (20 : Int32)) = False := nI_eqF (c := 20) hn (by decide)
    have ep : nI (ff + 1) - 1 = nI ff := nI_pred ff
    refine Or.inl ⟨tFrame (sI σ 21 0 0) ff nn, nI ff, ?_, ?_, Inv.frame g1 g2 g3 g4 hn, ?_⟩
    · generalize sI σ 21 0 0 = σ at g1 g15
      rw [← tFrame_C (b := b) g1]
      have g1' : InvG nn (sI σ 11 ff (σ.1 10 14)) := by
        refine g1.same (fun k hk => ?_) ?_ ⟨rfl, rfl⟩ <;> simp only [sI_1, sI_2, sL_1, sL_2, false_and, and_false, Nat.reduceEqDiff, reduceCtorEq, ↓reduceIte, eq_self, and_self, true_and, and_true]
      have e := e_weigh g1' (rowF (b := b) hn) (by decide)
      have d15 : (tW (sI σ 11 ff (σ.1 10 14)) 12 (64 * ff) 80).1 10 15 = nI ff := by
        rw [tW_c (by decide)]
        simp only [sI_1, sI_2, sL_1, sL_2, false_and, and_false, Nat.reduceEqDiff, reduceCtorEq, ↓reduceIte, eq_self, and_self, true_and, and_true]
        exact g15
      have e0 : f_X7_frame b (memC b σ) = bd (f_X3_weighLanes (xH b) (xFm b ff) (memC b (sI σ 11 ff (σ.1 10 14)))) fun z6 => gd (z6.1 b = 7) <| gd (z6.1 b = 7) <| lt_ (ms_i z6 b 4 ((mm_i z6 b 4) + (1 : Int32))) fun M7 => gd (M7.1 b = 7) <| some (M7, .inl ((mm_i M7 b 4) - (1 : Int32))) := by
        simp only [f_X7_frame, g15, hlt, hn, gd, lt_, rd, ↓reduceIte, true_and, not_false_eq_true, vi_t, cl_20, Nat.reduceLT, xB_k, xB_r0, xB_r1, xB_r3, xB_r5, xB_r8, xB_r9, xB_r10, xB_i2, xB_i2_s, xB_i4, xB_i4_s, xB_i6, xB_i6_s, xB_i7, xB_i7_s, xH_k, xH_r0, xH_r1, xH_r2, xH_i3, xH_i3_s, xH_i4, xH_i4_s, xH_i5, xH_i5_s, xH_i6, xH_i6_s, xP_k, xP_i0, xP_i0_s, xL_k, xL_i0, xL_i0_s, xL_i1, xL_i1_s, xL_i2, xL_i2_s, xL_i3, xL_i3_s, xL_i4, xL_i4_s, xL_i5, xL_i5_s, xL_i6, xL_i6_s, xL_i7, xL_i7_s, xL_l8, xL_l8_s, xL_l9, xL_l9_s, xL_l10, xL_l10_s, xL_l11, xL_l11_s, xL_l12, xL_l12_s, xA_k, xA_n, xA_rk, xG_k, xG_i0, xG_i0_s, xG_i1, xG_i1_s, xG_i2, xG_i2_s, xG_i3, xG_i3_s, xG_i4, xG_i4_s, xG_i5, xG_i5_s, xG_i6, xG_i6_s, xMA_k, xMA_n, xMA_rk, xM_k, xM_i0, xM_i0_s, xM_i1, xM_i1_s, xM_i2, xM_i2_s, xFA_k, xFA_n, xFA_rk, xF_k, xF_r0, xF_i1, xF_i1_s, xFm_k, xFm_n, xFm_ik, xFm_ik_s, xCA_k, xCA_n, xCA_rk, xC_k, xC_i0, xC_i0_s, xC_i1, xC_i1_s, xC_i2, xC_i2_s, xC_i3, xC_i3_s, xW_k, xW_n, xW_ik, xW_ik_s, x1_k, x1_n, x1_ik, x1_ik_s, x2_k, x2_n, x2_ik, x2_ik_s, xO_k, xO_n, xO_lk, xO_lk_s, C_no20, C_no21, C_no22]
      rw [e0, e]
      generalize tW (sI σ 11 ff (σ.1 10 14)) 12 (64 * ff) 80 = τ at d15
      simp only [bd_s, d15, nI_1, ep, gd, lt_, ↓reduceIte, xB_k, xB_i4, xB_i4_s, sI_1, sI_2, sL_1, sL_2, false_and, and_false, Nat.reduceEqDiff, reduceCtorEq, ↓reduceIte, eq_self, and_self, true_and, and_true]
    · rw [← l_frameM hn g15 g1.1 g1.2.1 200 0 (by omega) (by omega), tF_0]
      simp only [f_X8_frame, f_X8_frame_b15, gd, lt_, yB_k, yB_i29, c15, hne, yB_i0, yB_i0_s, z_le0, ↓reduceIte, sI_1, sI_2, sL_1, sL_2, false_and, and_false, Nat.reduceEqDiff, reduceCtorEq, ↓reduceIte, eq_self, and_self, true_and, and_true]
      rfl
    · simp only [tFrame, sI_1, tF, Nat.reduceEqDiff, false_and, if_false, and_self, if_true]
  · obtain rfl : ff = 20 := (by omega)
    have hlt : (nI 20 < (20 : Int32)) = False := by rw [e20]; exact eq_false hn
    have heq : (nI 20 = (20 : Int32)) = True := eq_true rfl
    refine Or.inr ⟨1, 1, sI σ 21 0 1, 0, fun _ => rfl, by decide, ?_, ?_, hI.qs (Qs.sI (by omega)), by simp only [sI_1, sI_2, sL_1, sL_2, false_and, and_false, Nat.reduceEqDiff, reduceCtorEq, ↓reduceIte, eq_self, and_self, true_and, and_true]⟩
    · rw [C_no21]
      simp only [f_X7_frame, c15, hlt, gd, xB_k, xB_i4, ↓reduceIte]
    · simp only [f_X8_frame, f_X8_frame_b15, gd, lt_, yB_k, yB_i29, c15, heq, yB_i0, yB_i0_s, z_le1, ↓reduceIte, sI_1, sI_2, sL_1, sL_2, false_and, and_false, Nat.reduceEqDiff, reduceCtorEq, ↓reduceIte, eq_self, and_self, true_and, and_true]
/-! ===== PURE: count, sum, momentum ===== -/
def cn (σ : Sg) : Nat → Int32
  | 0 => 0
  | k + 1 => if σ.1 5 k = 0 then cn σ k else cn σ k + 1
def su (σ : Sg) : Nat → Int32
  | 0 => 0
  | k + 1 => if σ.1 5 k = 0 then su σ k else su σ k + σ.1 2 k
def mo (σ : Sg) : Nat → Int64
  | 0 => 0
  | k + 1 => if σ.1 5 k = 0 then mo σ k else mo σ k + car σ k
theorem to_end {α : Type} {nn : Nat} {f : Nat → α} : ∀ k, (∀ j, nn ≤ j → j < k → f (j + 1) = f j) → nn ≤ k → f k = f nn := by
  intro k
  induction k with
  | zero =>
    intro h h1
    obtain rfl : nn = 0 := (by omega)
    rfl
  | succ k ih =>
    intro h h1
    rcases Nat.lt_or_ge k nn with h2 | h2
    · obtain rfl : nn = k + 1 := (by omega)
      rfl
    · rw [h k h2 (by omega)]
      exact ih (fun j j1 j2 => h j j1 (by omega)) h2
theorem cn_end {nn : Nat} {σ : Sg} (hG : InvG nn σ) : cn σ 80 = cn σ nn := to_end 80 (fun j h1 h2 => if_pos (hG.2.2.2.1 j h1 h2)) hG.2.1
theorem su_end {nn : Nat} {σ : Sg} (hG : InvG nn σ) : su σ 80 = su σ nn := to_end 80 (fun j h1 h2 => if_pos (hG.2.2.2.1 j h1 h2)) hG.2.1
theorem mo_end {nn : Nat} {σ : Sg} (hG : InvG nn σ) : mo σ 80 = mo σ nn := to_end 80 (fun j h1 h2 => if_pos (hG.2.2.2.1 j h1 h2)) hG.2.1
theorem l_countC {b : Nat} {σ : Sg} : ∀ f i, i ≤ 80 → 80 < i + f → f_X3_countThere_L13 f (cn σ i) (xA b) (nI 80) (nI i) (memC b σ) = some (memC b σ, cn σ 80) := by
  intro f
  induction f with
  | zero => intro i h1 h2; omega
  | succ f ih =>
    intro i h1 h2
    show f_X3_countThere_b13 (f_X3_countThere_L13 f) _ (xA b) (nI 80) (nI i) _ = _
    rcases Nat.lt_or_ge i 80 with hi | hi
    · have hle := nle_t hi (by decide)
      rw [← ih (i + 1) (by omega) (by omega)]
      by_cases h5 : σ.1 5 i = 0
      · simp only [f_X3_countThere_b13, f_X3_countThere_b36, hle, hi, h5, nI_1, cn, gd, lt_, rd, bd, ↓reduceIte, eq_self, and_self, true_and, and_true, not_false_eq_true, vi_t, cl_6, cl_20, cl_21, cl_40, cl_64, cl_80, cl_1280, Nat.reduceLT, tn_0, true_or, or_true, ab_f, xB_k, xB_r0, xB_r1, xB_r3, xB_r5, xB_r8, xB_r9, xB_r10, xB_i2, xB_i2_s, xB_i4, xB_i4_s, xB_i6, xB_i6_s, xB_i7, xB_i7_s, xH_k, xH_r0, xH_r1, xH_r2, xH_i3, xH_i3_s, xH_i4, xH_i4_s, xH_i5, xH_i5_s, xH_i6, xH_i6_s, xP_k, xP_i0, xP_i0_s, xL_k, xL_i0, xL_i0_s, xL_i1, xL_i1_s, xL_i2, xL_i2_s, xL_i3, xL_i3_s, xL_i4, xL_i4_s, xL_i5, xL_i5_s, xL_i6, xL_i6_s, xL_i7, xL_i7_s, xL_l8, xL_l8_s, xL_l9, xL_l9_s, xL_l10, xL_l10_s, xL_l11, xL_l11_s, xL_l12, xL_l12_s, xA_k, xA_n, xA_rk, xG_k, xG_i0, xG_i0_s, xG_i1, xG_i1_s, xG_i2, xG_i2_s, xG_i3, xG_i3_s, xG_i4, xG_i4_s, xG_i5, xG_i5_s, xG_i6, xG_i6_s, xMA_k, xMA_n, xMA_rk, xM_k, xM_i0, xM_i0_s, xM_i1, xM_i1_s, xM_i2, xM_i2_s, xFA_k, xFA_n, xFA_rk, xF_k, xF_r0, xF_i1, xF_i1_s, xFm_k, xFm_n, xFm_ik, xFm_ik_s, xCA_k, xCA_n, xCA_rk, xC_k, xC_i0, xC_i0_s, xC_i1, xC_i1_s, xC_i2, xC_i2_s, xC_i3, xC_i3_s, xW_k, xW_n, xW_ik, xW_ik_s, x1_k, x1_n, x1_ik, x1_ik_s, x2_k, x2_n, x2_ik, x2_ik_s, xO_k, xO_n, xO_lk, xO_lk_s, C_no20, C_no21, C_no22]
      · simp only [f_X3_countThere_b13, f_X3_countThere_b36, hle, hi, h5, nI_1, cn, gd, lt_, rd, bd, ↓reduceIte, eq_self, and_self, true_and, and_true, not_false_eq_true, vi_t, cl_6, cl_20, cl_21, cl_40, cl_64, cl_80, cl_1280, Nat.reduceLT, tn_0, true_or, or_true, ab_f, xB_k, xB_r0, xB_r1, xB_r3, xB_r5, xB_r8, xB_r9, xB_r10, xB_i2, xB_i2_s, xB_i4, xB_i4_s, xB_i6, xB_i6_s, xB_i7, xB_i7_s, xH_k, xH_r0, xH_r1, xH_r2, xH_i3, xH_i3_s, xH_i4, xH_i4_s, xH_i5, xH_i5_s, xH_i6, xH_i6_s, xP_k, xP_i0, xP_i0_s, xL_k, xL_i0, xL_i0_s, xL_i1, xL_i1_s, xL_i2, xL_i2_s, xL_i3, xL_i3_s, xL_i4, xL_i4_s, xL_i5, xL_i5_s, xL_i6, xL_i6_s, xL_i7, xL_i7_s, xL_l8, xL_l8_s, xL_l9, xL_l9_s, xL_l10, xL_l10_s, xL_l11, xL_l11_s, xL_l12, xL_l12_s, xA_k, xA_n, xA_rk, xG_k, xG_i0, xG_i0_s, xG_i1, xG_i1_s, xG_i2, xG_i2_s, xG_i3, xG_i3_s, xG_i4, xG_i4_s, xG_i5, xG_i5_s, xG_i6, xG_i6_s, xMA_k, xMA_n, xMA_rk, xM_k, xM_i0, xM_i0_s, xM_i1, xM_i1_s, xM_i2, xM_i2_s, xFA_k, xFA_n, xFA_rk, xF_k, xF_r0, xF_i1, xF_i1_s, xFm_k, xFm_n, xFm_ik, xFm_ik_s, xCA_k, xCA_n, xCA_rk, xC_k, xC_i0, xC_i0_s, xC_i1, xC_i1_s, xC_i2, xC_i2_s, xC_i3, xC_i3_s, xW_k, xW_n, xW_ik, xW_ik_s, x1_k, x1_n, x1_ik, x1_ik_s, x2_k, x2_n, x2_ik, x2_ik_s, xO_k, xO_n, xO_lk, xO_lk_s, C_no20, C_no21, C_no22]
    · obtain rfl : i = 80 := (by omega)
      simp only [f_X3_countThere_b13, Int32.le_refl, ↓reduceIte]
theorem e_countC {b : Nat} {σ : Sg} : f_X3_countThere (xH b) (memC b σ) = some (memC b σ, cn σ 80) := by
  rw [← l_countC 200 0 (by omega) (by omega)]
  simp only [f_X3_countThere, gd, lt_, rd, bd, ↓reduceIte, eq_self, and_self, true_and, and_true, not_false_eq_true, vi_t, cl_6, cl_20, cl_21, cl_40, cl_64, cl_80, cl_1280, Nat.reduceLT, tn_0, true_or, or_true, ab_f, xB_k, xB_r0, xB_r1, xB_r3, xB_r5, xB_r8, xB_r9, xB_r10, xB_i2, xB_i2_s, xB_i4, xB_i4_s, xB_i6, xB_i6_s, xB_i7, xB_i7_s, xH_k, xH_r0, xH_r1, xH_r2, xH_i3, xH_i3_s, xH_i4, xH_i4_s, xH_i5, xH_i5_s, xH_i6, xH_i6_s, xP_k, xP_i0, xP_i0_s, xL_k, xL_i0, xL_i0_s, xL_i1, xL_i1_s, xL_i2, xL_i2_s, xL_i3, xL_i3_s, xL_i4, xL_i4_s, xL_i5, xL_i5_s, xL_i6, xL_i6_s, xL_i7, xL_i7_s, xL_l8, xL_l8_s, xL_l9, xL_l9_s, xL_l10, xL_l10_s, xL_l11, xL_l11_s, xL_l12, xL_l12_s, xA_k, xA_n, xA_rk, xG_k, xG_i0, xG_i0_s, xG_i1, xG_i1_s, xG_i2, xG_i2_s, xG_i3, xG_i3_s, xG_i4, xG_i4_s, xG_i5, xG_i5_s, xG_i6, xG_i6_s, xMA_k, xMA_n, xMA_rk, xM_k, xM_i0, xM_i0_s, xM_i1, xM_i1_s, xM_i2, xM_i2_s, xFA_k, xFA_n, xFA_rk, xF_k, xF_r0, xF_i1, xF_i1_s, xFm_k, xFm_n, xFm_ik, xFm_ik_s, xCA_k, xCA_n, xCA_rk, xC_k, xC_i0, xC_i0_s, xC_i1, xC_i1_s, xC_i2, xC_i2_s, xC_i3, xC_i3_s, xW_k, xW_n, xW_ik, xW_ik_s, x1_k, x1_n, x1_ik, x1_ik_s, x2_k, x2_n, x2_ik, x2_ik_s, xO_k, xO_n, xO_lk, xO_lk_s, C_no20, C_no21, C_no22]
  rfl
theorem l_massC {b : Nat} {σ : Sg} : ∀ f i, i ≤ 80 → 80 < i + f → f_X3_massThere_L13 f (su σ i) (xA b) (nI 80) (nI i) (memC b σ) = some (memC b σ, su σ 80) := by
  intro f
  induction f with
  | zero => intro i h1 h2; omega
  | succ f ih =>
    intro i h1 h2
    show f_X3_massThere_b13 (f_X3_massThere_L13 f) _ (xA b) (nI 80) (nI i) _ = _
    rcases Nat.lt_or_ge i 80 with hi | hi
    · have hle := nle_t hi (by decide)
      rw [← ih (i + 1) (by omega) (by omega)]
      by_cases h5 : σ.1 5 i = 0
      · simp only [f_X3_massThere_b13, f_X3_massThere_b41, hle, hi, h5, nI_1, su, gd, lt_, rd, bd, ↓reduceIte, eq_self, and_self, true_and, and_true, not_false_eq_true, vi_t, cl_6, cl_20, cl_21, cl_40, cl_64, cl_80, cl_1280, Nat.reduceLT, tn_0, true_or, or_true, ab_f, xB_k, xB_r0, xB_r1, xB_r3, xB_r5, xB_r8, xB_r9, xB_r10, xB_i2, xB_i2_s, xB_i4, xB_i4_s, xB_i6, xB_i6_s, xB_i7, xB_i7_s, xH_k, xH_r0, xH_r1, xH_r2, xH_i3, xH_i3_s, xH_i4, xH_i4_s, xH_i5, xH_i5_s, xH_i6, xH_i6_s, xP_k, xP_i0, xP_i0_s, xL_k, xL_i0, xL_i0_s, xL_i1, xL_i1_s, xL_i2, xL_i2_s, xL_i3, xL_i3_s, xL_i4, xL_i4_s, xL_i5, xL_i5_s, xL_i6, xL_i6_s, xL_i7, xL_i7_s, xL_l8, xL_l8_s, xL_l9, xL_l9_s, xL_l10, xL_l10_s, xL_l11, xL_l11_s, xL_l12, xL_l12_s, xA_k, xA_n, xA_rk, xG_k, xG_i0, xG_i0_s, xG_i1, xG_i1_s, xG_i2, xG_i2_s, xG_i3, xG_i3_s, xG_i4, xG_i4_s, xG_i5, xG_i5_s, xG_i6, xG_i6_s, xMA_k, xMA_n, xMA_rk, xM_k, xM_i0, xM_i0_s, xM_i1, xM_i1_s, xM_i2, xM_i2_s, xFA_k, xFA_n, xFA_rk, xF_k, xF_r0, xF_i1, xF_i1_s, xFm_k, xFm_n, xFm_ik, xFm_ik_s, xCA_k, xCA_n, xCA_rk, xC_k, xC_i0, xC_i0_s, xC_i1, xC_i1_s, xC_i2, xC_i2_s, xC_i3, xC_i3_s, xW_k, xW_n, xW_ik, xW_ik_s, x1_k, x1_n, x1_ik, x1_ik_s, x2_k, x2_n, x2_ik, x2_ik_s, xO_k, xO_n, xO_lk, xO_lk_s, C_no20, C_no21, C_no22]
      · simp only [f_X3_massThere_b13, f_X3_massThere_b41, hle, hi, h5, nI_1, su, gd, lt_, rd, bd, ↓reduceIte, eq_self, and_self, true_and, and_true, not_false_eq_true, vi_t, cl_6, cl_20, cl_21, cl_40, cl_64, cl_80, cl_1280, Nat.reduceLT, tn_0, true_or, or_true, ab_f, xB_k, xB_r0, xB_r1, xB_r3, xB_r5, xB_r8, xB_r9, xB_r10, xB_i2, xB_i2_s, xB_i4, xB_i4_s, xB_i6, xB_i6_s, xB_i7, xB_i7_s, xH_k, xH_r0, xH_r1, xH_r2, xH_i3, xH_i3_s, xH_i4, xH_i4_s, xH_i5, xH_i5_s, xH_i6, xH_i6_s, xP_k, xP_i0, xP_i0_s, xL_k, xL_i0, xL_i0_s, xL_i1, xL_i1_s, xL_i2, xL_i2_s, xL_i3, xL_i3_s, xL_i4, xL_i4_s, xL_i5, xL_i5_s, xL_i6, xL_i6_s, xL_i7, xL_i7_s, xL_l8, xL_l8_s, xL_l9, xL_l9_s, xL_l10, xL_l10_s, xL_l11, xL_l11_s, xL_l12, xL_l12_s, xA_k, xA_n, xA_rk, xG_k, xG_i0, xG_i0_s, xG_i1, xG_i1_s, xG_i2, xG_i2_s, xG_i3, xG_i3_s, xG_i4, xG_i4_s, xG_i5, xG_i5_s, xG_i6, xG_i6_s, xMA_k, xMA_n, xMA_rk, xM_k, xM_i0, xM_i0_s, xM_i1, xM_i1_s, xM_i2, xM_i2_s, xFA_k, xFA_n, xFA_rk, xF_k, xF_r0, xF_i1, xF_i1_s, xFm_k, xFm_n, xFm_ik, xFm_ik_s, xCA_k, xCA_n, xCA_rk, xC_k, xC_i0, xC_i0_s, xC_i1, xC_i1_s, xC_i2, xC_i2_s, xC_i3, xC_i3_s, xW_k, xW_n, xW_ik, xW_ik_s, x1_k, x1_n, x1_ik, x1_ik_s, x2_k, x2_n, x2_ik, x2_ik_s, xO_k, xO_n, xO_lk, xO_lk_s, C_no20, C_no21, C_no22]
    · obtain rfl : i = 80 := (by omega)
      simp only [f_X3_massThere_b13, Int32.le_refl, ↓reduceIte]
theorem e_massC {b : Nat} {σ : Sg} : f_X3_massThere (xH b) (memC b σ) = some (memC b σ, su σ 80) := by
  rw [← l_massC 200 0 (by omega) (by omega)]
  simp only [f_X3_massThere, gd, lt_, rd, bd, ↓reduceIte, eq_self, and_self, true_and, and_true, not_false_eq_true, vi_t, cl_6, cl_20, cl_21, cl_40, cl_64, cl_80, cl_1280, Nat.reduceLT, tn_0, true_or, or_true, ab_f, xB_k, xB_r0, xB_r1, xB_r3, xB_r5, xB_r8, xB_r9, xB_r10, xB_i2, xB_i2_s, xB_i4, xB_i4_s, xB_i6, xB_i6_s, xB_i7, xB_i7_s, xH_k, xH_r0, xH_r1, xH_r2, xH_i3, xH_i3_s, xH_i4, xH_i4_s, xH_i5, xH_i5_s, xH_i6, xH_i6_s, xP_k, xP_i0, xP_i0_s, xL_k, xL_i0, xL_i0_s, xL_i1, xL_i1_s, xL_i2, xL_i2_s, xL_i3, xL_i3_s, xL_i4, xL_i4_s, xL_i5, xL_i5_s, xL_i6, xL_i6_s, xL_i7, xL_i7_s, xL_l8, xL_l8_s, xL_l9, xL_l9_s, xL_l10, xL_l10_s, xL_l11, xL_l11_s, xL_l12, xL_l12_s, xA_k, xA_n, xA_rk, xG_k, xG_i0, xG_i0_s, xG_i1, xG_i1_s, xG_i2, xG_i2_s, xG_i3, xG_i3_s, xG_i4, xG_i4_s, xG_i5, xG_i5_s, xG_i6, xG_i6_s, xMA_k, xMA_n, xMA_rk, xM_k, xM_i0, xM_i0_s, xM_i1, xM_i1_s, xM_i2, xM_i2_s, xFA_k, xFA_n, xFA_rk, xF_k, xF_r0, xF_i1, xF_i1_s, xFm_k, xFm_n, xFm_ik, xFm_ik_s, xCA_k, xCA_n, xCA_rk, xC_k, xC_i0, xC_i0_s, xC_i1, xC_i1_s, xC_i2, xC_i2_s, xC_i3, xC_i3_s, xW_k, xW_n, xW_ik, xW_ik_s, x1_k, x1_n, x1_ik, x1_ik_s, x2_k, x2_n, x2_ik, x2_ik_s, xO_k, xO_n, xO_lk, xO_lk_s, C_no20, C_no21, C_no22]
  rfl
theorem l_momC {b : Nat} {σ : Sg} : ∀ f i, i ≤ 80 → 80 < i + f → f_X3_momentumThere_L14 f (mo σ i) (xA b) (nI 80) (nI i) (memC b σ) = some (memC b σ, mo σ 80) := by
  intro f
  induction f with
  | zero => intro i h1 h2; omega
  | succ f ih =>
    intro i h1 h2
    show f_X3_momentumThere_b14 (f_X3_momentumThere_L14 f) _ (xA b) (nI 80) (nI i) _ = _
    rcases Nat.lt_or_ge i 80 with hi | hi
    · have hle := nle_t hi (by decide)
      rw [← ih (i + 1) (by omega) (by omega)]
      by_cases h5 : σ.1 5 i = 0
      · simp only [f_X3_momentumThere_b14, f_X3_momentumThere_b43, hle, hi, h5, nI_1, mo, gd, lt_, rd, bd, ↓reduceIte, eq_self, and_self, true_and, and_true, not_false_eq_true, vi_t, cl_6, cl_20, cl_21, cl_40, cl_64, cl_80, cl_1280, Nat.reduceLT, tn_0, true_or, or_true, ab_f, xB_k, xB_r0, xB_r1, xB_r3, xB_r5, xB_r8, xB_r9, xB_r10, xB_i2, xB_i2_s, xB_i4, xB_i4_s, xB_i6, xB_i6_s, xB_i7, xB_i7_s, xH_k, xH_r0, xH_r1, xH_r2, xH_i3, xH_i3_s, xH_i4, xH_i4_s, xH_i5, xH_i5_s, xH_i6, xH_i6_s, xP_k, xP_i0, xP_i0_s, xL_k, xL_i0, xL_i0_s, xL_i1, xL_i1_s, xL_i2, xL_i2_s, xL_i3, xL_i3_s, xL_i4, xL_i4_s, xL_i5, xL_i5_s, xL_i6, xL_i6_s, xL_i7, xL_i7_s, xL_l8, xL_l8_s, xL_l9, xL_l9_s, xL_l10, xL_l10_s, xL_l11, xL_l11_s, xL_l12, xL_l12_s, xA_k, xA_n, xA_rk, xG_k, xG_i0, xG_i0_s, xG_i1, xG_i1_s, xG_i2, xG_i2_s, xG_i3, xG_i3_s, xG_i4, xG_i4_s, xG_i5, xG_i5_s, xG_i6, xG_i6_s, xMA_k, xMA_n, xMA_rk, xM_k, xM_i0, xM_i0_s, xM_i1, xM_i1_s, xM_i2, xM_i2_s, xFA_k, xFA_n, xFA_rk, xF_k, xF_r0, xF_i1, xF_i1_s, xFm_k, xFm_n, xFm_ik, xFm_ik_s, xCA_k, xCA_n, xCA_rk, xC_k, xC_i0, xC_i0_s, xC_i1, xC_i1_s, xC_i2, xC_i2_s, xC_i3, xC_i3_s, xW_k, xW_n, xW_ik, xW_ik_s, x1_k, x1_n, x1_ik, x1_ik_s, x2_k, x2_n, x2_ik, x2_ik_s, xO_k, xO_n, xO_lk, xO_lk_s, C_no20, C_no21, C_no22]
      · simp only [f_X3_momentumThere_b14, f_X3_momentumThere_b43, hle, hi, h5, nI_1, mo, e_X2_carried hi, gd, lt_, rd, bd, ↓reduceIte, eq_self, and_self, true_and, and_true, not_false_eq_true, vi_t, cl_6, cl_20, cl_21, cl_40, cl_64, cl_80, cl_1280, Nat.reduceLT, tn_0, true_or, or_true, ab_f, xB_k, xB_r0, xB_r1, xB_r3, xB_r5, xB_r8, xB_r9, xB_r10, xB_i2, xB_i2_s, xB_i4, xB_i4_s, xB_i6, xB_i6_s, xB_i7, xB_i7_s, xH_k, xH_r0, xH_r1, xH_r2, xH_i3, xH_i3_s, xH_i4, xH_i4_s, xH_i5, xH_i5_s, xH_i6, xH_i6_s, xP_k, xP_i0, xP_i0_s, xL_k, xL_i0, xL_i0_s, xL_i1, xL_i1_s, xL_i2, xL_i2_s, xL_i3, xL_i3_s, xL_i4, xL_i4_s, xL_i5, xL_i5_s, xL_i6, xL_i6_s, xL_i7, xL_i7_s, xL_l8, xL_l8_s, xL_l9, xL_l9_s, xL_l10, xL_l10_s, xL_l11, xL_l11_s, xL_l12, xL_l12_s, xA_k, xA_n, xA_rk, xG_k, xG_i0, xG_i0_s, xG_i1, xG_i1_s, xG_i2, xG_i2_s, xG_i3, xG_i3_s, xG_i4, xG_i4_s, xG_i5, xG_i5_s, xG_i6, xG_i6_s, xMA_k, xMA_n, xMA_rk, xM_k, xM_i0, xM_i0_s, xM_i1, xM_i1_s, xM_i2, xM_i2_s, xFA_k, xFA_n, xFA_rk, xF_k, xF_r0, xF_i1, xF_i1_s, xFm_k, xFm_n, xFm_ik, xFm_ik_s, xCA_k, xCA_n, xCA_rk, xC_k, xC_i0, xC_i0_s, xC_i1, xC_i1_s, xC_i2, xC_i2_s, xC_i3, xC_i3_s, xW_k, xW_n, xW_ik, xW_ik_s, x1_k, x1_n, x1_ik, x1_ik_s, x2_k, x2_n, x2_ik, x2_ik_s, xO_k, xO_n, xO_lk, xO_lk_s, C_no20, C_no21, C_no22]
    · obtain rfl : i = 80 := (by omega)
      simp only [f_X3_momentumThere_b14, Int32.le_refl, ↓reduceIte]
theorem e_momC {b : Nat} {σ : Sg} : f_X3_momentumThere (xH b) (memC b σ) = some (memC b σ, mo σ 80) := by
  rw [← l_momC 200 0 (by omega) (by omega)]
  simp only [f_X3_momentumThere, gd, lt_, rd, bd, ↓reduceIte, eq_self, and_self, true_and, and_true, not_false_eq_true, vi_t, cl_6, cl_20, cl_21, cl_40, cl_64, cl_80, cl_1280, Nat.reduceLT, tn_0, true_or, or_true, ab_f, xB_k, xB_r0, xB_r1, xB_r3, xB_r5, xB_r8, xB_r9, xB_r10, xB_i2, xB_i2_s, xB_i4, xB_i4_s, xB_i6, xB_i6_s, xB_i7, xB_i7_s, xH_k, xH_r0, xH_r1, xH_r2, xH_i3, xH_i3_s, xH_i4, xH_i4_s, xH_i5, xH_i5_s, xH_i6, xH_i6_s, xP_k, xP_i0, xP_i0_s, xL_k, xL_i0, xL_i0_s, xL_i1, xL_i1_s, xL_i2, xL_i2_s, xL_i3, xL_i3_s, xL_i4, xL_i4_s, xL_i5, xL_i5_s, xL_i6, xL_i6_s, xL_i7, xL_i7_s, xL_l8, xL_l8_s, xL_l9, xL_l9_s, xL_l10, xL_l10_s, xL_l11, xL_l11_s, xL_l12, xL_l12_s, xA_k, xA_n, xA_rk, xG_k, xG_i0, xG_i0_s, xG_i1, xG_i1_s, xG_i2, xG_i2_s, xG_i3, xG_i3_s, xG_i4, xG_i4_s, xG_i5, xG_i5_s, xG_i6, xG_i6_s, xMA_k, xMA_n, xMA_rk, xM_k, xM_i0, xM_i0_s, xM_i1, xM_i1_s, xM_i2, xM_i2_s, xFA_k, xFA_n, xFA_rk, xF_k, xF_r0, xF_i1, xF_i1_s, xFm_k, xFm_n, xFm_ik, xFm_ik_s, xCA_k, xCA_n, xCA_rk, xC_k, xC_i0, xC_i0_s, xC_i1, xC_i1_s, xC_i2, xC_i2_s, xC_i3, xC_i3_s, xW_k, xW_n, xW_ik, xW_ik_s, x1_k, x1_n, x1_ik, x1_ik_s, x2_k, x2_n, x2_ik, x2_ik_s, xO_k, xO_n, xO_lk, xO_lk_s, C_no20, C_no21, C_no22]
  rfl
theorem l_thereM {b nn : Nat} {σ : Sg} (hn : σ.1 10 0 = nI nn) (hnn : nn ≤ 80) : ∀ f i, i ≤ nn → 80 < i + f → f_X8_there_L4 f b (cn σ i) (nI i) (memM b σ) = some (memM b σ, cn σ nn) := by
  intro f
  induction f with
  | zero => intro i h1 h2; omega
  | succ f ih =>
    intro i h1 h2
    show f_X8_there_b4 (f_X8_there_L4 f) b _ (nI i) _ = _
    rcases Nat.lt_or_ge i nn with hi | hi
    · have hle := nle_t hi (by omega)
      have hi8 : i < 80 := by omega
      rw [← ih (i + 1) (by omega) (by omega)]
      by_cases h5 : σ.1 5 i = 0
      · simp only [f_X8_there_b4, f_X8_there_b27, hn, hle, hi8, h5, nI_1, cn, Int32.add_zero, gd, lt_, rd, bd, ↓reduceIte, eq_self, and_self, true_and, and_true, not_false_eq_true, vi_t, cl_6, cl_20, cl_21, cl_40, cl_64, cl_80, cl_1280, Nat.reduceLT, tn_0, true_or, or_true, ab_f, yB_k, yB_r7, yB_r8, yB_r9, yB_r10, yB_r11, yB_r12, yB_r13, yB_r15, yB_r16, yB_r17, yB_r30, yB_r31, yB_r33, yB_r34, yB_r35, yB_r36, yB_i0, yB_i0_s, yB_i1, yB_i1_s, yB_i2, yB_i2_s, yB_i3, yB_i3_s, yB_i4, yB_i4_s, yB_i5, yB_i5_s, yB_i6, yB_i6_s, yB_i14, yB_i14_s, yB_i18, yB_i18_s, yB_i19, yB_i19_s, yB_i20, yB_i20_s, yB_i21, yB_i21_s, yB_i22, yB_i22_s, yB_i23, yB_i23_s, yB_i24, yB_i24_s, yB_i25, yB_i25_s, yB_i29, yB_i29_s, yB_i32, yB_i32_s, yB_l26, yB_l26_s, yB_l27, yB_l27_s, yB_l28, yB_l28_s, yLa_k, yLa_n, yLa_ik, yLa_ik_s, yAn_k, yAn_n, yAn_ik, yAn_ik_s, yMa_k, yMa_n, yMa_ik, yMa_ik_s, yUn_k, yUn_n, yUn_ik, yUn_ik_s, yDa_k, yDa_n, yDa_ik, yDa_ik_s, yTh_k, yTh_n, yTh_ik, yTh_ik_s, yHm_k, yHm_n, yHm_ik, yHm_ik_s, yML_k, yML_n, yML_ik, yML_ik_s, yMn_k, yMn_n, yMn_ik, yMn_ik_s, yMm_k, yMm_n, yMm_ik, yMm_ik_s, yFr_k, yFr_n, yFr_ik, yFr_ik_s, yFt_k, yFt_n, yFt_ik, yFt_ik_s, yCf_k, yCf_n, yCf_ik, yCf_ik_s, yCo_k, yCo_n, yCo_ik, yCo_ik_s, yCt_k, yCt_n, yCt_ik, yCt_ik_s, yCm_k, yCm_n, yCm_ik, yCm_ik_s, M_no6, M_no9, M_no17, M_no18, M_no19, M_nl3, M_nl4, M_nl5]
      · simp only [f_X8_there_b4, f_X8_there_b27, hn, hle, hi8, h5, nI_1, cn, gd, lt_, rd, bd, ↓reduceIte, eq_self, and_self, true_and, and_true, not_false_eq_true, vi_t, cl_6, cl_20, cl_21, cl_40, cl_64, cl_80, cl_1280, Nat.reduceLT, tn_0, true_or, or_true, ab_f, yB_k, yB_r7, yB_r8, yB_r9, yB_r10, yB_r11, yB_r12, yB_r13, yB_r15, yB_r16, yB_r17, yB_r30, yB_r31, yB_r33, yB_r34, yB_r35, yB_r36, yB_i0, yB_i0_s, yB_i1, yB_i1_s, yB_i2, yB_i2_s, yB_i3, yB_i3_s, yB_i4, yB_i4_s, yB_i5, yB_i5_s, yB_i6, yB_i6_s, yB_i14, yB_i14_s, yB_i18, yB_i18_s, yB_i19, yB_i19_s, yB_i20, yB_i20_s, yB_i21, yB_i21_s, yB_i22, yB_i22_s, yB_i23, yB_i23_s, yB_i24, yB_i24_s, yB_i25, yB_i25_s, yB_i29, yB_i29_s, yB_i32, yB_i32_s, yB_l26, yB_l26_s, yB_l27, yB_l27_s, yB_l28, yB_l28_s, yLa_k, yLa_n, yLa_ik, yLa_ik_s, yAn_k, yAn_n, yAn_ik, yAn_ik_s, yMa_k, yMa_n, yMa_ik, yMa_ik_s, yUn_k, yUn_n, yUn_ik, yUn_ik_s, yDa_k, yDa_n, yDa_ik, yDa_ik_s, yTh_k, yTh_n, yTh_ik, yTh_ik_s, yHm_k, yHm_n, yHm_ik, yHm_ik_s, yML_k, yML_n, yML_ik, yML_ik_s, yMn_k, yMn_n, yMn_ik, yMn_ik_s, yMm_k, yMm_n, yMm_ik, yMm_ik_s, yFr_k, yFr_n, yFr_ik, yFr_ik_s, yFt_k, yFt_n, yFt_ik, yFt_ik_s, yCf_k, yCf_n, yCf_ik, yCf_ik_s, yCo_k, yCo_n, yCo_ik, yCo_ik_s, yCt_k, yCt_n, yCt_ik, yCt_ik_s, yCm_k, yCm_n, yCm_ik, yCm_ik_s, M_no6, M_no9, M_no17, M_no18, M_no19, M_nl3, M_nl4, M_nl5]
    · obtain rfl : i = nn := (by omega)
      simp only [f_X8_there_b4, hn, Int32.le_refl, gd, lt_, rd, bd, ↓reduceIte, eq_self, and_self, true_and, and_true, not_false_eq_true, vi_t, cl_6, cl_20, cl_21, cl_40, cl_64, cl_80, cl_1280, Nat.reduceLT, tn_0, true_or, or_true, ab_f, yB_k, yB_r7, yB_r8, yB_r9, yB_r10, yB_r11, yB_r12, yB_r13, yB_r15, yB_r16, yB_r17, yB_r30, yB_r31, yB_r33, yB_r34, yB_r35, yB_r36, yB_i0, yB_i0_s, yB_i1, yB_i1_s, yB_i2, yB_i2_s, yB_i3, yB_i3_s, yB_i4, yB_i4_s, yB_i5, yB_i5_s, yB_i6, yB_i6_s, yB_i14, yB_i14_s, yB_i18, yB_i18_s, yB_i19, yB_i19_s, yB_i20, yB_i20_s, yB_i21, yB_i21_s, yB_i22, yB_i22_s, yB_i23, yB_i23_s, yB_i24, yB_i24_s, yB_i25, yB_i25_s, yB_i29, yB_i29_s, yB_i32, yB_i32_s, yB_l26, yB_l26_s, yB_l27, yB_l27_s, yB_l28, yB_l28_s, yLa_k, yLa_n, yLa_ik, yLa_ik_s, yAn_k, yAn_n, yAn_ik, yAn_ik_s, yMa_k, yMa_n, yMa_ik, yMa_ik_s, yUn_k, yUn_n, yUn_ik, yUn_ik_s, yDa_k, yDa_n, yDa_ik, yDa_ik_s, yTh_k, yTh_n, yTh_ik, yTh_ik_s, yHm_k, yHm_n, yHm_ik, yHm_ik_s, yML_k, yML_n, yML_ik, yML_ik_s, yMn_k, yMn_n, yMn_ik, yMn_ik_s, yMm_k, yMm_n, yMm_ik, yMm_ik_s, yFr_k, yFr_n, yFr_ik, yFr_ik_s, yFt_k, yFt_n, yFt_ik, yFt_ik_s, yCf_k, yCf_n, yCf_ik, yCf_ik_s, yCo_k, yCo_n, yCo_ik, yCo_ik_s, yCt_k, yCt_n, yCt_ik, yCt_ik_s, yCm_k, yCm_n, yCm_ik, yCm_ik_s, M_no6, M_no9, M_no17, M_no18, M_no19, M_nl3, M_nl4, M_nl5]
theorem e_thereM {b nn : Nat} {σ : Sg} (hG : InvG nn σ) : f_X8_there b (memM b σ) = some (memM b σ, cn σ 80) := by
  rw [cn_end hG]
  exact l_thereM hG.1 hG.2.1 200 0 (by omega) (by omega)
theorem l_momM {b nn : Nat} {σ : Sg} (hn : σ.1 10 0 = nI nn) (hnn : nn ≤ 80) : ∀ f i, i ≤ nn → 80 < i + f → f_X8_momentumNow_L4 f b (mo σ i) (nI i) (memM b σ) = some (memM b σ, mo σ nn) := by
  intro f
  induction f with
  | zero => intro i h1 h2; omega
  | succ f ih =>
    intro i h1 h2
    show f_X8_momentumNow_b4 (f_X8_momentumNow_L4 f) b _ (nI i) _ = _
    rcases Nat.lt_or_ge i nn with hi | hi
    · have hle := nle_t hi (by omega)
      have hi8 : i < 80 := by omega
      rw [← ih (i + 1) (by omega) (by omega)]
      by_cases h5 : σ.1 5 i = 0
      · simp only [f_X8_momentumNow_b4, f_X8_momentumNow_b31, hn, hle, hi8, h5, nI_1, mo, Int64.add_zero, gd, lt_, rd, bd, ↓reduceIte, eq_self, and_self, true_and, and_true, not_false_eq_true, vi_t, cl_6, cl_20, cl_21, cl_40, cl_64, cl_80, cl_1280, Nat.reduceLT, tn_0, true_or, or_true, ab_f, yB_k, yB_r7, yB_r8, yB_r9, yB_r10, yB_r11, yB_r12, yB_r13, yB_r15, yB_r16, yB_r17, yB_r30, yB_r31, yB_r33, yB_r34, yB_r35, yB_r36, yB_i0, yB_i0_s, yB_i1, yB_i1_s, yB_i2, yB_i2_s, yB_i3, yB_i3_s, yB_i4, yB_i4_s, yB_i5, yB_i5_s, yB_i6, yB_i6_s, yB_i14, yB_i14_s, yB_i18, yB_i18_s, yB_i19, yB_i19_s, yB_i20, yB_i20_s, yB_i21, yB_i21_s, yB_i22, yB_i22_s, yB_i23, yB_i23_s, yB_i24, yB_i24_s, yB_i25, yB_i25_s, yB_i29, yB_i29_s, yB_i32, yB_i32_s, yB_l26, yB_l26_s, yB_l27, yB_l27_s, yB_l28, yB_l28_s, yLa_k, yLa_n, yLa_ik, yLa_ik_s, yAn_k, yAn_n, yAn_ik, yAn_ik_s, yMa_k, yMa_n, yMa_ik, yMa_ik_s, yUn_k, yUn_n, yUn_ik, yUn_ik_s, yDa_k, yDa_n, yDa_ik, yDa_ik_s, yTh_k, yTh_n, yTh_ik, yTh_ik_s, yHm_k, yHm_n, yHm_ik, yHm_ik_s, yML_k, yML_n, yML_ik, yML_ik_s, yMn_k, yMn_n, yMn_ik, yMn_ik_s, yMm_k, yMm_n, yMm_ik, yMm_ik_s, yFr_k, yFr_n, yFr_ik, yFr_ik_s, yFt_k, yFt_n, yFt_ik, yFt_ik_s, yCf_k, yCf_n, yCf_ik, yCf_ik_s, yCo_k, yCo_n, yCo_ik, yCo_ik_s, yCt_k, yCt_n, yCt_ik, yCt_ik_s, yCm_k, yCm_n, yCm_ik, yCm_ik_s, M_no6, M_no9, M_no17, M_no18, M_no19, M_nl3, M_nl4, M_nl5]
      · simp only [f_X8_momentumNow_b4, f_X8_momentumNow_b31, hn, hle, hi8, h5, nI_1, mo, e_X8_momentumOf hi8, gd, lt_, rd, bd, ↓reduceIte, eq_self, and_self, true_and, and_true, not_false_eq_true, vi_t, cl_6, cl_20, cl_21, cl_40, cl_64, cl_80, cl_1280, Nat.reduceLT, tn_0, true_or, or_true, ab_f, yB_k, yB_r7, yB_r8, yB_r9, yB_r10, yB_r11, yB_r12, yB_r13, yB_r15, yB_r16, yB_r17, yB_r30, yB_r31, yB_r33, yB_r34, yB_r35, yB_r36, yB_i0, yB_i0_s, yB_i1, yB_i1_s, yB_i2, yB_i2_s, yB_i3, yB_i3_s, yB_i4, yB_i4_s, yB_i5, yB_i5_s, yB_i6, yB_i6_s, yB_i14, yB_i14_s, yB_i18, yB_i18_s, yB_i19, yB_i19_s, yB_i20, yB_i20_s, yB_i21, yB_i21_s, yB_i22, yB_i22_s, yB_i23, yB_i23_s, yB_i24, yB_i24_s, yB_i25, yB_i25_s, yB_i29, yB_i29_s, yB_i32, yB_i32_s, yB_l26, yB_l26_s, yB_l27, yB_l27_s, yB_l28, yB_l28_s, yLa_k, yLa_n, yLa_ik, yLa_ik_s, yAn_k, yAn_n, yAn_ik, yAn_ik_s, yMa_k, yMa_n, yMa_ik, yMa_ik_s, yUn_k, yUn_n, yUn_ik, yUn_ik_s, yDa_k, yDa_n, yDa_ik, yDa_ik_s, yTh_k, yTh_n, yTh_ik, yTh_ik_s, yHm_k, yHm_n, yHm_ik, yHm_ik_s, yML_k, yML_n, yML_ik, yML_ik_s, yMn_k, yMn_n, yMn_ik, yMn_ik_s, yMm_k, yMm_n, yMm_ik, yMm_ik_s, yFr_k, yFr_n, yFr_ik, yFr_ik_s, yFt_k, yFt_n, yFt_ik, yFt_ik_s, yCf_k, yCf_n, yCf_ik, yCf_ik_s, yCo_k, yCo_n, yCo_ik, yCo_ik_s, yCt_k, yCt_n, yCt_ik, yCt_ik_s, yCm_k, yCm_n, yCm_ik, yCm_ik_s, M_no6, M_no9, M_no17, M_no18, M_no19, M_nl3, M_nl4, M_nl5]
    · obtain rfl : i = nn := (by omega)
      simp only [f_X8_momentumNow_b4, hn, Int32.le_refl, gd, lt_, rd, bd, ↓reduceIte, eq_self, and_self, true_and, and_true, not_false_eq_true, vi_t, cl_6, cl_20, cl_21, cl_40, cl_64, cl_80, cl_1280, Nat.reduceLT, tn_0, true_or, or_true, ab_f, yB_k, yB_r7, yB_r8, yB_r9, yB_r10, yB_r11, yB_r12, yB_r13, yB_r15, yB_r16, yB_r17, yB_r30, yB_r31, yB_r33, yB_r34, yB_r35, yB_r36, yB_i0, yB_i0_s, yB_i1, yB_i1_s, yB_i2, yB_i2_s, yB_i3, yB_i3_s, yB_i4, yB_i4_s, yB_i5, yB_i5_s, yB_i6, yB_i6_s, yB_i14, yB_i14_s, yB_i18, yB_i18_s, yB_i19, yB_i19_s, yB_i20, yB_i20_s, yB_i21, yB_i21_s, yB_i22, yB_i22_s, yB_i23, yB_i23_s, yB_i24, yB_i24_s, yB_i25, yB_i25_s, yB_i29, yB_i29_s, yB_i32, yB_i32_s, yB_l26, yB_l26_s, yB_l27, yB_l27_s, yB_l28, yB_l28_s, yLa_k, yLa_n, yLa_ik, yLa_ik_s, yAn_k, yAn_n, yAn_ik, yAn_ik_s, yMa_k, yMa_n, yMa_ik, yMa_ik_s, yUn_k, yUn_n, yUn_ik, yUn_ik_s, yDa_k, yDa_n, yDa_ik, yDa_ik_s, yTh_k, yTh_n, yTh_ik, yTh_ik_s, yHm_k, yHm_n, yHm_ik, yHm_ik_s, yML_k, yML_n, yML_ik, yML_ik_s, yMn_k, yMn_n, yMn_ik, yMn_ik_s, yMm_k, yMm_n, yMm_ik, yMm_ik_s, yFr_k, yFr_n, yFr_ik, yFr_ik_s, yFt_k, yFt_n, yFt_ik, yFt_ik_s, yCf_k, yCf_n, yCf_ik, yCf_ik_s, yCo_k, yCo_n, yCo_ik, yCo_ik_s, yCt_k, yCt_n, yCt_ik, yCt_ik_s, yCm_k, yCm_n, yCm_ik, yCm_ik_s, M_no6, M_no9, M_no17, M_no18, M_no19, M_nl3, M_nl4, M_nl5]
theorem e_momM {b nn : Nat} {σ : Sg} (hG : InvG nn σ) : f_X8_momentumNow b (memM b σ) = some (memM b σ, mo σ 80) := by
  rw [mo_end hG]
  exact l_momM hG.1 hG.2.1 200 0 (by omega) (by omega)
theorem l_sumM {b nn : Nat} {σ : Sg} {x : Int32} (hn : σ.1 10 0 = nI nn) (hnn : nn ≤ 80) : ∀ f i, i ≤ nn → 80 < i + f → f_X8_sum_L31 f b x (su σ i) (nI i) (memM b σ) = some (memM b σ, if x = 0 then su σ nn else if x = 1 then σ.1 10 11 else if x = 2 then σ.1 10 12 else σ.1 10 13) := by
  intro f
  induction f with
  | zero => intro i h1 h2; omega
  | succ f ih =>
    intro i h1 h2
    show f_X8_sum_b31 (f_X8_sum_L31 f) b x _ (nI i) _ = _
    rcases Nat.lt_or_ge i nn with hi | hi
    · have hle := nle_t hi (by omega)
      have hi8 : i < 80 := by omega
      rw [← ih (i + 1) (by omega) (by omega)]
      by_cases h5 : σ.1 5 i = 0
      · simp only [f_X8_sum_b31, f_X8_sum_b59, hn, hle, hi8, h5, nI_1, su, Int32.add_zero, gd, lt_, rd, bd, ↓reduceIte, eq_self, and_self, true_and, and_true, not_false_eq_true, vi_t, cl_6, cl_20, cl_21, cl_40, cl_64, cl_80, cl_1280, Nat.reduceLT, tn_0, true_or, or_true, ab_f, yB_k, yB_r7, yB_r8, yB_r9, yB_r10, yB_r11, yB_r12, yB_r13, yB_r15, yB_r16, yB_r17, yB_r30, yB_r31, yB_r33, yB_r34, yB_r35, yB_r36, yB_i0, yB_i0_s, yB_i1, yB_i1_s, yB_i2, yB_i2_s, yB_i3, yB_i3_s, yB_i4, yB_i4_s, yB_i5, yB_i5_s, yB_i6, yB_i6_s, yB_i14, yB_i14_s, yB_i18, yB_i18_s, yB_i19, yB_i19_s, yB_i20, yB_i20_s, yB_i21, yB_i21_s, yB_i22, yB_i22_s, yB_i23, yB_i23_s, yB_i24, yB_i24_s, yB_i25, yB_i25_s, yB_i29, yB_i29_s, yB_i32, yB_i32_s, yB_l26, yB_l26_s, yB_l27, yB_l27_s, yB_l28, yB_l28_s, yLa_k, yLa_n, yLa_ik, yLa_ik_s, yAn_k, yAn_n, yAn_ik, yAn_ik_s, yMa_k, yMa_n, yMa_ik, yMa_ik_s, yUn_k, yUn_n, yUn_ik, yUn_ik_s, yDa_k, yDa_n, yDa_ik, yDa_ik_s, yTh_k, yTh_n, yTh_ik, yTh_ik_s, yHm_k, yHm_n, yHm_ik, yHm_ik_s, yML_k, yML_n, yML_ik, yML_ik_s, yMn_k, yMn_n, yMn_ik, yMn_ik_s, yMm_k, yMm_n, yMm_ik, yMm_ik_s, yFr_k, yFr_n, yFr_ik, yFr_ik_s, yFt_k, yFt_n, yFt_ik, yFt_ik_s, yCf_k, yCf_n, yCf_ik, yCf_ik_s, yCo_k, yCo_n, yCo_ik, yCo_ik_s, yCt_k, yCt_n, yCt_ik, yCt_ik_s, yCm_k, yCm_n, yCm_ik, yCm_ik_s, M_no6, M_no9, M_no17, M_no18, M_no19, M_nl3, M_nl4, M_nl5]
      · simp only [f_X8_sum_b31, f_X8_sum_b59, hn, hle, hi8, h5, nI_1, su, gd, lt_, rd, bd, ↓reduceIte, eq_self, and_self, true_and, and_true, not_false_eq_true, vi_t, cl_6, cl_20, cl_21, cl_40, cl_64, cl_80, cl_1280, Nat.reduceLT, tn_0, true_or, or_true, ab_f, yB_k, yB_r7, yB_r8, yB_r9, yB_r10, yB_r11, yB_r12, yB_r13, yB_r15, yB_r16, yB_r17, yB_r30, yB_r31, yB_r33, yB_r34, yB_r35, yB_r36, yB_i0, yB_i0_s, yB_i1, yB_i1_s, yB_i2, yB_i2_s, yB_i3, yB_i3_s, yB_i4, yB_i4_s, yB_i5, yB_i5_s, yB_i6, yB_i6_s, yB_i14, yB_i14_s, yB_i18, yB_i18_s, yB_i19, yB_i19_s, yB_i20, yB_i20_s, yB_i21, yB_i21_s, yB_i22, yB_i22_s, yB_i23, yB_i23_s, yB_i24, yB_i24_s, yB_i25, yB_i25_s, yB_i29, yB_i29_s, yB_i32, yB_i32_s, yB_l26, yB_l26_s, yB_l27, yB_l27_s, yB_l28, yB_l28_s, yLa_k, yLa_n, yLa_ik, yLa_ik_s, yAn_k, yAn_n, yAn_ik, yAn_ik_s, yMa_k, yMa_n, yMa_ik, yMa_ik_s, yUn_k, yUn_n, yUn_ik, yUn_ik_s, yDa_k, yDa_n, yDa_ik, yDa_ik_s, yTh_k, yTh_n, yTh_ik, yTh_ik_s, yHm_k, yHm_n, yHm_ik, yHm_ik_s, yML_k, yML_n, yML_ik, yML_ik_s, yMn_k, yMn_n, yMn_ik, yMn_ik_s, yMm_k, yMm_n, yMm_ik, yMm_ik_s, yFr_k, yFr_n, yFr_ik, yFr_ik_s, yFt_k, yFt_n, yFt_ik, yFt_ik_s, yCf_k, yCf_n, yCf_ik, yCf_ik_s, yCo_k, yCo_n, yCo_ik, yCo_ik_s, yCt_k, yCt_n, yCt_ik, yCt_ik_s, yCm_k, yCm_n, yCm_ik, yCm_ik_s, M_no6, M_no9, M_no17, M_no18, M_no19, M_nl3, M_nl4, M_nl5]
    · obtain rfl : i = nn := (by omega)
      simp only [f_X8_sum_b31, f_X8_sum_b103, hn, Int32.le_refl, gd, lt_, rd, bd, ↓reduceIte, eq_self, and_self, true_and, and_true, not_false_eq_true, vi_t, cl_6, cl_20, cl_21, cl_40, cl_64, cl_80, cl_1280, Nat.reduceLT, tn_0, true_or, or_true, ab_f, yB_k, yB_r7, yB_r8, yB_r9, yB_r10, yB_r11, yB_r12, yB_r13, yB_r15, yB_r16, yB_r17, yB_r30, yB_r31, yB_r33, yB_r34, yB_r35, yB_r36, yB_i0, yB_i0_s, yB_i1, yB_i1_s, yB_i2, yB_i2_s, yB_i3, yB_i3_s, yB_i4, yB_i4_s, yB_i5, yB_i5_s, yB_i6, yB_i6_s, yB_i14, yB_i14_s, yB_i18, yB_i18_s, yB_i19, yB_i19_s, yB_i20, yB_i20_s, yB_i21, yB_i21_s, yB_i22, yB_i22_s, yB_i23, yB_i23_s, yB_i24, yB_i24_s, yB_i25, yB_i25_s, yB_i29, yB_i29_s, yB_i32, yB_i32_s, yB_l26, yB_l26_s, yB_l27, yB_l27_s, yB_l28, yB_l28_s, yLa_k, yLa_n, yLa_ik, yLa_ik_s, yAn_k, yAn_n, yAn_ik, yAn_ik_s, yMa_k, yMa_n, yMa_ik, yMa_ik_s, yUn_k, yUn_n, yUn_ik, yUn_ik_s, yDa_k, yDa_n, yDa_ik, yDa_ik_s, yTh_k, yTh_n, yTh_ik, yTh_ik_s, yHm_k, yHm_n, yHm_ik, yHm_ik_s, yML_k, yML_n, yML_ik, yML_ik_s, yMn_k, yMn_n, yMn_ik, yMn_ik_s, yMm_k, yMm_n, yMm_ik, yMm_ik_s, yFr_k, yFr_n, yFr_ik, yFr_ik_s, yFt_k, yFt_n, yFt_ik, yFt_ik_s, yCf_k, yCf_n, yCf_ik, yCf_ik_s, yCo_k, yCo_n, yCo_ik, yCo_ik_s, yCt_k, yCt_n, yCt_ik, yCt_ik_s, yCm_k, yCm_n, yCm_ik, yCm_ik_s, M_no6, M_no9, M_no17, M_no18, M_no19, M_nl3, M_nl4, M_nl5]
      by_cases h1 : x = 0
      · simp only [h1, if_true]
      · by_cases h2 : x = 1
        · simp only [h1, h2, if_true, if_false, z_10]
        · by_cases h3 : x = 2
          · simp only [h1, h2, h3, if_true, if_false, z_20]
            rfl
          · simp only [h1, h2, h3, if_false]
