/-! ===== PURE: moon, claim, angle, speed, told ===== -/
def tMoon (σ : Sg) (m : Nat) (l a w : Int32) : Sg := sI (sI (sI (sI (sI σ 7 m l) 8 m a) 9 m (wd w)) 20 m w) 10 1 (nI (m + 1))
theorem Inv.moon {n m ff cc : Nat} {σ : Sg} {l a w : Int32} (h1 : InvG n σ) (h2 : InvM m σ) (h3 : InvF ff cc σ) (h4 : InvD σ) (hm : m < 6) (hl : lnOk l) (w1 : 1 ≤ w.toInt) (w2 : w.toInt ≤ 10000) : Inv (tMoon σ m l a w) := by
  have r : ∀ c k, ¬ (c = 7 ∨ c = 8 ∨ c = 9 ∨ c = 20 ∨ (c = 10 ∧ k = 1)) → (tMoon σ m l a w).1 c k = σ.1 c k := fun c k hc => by
    simp only [tMoon, sI_1]
    rw [if_neg (by omega), if_neg (by omega), if_neg (by omega), if_neg (by omega), if_neg (by omega)]
  have e7 : ∀ k, (tMoon σ m l a w).1 7 k = if k = m then l else σ.1 7 k := fun k => by simp only [tMoon, sI_1, sI_2, sL_1, sL_2, false_and, and_false, Nat.reduceEqDiff, reduceCtorEq, ↓reduceIte, eq_self, and_self, true_and, and_true]
  have e9 : ∀ k, (tMoon σ m l a w).1 9 k = if k = m then wd w else σ.1 9 k := fun k => by simp only [tMoon, sI_1, sI_2, sL_1, sL_2, false_and, and_false, Nat.reduceEqDiff, reduceCtorEq, ↓reduceIte, eq_self, and_self, true_and, and_true]
  have e20 : ∀ k, (tMoon σ m l a w).1 20 k = if k = m then w else σ.1 20 k := fun k => by simp only [tMoon, sI_1, sI_2, sL_1, sL_2, false_and, and_false, Nat.reduceEqDiff, reduceCtorEq, ↓reduceIte, eq_self, and_self, true_and, and_true]
  refine ⟨n, m + 1, ff, cc, h1.same (fun j hj => ⟨r _ _ (by omega), r _ _ (by omega), r _ _ (by omega), r _ _ (by omega)⟩) ⟨r _ _ (by omega), r _ _ (by omega), r _ _ (by omega), r _ _ (by omega)⟩ ⟨rfl, rfl⟩, ?_, ?_, h4.same (r _ _ (by omega)) (fun j _ _ => r _ _ (by omega))⟩
  · obtain ⟨a1, a2, a3⟩ := h2
    refine ⟨by simp only [tMoon, sI_1, sI_2, sL_1, sL_2, false_and, and_false, Nat.reduceEqDiff, reduceCtorEq, ↓reduceIte, eq_self, and_self, true_and, and_true], by omega, fun j hj => ?_⟩
    rw [e7, e9, e20]
    by_cases hjm : j = m
    · rw [if_pos hjm, if_pos hjm, if_pos hjm]
      exact ⟨hl, rfl, w1, w2⟩
    · rw [if_neg hjm, if_neg hjm, if_neg hjm]
      exact a3 j (by omega)
  · obtain ⟨a1, a2, a3, a4, a5⟩ := h3
    refine ⟨(r 10 15 (by omega)).trans a1, a2, (r 10 16 (by omega)).trans a3, a4, fun j hj => ?_⟩
    rw [r 13 j (by omega), r 14 j (by omega), r 15 j (by omega)]
    exact a5 j hj
theorem op_moon {b : Nat} (p0 p1 p2 : Int32) : OpI (I2 b) (xO b) (b + 177) (f_L_moon b p0 p1 p2 (xO b)) (f_X8_moon (b + 177) p0 p1 p2) := by
  refine OpI_mk (E := _) (g := f_X7_moon b p0 p1 p2) (fun σ hI => ?_)
  by_cases h : OKr 0 p0 63 ∧ OKr 0 p1 35999 ∧ OKr 1 p2 10000
  · obtain ⟨hl, ha, hm⟩ := h
    have h0 : Inv (sI σ 21 0 0) := hI.qs (Qs.sI (by omega))
    obtain ⟨nn, mm, ff, cc, g1, g2, g3, g4⟩ := h0
    have hmm := g2.2.1
    have g10 := g2.1
    have e6 : (nI mm < (6 : Int32)) = (mm < 6) := propext (nI_ltI (by omega) (by decide))
    have c10 : σ.1 10 1 = nI mm := by rw [← g10]; exact (c21 (by decide)).symm
    by_cases hn : mm < 6
    · have hlt : (nI mm < (6 : Int32)) = True := by rw [e6]; exact eq_true hn
      have hne : (nI mm = (6 : Int32)) = False := nI_eqF (c := 6) hn (by decide)
      have ep : nI (mm + 1) - 1 = nI mm := nI_pred mm
      refine Or.inl ⟨tMoon (sI σ 21 0 0) mm p0 p1 p2, nI mm, ?_, ?_, Inv.moon g1 g2 g3 g4 hn (ln_of hl) (in_1e4 hm).1 (in_1e4 hm).2, ?_⟩
      · generalize sI σ 21 0 0 = σ at g10
        have e : memC b (tMoon σ mm p0 p1 p2) = memC b (sI (sI (sI (sI σ 7 mm p0) 8 mm p1) 9 mm (wd p2)) 10 1 (nI (mm + 1))) := memC_congr (fun c k h => by
          have h20 := h.1
          simp only [tMoon, sI_1, h20, false_and, if_false]) rfl
        rw [e]
        simp only [f_X7_moon, rP_t hl ha hm, e_X7_widthOf, bx_l, g10, hlt, hn, nI_1, ep, gd, lt_, rd, bd, ↓reduceIte, eq_self, and_self, true_and, and_true, not_false_eq_true, vi_t, cl_6, cl_20, cl_21, cl_40, cl_64, cl_80, cl_1280, Nat.reduceLT, tn_0, true_or, or_true, ab_f, xB_k, xB_r0, xB_r1, xB_r3, xB_r5, xB_r8, xB_r9, xB_r10, xB_i2, xB_i2_s, xB_i4, xB_i4_s, xB_i6, xB_i6_s, xB_i7, xB_i7_s, xH_k, xH_r0, xH_r1, xH_r2, xH_i3, xH_i3_s, xH_i4, xH_i4_s, xH_i5, xH_i5_s, xH_i6, xH_i6_s, xP_k, xP_i0, xP_i0_s, xL_k, xL_i0, xL_i0_s, xL_i1, xL_i1_s, xL_i2, xL_i2_s, xL_i3, xL_i3_s, xL_i4, xL_i4_s, xL_i5, xL_i5_s, xL_i6, xL_i6_s, xL_i7, xL_i7_s, xL_l8, xL_l8_s, xL_l9, xL_l9_s, xL_l10, xL_l10_s, xL_l11, xL_l11_s, xL_l12, xL_l12_s, xA_k, xA_n, xA_rk, xG_k, xG_i0, xG_i0_s, xG_i1, xG_i1_s, xG_i2, xG_i2_s, xG_i3, xG_i3_s, xG_i4, xG_i4_s, xG_i5, xG_i5_s, xG_i6, xG_i6_s, xMA_k, xMA_n, xMA_rk, xM_k, xM_i0, xM_i0_s, xM_i1, xM_i1_s, xM_i2, xM_i2_s, xFA_k, xFA_n, xFA_rk, xF_k, xF_r0, xF_i1, xF_i1_s, xFm_k, xFm_n, xFm_ik, xFm_ik_s, xCA_k, xCA_n, xCA_rk, xC_k, xC_i0, xC_i0_s, xC_i1, xC_i1_s, xC_i2, xC_i2_s, xC_i3, xC_i3_s, xW_k, xW_n, xW_ik, xW_ik_s, x1_k, x1_n, x1_ik, x1_ik_s, x2_k, x2_n, x2_ik, x2_ik_s, xO_k, xO_n, xO_lk, xO_lk_s, C_no20, C_no21, C_no22, sI_1, sI_2, sL_1, sL_2, false_and, and_false, Nat.reduceEqDiff, reduceCtorEq, ↓reduceIte, eq_self, and_self, true_and, and_true]
      · have t13 : (sI σ 21 0 0).1 21 0 = 0 := by simp only [sI_1, sI_2, sL_1, sL_2, false_and, and_false, Nat.reduceEqDiff, reduceCtorEq, ↓reduceIte, eq_self, and_self, true_and, and_true]
        simp only [f_X8_moon, f_X8_moon_b33, f_X8_moon_b59, iL_t hl, iI_t ha, iI_t hm, bd_s, gd, lt_, yB_k, yB_i14, c10, hne, z_10, yB_i0_s, ↓reduceIte]
        generalize sI σ 21 0 0 = σ at g10 t13
        have e : memM (b + 177) (tMoon σ mm p0 p1 p2) = memM (b + 177) (sI (sI (sI (sI σ 7 mm p0) 8 mm p1) 20 mm p2) 10 1 (nI (mm + 1))) := memM_congr (fun c k h => by
          have h9 := h.2.1
          simp only [tMoon, sI_1, h9, false_and, if_false]) rfl
        rw [e]
        simp only [yB_i0, t13, z_le0, g10, hn, nI_1, ep, gd, lt_, rd, bd, ↓reduceIte, eq_self, and_self, true_and, and_true, not_false_eq_true, vi_t, cl_6, cl_20, cl_21, cl_40, cl_64, cl_80, cl_1280, Nat.reduceLT, tn_0, true_or, or_true, ab_f, yB_k, yB_r7, yB_r8, yB_r9, yB_r10, yB_r11, yB_r12, yB_r13, yB_r15, yB_r16, yB_r17, yB_r30, yB_r31, yB_r33, yB_r34, yB_r35, yB_r36, yB_i0, yB_i0_s, yB_i1, yB_i1_s, yB_i2, yB_i2_s, yB_i3, yB_i3_s, yB_i4, yB_i4_s, yB_i5, yB_i5_s, yB_i6, yB_i6_s, yB_i14, yB_i14_s, yB_i18, yB_i18_s, yB_i19, yB_i19_s, yB_i20, yB_i20_s, yB_i21, yB_i21_s, yB_i22, yB_i22_s, yB_i23, yB_i23_s, yB_i24, yB_i24_s, yB_i25, yB_i25_s, yB_i29, yB_i29_s, yB_i32, yB_i32_s, yB_l26, yB_l26_s, yB_l27, yB_l27_s, yB_l28, yB_l28_s, yLa_k, yLa_n, yLa_ik, yLa_ik_s, yAn_k, yAn_n, yAn_ik, yAn_ik_s, yMa_k, yMa_n, yMa_ik, yMa_ik_s, yUn_k, yUn_n, yUn_ik, yUn_ik_s, yDa_k, yDa_n, yDa_ik, yDa_ik_s, yTh_k, yTh_n, yTh_ik, yTh_ik_s, yHm_k, yHm_n, yHm_ik, yHm_ik_s, yML_k, yML_n, yML_ik, yML_ik_s, yMn_k, yMn_n, yMn_ik, yMn_ik_s, yMm_k, yMm_n, yMm_ik, yMm_ik_s, yFr_k, yFr_n, yFr_ik, yFr_ik_s, yFt_k, yFt_n, yFt_ik, yFt_ik_s, yCf_k, yCf_n, yCf_ik, yCf_ik_s, yCo_k, yCo_n, yCo_ik, yCo_ik_s, yCt_k, yCt_n, yCt_ik, yCt_ik_s, yCm_k, yCm_n, yCm_ik, yCm_ik_s, M_no6, M_no9, M_no17, M_no18, M_no19, M_nl3, M_nl4, M_nl5, sI_1, sI_2, sL_1, sL_2, false_and, and_false, Nat.reduceEqDiff, reduceCtorEq, ↓reduceIte, eq_self, and_self, true_and, and_true]
      · simp only [tMoon, sI_1, sI_2, sL_1, sL_2, false_and, and_false, Nat.reduceEqDiff, reduceCtorEq, ↓reduceIte, eq_self, and_self, true_and, and_true]
    · obtain rfl : mm = 6 := (by omega)
      have hlt : (nI 6 < (6 : Int32)) = False := by rw [e6]; exact eq_false hn
      have heq : (nI 6 = (6 : Int32)) = True := eq_true rfl
      refine Or.inr ⟨2, 1, sI σ 21 0 2, 0, fun _ => rfl, by decide, ?_, ?_, hI.qs (Qs.sI (by omega)), by simp only [sI_1, sI_2, sL_1, sL_2, false_and, and_false, Nat.reduceEqDiff, reduceCtorEq, ↓reduceIte, eq_self, and_self, true_and, and_true]⟩
      · rw [C_no21]
        simp only [f_X7_moon, rP_t hl ha hm, bx_l, gd, rd, xB_k, xB_i2, c10, hlt, ↓reduceIte]
      · simp only [f_X8_moon, f_X8_moon_b33, f_X8_moon_b59, iL_t hl, iI_t ha, iI_t hm, bd_s, gd, lt_, yB_k, yB_i14, c10, heq, z_10, z_le2, yB_i0_s, yB_i0, ↓reduceIte, sI_1, sI_2, sL_1, sL_2, false_and, and_false, Nat.reduceEqDiff, reduceCtorEq, ↓reduceIte, eq_self, and_self, true_and, and_true]
  · refine Or.inr ⟨1, 0, sI σ 21 0 1, 0, fun _ => rfl, by decide, ?_, ?_, hI.qs (Qs.sI (by omega)), by simp only [sI_1, sI_2, sL_1, sL_2, false_and, and_false, Nat.reduceEqDiff, reduceCtorEq, ↓reduceIte, eq_self, and_self, true_and, and_true]⟩
    · rw [C_no21]
      simp only [f_X7_moon, rP_f h, bx_r]
    · have e : ∀ s0 : Sg, f_X8_moon_b32 (b + 177) p0 p1 p2 (memM (b + 177) s0) = some (memM (b + 177) (sI s0 21 0 1), 0) := fun s0 => by
        simp only [f_X8_moon_b32, f_X8_moon_b33, f_X8_moon_b59, gd, lt_, yB_k, z_le1, yB_i0_s, yB_i0, ↓reduceIte, sI_1, sI_2, sL_1, sL_2, false_and, and_false, Nat.reduceEqDiff, reduceCtorEq, ↓reduceIte, eq_self, and_self, true_and, and_true]
      by_cases h1 : OKr 0 p0 63
      · by_cases h2 : OKr 0 p1 35999
        · have h3 : ¬ OKr 1 p2 10000 := fun q => h ⟨h1, h2, q⟩
          simp only [f_X8_moon, iL_t h1, iI_t h2, iI_f h3, bd_s, z_10, ↓reduceIte, e]
        · simp only [f_X8_moon, iL_t h1, iI_f h2, bd_s, z_10, ↓reduceIte, e]
      · simp only [f_X8_moon, iL_f h1, bd_s, ↓reduceIte, e]
/-! frames' and claims' numbers -/
theorem iF_t {b ff : Nat} {σ : Sg} {v : Int32} (hc : σ.1 10 15 = nI ff) (h : OKr 0 v (nI ff - 1)) : f_X8_isFrame b v (memM b σ) = some (memM b σ, 1) := by
  simp only [f_X8_isFrame, gd, yB_k, yB_i29, hc, iI_t h, bd_s, ↓reduceIte]
  rfl
theorem iF_f {b ff : Nat} {σ : Sg} {v : Int32} (hc : σ.1 10 15 = nI ff) (h : ¬ OKr 0 v (nI ff - 1)) : f_X8_isFrame b v (memM b σ) = some (memM b σ, 0) := by
  simp only [f_X8_isFrame, gd, yB_k, yB_i29, hc, iI_f h, bd_s, ↓reduceIte]
  rfl
theorem iC_t {b cc : Nat} {σ : Sg} {v : Int32} (hc : σ.1 10 16 = nI cc) (h : OKr 0 v (nI cc - 1)) : f_X8_isClaim b v (memM b σ) = some (memM b σ, 1) := by
  simp only [f_X8_isClaim, gd, yB_k, yB_i32, hc, iI_t h, bd_s, ↓reduceIte]
  rfl
theorem iC_f {b cc : Nat} {σ : Sg} {v : Int32} (hc : σ.1 10 16 = nI cc) (h : ¬ OKr 0 v (nI cc - 1)) : f_X8_isClaim b v (memM b σ) = some (memM b σ, 0) := by
  simp only [f_X8_isClaim, gd, yB_k, yB_i32, hc, iI_f h, bd_s, ↓reduceIte]
  rfl
def tClaim (σ : Sg) (c : Nat) (f x y z : Int32) : Sg := sI (sI (sI (sI (sI σ 13 c f) 14 c x) 15 c y) 16 c z) 10 16 (nI (c + 1))
theorem Inv.claim {n m ff cc : Nat} {σ : Sg} {f x y z : Int32} (h1 : InvG n σ) (h2 : InvM m σ) (h3 : InvF ff cc σ) (h4 : InvD σ) (hc : cc < 40) (hf : ∃ g, g < ff ∧ f = nI g) (hx : lnOk x) (hy : lnOk y) : Inv (tClaim σ cc f x y z) := by
  have r : ∀ c k, ¬ (c = 13 ∨ c = 14 ∨ c = 15 ∨ c = 16 ∨ (c = 10 ∧ k = 16)) → (tClaim σ cc f x y z).1 c k = σ.1 c k := fun c k hc => by
    simp only [tClaim, sI_1]
    rw [if_neg (by omega), if_neg (by omega), if_neg (by omega), if_neg (by omega), if_neg (by omega)]
  have e13 : ∀ k, (tClaim σ cc f x y z).1 13 k = if k = cc then f else σ.1 13 k := fun k => by simp only [tClaim, sI_1, sI_2, sL_1, sL_2, false_and, and_false, Nat.reduceEqDiff, reduceCtorEq, ↓reduceIte, eq_self, and_self, true_and, and_true]
  have e14 : ∀ k, (tClaim σ cc f x y z).1 14 k = if k = cc then x else σ.1 14 k := fun k => by simp only [tClaim, sI_1, sI_2, sL_1, sL_2, false_and, and_false, Nat.reduceEqDiff, reduceCtorEq, ↓reduceIte, eq_self, and_self, true_and, and_true]
  have e15 : ∀ k, (tClaim σ cc f x y z).1 15 k = if k = cc then y else σ.1 15 k := fun k => by simp only [tClaim, sI_1, sI_2, sL_1, sL_2, false_and, and_false, Nat.reduceEqDiff, reduceCtorEq, ↓reduceIte, eq_self, and_self, true_and, and_true]
  refine ⟨n, m, ff, cc + 1, h1.same (fun j hj => ⟨r _ _ (by omega), r _ _ (by omega), r _ _ (by omega), r _ _ (by omega)⟩) ⟨r _ _ (by omega), r _ _ (by omega), r _ _ (by omega), r _ _ (by omega)⟩ ⟨rfl, rfl⟩, ?_, ?_, h4.same (r _ _ (by omega)) (fun j _ _ => r _ _ (by omega))⟩
  · obtain ⟨a1, a2, a3⟩ := h2
    refine ⟨(r 10 1 (by omega)).trans a1, a2, fun j hj => ?_⟩
    rw [r 7 j (by omega), r 9 j (by omega), r 20 j (by omega)]
    exact a3 j hj
  · obtain ⟨a1, a2, a3, a4, a5⟩ := h3
    refine ⟨(r 10 15 (by omega)).trans a1, a2, by simp only [tClaim, sI_1, sI_2, sL_1, sL_2, false_and, and_false, Nat.reduceEqDiff, reduceCtorEq, ↓reduceIte, eq_self, and_self, true_and, and_true], by omega, fun j hj => ?_⟩
    rw [e13, e14, e15]
    by_cases hjm : j = cc
    · rw [if_pos hjm, if_pos hjm, if_pos hjm]
      exact ⟨hf, hx, hy⟩
    · rw [if_neg hjm, if_neg hjm, if_neg hjm]
      exact a5 j (by omega)
theorem OKr_tr {x y : Int32} (h1 : OKr 0 x 63) (h2 : OKr x y 63) : OKr 0 y 63 := by
  obtain ⟨a1, a2⟩ := h1
  obtain ⟨b1, b2⟩ := h2
  refine ⟨?_, b2⟩
  rw [Int32.lt_iff_toInt_lt] at a1 b1 ⊢
  omega
theorem op_claim {b : Nat} (p0 p1 p2 p3 : Int32) : OpI (I2 b) (xO b) (b + 177) (f_L_claim b p0 p1 p2 p3 (xO b)) (f_X8_claim (b + 177) p0 p1 p2 p3) := by
  refine OpI_mk (E := _) (g := f_X7_claim b p0 p1 p2 p3) (fun σ hI => ?_)
  have h0 : Inv (sI σ 21 0 0) := hI.qs (Qs.sI (by omega))
  obtain ⟨nn, mm, ff, cc, g1, g2, g3, g4⟩ := h0
  have hff := g3.2.1
  have hcc := g3.2.2.2.1
  have g15 := g3.1
  have g16 := g3.2.2.1
  have c15 : σ.1 10 15 = nI ff := by rw [← g15]; exact (c21 (by decide)).symm
  have c16 : σ.1 10 16 = nI cc := by rw [← g16]; exact (c21 (by decide)).symm
  by_cases hF : OKr 0 p0 (nI ff - 1)
  · by_cases h : OKr 0 p1 63 ∧ OKr p1 p2 63 ∧ OKr 0 p3 1000000
    · obtain ⟨hx, hy, hz⟩ := h
      have hy0 := OKr_tr hx hy
      have hlt2 : (p2 < p1) = False := eq_false hy.1
      have e40 : (nI cc < (40 : Int32)) = (cc < 40) := propext (nI_ltI (by omega) (by decide))
      by_cases hn : cc < 40
      · have hlt : (nI cc < (40 : Int32)) = True := by rw [e40]; exact eq_true hn
        have hne : (nI cc = (40 : Int32)) = False := nI_eqF (c := 40) hn (by decide)
        have ep : nI (cc + 1) - 1 = nI cc := nI_pred cc
        refine Or.inl ⟨tClaim (sI σ 21 0 0) cc p0 p1 p2 p3, nI cc, ?_, ?_, Inv.claim g1 g2 g3 g4 hn (num_of (by omega) hF) (ln_of hx) (ln_of hy0), by simp only [tClaim, sI_1, sI_2, sL_1, sL_2, false_and, and_false, Nat.reduceEqDiff, reduceCtorEq, ↓reduceIte, eq_self, and_self, true_and, and_true]⟩
        · generalize sI σ 21 0 0 = σ at g15 g16
          simp only [f_X7_claim, g15, g16, rN_t (show ff ≤ 80 by omega) hF, rL_t hx, rR_t hy, rR_t hz, bx_l, hlt, hn, nI_1, ep, tClaim, gd, lt_, rd, bd, ↓reduceIte, eq_self, and_self, true_and, and_true, not_false_eq_true, vi_t, cl_6, cl_20, cl_21, cl_40, cl_64, cl_80, cl_1280, Nat.reduceLT, tn_0, true_or, or_true, ab_f, xB_k, xB_r0, xB_r1, xB_r3, xB_r5, xB_r8, xB_r9, xB_r10, xB_i2, xB_i2_s, xB_i4, xB_i4_s, xB_i6, xB_i6_s, xB_i7, xB_i7_s, xH_k, xH_r0, xH_r1, xH_r2, xH_i3, xH_i3_s, xH_i4, xH_i4_s, xH_i5, xH_i5_s, xH_i6, xH_i6_s, xP_k, xP_i0, xP_i0_s, xL_k, xL_i0, xL_i0_s, xL_i1, xL_i1_s, xL_i2, xL_i2_s, xL_i3, xL_i3_s, xL_i4, xL_i4_s, xL_i5, xL_i5_s, xL_i6, xL_i6_s, xL_i7, xL_i7_s, xL_l8, xL_l8_s, xL_l9, xL_l9_s, xL_l10, xL_l10_s, xL_l11, xL_l11_s, xL_l12, xL_l12_s, xA_k, xA_n, xA_rk, xG_k, xG_i0, xG_i0_s, xG_i1, xG_i1_s, xG_i2, xG_i2_s, xG_i3, xG_i3_s, xG_i4, xG_i4_s, xG_i5, xG_i5_s, xG_i6, xG_i6_s, xMA_k, xMA_n, xMA_rk, xM_k, xM_i0, xM_i0_s, xM_i1, xM_i1_s, xM_i2, xM_i2_s, xFA_k, xFA_n, xFA_rk, xF_k, xF_r0, xF_i1, xF_i1_s, xFm_k, xFm_n, xFm_ik, xFm_ik_s, xCA_k, xCA_n, xCA_rk, xC_k, xC_i0, xC_i0_s, xC_i1, xC_i1_s, xC_i2, xC_i2_s, xC_i3, xC_i3_s, xW_k, xW_n, xW_ik, xW_ik_s, x1_k, x1_n, x1_ik, x1_ik_s, x2_k, x2_n, x2_ik, x2_ik_s, xO_k, xO_n, xO_lk, xO_lk_s, C_no20, C_no21, C_no22, sI_1, sI_2, sL_1, sL_2, false_and, and_false, Nat.reduceEqDiff, reduceCtorEq, ↓reduceIte, eq_self, and_self, true_and, and_true]
        · have t13 : (sI σ 21 0 0).1 21 0 = 0 := by simp only [sI_1, sI_2, sL_1, sL_2, false_and, and_false, Nat.reduceEqDiff, reduceCtorEq, ↓reduceIte, eq_self, and_self, true_and, and_true]
          simp only [f_X8_claim, f_X8_claim_b35, f_X8_claim_b73, iL_t hx, iL_t hy0, hlt2, iI_t hz, iF_t c15 hF, bd_s, gd, lt_, yB_k, yB_i32, c16, hne, z_10, yB_i0_s, ↓reduceIte]
          generalize sI σ 21 0 0 = σ at g15 g16 t13
          simp only [yB_i0, t13, z_le0, g16, hn, nI_1, ep, tClaim, gd, lt_, rd, bd, ↓reduceIte, eq_self, and_self, true_and, and_true, not_false_eq_true, vi_t, cl_6, cl_20, cl_21, cl_40, cl_64, cl_80, cl_1280, Nat.reduceLT, tn_0, true_or, or_true, ab_f, yB_k, yB_r7, yB_r8, yB_r9, yB_r10, yB_r11, yB_r12, yB_r13, yB_r15, yB_r16, yB_r17, yB_r30, yB_r31, yB_r33, yB_r34, yB_r35, yB_r36, yB_i0, yB_i0_s, yB_i1, yB_i1_s, yB_i2, yB_i2_s, yB_i3, yB_i3_s, yB_i4, yB_i4_s, yB_i5, yB_i5_s, yB_i6, yB_i6_s, yB_i14, yB_i14_s, yB_i18, yB_i18_s, yB_i19, yB_i19_s, yB_i20, yB_i20_s, yB_i21, yB_i21_s, yB_i22, yB_i22_s, yB_i23, yB_i23_s, yB_i24, yB_i24_s, yB_i25, yB_i25_s, yB_i29, yB_i29_s, yB_i32, yB_i32_s, yB_l26, yB_l26_s, yB_l27, yB_l27_s, yB_l28, yB_l28_s, yLa_k, yLa_n, yLa_ik, yLa_ik_s, yAn_k, yAn_n, yAn_ik, yAn_ik_s, yMa_k, yMa_n, yMa_ik, yMa_ik_s, yUn_k, yUn_n, yUn_ik, yUn_ik_s, yDa_k, yDa_n, yDa_ik, yDa_ik_s, yTh_k, yTh_n, yTh_ik, yTh_ik_s, yHm_k, yHm_n, yHm_ik, yHm_ik_s, yML_k, yML_n, yML_ik, yML_ik_s, yMn_k, yMn_n, yMn_ik, yMn_ik_s, yMm_k, yMm_n, yMm_ik, yMm_ik_s, yFr_k, yFr_n, yFr_ik, yFr_ik_s, yFt_k, yFt_n, yFt_ik, yFt_ik_s, yCf_k, yCf_n, yCf_ik, yCf_ik_s, yCo_k, yCo_n, yCo_ik, yCo_ik_s, yCt_k, yCt_n, yCt_ik, yCt_ik_s, yCm_k, yCm_n, yCm_ik, yCm_ik_s, M_no6, M_no9, M_no17, M_no18, M_no19, M_nl3, M_nl4, M_nl5, sI_1, sI_2, sL_1, sL_2, false_and, and_false, Nat.reduceEqDiff, reduceCtorEq, ↓reduceIte, eq_self, and_self, true_and, and_true]
      · obtain rfl : cc = 40 := (by omega)
        have hlt : (nI 40 < (40 : Int32)) = False := by rw [e40]; exact eq_false hn
        have heq : (nI 40 = (40 : Int32)) = True := eq_true rfl
        refine Or.inr ⟨3, 1, sI σ 21 0 3, 0, fun _ => rfl, by decide, ?_, ?_, hI.qs (Qs.sI (by omega)), by simp only [sI_1, sI_2, sL_1, sL_2, false_and, and_false, Nat.reduceEqDiff, reduceCtorEq, ↓reduceIte, eq_self, and_self, true_and, and_true]⟩
        · rw [C_no21]
          simp only [f_X7_claim, c15, c16, rN_t (show ff ≤ 80 by omega) hF, rL_t hx, rR_t hy, rR_t hz, bx_l, hlt, gd, xB_k, xB_i4, xB_i6, ↓reduceIte]
        · simp only [f_X8_claim, f_X8_claim_b35, f_X8_claim_b73, iL_t hx, iL_t hy0, hlt2, iI_t hz, iF_t c15 hF, bd_s, gd, lt_, yB_k, yB_i32, c16, heq, z_10, z_le3, yB_i0_s, yB_i0, ↓reduceIte, sI_1, sI_2, sL_1, sL_2, false_and, and_false, Nat.reduceEqDiff, reduceCtorEq, ↓reduceIte, eq_self, and_self, true_and, and_true]
    · refine Or.inr ⟨2, 0, sI σ 21 0 2, 0, fun _ => rfl, by decide, ?_, ?_, hI.qs (Qs.sI (by omega)), by simp only [sI_1, sI_2, sL_1, sL_2, false_and, and_false, Nat.reduceEqDiff, reduceCtorEq, ↓reduceIte, eq_self, and_self, true_and, and_true]⟩
      · rw [C_no21]
        by_cases h1 : OKr 0 p1 63
        · by_cases h2 : OKr p1 p2 63
          · have h3 : ¬ OKr 0 p3 1000000 := fun q => h ⟨h1, h2, q⟩
            simp only [f_X7_claim, c15, rN_t (show ff ≤ 80 by omega) hF, rL_t h1, rR_t h2, rR_f h3, bx_l, bx_r, gd, xB_k, xB_i4, ↓reduceIte]
          · simp only [f_X7_claim, c15, rN_t (show ff ≤ 80 by omega) hF, rL_t h1, rR_f h2, bx_l, bx_r, gd, xB_k, xB_i4, ↓reduceIte]
        · simp only [f_X7_claim, c15, rN_t (show ff ≤ 80 by omega) hF, rL_f h1, bx_l, bx_r, gd, xB_k, xB_i4, ↓reduceIte]
      · have e : f_X8_claim_b34 (b + 177) p0 p1 p2 p3 (memM (b + 177) σ) = some (memM (b + 177) (sI σ 21 0 2), 0) := by
          simp only [f_X8_claim_b34, f_X8_claim_b35, f_X8_claim_b73, iF_t c15 hF, bd_s, gd, lt_, yB_k, z_10, z_le2, yB_i0_s, yB_i0, ↓reduceIte, sI_1, sI_2, sL_1, sL_2, false_and, and_false, Nat.reduceEqDiff, reduceCtorEq, ↓reduceIte, eq_self, and_self, true_and, and_true]
        by_cases h1 : OKr 0 p1 63
        · by_cases h2 : OKr 0 p2 63
          · by_cases h3 : p2 < p1
            · simp only [f_X8_claim, iL_t h1, iL_t h2, h3, bd_s, z_10, ↓reduceIte, e]
            · have h4 : ¬ OKr 0 p3 1000000 := fun q => h ⟨h1, ⟨h3, h2.2⟩, q⟩
              simp only [f_X8_claim, iL_t h1, iL_t h2, h3, iI_f h4, bd_s, z_10, ↓reduceIte, e]
          · simp only [f_X8_claim, iL_t h1, iL_f h2, bd_s, z_10, ↓reduceIte, e]
        · simp only [f_X8_claim, iL_f h1, bd_s, ↓reduceIte, e]
  · refine Or.inr ⟨1, 2, sI σ 21 0 1, 0, fun _ => rfl, by decide, ?_, ?_, hI.qs (Qs.sI (by omega)), by simp only [sI_1, sI_2, sL_1, sL_2, false_and, and_false, Nat.reduceEqDiff, reduceCtorEq, ↓reduceIte, eq_self, and_self, true_and, and_true]⟩
    · rw [C_no21]
      simp only [f_X7_claim, c15, rN_f (show ff ≤ 80 by omega) hF, bx_r, gd, xB_k, xB_i4, ↓reduceIte]
    · have e : ∀ s0 : Int32, f_X8_claim_b35 s0 (b + 177) p0 p1 p2 p3 (memM (b + 177) σ) = some (memM (b + 177) (sI σ 21 0 1), 0) := fun s0 => by
        simp only [f_X8_claim_b35, f_X8_claim_b73, iF_f c15 hF, bd_s, gd, lt_, yB_k, z_le1, yB_i0_s, yB_i0, ↓reduceIte, sI_1, sI_2, sL_1, sL_2, false_and, and_false, Nat.reduceEqDiff, reduceCtorEq, ↓reduceIte, eq_self, and_self, true_and, and_true]
      have e2 : f_X8_claim_b34 (b + 177) p0 p1 p2 p3 (memM (b + 177) σ) = some (memM (b + 177) (sI σ 21 0 1), 0) := e 0
      by_cases h1 : OKr 0 p1 63
      · by_cases h2 : OKr 0 p2 63
        · by_cases h3 : p2 < p1
          · simp only [f_X8_claim, iL_t h1, iL_t h2, h3, bd_s, z_10, ↓reduceIte, e2]
          · by_cases h4 : OKr 0 p3 1000000
            · simp only [f_X8_claim, iL_t h1, iL_t h2, h3, iI_t h4, bd_s, z_10, ↓reduceIte, e]
            · simp only [f_X8_claim, iL_t h1, iL_t h2, h3, iI_f h4, bd_s, z_10, ↓reduceIte, e2]
        · simp only [f_X8_claim, iL_t h1, iL_f h2, bd_s, z_10, ↓reduceIte, e2]
      · simp only [f_X8_claim, iL_f h1, bd_s, ↓reduceIte, e2]
