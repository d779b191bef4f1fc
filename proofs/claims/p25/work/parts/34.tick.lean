/-! ===== PURE: a tick on both sides ===== -/
def tPre (σ : Sg) (nn mm : Nat) : Sg := tR6 (tPA (tMv σ nn mm) mm) 80
def tNow (σ : Sg) : Sg := sI σ 10 14 (σ.1 10 14 + 1)
def tPass (σ : Sg) (nn mm : Nat) : Sg := tNow (tDk (tRows (tPre σ nn mm) nn nn) 80)
theorem Sm.r6 {σ : Sg} {m : Nat} : Sm σ (tR6 σ m) := ⟨fun c k hc => if_neg (by omega), rfl, rfl⟩
theorem InvG.r6 {nn m : Nat} {σ : Sg} (h : InvG nn σ) : InvG nn (tR6 σ m) := by
  refine h.same (fun k hk => ?_) ?_ ⟨rfl, rfl⟩ <;> simp only [tR6, Nat.reduceEqDiff, false_and, if_false, and_self]
theorem InvG.now {nn : Nat} {σ : Sg} (h : InvG nn σ) : InvG nn (tNow σ) := by
  refine h.same (fun k hk => ?_) ?_ ?_ <;> simp only [tNow, sI_1, sI_2, sL_1, sL_2, false_and, and_false, Nat.reduceEqDiff, reduceCtorEq, ↓reduceIte, eq_self, and_self, true_and, and_true]
theorem tPA_22 {σ : Sg} {k : Nat} : ∀ m, (tPA σ m).1 22 k = σ.1 22 k := by
  intro m
  induction m with
  | zero => rfl
  | succ m ih =>
    rw [tPA, tPushN_c (tPA σ m) m 22 k (by decide) 80]
    exact ih
theorem tR6_c {σ : Sg} {m c k : Nat} (h : c ≠ 6) : (tR6 σ m).1 c k = σ.1 c k := if_neg (fun q => h q.1)
theorem tPre_c {σ : Sg} {nn mm c k : Nat} (h : c ≠ 6) : (tPre σ nn mm).1 c k = (tPA (tMv σ nn mm) mm).1 c k := tR6_c h
theorem MI.pre {nn mm : Nat} {σ : Sg} (h : InvG nn σ) : MI nn (tPre σ nn mm) := by
  refine ⟨nn, (h.mv.pa mm).r6, Nat.le_refl _, fun k hk => ?_, fun k h1 h2 => by omega⟩
  have hn := h.2.1
  have e6 : (tPre σ nn mm).1 6 k = 0 := if_pos ⟨rfl, by omega⟩
  have e22 : (tPre σ nn mm).1 22 k = (tPA (tMv σ nn mm) mm).1 22 k := tPre_c (by decide)
  rw [e6, e22, tPA_22]
  simp only [tMv, Nat.reduceEqDiff, false_and, if_false, hk, and_self, if_true]
theorem Sk.pre {σ : Sg} {nn mm : Nat} : Sk σ (tPre σ nn mm) := (Sk.mv.trans (Sm.pa mm).sk).trans Sm.r6.sk
theorem Sk.now {σ : Sg} : Sk σ (tNow σ) := by
  refine ⟨fun c k hc => ?_, rfl, rfl⟩
  unfold tNow
  rw [sI_1, if_neg (by omega)]
theorem Sk.pass {σ : Sg} {nn mm : Nat} : Sk σ (tPass σ nn mm) := ((Sk.pre.trans (Sm.rows nn).sk).trans Sm.dk.sk).trans Sk.now
theorem InvG.pass {nn mm : Nat} {σ : Sg} (h : InvG nn σ) : ∃ n2, InvG n2 (tPass σ nn mm) := by
  obtain ⟨n2, g, -⟩ := (MI.pre (mm := mm) h).rows nn (Nat.le_refl _)
  exact ⟨n2, g.dk.now⟩
theorem tPass_now {σ : Sg} {nn mm : Nat} : (tPass σ nn mm).1 10 14 = σ.1 10 14 + 1 := by
  show (tDk (tRows (tPre σ nn mm) nn nn) 80).1 10 14 + 1 = _
  rw [tDk_c (by decide), (Sm.rows (σ := tPre σ nn mm) (n0 := nn) nn).1 10 14 (by omega), tPre_c (by decide), (Sm.pa (σ := tMv σ nn mm) mm).1 10 14 (by omega), tMv_c (by decide)]
theorem InvD.same {σ τ : Sg} (hD : InvD σ) (h0 : τ.1 10 0 = σ.1 10 0) (h4 : ∀ k, gn σ ≤ k → k < 80 → τ.1 4 k = σ.1 4 k) : InvD τ := by
  have e : gn τ = gn σ := by unfold gn; rw [h0]
  intro k h1 h2
  rw [e] at h1
  rw [h4 k h1 h2]
  exact hD k h1 h2
theorem tPA_4 {σ : Sg} {k : Nat} : ∀ m, (tPA σ m).1 4 k = σ.1 4 k := by
  intro m
  induction m with
  | zero => rfl
  | succ m ih =>
    rw [tPA, tPushN_c (tPA σ m) m 4 k (by decide) 80]
    exact ih
theorem InvD.pass {nn mm : Nat} {σ : Sg} (hD : InvD σ) (h : InvG nn σ) : InvD (tPass σ nn mm) := by
  have hp := (h.mv (g := nn) (m := mm)).pa mm
  have d1 : InvD (tPre σ nn mm) := by
    refine hD.same ?_ (fun k h1 h2 => ?_)
    · rw [tPre_c (by decide), hp.1, h.1]
    · rw [tPre_c (by decide), tPA_4, tMv_c (by decide)]
  have hr := MI.pre (mm := mm) h
  have d2 := d1.rows hr nn (Nat.le_refl _)
  obtain ⟨n2, g, -⟩ := hr.rows nn (Nat.le_refl _)
  have d3 : InvD (tDk (tRows (tPre σ nn mm) nn nn) 80) := by
    refine d2.same (tDk_c (by decide)) (fun k h1 h2 => ?_)
    rw [gn_eq g] at h1
    exact if_neg (fun q => q.2.2 (g.2.2.2.1 k h1 h2))
  show InvD (tNow (tDk (tRows (tPre σ nn mm) nn nn) 80))
  generalize tDk (tRows (tPre σ nn mm) nn nn) 80 = τ at d3
  refine d3.same ?_ (fun k _ _ => ?_) <;> simp only [tNow, sI_1, sI_2, sL_1, sL_2, false_and, and_false, Nat.reduceEqDiff, reduceCtorEq, ↓reduceIte, eq_self, and_self, true_and, and_true]
/-! the class -/
theorem l_darkenC {b nn : Nat} {σ : Sg} (hG : InvG nn σ) : ∀ f i, i ≤ 80 → 80 < i + f → f_X3_darken_L10 f (xA b) (nI 80) (nI i) (memC b (tDk σ i)) = some (memC b (tDk σ 80)) := by
  intro f
  induction f with
  | zero => intro i h1 h2; omega
  | succ f ih =>
    intro i h1 h2
    show f_X3_darken_b10 (f_X3_darken_L10 f) (xA b) (nI 80) (nI i) _ = _
    rcases Nat.lt_or_ge i 80 with hi | hi
    · have hle := nle_t hi (by decide)
      have c5 := tDk_c (σ := σ) (m := i) (c := 5) (k := i) (by decide)
      have c4 := tDk_4 (σ := σ) (m := i) (k := i) (Nat.le_refl i)
      by_cases h5 : σ.1 5 i = 0
      · simp only [f_X3_darken_b10, f_X3_darken_b46, hle, hi, c5, h5, nI_1, gd, lt_, rd, bd, ↓reduceIte, eq_self, and_self, true_and, and_true, not_false_eq_true, vi_t, cl_6, cl_20, cl_21, cl_40, cl_64, cl_80, cl_1280, Nat.reduceLT, tn_0, true_or, or_true, ab_f, xB_k, xB_r0, xB_r1, xB_r3, xB_r5, xB_r8, xB_r9, xB_r10, xB_i2, xB_i2_s, xB_i4, xB_i4_s, xB_i6, xB_i6_s, xB_i7, xB_i7_s, xH_k, xH_r0, xH_r1, xH_r2, xH_i3, xH_i3_s, xH_i4, xH_i4_s, xH_i5, xH_i5_s, xH_i6, xH_i6_s, xP_k, xP_i0, xP_i0_s, xL_k, xL_i0, xL_i0_s, xL_i1, xL_i1_s, xL_i2, xL_i2_s, xL_i3, xL_i3_s, xL_i4, xL_i4_s, xL_i5, xL_i5_s, xL_i6, xL_i6_s, xL_i7, xL_i7_s, xL_l8, xL_l8_s, xL_l9, xL_l9_s, xL_l10, xL_l10_s, xL_l11, xL_l11_s, xL_l12, xL_l12_s, xA_k, xA_n, xA_rk, xG_k, xG_i0, xG_i0_s, xG_i1, xG_i1_s, xG_i2, xG_i2_s, xG_i3, xG_i3_s, xG_i4, xG_i4_s, xG_i5, xG_i5_s, xG_i6, xG_i6_s, xMA_k, xMA_n, xMA_rk, xM_k, xM_i0, xM_i0_s, xM_i1, xM_i1_s, xM_i2, xM_i2_s, xFA_k, xFA_n, xFA_rk, xF_k, xF_r0, xF_i1, xF_i1_s, xFm_k, xFm_n, xFm_ik, xFm_ik_s, xCA_k, xCA_n, xCA_rk, xC_k, xC_i0, xC_i0_s, xC_i1, xC_i1_s, xC_i2, xC_i2_s, xC_i3, xC_i3_s, xW_k, xW_n, xW_ik, xW_ik_s, x1_k, x1_n, x1_ik, x1_ik_s, x2_k, x2_n, x2_ik, x2_ik_s, C_no20, C_no21, C_no22]
        rw [tDk_z h5]
        exact ih (i + 1) (by omega) (by omega)
      · have e := tDk_1 h5
        unfold dk_ at e
        simp only [f_X3_darken_b10, f_X3_darken_b46, hle, hi, c5, h5, c4, nI_1, gd, lt_, rd, bd, ↓reduceIte, eq_self, and_self, true_and, and_true, not_false_eq_true, vi_t, cl_6, cl_20, cl_21, cl_40, cl_64, cl_80, cl_1280, Nat.reduceLT, tn_0, true_or, or_true, ab_f, xB_k, xB_r0, xB_r1, xB_r3, xB_r5, xB_r8, xB_r9, xB_r10, xB_i2, xB_i2_s, xB_i4, xB_i4_s, xB_i6, xB_i6_s, xB_i7, xB_i7_s, xH_k, xH_r0, xH_r1, xH_r2, xH_i3, xH_i3_s, xH_i4, xH_i4_s, xH_i5, xH_i5_s, xH_i6, xH_i6_s, xP_k, xP_i0, xP_i0_s, xL_k, xL_i0, xL_i0_s, xL_i1, xL_i1_s, xL_i2, xL_i2_s, xL_i3, xL_i3_s, xL_i4, xL_i4_s, xL_i5, xL_i5_s, xL_i6, xL_i6_s, xL_i7, xL_i7_s, xL_l8, xL_l8_s, xL_l9, xL_l9_s, xL_l10, xL_l10_s, xL_l11, xL_l11_s, xL_l12, xL_l12_s, xA_k, xA_n, xA_rk, xG_k, xG_i0, xG_i0_s, xG_i1, xG_i1_s, xG_i2, xG_i2_s, xG_i3, xG_i3_s, xG_i4, xG_i4_s, xG_i5, xG_i5_s, xG_i6, xG_i6_s, xMA_k, xMA_n, xMA_rk, xM_k, xM_i0, xM_i0_s, xM_i1, xM_i1_s, xM_i2, xM_i2_s, xFA_k, xFA_n, xFA_rk, xF_k, xF_r0, xF_i1, xF_i1_s, xFm_k, xFm_n, xFm_ik, xFm_ik_s, xCA_k, xCA_n, xCA_rk, xC_k, xC_i0, xC_i0_s, xC_i1, xC_i1_s, xC_i2, xC_i2_s, xC_i3, xC_i3_s, xW_k, xW_n, xW_ik, xW_ik_s, x1_k, x1_n, x1_ik, x1_ik_s, x2_k, x2_n, x2_ik, x2_ik_s, C_no20, C_no21, C_no22]
        rw [e]
        exact ih (i + 1) (by omega) (by omega)
    · obtain rfl : i = 80 := (by omega)
      simp only [f_X3_darken_b10, Int32.le_refl, ↓reduceIte]
theorem e_X3_darken {b nn : Nat} {σ : Sg} (hG : InvG nn σ) : f_X3_darken (xH b) (memC b σ) = some (memC b (tDk σ 80)) := by
  rw [← l_darkenC hG 200 0 (by omega) (by omega), tDk_0]
  simp only [f_X3_darken, gd, lt_, rd, bd, ↓reduceIte, eq_self, and_self, true_and, and_true, not_false_eq_true, vi_t, cl_6, cl_20, cl_21, cl_40, cl_64, cl_80, cl_1280, Nat.reduceLT, tn_0, true_or, or_true, ab_f, xB_k, xB_r0, xB_r1, xB_r3, xB_r5, xB_r8, xB_r9, xB_r10, xB_i2, xB_i2_s, xB_i4, xB_i4_s, xB_i6, xB_i6_s, xB_i7, xB_i7_s, xH_k, xH_r0, xH_r1, xH_r2, xH_i3, xH_i3_s, xH_i4, xH_i4_s, xH_i5, xH_i5_s, xH_i6, xH_i6_s, xP_k, xP_i0, xP_i0_s, xL_k, xL_i0, xL_i0_s, xL_i1, xL_i1_s, xL_i2, xL_i2_s, xL_i3, xL_i3_s, xL_i4, xL_i4_s, xL_i5, xL_i5_s, xL_i6, xL_i6_s, xL_i7, xL_i7_s, xL_l8, xL_l8_s, xL_l9, xL_l9_s, xL_l10, xL_l10_s, xL_l11, xL_l11_s, xL_l12, xL_l12_s, xA_k, xA_n, xA_rk, xG_k, xG_i0, xG_i0_s, xG_i1, xG_i1_s, xG_i2, xG_i2_s, xG_i3, xG_i3_s, xG_i4, xG_i4_s, xG_i5, xG_i5_s, xG_i6, xG_i6_s, xMA_k, xMA_n, xMA_rk, xM_k, xM_i0, xM_i0_s, xM_i1, xM_i1_s, xM_i2, xM_i2_s, xFA_k, xFA_n, xFA_rk, xF_k, xF_r0, xF_i1, xF_i1_s, xFm_k, xFm_n, xFm_ik, xFm_ik_s, xCA_k, xCA_n, xCA_rk, xC_k, xC_i0, xC_i0_s, xC_i1, xC_i1_s, xC_i2, xC_i2_s, xC_i3, xC_i3_s, xW_k, xW_n, xW_ik, xW_ik_s, x1_k, x1_n, x1_ik, x1_ik_s, x2_k, x2_n, x2_ik, x2_ik_s, C_no20, C_no21, C_no22]
  rfl
theorem l_pass65 {b nn mm : Nat} {σ : Sg} (hG : InvG nn σ) (hM : InvM mm σ) : ∀ f j, j ≤ mm → 6 < j + f → f_X7_passTick_L65 f b (nI j) (memC b (tPA (tMv σ nn mm) j)) = some (memC b (tPass σ nn mm)) := by
  intro f
  have hm6 := hM.2.1
  induction f with
  | zero => intro j h1 h2; omega
  | succ f ih =>
    intro j h1 h2
    show f_X7_passTick_b65 (f_X7_passTick_L65 f) b (nI j) _ = _
    have em : (tPA (tMv σ nn mm) j).1 10 1 = nI mm := (hM.sk (Sk.mv.trans (Sm.pa j).sk)).1
    rcases Nat.lt_or_ge j mm with hj | hj
    · have hle := nle_t hj (by omega)
      have hj6 : j < 6 := by omega
      simp only [f_X7_passTick_b65, em, hle, hj6, e_X3_yieldTo hj6, nI_1, bd_s, gd, lt_, rd, ↓reduceIte, true_and, not_false_eq_true, vi_t, cl_6, Nat.reduceLT, xB_k, xB_r0, xB_r1, xB_r3, xB_r5, xB_r8, xB_r9, xB_r10, xB_i2, xB_i2_s, xB_i4, xB_i4_s, xB_i6, xB_i6_s, xB_i7, xB_i7_s, xH_k, xH_r0, xH_r1, xH_r2, xH_i3, xH_i3_s, xH_i4, xH_i4_s, xH_i5, xH_i5_s, xH_i6, xH_i6_s, xP_k, xP_i0, xP_i0_s, xL_k, xL_i0, xL_i0_s, xL_i1, xL_i1_s, xL_i2, xL_i2_s, xL_i3, xL_i3_s, xL_i4, xL_i4_s, xL_i5, xL_i5_s, xL_i6, xL_i6_s, xL_i7, xL_i7_s, xL_l8, xL_l8_s, xL_l9, xL_l9_s, xL_l10, xL_l10_s, xL_l11, xL_l11_s, xL_l12, xL_l12_s, xA_k, xA_n, xA_rk, xG_k, xG_i0, xG_i0_s, xG_i1, xG_i1_s, xG_i2, xG_i2_s, xG_i3, xG_i3_s, xG_i4, xG_i4_s, xG_i5, xG_i5_s, xG_i6, xG_i6_s, xMA_k, xMA_n, xMA_rk, xM_k, xM_i0, xM_i0_s, xM_i1, xM_i1_s, xM_i2, xM_i2_s, xFA_k, xFA_n, xFA_rk, xF_k, xF_r0, xF_i1, xF_i1_s, xFm_k, xFm_n, xFm_ik, xFm_ik_s, xCA_k, xCA_n, xCA_rk, xC_k, xC_i0, xC_i0_s, xC_i1, xC_i1_s, xC_i2, xC_i2_s, xC_i3, xC_i3_s, xW_k, xW_n, xW_ik, xW_ik_s, x1_k, x1_n, x1_ik, x1_ik_s, x2_k, x2_n, x2_ik, x2_ik_s, C_no20, C_no21, C_no22]
      exact ih (j + 1) (by omega) (by omega)
    · obtain rfl : j = mm := (by omega)
      have hp := hG.mv.pa (σ := tMv σ nn j) j
      have hr := MI.pre (mm := j) hG
      have hd : ∃ n2, InvG n2 (tRows (tPre σ nn j) nn nn) := by
        obtain ⟨n2, g, -⟩ := hr.rows nn (Nat.le_refl _)
        exact ⟨n2, g⟩
      obtain ⟨n2, hd⟩ := hd
      have e1 : f_X3_meetAll (xH b) (memC b (tPA (tMv σ nn j) j)) = some (memC b (tRows (tPre σ nn j) nn nn)) := e_X3_meetAll hp.1 hr
      simp only [f_X7_passTick_b65, em, Int32.le_refl, e1, bd_s, gd, lt_, rd, ↓reduceIte, xB_k, xB_r0, xB_r1, xB_r3, xB_r5, xB_r8, xB_r9, xB_r10, xB_i2, xB_i2_s, xB_i4, xB_i4_s, xB_i6, xB_i6_s, xB_i7, xB_i7_s, xH_k, xH_r0, xH_r1, xH_r2, xH_i3, xH_i3_s, xH_i4, xH_i4_s, xH_i5, xH_i5_s, xH_i6, xH_i6_s, xP_k, xP_i0, xP_i0_s, xL_k, xL_i0, xL_i0_s, xL_i1, xL_i1_s, xL_i2, xL_i2_s, xL_i3, xL_i3_s, xL_i4, xL_i4_s, xL_i5, xL_i5_s, xL_i6, xL_i6_s, xL_i7, xL_i7_s, xL_l8, xL_l8_s, xL_l9, xL_l9_s, xL_l10, xL_l10_s, xL_l11, xL_l11_s, xL_l12, xL_l12_s, xA_k, xA_n, xA_rk, xG_k, xG_i0, xG_i0_s, xG_i1, xG_i1_s, xG_i2, xG_i2_s, xG_i3, xG_i3_s, xG_i4, xG_i4_s, xG_i5, xG_i5_s, xG_i6, xG_i6_s, xMA_k, xMA_n, xMA_rk, xM_k, xM_i0, xM_i0_s, xM_i1, xM_i1_s, xM_i2, xM_i2_s, xFA_k, xFA_n, xFA_rk, xF_k, xF_r0, xF_i1, xF_i1_s, xFm_k, xFm_n, xFm_ik, xFm_ik_s, xCA_k, xCA_n, xCA_rk, xC_k, xC_i0, xC_i0_s, xC_i1, xC_i1_s, xC_i2, xC_i2_s, xC_i3, xC_i3_s, xW_k, xW_n, xW_ik, xW_ik_s, x1_k, x1_n, x1_ik, x1_ik_s, x2_k, x2_n, x2_ik, x2_ik_s, C_no20, C_no21, C_no22]
      rw [e_X3_darken hd]
      have e2 : tPass σ nn j = tNow (tDk (tRows (tPre σ nn j) nn nn) 80) := rfl
      rw [e2]
      generalize tDk (tRows (tPre σ nn j) nn nn) 80 = τ
      simp only [bd_s, tNow, gd, lt_, rd, ↓reduceIte, xB_k, xB_r0, xB_r1, xB_r3, xB_r5, xB_r8, xB_r9, xB_r10, xB_i2, xB_i2_s, xB_i4, xB_i4_s, xB_i6, xB_i6_s, xB_i7, xB_i7_s, xH_k, xH_r0, xH_r1, xH_r2, xH_i3, xH_i3_s, xH_i4, xH_i4_s, xH_i5, xH_i5_s, xH_i6, xH_i6_s, xP_k, xP_i0, xP_i0_s, xL_k, xL_i0, xL_i0_s, xL_i1, xL_i1_s, xL_i2, xL_i2_s, xL_i3, xL_i3_s, xL_i4, xL_i4_s, xL_i5, xL_i5_s, xL_i6, xL_i6_s, xL_i7, xL_i7_s, xL_l8, xL_l8_s, xL_l9, xL_l9_s, xL_l10, xL_l10_s, xL_l11, xL_l11_s, xL_l12, xL_l12_s, xA_k, xA_n, xA_rk, xG_k, xG_i0, xG_i0_s, xG_i1, xG_i1_s, xG_i2, xG_i2_s, xG_i3, xG_i3_s, xG_i4, xG_i4_s, xG_i5, xG_i5_s, xG_i6, xG_i6_s, xMA_k, xMA_n, xMA_rk, xM_k, xM_i0, xM_i0_s, xM_i1, xM_i1_s, xM_i2, xM_i2_s, xFA_k, xFA_n, xFA_rk, xF_k, xF_r0, xF_i1, xF_i1_s, xFm_k, xFm_n, xFm_ik, xFm_ik_s, xCA_k, xCA_n, xCA_rk, xC_k, xC_i0, xC_i0_s, xC_i1, xC_i1_s, xC_i2, xC_i2_s, xC_i3, xC_i3_s, xW_k, xW_n, xW_ik, xW_ik_s, x1_k, x1_n, x1_ik, x1_ik_s, x2_k, x2_n, x2_ik, x2_ik_s, C_no20, C_no21, C_no22]
theorem l_pass2 {b nn mm : Nat} {σ : Sg} (hG : InvG nn σ) (hM : InvM mm σ) : ∀ f j, j ≤ mm → 6 < j + f → f_X7_passTick_L2 f b (nI j) (memC b (tMv σ 0 j)) = some (memC b (tPass σ nn mm)) := by
  intro f
  have hm6 := hM.2.1
  induction f with
  | zero => intro j h1 h2; omega
  | succ f ih =>
    intro j h1 h2
    show f_X7_passTick_b2 (f_X7_passTick_L2 f) b (nI j) _ = _
    have em : (tMv σ 0 j).1 10 1 = nI mm := (hM.sk Sk.mv).1
    rcases Nat.lt_or_ge j mm with hj | hj
    · have hle := nle_t hj (by omega)
      have hj6 : j < 6 := by omega
      have c7 := tMv_c (σ := σ) (g := 0) (m := j) (c := 7) (k := j) (by decide)
      have c8 := tMv_8 (σ := σ) (g := 0) (m := j) (k := j) (Nat.le_refl j)
      have l7 := (hM.2.2 j hj).1
      rw [← c7] at l7
      simp only [f_X7_passTick_b2, em, hle, hj6, c8, e_X6_speedIn l7, e_X7_turned, nI_1, bd_s, gd, lt_, rd, ↓reduceIte, true_and, not_false_eq_true, vi_t, cl_6, Nat.reduceLT, xB_k, xB_r0, xB_r1, xB_r3, xB_r5, xB_r8, xB_r9, xB_r10, xB_i2, xB_i2_s, xB_i4, xB_i4_s, xB_i6, xB_i6_s, xB_i7, xB_i7_s, xH_k, xH_r0, xH_r1, xH_r2, xH_i3, xH_i3_s, xH_i4, xH_i4_s, xH_i5, xH_i5_s, xH_i6, xH_i6_s, xP_k, xP_i0, xP_i0_s, xL_k, xL_i0, xL_i0_s, xL_i1, xL_i1_s, xL_i2, xL_i2_s, xL_i3, xL_i3_s, xL_i4, xL_i4_s, xL_i5, xL_i5_s, xL_i6, xL_i6_s, xL_i7, xL_i7_s, xL_l8, xL_l8_s, xL_l9, xL_l9_s, xL_l10, xL_l10_s, xL_l11, xL_l11_s, xL_l12, xL_l12_s, xA_k, xA_n, xA_rk, xG_k, xG_i0, xG_i0_s, xG_i1, xG_i1_s, xG_i2, xG_i2_s, xG_i3, xG_i3_s, xG_i4, xG_i4_s, xG_i5, xG_i5_s, xG_i6, xG_i6_s, xMA_k, xMA_n, xMA_rk, xM_k, xM_i0, xM_i0_s, xM_i1, xM_i1_s, xM_i2, xM_i2_s, xFA_k, xFA_n, xFA_rk, xF_k, xF_r0, xF_i1, xF_i1_s, xFm_k, xFm_n, xFm_ik, xFm_ik_s, xCA_k, xCA_n, xCA_rk, xC_k, xC_i0, xC_i0_s, xC_i1, xC_i1_s, xC_i2, xC_i2_s, xC_i3, xC_i3_s, xW_k, xW_n, xW_ik, xW_ik_s, x1_k, x1_n, x1_ik, x1_ik_s, x2_k, x2_n, x2_ik, x2_ik_s, C_no20, C_no21, C_no22]
      rw [c7, tMv_spd, tMv_moon]
      exact ih (j + 1) (by omega) (by omega)
    · obtain rfl : j = mm := (by omega)
      simp only [f_X7_passTick_b2, em, Int32.le_refl, e_X3_goRound hG, bd_s, gd, lt_, rd, ↓reduceIte, xB_k, xB_r0, xB_r1, xB_r3, xB_r5, xB_r8, xB_r9, xB_r10, xB_i2, xB_i2_s, xB_i4, xB_i4_s, xB_i6, xB_i6_s, xB_i7, xB_i7_s, xH_k, xH_r0, xH_r1, xH_r2, xH_i3, xH_i3_s, xH_i4, xH_i4_s, xH_i5, xH_i5_s, xH_i6, xH_i6_s, xP_k, xP_i0, xP_i0_s, xL_k, xL_i0, xL_i0_s, xL_i1, xL_i1_s, xL_i2, xL_i2_s, xL_i3, xL_i3_s, xL_i4, xL_i4_s, xL_i5, xL_i5_s, xL_i6, xL_i6_s, xL_i7, xL_i7_s, xL_l8, xL_l8_s, xL_l9, xL_l9_s, xL_l10, xL_l10_s, xL_l11, xL_l11_s, xL_l12, xL_l12_s, xA_k, xA_n, xA_rk, xG_k, xG_i0, xG_i0_s, xG_i1, xG_i1_s, xG_i2, xG_i2_s, xG_i3, xG_i3_s, xG_i4, xG_i4_s, xG_i5, xG_i5_s, xG_i6, xG_i6_s, xMA_k, xMA_n, xMA_rk, xM_k, xM_i0, xM_i0_s, xM_i1, xM_i1_s, xM_i2, xM_i2_s, xFA_k, xFA_n, xFA_rk, xF_k, xF_r0, xF_i1, xF_i1_s, xFm_k, xFm_n, xFm_ik, xFm_ik_s, xCA_k, xCA_n, xCA_rk, xC_k, xC_i0, xC_i0_s, xC_i1, xC_i1_s, xC_i2, xC_i2_s, xC_i3, xC_i3_s, xW_k, xW_n, xW_ik, xW_ik_s, x1_k, x1_n, x1_ik, x1_ik_s, x2_k, x2_n, x2_ik, x2_ik_s, C_no20, C_no21, C_no22]
      exact l_pass65 hG hM 200 0 (by omega) (by omega)
theorem e_X7_passTick {b nn mm : Nat} {σ : Sg} (hG : InvG nn σ) (hM : InvM mm σ) : f_X7_passTick b (memC b σ) = some (memC b (tPass σ nn mm)) := by
  rw [← l_pass2 hG hM 200 0 (by omega) (by omega), tMv_0]
  rfl
/-! the reference -/
