/-! ===== PURE: all meetings ===== -/
theorem fF {a c : Nat} (h : a ≠ c) : (a = c) = False := eq_false h
theorem InvG.msP {nn : Nat} {σ : Sg} (h : InvG nn σ) {i j : Nat} (hi : i < 80) (hj : j < 80) (hij : i ≠ j) (h5 : σ.1 5 i = 1) (h6 : σ.1 5 j = 1) : msP σ i j := ⟨(h.ms hi h5).1, (h.ms hj h6).1, h.ms2 hi hj hij h5 h6⟩
theorem s_meet {b i j nn : Nat} {σ : Sg} (hG : InvG nn σ) (hi : i < nn) (hj : j < nn) (hij : i ≠ j) (hc : cmS σ i j) : f_X3_meet (xH b) (xG b i) (xG b j) (memC b σ) = some (memC b (tStep σ i j)) := by
  have hnn := hG.2.1
  obtain ⟨x5, xl, -⟩ := hG.one (i := i) (by omega) hc.1
  obtain ⟨y5, yl, -⟩ := hG.one (i := j) (by omega) hc.2.1
  rw [e_X3_meet (n := nn) (by omega) (by omega) (fF hij) (fF (fun e => hij e.symm)) (fF (by omega)) (fF (by omega)) (fF (by omega)) (fF (by omega)) (hG.msP (by omega) (by omega) hij x5 y5) xl yl hG.1 hnn]
  unfold tStep
  rw [if_pos hc, gn_eq hG]
/-! the reference's double loop -/
/-! the class's way: the first partner -/
theorem mmS_z {n0 : Nat} {σ : Sg} {i : Nat} (h6 : ∀ k, k < n0 → σ.1 6 k = σ.1 22 k) (hi : i < n0) : (mmS σ i = 0) = ¬ (¬ σ.1 5 i = 0 ∧ σ.1 22 i = 0) := by
  have z1 : ¬ (1 : Int32) = 0 := by decide
  unfold mmS
  rw [h6 i hi]
  by_cases h1 : σ.1 5 i = 0
  · simp only [h1, if_true, not_true_eq_false, false_and, not_false_eq_true]
  · by_cases h2 : σ.1 22 i = 0
    · simp only [h1, h2, if_true, if_false, z1, not_false_eq_true, and_self, not_true_eq_false]
    · simp only [h1, h2, if_false, and_false, not_false_eq_true]
theorem nr_near (σ : Sg) (i j : Nat) : nrS σ i (σ.1 0 j) (σ.1 1 j) (1 : Int32) (100 : Int32) = nearS σ i j := rfl
theorem l_partner {b n0 i : Nat} {σ : Sg} (hn : n0 ≤ 80) (h6 : ∀ k, k < n0 → σ.1 6 k = σ.1 22 k) (hi : i < n0) (hc : mmS σ i = 0 → False) : ∀ f j, i < j → j ≤ n0 → n0 < j + f → (∀ j', i < j' → j' < j → ¬ cmS σ i j') →
    (f_X3_partnerOf_L12 f (xH b) (nI n0) (xG b i) (nI j) (memC b σ) = some (memC b σ, -1) ∧ ∀ j', i < j' → j' < n0 → ¬ cmS σ i j') ∨
    ∃ j2, i < j2 ∧ j2 < n0 ∧ f_X3_partnerOf_L12 f (xH b) (nI n0) (xG b i) (nI j) (memC b σ) = some (memC b σ, nI j2) ∧ cmS σ i j2 ∧ ∀ j', i < j' → j' < j2 → ¬ cmS σ i j' := by
  intro f
  induction f with
  | zero => intro j h1 h2 h3; omega
  | succ f ih =>
    intro j h1 h2 h3 h4
    rw [show f_X3_partnerOf_L12 (f + 1) = f_X3_partnerOf_b12 (f_X3_partnerOf_L12 f) from rfl]
    rcases Nat.lt_or_ge j n0 with hj | hj
    · have hle := nle_t hj (by omega)
      have e : f_X3_partnerOf_b12 (f_X3_partnerOf_L12 f) (xH b) (nI n0) (xG b i) (nI j) (memC b σ) = if mmS σ j = 0 then f_X3_partnerOf_L12 f (xH b) (nI n0) (xG b i) (nI (j + 1)) (memC b σ) else if nearS σ i j = 0 then f_X3_partnerOf_L12 f (xH b) (nI n0) (xG b i) (nI (j + 1)) (memC b σ) else some (memC b σ, nI j) := by
        simp only [f_X3_partnerOf_b12, f_X3_partnerOf_b58, hle, e_X2_mayMeet (b := b) (σ := σ) (show j < 80 by omega), e_X2_isNear (b := b) (σ := σ) (show i < 80 by omega), show i < 80 by omega, show j < 80 by omega, nI_1, nr_near, gd, lt_, rd, bd, ↓reduceIte, eq_self, and_self, true_and, and_true, not_false_eq_true, vi_t, cl_6, cl_20, cl_21, cl_40, cl_64, cl_80, cl_1280, Nat.reduceLT, tn_0, true_or, or_true, ab_f, xB_k, xB_r0, xB_r1, xB_r3, xB_r5, xB_r8, xB_r9, xB_r10, xB_i2, xB_i2_s, xB_i4, xB_i4_s, xB_i6, xB_i6_s, xB_i7, xB_i7_s, xH_k, xH_r0, xH_r1, xH_r2, xH_i3, xH_i3_s, xH_i4, xH_i4_s, xH_i5, xH_i5_s, xH_i6, xH_i6_s, xP_k, xP_i0, xP_i0_s, xL_k, xL_i0, xL_i0_s, xL_i1, xL_i1_s, xL_i2, xL_i2_s, xL_i3, xL_i3_s, xL_i4, xL_i4_s, xL_i5, xL_i5_s, xL_i6, xL_i6_s, xL_i7, xL_i7_s, xL_l8, xL_l8_s, xL_l9, xL_l9_s, xL_l10, xL_l10_s, xL_l11, xL_l11_s, xL_l12, xL_l12_s, xA_k, xA_n, xA_rk, xG_k, xG_i0, xG_i0_s, xG_i1, xG_i1_s, xG_i2, xG_i2_s, xG_i3, xG_i3_s, xG_i4, xG_i4_s, xG_i5, xG_i5_s, xG_i6, xG_i6_s, xMA_k, xMA_n, xMA_rk, xM_k, xM_i0, xM_i0_s, xM_i1, xM_i1_s, xM_i2, xM_i2_s, xFA_k, xFA_n, xFA_rk, xF_k, xF_r0, xF_i1, xF_i1_s, xFm_k, xFm_n, xFm_ik, xFm_ik_s, xCA_k, xCA_n, xCA_rk, xC_k, xC_i0, xC_i0_s, xC_i1, xC_i1_s, xC_i2, xC_i2_s, xC_i3, xC_i3_s, xW_k, xW_n, xW_ik, xW_ik_s, x1_k, x1_n, x1_ik, x1_ik_s, x2_k, x2_n, x2_ik, x2_ik_s, C_no20, C_no21, C_no22]
      have hcm : cmS σ i j ↔ ¬ mmS σ j = 0 ∧ ¬ nearS σ i j = 0 := by
        rw [mmS_z h6 hi] at hc
        rw [mmS_z h6 hj]
        unfold cmS
        constructor
        · intro h; exact ⟨fun q => q ⟨h.2.1, h.2.2.2.1⟩, h.2.2.2.2⟩
        · intro ⟨q1, q2⟩
          have q3 := Classical.not_not.mp q1
          have q4 := Classical.not_not.mp hc
          exact ⟨q4.1, q3.1, q4.2, q3.2, q2⟩
      rw [e]
      by_cases h5 : mmS σ j = 0
      · rw [if_pos h5]
        exact ih (j + 1) (by omega) (by omega) (by omega) (fun j' k1 k2 => by
          rcases Nat.lt_or_ge j' j with hl | hl
          · exact h4 j' k1 hl
          · obtain rfl : j' = j := (by omega)
            exact fun q => (hcm.mp q).1 h5)
      · rw [if_neg h5]
        by_cases h7 : nearS σ i j = 0
        · rw [if_pos h7]
          exact ih (j + 1) (by omega) (by omega) (by omega) (fun j' k1 k2 => by
            rcases Nat.lt_or_ge j' j with hl | hl
            · exact h4 j' k1 hl
            · obtain rfl : j' = j := (by omega)
              exact fun q => (hcm.mp q).2 h7)
        · rw [if_neg h7]
          exact Or.inr ⟨j, h1, hj, rfl, hcm.mpr ⟨h5, h7⟩, h4⟩
    · obtain rfl : j = n0 := (by omega)
      refine Or.inl ⟨?_, h4⟩
      simp only [f_X3_partnerOf_b12, Int32.le_refl, ↓reduceIte]
theorem nI_m1 : ∀ m : Nat, m < 80 → ¬ nI m = (-1 : Int32) := by decide +kernel
theorem bd_s {α β : Type} (x : α) (F : α → Option β) : bd (some x) F = F x := rfl
theorem s_meetAll39 {b n0 i : Nat} {σ : Sg} {K : Nat → Int32 → Int32 → Mem → Option Mem} (h : MI n0 σ) (hi : i < n0) : f_X3_meetAll_b39 K (xH b) (nI n0) (nI i) (memC b σ) = K (xH b) (nI n0) (nI (i + 1)) (memC b (tRow σ i (n0 - (i + 1)))) := by
  obtain ⟨nn, hG, hn, h6, h22⟩ := h
  have hnn := hG.2.1
  have hle := nle_t hi (by omega)
  have hi8 : i < 80 := by omega
  have e : f_X3_meetAll_b39 K (xH b) (nI n0) (nI i) (memC b σ) = if mmS σ i = 0 then K (xH b) (nI n0) (nI (i + 1)) (memC b σ) else bd (f_X3_partnerOf_L12 200 (xH b) (nI n0) (xG b i) (nI (i + 1)) (memC b σ)) fun z5 => if z5.2 = (-1 : Int32) then (f_X3_meetAll_b84 K (xH b) (nI n0) (nI i) z5.1) else (gd (z5.1.1 (xH b) = 3) <| rd (mm_r z5.1 (xH b) 2) fun a6 => gd (z5.1.1 a6 = 13 ∧ vi_ (nI i) (mm_N z5.1 a6)) <| rd (mm_r z5.1 a6 (nI i).toNatClampNeg) fun a7 => gd (z5.1.1 (xH b) = 3) <| rd (mm_r z5.1 (xH b) 2) fun a8 => gd (z5.1.1 a8 = 13 ∧ vi_ z5.2 (mm_N z5.1 a8)) <| rd (mm_r z5.1 a8 (z5.2).toNatClampNeg) fun a9 => gd (z5.1.1 (xH b) = 3) <| bd (f_X3_meet (xH b) a7 a9 z5.1) fun z10 => f_X3_meetAll_b84 K (xH b) (nI n0) (nI i) z10) := by
    simp only [f_X3_meetAll_b39, f_X3_meetAll_b84, f_X3_partnerOf, hle, e_X2_mayMeet (b := b) (σ := σ) hi8, hi8, nI_1, bd_s, gd, lt_, rd, ↓reduceIte, true_and, not_false_eq_true, vi_t, cl_80, Nat.reduceLT, xB_k, xB_r0, xB_r1, xB_r3, xB_r5, xB_r8, xB_r9, xB_r10, xB_i2, xB_i2_s, xB_i4, xB_i4_s, xB_i6, xB_i6_s, xB_i7, xB_i7_s, xH_k, xH_r0, xH_r1, xH_r2, xH_i3, xH_i3_s, xH_i4, xH_i4_s, xH_i5, xH_i5_s, xH_i6, xH_i6_s, xP_k, xP_i0, xP_i0_s, xL_k, xL_i0, xL_i0_s, xL_i1, xL_i1_s, xL_i2, xL_i2_s, xL_i3, xL_i3_s, xL_i4, xL_i4_s, xL_i5, xL_i5_s, xL_i6, xL_i6_s, xL_i7, xL_i7_s, xL_l8, xL_l8_s, xL_l9, xL_l9_s, xL_l10, xL_l10_s, xL_l11, xL_l11_s, xL_l12, xL_l12_s, xA_k, xA_n, xA_rk, xG_k, xG_i0, xG_i0_s, xG_i1, xG_i1_s, xG_i2, xG_i2_s, xG_i3, xG_i3_s, xG_i4, xG_i4_s, xG_i5, xG_i5_s, xG_i6, xG_i6_s, xMA_k, xMA_n, xMA_rk, xM_k, xM_i0, xM_i0_s, xM_i1, xM_i1_s, xM_i2, xM_i2_s, xFA_k, xFA_n, xFA_rk, xF_k, xF_r0, xF_i1, xF_i1_s, xFm_k, xFm_n, xFm_ik, xFm_ik_s, xCA_k, xCA_n, xCA_rk, xC_k, xC_i0, xC_i0_s, xC_i1, xC_i1_s, xC_i2, xC_i2_s, xC_i3, xC_i3_s, xW_k, xW_n, xW_ik, xW_ik_s, x1_k, x1_n, x1_ik, x1_ik_s, x2_k, x2_n, x2_ik, x2_ik_s, C_no20, C_no21, C_no22]
  rw [e]
  by_cases h1 : mmS σ i = 0
  · rw [if_pos h1, tRow_id _ (fun j k1 k2 hc => by
      rw [mmS_z h6 hi] at h1
      exact h1 ⟨hc.1, hc.2.2.1⟩)]
  rw [if_neg h1]
  rcases l_partner (b := b) (by omega) h6 hi h1 200 (i + 1) (by omega) (by omega) (by omega) (fun j' k1 k2 => by omega) with ⟨q1, q2⟩ | ⟨j, j1, j2, q1, q2, q3⟩
  · rw [q1, tRow_id _ (fun j k1 k2 => q2 j (by omega) (by omega))]
    simp only [bd, f_X3_meetAll_b84, lt_, nI_1, ↓reduceIte]
  · rw [q1]
    have hj8 : j < 80 := by omega
    have hj1 := nI_m1 j hj8
    simp only [bd, hj1, hi8, hj8, gd, rd, ↓reduceIte, true_and, not_false_eq_true, vi_t, cl_80, Nat.reduceLT, xB_k, xB_r0, xB_r1, xB_r3, xB_r5, xB_r8, xB_r9, xB_r10, xB_i2, xB_i2_s, xB_i4, xB_i4_s, xB_i6, xB_i6_s, xB_i7, xB_i7_s, xH_k, xH_r0, xH_r1, xH_r2, xH_i3, xH_i3_s, xH_i4, xH_i4_s, xH_i5, xH_i5_s, xH_i6, xH_i6_s, xP_k, xP_i0, xP_i0_s, xL_k, xL_i0, xL_i0_s, xL_i1, xL_i1_s, xL_i2, xL_i2_s, xL_i3, xL_i3_s, xL_i4, xL_i4_s, xL_i5, xL_i5_s, xL_i6, xL_i6_s, xL_i7, xL_i7_s, xL_l8, xL_l8_s, xL_l9, xL_l9_s, xL_l10, xL_l10_s, xL_l11, xL_l11_s, xL_l12, xL_l12_s, xA_k, xA_n, xA_rk, xG_k, xG_i0, xG_i0_s, xG_i1, xG_i1_s, xG_i2, xG_i2_s, xG_i3, xG_i3_s, xG_i4, xG_i4_s, xG_i5, xG_i5_s, xG_i6, xG_i6_s, xMA_k, xMA_n, xMA_rk, xM_k, xM_i0, xM_i0_s, xM_i1, xM_i1_s, xM_i2, xM_i2_s, xFA_k, xFA_n, xFA_rk, xF_k, xF_r0, xF_i1, xF_i1_s, xFm_k, xFm_n, xFm_ik, xFm_ik_s, xCA_k, xCA_n, xCA_rk, xC_k, xC_i0, xC_i0_s, xC_i1, xC_i1_s, xC_i2, xC_i2_s, xC_i3, xC_i3_s, xW_k, xW_n, xW_ik, xW_ik_s, x1_k, x1_n, x1_ik, x1_ik_s, x2_k, x2_n, x2_ik, x2_ik_s, C_no20, C_no21, C_no22]
    rw [s_meet hG (by omega) (by omega) (by omega) q2]
    have r1 : tRow σ i (j - (i + 1) + 1) = tStep σ i j := by
      show tStep (tRow σ i (j - (i + 1))) i (i + 1 + (j - (i + 1))) = _
      rw [tRow_id _ (fun j' k1 k2 => q3 j' (by omega) (by omega)), show i + 1 + (j - (i + 1)) = j by omega]
    have r2 : ¬ (tRow σ i (j - (i + 1) + 1)).1 22 i = 0 := by
      rw [r1]
      unfold tStep
      rw [if_pos q2, gn_eq hG, tMeet_m (Or.inr ⟨rfl, by omega⟩), if_pos (Or.inl rfl)]
      decide
    have r3 := tRow_stay r2 (n0 - (j + 1))
    rw [show j - (i + 1) + 1 + (n0 - (j + 1)) = n0 - (i + 1) by omega, r1] at r3
    rw [r3]
    simp only [f_X3_meetAll_b84, lt_, nI_1, ↓reduceIte]
theorem l_meetAll39 {b n0 : Nat} {σ : Sg} (h : MI n0 σ) : ∀ f i, i ≤ n0 → n0 < i + f → f_X3_meetAll_L39 f (xH b) (nI n0) (nI i) (memC b (tRows σ n0 i)) = some (memC b (tRows σ n0 n0)) := by
  intro f
  induction f with
  | zero => intro i h1 h2; omega
  | succ f ih =>
    intro i h1 h2
    show f_X3_meetAll_b39 (f_X3_meetAll_L39 f) (xH b) (nI n0) (nI i) _ = _
    rcases Nat.lt_or_ge i n0 with hi | hi
    · rw [s_meetAll39 (h.rows i h1) hi]
      exact ih (i + 1) (by omega) (by omega)
    · obtain rfl : i = n0 := (by omega)
      simp only [f_X3_meetAll_b39, Int32.le_refl, ↓reduceIte]
/-- the marks of all 80 away -/
def tR6 (σ : Sg) (m : Nat) : Sg := (fun c k => if c = 6 ∧ k < m then 0 else σ.1 c k, σ.2)
theorem tR6_s {σ : Sg} {m : Nat} : sI (tR6 σ m) 6 m 0 = tR6 σ (m + 1) := by
  refine Sg_ext (fun c k => ?_) (fun _ => rfl)
  simp only [sI_1, tR6]
  grind
theorem l_reset {b : Nat} {σ : Sg} {n0 : Nat} (hn : σ.1 10 0 = nI n0) : ∀ f i, i ≤ 80 → 80 < i + f → f_X3_meetAll_L10 f (xH b) (xA b) (nI 80) (nI i) (memC b (tR6 σ i)) = f_X3_meetAll_L39 200 (xH b) (nI n0) (nI 0) (memC b (tR6 σ 80)) := by
  intro f
  induction f with
  | zero => intro i h1 h2; omega
  | succ f ih =>
    intro i h1 h2
    show f_X3_meetAll_b10 (f_X3_meetAll_L10 f) (xH b) (xA b) (nI 80) (nI i) _ = _
    rcases Nat.lt_or_ge i 80 with hi | hi
    · have hle := nle_t hi (by decide)
      simp only [f_X3_meetAll_b10, hle, hi, nI_1, gd, lt_, rd, bd, ↓reduceIte, eq_self, and_self, true_and, and_true, not_false_eq_true, vi_t, cl_6, cl_20, cl_21, cl_40, cl_64, cl_80, cl_1280, Nat.reduceLT, tn_0, true_or, or_true, ab_f, xB_k, xB_r0, xB_r1, xB_r3, xB_r5, xB_r8, xB_r9, xB_r10, xB_i2, xB_i2_s, xB_i4, xB_i4_s, xB_i6, xB_i6_s, xB_i7, xB_i7_s, xH_k, xH_r0, xH_r1, xH_r2, xH_i3, xH_i3_s, xH_i4, xH_i4_s, xH_i5, xH_i5_s, xH_i6, xH_i6_s, xP_k, xP_i0, xP_i0_s, xL_k, xL_i0, xL_i0_s, xL_i1, xL_i1_s, xL_i2, xL_i2_s, xL_i3, xL_i3_s, xL_i4, xL_i4_s, xL_i5, xL_i5_s, xL_i6, xL_i6_s, xL_i7, xL_i7_s, xL_l8, xL_l8_s, xL_l9, xL_l9_s, xL_l10, xL_l10_s, xL_l11, xL_l11_s, xL_l12, xL_l12_s, xA_k, xA_n, xA_rk, xG_k, xG_i0, xG_i0_s, xG_i1, xG_i1_s, xG_i2, xG_i2_s, xG_i3, xG_i3_s, xG_i4, xG_i4_s, xG_i5, xG_i5_s, xG_i6, xG_i6_s, xMA_k, xMA_n, xMA_rk, xM_k, xM_i0, xM_i0_s, xM_i1, xM_i1_s, xM_i2, xM_i2_s, xFA_k, xFA_n, xFA_rk, xF_k, xF_r0, xF_i1, xF_i1_s, xFm_k, xFm_n, xFm_ik, xFm_ik_s, xCA_k, xCA_n, xCA_rk, xC_k, xC_i0, xC_i0_s, xC_i1, xC_i1_s, xC_i2, xC_i2_s, xC_i3, xC_i3_s, xW_k, xW_n, xW_ik, xW_ik_s, x1_k, x1_n, x1_ik, x1_ik_s, x2_k, x2_n, x2_ik, x2_ik_s, C_no20, C_no21, C_no22]
      rw [tR6_s]
      exact ih (i + 1) (by omega) (by omega)
    · obtain rfl : i = 80 := (by omega)
      have e : (tR6 σ 80).1 10 0 = nI n0 := by rw [← hn]; rfl
      simp only [f_X3_meetAll_b10, Int32.le_refl, e, gd, lt_, rd, bd, ↓reduceIte, eq_self, and_self, true_and, and_true, not_false_eq_true, vi_t, cl_6, cl_20, cl_21, cl_40, cl_64, cl_80, cl_1280, Nat.reduceLT, tn_0, true_or, or_true, ab_f, xB_k, xB_r0, xB_r1, xB_r3, xB_r5, xB_r8, xB_r9, xB_r10, xB_i2, xB_i2_s, xB_i4, xB_i4_s, xB_i6, xB_i6_s, xB_i7, xB_i7_s, xH_k, xH_r0, xH_r1, xH_r2, xH_i3, xH_i3_s, xH_i4, xH_i4_s, xH_i5, xH_i5_s, xH_i6, xH_i6_s, xP_k, xP_i0, xP_i0_s, xL_k, xL_i0, xL_i0_s, xL_i1, xL_i1_s, xL_i2, xL_i2_s, xL_i3, xL_i3_s, xL_i4, xL_i4_s, xL_i5, xL_i5_s, xL_i6, xL_i6_s, xL_i7, xL_i7_s, xL_l8, xL_l8_s, xL_l9, xL_l9_s, xL_l10, xL_l10_s, xL_l11, xL_l11_s, xL_l12, xL_l12_s, xA_k, xA_n, xA_rk, xG_k, xG_i0, xG_i0_s, xG_i1, xG_i1_s, xG_i2, xG_i2_s, xG_i3, xG_i3_s, xG_i4, xG_i4_s, xG_i5, xG_i5_s, xG_i6, xG_i6_s, xMA_k, xMA_n, xMA_rk, xM_k, xM_i0, xM_i0_s, xM_i1, xM_i1_s, xM_i2, xM_i2_s, xFA_k, xFA_n, xFA_rk, xF_k, xF_r0, xF_i1, xF_i1_s, xFm_k, xFm_n, xFm_ik, xFm_ik_s, xCA_k, xCA_n, xCA_rk, xC_k, xC_i0, xC_i0_s, xC_i1, xC_i1_s, xC_i2, xC_i2_s, xC_i3, xC_i3_s, xW_k, xW_n, xW_ik, xW_ik_s, x1_k, x1_n, x1_ik, x1_ik_s, x2_k, x2_n, x2_ik, x2_ik_s, C_no20, C_no21, C_no22]
      rfl
theorem e_X3_meetAll {b n0 : Nat} {σ : Sg} (hn : σ.1 10 0 = nI n0) (h : MI n0 (tR6 σ 80)) : f_X3_meetAll (xH b) (memC b σ) = some (memC b (tRows (tR6 σ 80) n0 n0)) := by
  have e : f_X3_meetAll (xH b) (memC b σ) = f_X3_meetAll_L10 200 (xH b) (xA b) (nI 80) (nI 0) (memC b (tR6 σ 0)) := by
    have e0 : tR6 σ 0 = σ := Sg_ext (fun c k => if_neg (by omega)) (fun _ => rfl)
    rw [e0]
    simp only [f_X3_meetAll, gd, lt_, rd, bd, ↓reduceIte, eq_self, and_self, true_and, and_true, not_false_eq_true, vi_t, cl_6, cl_20, cl_21, cl_40, cl_64, cl_80, cl_1280, Nat.reduceLT, tn_0, true_or, or_true, ab_f, xB_k, xB_r0, xB_r1, xB_r3, xB_r5, xB_r8, xB_r9, xB_r10, xB_i2, xB_i2_s, xB_i4, xB_i4_s, xB_i6, xB_i6_s, xB_i7, xB_i7_s, xH_k, xH_r0, xH_r1, xH_r2, xH_i3, xH_i3_s, xH_i4, xH_i4_s, xH_i5, xH_i5_s, xH_i6, xH_i6_s, xP_k, xP_i0, xP_i0_s, xL_k, xL_i0, xL_i0_s, xL_i1, xL_i1_s, xL_i2, xL_i2_s, xL_i3, xL_i3_s, xL_i4, xL_i4_s, xL_i5, xL_i5_s, xL_i6, xL_i6_s, xL_i7, xL_i7_s, xL_l8, xL_l8_s, xL_l9, xL_l9_s, xL_l10, xL_l10_s, xL_l11, xL_l11_s, xL_l12, xL_l12_s, xA_k, xA_n, xA_rk, xG_k, xG_i0, xG_i0_s, xG_i1, xG_i1_s, xG_i2, xG_i2_s, xG_i3, xG_i3_s, xG_i4, xG_i4_s, xG_i5, xG_i5_s, xG_i6, xG_i6_s, xMA_k, xMA_n, xMA_rk, xM_k, xM_i0, xM_i0_s, xM_i1, xM_i1_s, xM_i2, xM_i2_s, xFA_k, xFA_n, xFA_rk, xF_k, xF_r0, xF_i1, xF_i1_s, xFm_k, xFm_n, xFm_ik, xFm_ik_s, xCA_k, xCA_n, xCA_rk, xC_k, xC_i0, xC_i0_s, xC_i1, xC_i1_s, xC_i2, xC_i2_s, xC_i3, xC_i3_s, xW_k, xW_n, xW_ik, xW_ik_s, x1_k, x1_n, x1_ik, x1_ik_s, x2_k, x2_n, x2_ik, x2_ik_s, C_no20, C_no21, C_no22]
    rfl
  have hle : n0 ≤ 80 := by
    obtain ⟨nn, hG, hnn, -⟩ := h
    have := hG.2.1
    omega
  rw [e, l_reset hn 200 0 (by omega) (by omega)]
  exact l_meetAll39 h 200 0 (by omega) (by omega)
