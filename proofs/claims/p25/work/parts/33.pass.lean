/-! ===== PURE: how wide a moon is ===== -/
def wdA (v : Int32) : Nat → Nat → Int32
  | 0, r => nI r / (20 : Int32)
  | f + 1, r => if v < nI (r + 1) * nI (r + 1) then nI r / (20 : Int32) else wdA v f (r + 1)
def wd (v : Int32) : Int32 := wdA v 100 0
theorem nle_h : ∀ r : Nat, r < 100 → ¬ (100 : Int32) < nI (r + 1) := by decide +kernel
theorem l_widthC {v : Int32} {M : Mem} : ∀ f g r, f + r = 100 → f < g → f_X7_widthOf_L4 g v (nI r) (nI (r + 1)) M = some (M, wdA v f r) := by
  intro f
  induction f with
  | zero =>
    intro g r h1 h2
    obtain ⟨g, rfl⟩ : ∃ k, g = k + 1 := ⟨g - 1, by omega⟩
    obtain rfl : r = 100 := (by omega)
    show f_X7_widthOf_b4 _ _ _ _ _ = _
    simp only [f_X7_widthOf_b4, f_X7_widthOf_b25, show (100 : Int32) < nI (100 + 1) from by decide, if_true]
    rfl
  | succ f ih =>
    intro g r h1 h2
    obtain ⟨g, rfl⟩ : ∃ k, g = k + 1 := ⟨g - 1, by omega⟩
    show f_X7_widthOf_b4 _ _ _ _ _ = _
    simp only [f_X7_widthOf_b4, f_X7_widthOf_b25, nle_h r (by omega), if_false, lt_, nI_1]
    rw [ih g (r + 1) (by omega) (by omega)]
    show _ = some (M, if _ then _ else _)
    split <;> rfl
theorem e_X7_widthOf {v : Int32} {M : Mem} : f_X7_widthOf v M = some (M, wd v) := l_widthC 100 200 0 rfl (by omega)
/-! ===== PURE: one tick ===== -/
def InvM (mm : Nat) (σ : Sg) : Prop := σ.1 10 1 = nI mm ∧ mm ≤ 6 ∧ ∀ j, j < mm → lnOk (σ.1 7 j) ∧ σ.1 9 j = wd (σ.1 20 j) ∧ 1 ≤ (σ.1 20 j).toInt ∧ (σ.1 20 j).toInt ≤ 10000
/-- what a tick leaves alone -/
def Sk (σ τ : Sg) : Prop := (∀ c k, ¬ (c ≤ 6 ∨ c = 22 ∨ c = 8 ∨ (c = 10 ∧ (k = 0 ∨ (6 ≤ k ∧ k ≤ 12) ∨ k = 14))) → τ.1 c k = σ.1 c k) ∧ τ.2 0 = σ.2 0 ∧ τ.2 5 = σ.2 5
theorem Sm.sk {σ τ : Sg} (h : Sm σ τ) : Sk σ τ := ⟨fun c k hc => h.1 c k (fun q => hc (by omega)), h.2⟩
theorem Sk.trans {σ τ υ : Sg} (h : Sk σ τ) (h2 : Sk τ υ) : Sk σ υ := ⟨fun c k hc => (h2.1 c k hc).trans (h.1 c k hc), h2.2.1.trans h.2.1, h2.2.2.trans h.2.2⟩
theorem Sk.rfl' (σ : Sg) : Sk σ σ := ⟨fun _ _ _ => rfl, rfl, rfl⟩
theorem InvM.sk {mm : Nat} {σ τ : Sg} (h : InvM mm σ) (h2 : Sk σ τ) : InvM mm τ := by
  obtain ⟨a1, a2, a3⟩ := h
  obtain ⟨b1, -⟩ := h2
  refine ⟨(b1 10 1 (by omega)).trans a1, a2, fun j hj => ?_⟩
  rw [b1 7 j (by omega), b1 9 j (by omega), b1 20 j (by omega)]
  exact a3 j hj
theorem memC_congr {b : Nat} {σ τ : Sg} (h : ∀ c k, c ≠ 20 ∧ c ≠ 21 ∧ c ≠ 22 → σ.1 c k = τ.1 c k) (h2 : σ.2 = τ.2) : memC b σ = memC b τ := by
  refine Prod.ext rfl (Prod.ext rfl (Prod.ext (funext fun a => funext fun j => ?_) (Prod.ext ?_ rfl)))
  · show (if (itC b a j).1 = 99 then 0 else σ.1 (itC b a j).1 (itC b a j).2) = (if (itC b a j).1 = 99 then 0 else τ.1 (itC b a j).1 (itC b a j).2)
    rw [h _ _ (itC_code b a j)]
  · show (fun q k => if lgC b q k = 99 then 0 else σ.2 (lgC b q k)) = fun q k => if lgC b q k = 99 then 0 else τ.2 (lgC b q k)
    rw [h2]
/-- the ways of the first g grains and m moons -/
def tMv (σ : Sg) (g m : Nat) : Sg :=
  (fun c k => if c = 1 ∧ k < g ∧ ¬ σ.1 5 k = 0 then trn (σ.1 1 k) (spd σ (σ.1 0 k)) else if c = 22 ∧ k < g then 0 else if c = 8 ∧ k < m then trn (σ.1 8 k) (spd σ (σ.1 7 k)) else σ.1 c k, σ.2)
theorem tMv_c {σ : Sg} {g m c k : Nat} (h : c ≠ 1 ∧ c ≠ 22 ∧ c ≠ 8) : (tMv σ g m).1 c k = σ.1 c k := by
  obtain ⟨h1, h2, h3⟩ := h
  simp only [tMv, h1, h2, h3, false_and, if_false]
theorem tMv_1 {σ : Sg} {g m k : Nat} (h : g ≤ k) : (tMv σ g m).1 1 k = σ.1 1 k := by
  simp only [tMv, Nat.not_lt.mpr h, Nat.reduceEqDiff, false_and, and_false, if_false]
theorem tMv_8 {σ : Sg} {g m k : Nat} (h : m ≤ k) : (tMv σ g m).1 8 k = σ.1 8 k := by
  simp only [tMv, Nat.not_lt.mpr h, Nat.reduceEqDiff, false_and, and_false, if_false]
theorem tMv_spd {σ : Sg} {g m : Nat} {x : Int32} : spd (tMv σ g m) x = spd σ x := by
  unfold spd
  rw [tMv_c (by decide)]
theorem tMv_moon {σ : Sg} {g m : Nat} : sI (tMv σ g m) 8 m (trn (σ.1 8 m) (spd σ (σ.1 7 m))) = tMv σ g (m + 1) := by
  refine Sg_ext (fun c k => ?_) (fun _ => rfl)
  simp only [sI_1, tMv]
  grind
theorem tMv_g1 {b : Nat} {σ : Sg} {g m : Nat} (h : ¬ σ.1 5 g = 0) : memC b (sI (tMv σ g m) 1 g (trn (σ.1 1 g) (spd σ (σ.1 0 g)))) = memC b (tMv σ (g + 1) m) := by
  refine memC_congr (fun c k hc => ?_) rfl
  simp only [sI_1, tMv]
  grind
theorem tMv_g0 {b : Nat} {σ : Sg} {g m : Nat} (h : σ.1 5 g = 0) : memC b (tMv σ g m) = memC b (tMv σ (g + 1) m) := by
  refine memC_congr (fun c k hc => ?_) rfl
  simp only [tMv]
  grind
theorem tMv_end {b nn : Nat} {σ : Sg} {m : Nat} (hG : InvG nn σ) : memC b (tMv σ 80 m) = memC b (tMv σ nn m) := by
  refine memC_congr (fun c k hc => ?_) rfl
  have h := hG.2.2.2.1 k
  have hn := hG.2.1
  simp only [tMv]
  grind
theorem tMv_h1 {σ : Sg} {g m : Nat} (h : ¬ σ.1 5 g = 0) : sI (sI (tMv σ g m) 1 g (trn (σ.1 1 g) (spd σ (σ.1 0 g)))) 22 g 0 = tMv σ (g + 1) m := by
  refine Sg_ext (fun c k => ?_) (fun _ => rfl)
  simp only [sI_1, tMv]
  grind
theorem tMv_h0 {σ : Sg} {g m : Nat} (h : σ.1 5 g = 0) : sI (sI (tMv σ g m) 1 g (σ.1 1 g)) 22 g 0 = tMv σ (g + 1) m := by
  refine Sg_ext (fun c k => ?_) (fun _ => rfl)
  simp only [sI_1, tMv]
  grind
theorem tMv_0 {σ : Sg} : tMv σ 0 0 = σ := by
  refine Sg_ext (fun c k => ?_) (fun _ => rfl)
  simp only [tMv]
  grind
theorem Sk.mv {σ : Sg} {g m : Nat} : Sk σ (tMv σ g m) := ⟨fun c k hc => tMv_c (by omega), rfl, rfl⟩
theorem InvG.mv {nn : Nat} {σ : Sg} {g m : Nat} (h : InvG nn σ) : InvG nn (tMv σ g m) := by
  refine h.same (fun k hk => ?_) ?_ ⟨rfl, rfl⟩
  · exact ⟨tMv_c (by decide), tMv_c (by decide), tMv_c (by decide), tMv_c (by decide)⟩
  · exact ⟨tMv_c (by decide), tMv_c (by decide), tMv_c (by decide), tMv_c (by decide)⟩
theorem l_goRound {b nn m : Nat} {σ : Sg} (hG : InvG nn σ) : ∀ f i, i ≤ 80 → 80 < i + f → f_X3_goRound_L10 f (xH b) (xA b) (nI 80) (nI i) (memC b (tMv σ i m)) = some (memC b (tMv σ nn m)) := by
  intro f
  induction f with
  | zero => intro i h1 h2; omega
  | succ f ih =>
    intro i h1 h2
    show f_X3_goRound_b10 (f_X3_goRound_L10 f) (xH b) (xA b) (nI 80) (nI i) _ = _
    rcases Nat.lt_or_ge i 80 with hi | hi
    · have hle := nle_t hi (by decide)
      have c5 := tMv_c (σ := σ) (g := i) (m := m) (c := 5) (k := i) (by decide)
      have c0 := tMv_c (σ := σ) (g := i) (m := m) (c := 0) (k := i) (by decide)
      have c1 := tMv_1 (σ := σ) (g := i) (m := m) (k := i) (Nat.le_refl i)
      by_cases h5 : σ.1 5 i = 0
      · simp only [f_X3_goRound_b10, f_X3_goRound_b53, hle, hi, c5, h5, nI_1, gd, lt_, rd, bd, ↓reduceIte, eq_self, and_self, true_and, and_true, not_false_eq_true, vi_t, cl_6, cl_20, cl_21, cl_40, cl_64, cl_80, cl_1280, Nat.reduceLT, tn_0, true_or, or_true, ab_f, xB_k, xB_r0, xB_r1, xB_r3, xB_r5, xB_r8, xB_r9, xB_r10, xB_i2, xB_i2_s, xB_i4, xB_i4_s, xB_i6, xB_i6_s, xB_i7, xB_i7_s, xH_k, xH_r0, xH_r1, xH_r2, xH_i3, xH_i3_s, xH_i4, xH_i4_s, xH_i5, xH_i5_s, xH_i6, xH_i6_s, xP_k, xP_i0, xP_i0_s, xL_k, xL_i0, xL_i0_s, xL_i1, xL_i1_s, xL_i2, xL_i2_s, xL_i3, xL_i3_s, xL_i4, xL_i4_s, xL_i5, xL_i5_s, xL_i6, xL_i6_s, xL_i7, xL_i7_s, xL_l8, xL_l8_s, xL_l9, xL_l9_s, xL_l10, xL_l10_s, xL_l11, xL_l11_s, xL_l12, xL_l12_s, xA_k, xA_n, xA_rk, xG_k, xG_i0, xG_i0_s, xG_i1, xG_i1_s, xG_i2, xG_i2_s, xG_i3, xG_i3_s, xG_i4, xG_i4_s, xG_i5, xG_i5_s, xG_i6, xG_i6_s, xMA_k, xMA_n, xMA_rk, xM_k, xM_i0, xM_i0_s, xM_i1, xM_i1_s, xM_i2, xM_i2_s, xFA_k, xFA_n, xFA_rk, xF_k, xF_r0, xF_i1, xF_i1_s, xFm_k, xFm_n, xFm_ik, xFm_ik_s, xCA_k, xCA_n, xCA_rk, xC_k, xC_i0, xC_i0_s, xC_i1, xC_i1_s, xC_i2, xC_i2_s, xC_i3, xC_i3_s, xW_k, xW_n, xW_ik, xW_ik_s, x1_k, x1_n, x1_ik, x1_ik_s, x2_k, x2_n, x2_ik, x2_ik_s, C_no20, C_no21, C_no22]
        rw [tMv_g0 h5]
        exact ih (i + 1) (by omega) (by omega)
      · have l0 := ((hG.okG i hi).resolve_left h5).2
        rw [← c0] at l0
        simp only [f_X3_goRound_b10, f_X3_goRound_b53, hle, hi, c5, h5, c1, e_X6_speedIn l0, e_X7_turned, nI_1, bd_s, gd, lt_, rd, ↓reduceIte, true_and, not_false_eq_true, vi_t, cl_80, Nat.reduceLT, xB_k, xB_r0, xB_r1, xB_r3, xB_r5, xB_r8, xB_r9, xB_r10, xB_i2, xB_i2_s, xB_i4, xB_i4_s, xB_i6, xB_i6_s, xB_i7, xB_i7_s, xH_k, xH_r0, xH_r1, xH_r2, xH_i3, xH_i3_s, xH_i4, xH_i4_s, xH_i5, xH_i5_s, xH_i6, xH_i6_s, xP_k, xP_i0, xP_i0_s, xL_k, xL_i0, xL_i0_s, xL_i1, xL_i1_s, xL_i2, xL_i2_s, xL_i3, xL_i3_s, xL_i4, xL_i4_s, xL_i5, xL_i5_s, xL_i6, xL_i6_s, xL_i7, xL_i7_s, xL_l8, xL_l8_s, xL_l9, xL_l9_s, xL_l10, xL_l10_s, xL_l11, xL_l11_s, xL_l12, xL_l12_s, xA_k, xA_n, xA_rk, xG_k, xG_i0, xG_i0_s, xG_i1, xG_i1_s, xG_i2, xG_i2_s, xG_i3, xG_i3_s, xG_i4, xG_i4_s, xG_i5, xG_i5_s, xG_i6, xG_i6_s, xMA_k, xMA_n, xMA_rk, xM_k, xM_i0, xM_i0_s, xM_i1, xM_i1_s, xM_i2, xM_i2_s, xFA_k, xFA_n, xFA_rk, xF_k, xF_r0, xF_i1, xF_i1_s, xFm_k, xFm_n, xFm_ik, xFm_ik_s, xCA_k, xCA_n, xCA_rk, xC_k, xC_i0, xC_i0_s, xC_i1, xC_i1_s, xC_i2, xC_i2_s, xC_i3, xC_i3_s, xW_k, xW_n, xW_ik, xW_ik_s, x1_k, x1_n, x1_ik, x1_ik_s, x2_k, x2_n, x2_ik, x2_ik_s, C_no20, C_no21, C_no22]
        rw [c0, tMv_spd, tMv_g1 h5]
        exact ih (i + 1) (by omega) (by omega)
    · obtain rfl : i = 80 := (by omega)
      simp only [f_X3_goRound_b10, Int32.le_refl, ↓reduceIte]
      rw [tMv_end hG]
theorem e_X3_goRound {b nn m : Nat} {σ : Sg} (hG : InvG nn σ) : f_X3_goRound (xH b) (memC b (tMv σ 0 m)) = some (memC b (tMv σ nn m)) := by
  rw [← l_goRound hG 200 0 (by omega) (by omega)]
  simp only [f_X3_goRound, gd, lt_, rd, bd, ↓reduceIte, eq_self, and_self, true_and, and_true, not_false_eq_true, vi_t, cl_6, cl_20, cl_21, cl_40, cl_64, cl_80, cl_1280, Nat.reduceLT, tn_0, true_or, or_true, ab_f, xB_k, xB_r0, xB_r1, xB_r3, xB_r5, xB_r8, xB_r9, xB_r10, xB_i2, xB_i2_s, xB_i4, xB_i4_s, xB_i6, xB_i6_s, xB_i7, xB_i7_s, xH_k, xH_r0, xH_r1, xH_r2, xH_i3, xH_i3_s, xH_i4, xH_i4_s, xH_i5, xH_i5_s, xH_i6, xH_i6_s, xP_k, xP_i0, xP_i0_s, xL_k, xL_i0, xL_i0_s, xL_i1, xL_i1_s, xL_i2, xL_i2_s, xL_i3, xL_i3_s, xL_i4, xL_i4_s, xL_i5, xL_i5_s, xL_i6, xL_i6_s, xL_i7, xL_i7_s, xL_l8, xL_l8_s, xL_l9, xL_l9_s, xL_l10, xL_l10_s, xL_l11, xL_l11_s, xL_l12, xL_l12_s, xA_k, xA_n, xA_rk, xG_k, xG_i0, xG_i0_s, xG_i1, xG_i1_s, xG_i2, xG_i2_s, xG_i3, xG_i3_s, xG_i4, xG_i4_s, xG_i5, xG_i5_s, xG_i6, xG_i6_s, xMA_k, xMA_n, xMA_rk, xM_k, xM_i0, xM_i0_s, xM_i1, xM_i1_s, xM_i2, xM_i2_s, xFA_k, xFA_n, xFA_rk, xF_k, xF_r0, xF_i1, xF_i1_s, xFm_k, xFm_n, xFm_ik, xFm_ik_s, xCA_k, xCA_n, xCA_rk, xC_k, xC_i0, xC_i0_s, xC_i1, xC_i1_s, xC_i2, xC_i2_s, xC_i3, xC_i3_s, xW_k, xW_n, xW_ik, xW_ik_s, x1_k, x1_n, x1_ik, x1_ik_s, x2_k, x2_n, x2_ik, x2_ik_s, C_no20, C_no21, C_no22]
  rfl
/-- all pushes -/
def tPA (σ : Sg) : Nat → Sg
  | 0 => σ
  | j + 1 => tPushN (tPA σ j) j 80
theorem Sm.pa {σ : Sg} : ∀ m, Sm σ (tPA σ m) := by
  intro m
  induction m with
  | zero => exact Sm.rfl' σ
  | succ m ih => exact ih.trans (Sm.pushN 80)
theorem InvG.pa {nn : Nat} {σ : Sg} (h : InvG nn σ) : ∀ m, InvG nn (tPA σ m) := by
  intro m
  induction m with
  | zero => exact h
  | succ m ih => exact ih.pushN 80 (by omega)
/-- darker by one -/
def dk_ (x : Int32) : Int32 := if (1000 : Int32) < x + 1 then 1000 else x + 1
def tDk (σ : Sg) (m : Nat) : Sg := (fun c k => if c = 4 ∧ k < m ∧ ¬ σ.1 5 k = 0 then dk_ (σ.1 4 k) else σ.1 c k, σ.2)
theorem tDk_c {σ : Sg} {m c k : Nat} (h : c ≠ 4) : (tDk σ m).1 c k = σ.1 c k := by
  simp only [tDk, h, false_and, if_false]
theorem tDk_4 {σ : Sg} {m k : Nat} (h : m ≤ k) : (tDk σ m).1 4 k = σ.1 4 k := by
  simp only [tDk, Nat.not_lt.mpr h, false_and, and_false, if_false]
theorem tDk_0 {σ : Sg} : tDk σ 0 = σ := by
  refine Sg_ext (fun c k => ?_) (fun _ => rfl)
  simp only [tDk]
  grind
theorem tDk_1 {σ : Sg} {m : Nat} (h : ¬ σ.1 5 m = 0) : sI (tDk σ m) 4 m (dk_ (σ.1 4 m)) = tDk σ (m + 1) := by
  refine Sg_ext (fun c k => ?_) (fun _ => rfl)
  simp only [sI_1, tDk]
  grind
theorem tDk_z {σ : Sg} {m : Nat} (h : σ.1 5 m = 0) : tDk σ m = tDk σ (m + 1) := by
  refine Sg_ext (fun c k => ?_) (fun _ => rfl)
  simp only [tDk]
  grind
theorem tDk_zM {σ : Sg} {m : Nat} (h : σ.1 5 m = 0) : sI (tDk σ m) 4 m (σ.1 4 m) = tDk σ (m + 1) := by
  refine Sg_ext (fun c k => ?_) (fun _ => rfl)
  simp only [sI_1, tDk]
  grind
theorem tDk_end {nn : Nat} {σ : Sg} (hG : InvG nn σ) : tDk σ 80 = tDk σ nn := by
  refine Sg_ext (fun c k => ?_) (fun _ => rfl)
  have h := hG.2.2.2.1 k
  have hn := hG.2.1
  simp only [tDk]
  grind
theorem dk_in {x : Int32} (h1 : 0 ≤ x.toInt) (h2 : x.toInt ≤ 1000) : 0 ≤ (dk_ x).toInt ∧ (dk_ x).toInt ≤ 1000 ∧ dk_ x = if (1000 : Int32) ≤ x then x else x + 1 := by
  have e1 : (1000 : Int32).toInt = 1000 := rfl
  have e2 : (x + 1).toInt = x.toInt + 1 := by
    rw [Int32.toInt_add]
    exact Int.bmod_eq_of_le (by show _ ≤ x.toInt + 1; omega) (by show x.toInt + 1 < _; omega)
  unfold dk_
  by_cases h : (1000 : Int32) < x + 1
  · rw [if_pos h]
    rw [Int32.lt_iff_toInt_lt, e1, e2] at h
    have e3 : x = 1000 := Int32.toInt_inj.mp (by rw [e1]; omega)
    rw [if_pos (by rw [Int32.le_iff_toInt_le, e1]; omega), e3]
    exact ⟨by decide, by decide, rfl⟩
  · rw [if_neg h]
    rw [Int32.lt_iff_toInt_lt, e1, e2] at h
    rw [if_neg (by rw [Int32.le_iff_toInt_le, e1]; omega), e2]
    exact ⟨by omega, by omega, rfl⟩
theorem Sm.dk {σ : Sg} {m : Nat} : Sm σ (tDk σ m) := ⟨fun c k hc => tDk_c (by omega), rfl, rfl⟩
theorem InvG.dk {nn : Nat} {σ : Sg} {m : Nat} (h : InvG nn σ) : InvG nn (tDk σ m) := by
  obtain ⟨a1, a2, a3, a4, a5, a6, a7, a8, a9, a10⟩ := h
  refine ⟨(tDk_c (by decide)).trans a1, a2, fun k hk => ?_, fun k h1 h2 => (tDk_c (by decide)).trans (a4 k h1 h2), ?_, by rw [tDk_c (by decide)]; exact a6, by rw [tDk_c (by decide)]; exact a7, by rw [tDk_c (by decide)]; exact a8, by rw [tDk_c (by decide)]; exact a9, by rw [tDk_c (by decide)]; exact a10⟩
  · unfold grOk
    rw [tDk_c (by decide), tDk_c (by decide), tDk_c (by decide)]
    rcases a3 k hk with h | ⟨h1, h2, h3, h4, h5⟩
    · exact Or.inl h
    · refine Or.inr ⟨h1, h2, h3, ?_⟩
      obtain ⟨d1, d2, -⟩ := dk_in h4 h5
      have e : (tDk σ m).1 4 k = if 4 = 4 ∧ k < m ∧ ¬ σ.1 5 k = 0 then dk_ (σ.1 4 k) else σ.1 4 k := rfl
      rw [e]
      split
      · exact ⟨d1, d2⟩
      · exact ⟨h4, h5⟩
  · rw [tDk_c (by decide), tDk_c (by decide), tDk_c (by decide), ← a5, smZ_congr 80 (fun k hk => ?_)]
    unfold wt
    rw [tDk_c (by decide), tDk_c (by decide)]
