/-! ===== PURE: count, sum, momentum as operations ===== -/
theorem t_dich {n : Nat} {v : Int32} {hi : Int32} (hn : n ≤ 80) (e : hi = nI n - 1) (h : OKr 0 v hi) : ∃ t, t < n ∧ v = nI t := num_of hn (e ▸ h)
/-! momentum by lanes -/
def sl (f : Nat → Int64) : Nat → Int64
  | 0 => 0
  | n + 1 => sl f n + f n
theorem sl_congr {f g : Nat → Int64} : ∀ n, (∀ k, k < n → f k = g k) → sl f n = sl g n := by
  intro n
  induction n with
  | zero => intro _; rfl
  | succ n ih => intro h; rw [sl, sl, ih (fun k hk => h k (by omega)), h n (by omega)]
theorem sl_upd {f g : Nat → Int64} {i : Nat} {d : Int64} (hd : g i = f i + d) : ∀ n, i < n → (∀ k, k < n → k ≠ i → g k = f k) → sl g n = sl f n + d := by
  intro n
  induction n with
  | zero => intro h; omega
  | succ n ih =>
    intro h1 h2
    by_cases hin : i = n
    · subst hin
      rw [sl, sl, sl_congr i (fun k hk => h2 k (by omega) (by omega)), hd, Int64.add_assoc]
    · rw [sl, sl, ih (by omega) (fun k hk hne => h2 k (by omega) hne), h2 n (by omega) (fun e => hin e.symm), i64_ac]
theorem smZ_mono {f : Nat → Int} {k : Nat} (h : ∀ j, j < 80 → 0 ≤ f j) : ∀ m, k ≤ m → m ≤ 80 → smZ f k ≤ smZ f m := by
  intro m
  induction m with
  | zero =>
    intro h1 h2
    obtain rfl : k = 0 := (by omega)
    exact Int.le_refl _
  | succ m ih =>
    intro h1 h2
    rcases Nat.lt_or_ge m k with hl | hl
    · obtain rfl : k = m + 1 := (by omega)
      exact Int.le_refl _
    · have e : smZ f (m + 1) = smZ f m + f m := rfl
      have := ih hl (by omega)
      have := h m (by omega)
      omega
theorem lm_in {nn : Nat} {σ : Sg} (hG : InvG nn σ) {x : Int32} : ∀ k, k ≤ 80 → 0 ≤ (lm σ x k).toInt ∧ (lm σ x k).toInt ≤ smZ (wt σ) k := by
  intro k
  induction k with
  | zero => intro _; exact ⟨(by decide : (0 : Int) ≤ (0 : Int32).toInt), (by decide : (0 : Int32).toInt ≤ 0)⟩
  | succ k ih =>
    intro hk
    obtain ⟨i1, i2⟩ := ih (by omega)
    have hw := wt_ge (hG.2.2.1 k (by omega))
    have hall := (smZ_ge (f := wt σ) 80 (fun j hj => wt_ge (hG.2.2.1 j hj)))
    have h80 := smZ_mono (f := wt σ) (k := k + 1) (fun j hj => wt_ge (hG.2.2.1 j hj)) 80 (by omega) (Nat.le_refl _)
    have hs : smZ (wt σ) (k + 1) = smZ (wt σ) k + wt σ k := rfl
    obtain ⟨-, hn, -, -, hsum, hr, he, hp, -⟩ := hG
    rw [lm]
    split
    · rename_i h
      have wk : wt σ k = (σ.1 2 k).toInt := by unfold wt; rw [if_neg h.1]
      rw [i32_add i1 (by omega) (by omega)]
      omega
    · omega
theorem sl_mo {nn : Nat} {σ : Sg} (hG : InvG nn σ) : ∀ m, m ≤ 80 → sl (fun x => (lm σ (nI x) m).toInt64 * (nI x + (20 : Int32)).toInt64) 64 = mo σ m := by
  intro m
  induction m with
  | zero =>
    intro _
    have e : ∀ n, sl (fun x => (lm σ (nI x) 0).toInt64 * (nI x + (20 : Int32)).toInt64) n = 0 := by
      intro n
      induction n with
      | zero => rfl
      | succ n ih =>
        rw [sl, ih]
        show (0 : Int64) + (0 : Int32).toInt64 * _ = 0
        rw [show (0 : Int32).toInt64 = 0 from rfl, Int64.zero_mul]
        rfl
    exact e 64
  | succ m ih =>
    intro hm
    rw [mo, ← ih (by omega)]
    by_cases h5 : σ.1 5 m = 0
    · rw [if_pos h5]
      refine sl_congr 64 (fun k hk => ?_)
      rw [lm, if_neg (fun q => q.1 h5)]
    · rw [if_neg h5]
      obtain ⟨h1, ⟨l, hl, el⟩, h2, -⟩ := (hG.2.2.1 m (by omega)).resolve_left h5
      refine sl_upd (i := l) ?_ 64 hl (fun k hk hne => ?_)
      · rw [lm, if_pos ⟨h5, el⟩]
        obtain ⟨i1, i2⟩ := lm_in hG (x := nI l) m (by omega)
        obtain ⟨j1, j2⟩ := lm_in hG (x := nI l) (m + 1) hm
        have wk : wt σ m = (σ.1 2 m).toInt := by unfold wt; rw [if_neg h5]
        have hs : smZ (wt σ) (m + 1) = smZ (wt σ) m + wt σ m := rfl
        have hms := hG.ms (i := m) (by omega) h1
        have hle : smZ (wt σ) m + wt σ m ≤ 800000 := by
          have hall := (smZ_ge (f := wt σ) 80 (fun j hj => wt_ge (hG.2.2.1 j hj)))
          have h80 := smZ_mono (f := wt σ) (k := m + 1) (fun j hj => wt_ge (hG.2.2.1 j hj)) 80 hm (Nat.le_refl _)
          obtain ⟨-, hn, -, -, hsum, hr, he, hp, -⟩ := hG
          omega
        rw [i64_add i1 (by omega) (by omega), Int64.add_mul]
        unfold car
        rw [el]
      · rw [lm, if_neg (fun q => hne ?_)]
        have := q.2
        rw [el, nI_ne l hl k hk] at this
        exact this.symm
theorem l_byLanes {b : Nat} {τ : Sg} {g : Nat → Int32} (hg : ∀ k, k < 64 → τ.1 17 k = g k) : ∀ f i, i ≤ 64 → 64 < i + f → f_X7_momentumByLanes_L15 f b (sl (fun x => (g x).toInt64 * (nI x + (20 : Int32)).toInt64) i) (nI i) (memC b τ) = some (memC b τ, sl (fun x => (g x).toInt64 * (nI x + (20 : Int32)).toInt64) 64) := by
  intro f
  induction f with
  | zero => intro i h1 h2; omega
  | succ f ih =>
    intro i h1 h2
    show f_X7_momentumByLanes_b15 (f_X7_momentumByLanes_L15 f) b _ (nI i) _ = _
    rcases Nat.lt_or_ge i 64 with hi | hi
    · have hle := nle_t hi (by decide)
      rw [show nI 64 = (64 : Int32) from rfl] at hle
      rw [← ih (i + 1) (by omega) (by omega)]
      simp only [f_X7_momentumByLanes_b15, hle, hi, hg i hi, e_X7_radiusOf, nI_1, sl, gd, lt_, rd, bd, ↓reduceIte, eq_self, and_self, true_and, and_true, not_false_eq_true, vi_t, cl_6, cl_20, cl_21, cl_40, cl_64, cl_80, cl_1280, Nat.reduceLT, tn_0, true_or, or_true, ab_f, xB_k, xB_r0, xB_r1, xB_r3, xB_r5, xB_r8, xB_r9, xB_r10, xB_i2, xB_i2_s, xB_i4, xB_i4_s, xB_i6, xB_i6_s, xB_i7, xB_i7_s, xH_k, xH_r0, xH_r1, xH_r2, xH_i3, xH_i3_s, xH_i4, xH_i4_s, xH_i5, xH_i5_s, xH_i6, xH_i6_s, xP_k, xP_i0, xP_i0_s, xL_k, xL_i0, xL_i0_s, xL_i1, xL_i1_s, xL_i2, xL_i2_s, xL_i3, xL_i3_s, xL_i4, xL_i4_s, xL_i5, xL_i5_s, xL_i6, xL_i6_s, xL_i7, xL_i7_s, xL_l8, xL_l8_s, xL_l9, xL_l9_s, xL_l10, xL_l10_s, xL_l11, xL_l11_s, xL_l12, xL_l12_s, xA_k, xA_n, xA_rk, xG_k, xG_i0, xG_i0_s, xG_i1, xG_i1_s, xG_i2, xG_i2_s, xG_i3, xG_i3_s, xG_i4, xG_i4_s, xG_i5, xG_i5_s, xG_i6, xG_i6_s, xMA_k, xMA_n, xMA_rk, xM_k, xM_i0, xM_i0_s, xM_i1, xM_i1_s, xM_i2, xM_i2_s, xFA_k, xFA_n, xFA_rk, xF_k, xF_r0, xF_i1, xF_i1_s, xFm_k, xFm_n, xFm_ik, xFm_ik_s, xCA_k, xCA_n, xCA_rk, xC_k, xC_i0, xC_i0_s, xC_i1, xC_i1_s, xC_i2, xC_i2_s, xC_i3, xC_i3_s, xW_k, xW_n, xW_ik, xW_ik_s, x1_k, x1_n, x1_ik, x1_ik_s, x2_k, x2_n, x2_ik, x2_ik_s, C_no20, C_no21, C_no22]
    · obtain rfl : i = 64 := (by omega)
      have h64 : ((64 : Int32) ≤ nI 64) = True := eq_true (by decide)
      simp only [f_X7_momentumByLanes_b15, h64, ↓reduceIte]
