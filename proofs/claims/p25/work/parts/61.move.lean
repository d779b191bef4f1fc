/-! ===== PURE: the law's tick: grains and moons go round ===== -/
theorem gk_1 {α : Type} {g : Option α} : gk True g = g := gk_t trivial
theorem z01 : ((0 : Int32) = 1) = False := eq_false (by decide)
theorem c_r6 {σ : Sg} {g m h c k : Nat} (hc : c ≠ 6 ∧ c ≠ 1 ∧ c ≠ 22 ∧ c ≠ 8) : (tR6 (tMv σ g m) h).1 c k = σ.1 c k := by rw [tR6_c hc.1, tMv_c hc.2]
theorem spd_r6 {σ : Sg} {g m h : Nat} {x : Int32} : spd (tR6 (tMv σ g m) h) x = spd σ x := by
  unfold spd
  rw [c_r6 (by decide)]
theorem zM_1 {d i : Nat} {σ : Sg} (h : ¬ σ.1 5 i = 0) : memM d (sI (sI (tR6 (tMv σ i 0) i) 1 i (trn (σ.1 1 i) (spd σ (σ.1 0 i)))) 6 i 0) = memM d (tR6 (tMv σ (i + 1) 0) (i + 1)) := by
  refine memM_congr (fun c k hc => ?_) (fun k h1 h2 => ?_) <;> simp only [sI_1, tR6, tMv] <;> grind (splits := 40)
theorem zM_0 {d i : Nat} {σ : Sg} (h : σ.1 5 i = 0) : memM d (sI (tR6 (tMv σ i 0) i) 6 i 0) = memM d (tR6 (tMv σ (i + 1) 0) (i + 1)) := by
  refine memM_congr (fun c k hc => ?_) (fun k h1 h2 => ?_) <;> simp only [sI_1, tR6, tMv] <;> grind (splits := 40)
section M1
variable {b d nn mm nc ns L : Nat} {xs : Nat → Int32} {σ : Sg} {M : Mem} {a1 a2 a3 : Int64} {n18 w19 w20 w21 w22 w24 : Int32}
theorem s_646 {i : Nat} {k281 : _} {k646 : _} (hb : nc ≤ 600104 ∧ ns ≤ 7301314) (hG : InvG nn σ) (hn : nn ≤ 64) (hi : i < nn) :
    f_L_law_b646 L xs k281 k646 b (yLa d) (yAn d) (yMa d) (yUn d) (yDa d) (yTh d) (yHm d) (yC d) (yM d) a1 a2 a3 (nI nn) n18 w19 w20 w21 w22 w24 (nI i) M (memM d (tR6 (tMv σ i 0) i)) nc ns = k646 b (yLa d) (yAn d) (yMa d) (yUn d) (yDa d) (yTh d) (yHm d) (yC d) (yM d) a1 a2 a3 (nI nn) n18 w19 w20 w21 w22 w24 (nI (i + 1)) M (memM d (tR6 (tMv σ (i + 1) 0) (i + 1))) nc ns := by
  have hle := nle_t hi (by omega)
  have hi6 : i < 64 := by omega
  have c5 := c_r6 (σ := σ) (g := i) (m := 0) (h := i) (c := 5) (k := i) (by decide)
  have c0 := c_r6 (σ := σ) (g := i) (m := 0) (h := i) (c := 0) (k := i) (by decide)
  have c1 : (tR6 (tMv σ i 0) i).1 1 i = σ.1 1 i := (tR6_c (by decide)).trans (tMv_1 (Nat.le_refl i))
  rcases hG.okG i (by omega) with h5 | ⟨h5, l0⟩
  · have e := zM_0 (d := d) h5
    simp only [f_L_law_b646, f_L_law_b683, hle, hi6, c5, h5, z01, nI_1, gd, lt_, rd, bd, ↓reduceIte, eq_self, and_self, true_and, and_true, not_false_eq_true, vi_t, cl_6, cl_20, cl_21, cl_40, cl_64, cl_80, cl_1280, Nat.reduceLT, tn_0, true_or, or_true, ab_f, yLa_k, yLa_n, yLa_ik, yLa_ik_s, yAn_k, yAn_n, yAn_ik, yAn_ik_s, yMa_k, yMa_n, yMa_ik, yMa_ik_s, yUn_k, yUn_n, yUn_ik, yUn_ik_s, yDa_k, yDa_n, yDa_ik, yDa_ik_s, yTh_k, yTh_n, yTh_ik, yTh_ik_s, yHm_k, yHm_n, yHm_ik, yHm_ik_s, yC_k, yC_n, yC_i1, yC_i1_s, yC_i2, yC_i2_s, yC_i3, yC_i3_s, yC_i4, yC_i4_s, yC_i5, yC_i5_s, yC_i6, yC_i6_s, yC_i7, yC_i7_s, yC_i8, yC_i8_s, yC_i9, yC_i9_s, yM_k, yM_n, yM_m0, yM_m0_s, yM_m1, yM_m1_s, yM_m2, yM_m2_s, M_no11, M_no12, M_no13, M_no14, M_no15, M_no16, M_no17, M_no18, M_no19, M_no20, M_no21, M_no22, M_nl0, M_nl1, M_nl2, M_nl3, M_nl4, M_nl5]
    rw [e]
  · have e := zM_1 (d := d) (show ¬ σ.1 5 i = 0 by rw [h5]; decide)
    unfold trn at e
    simp only [f_L_law_b646, f_L_law_b683, hle, hi6, hb, c5, h5, c0, c1, e_L_speed l0, spd_r6, gk_1, bd_s, nI_1, gd, lt_, ↓reduceIte, eq_self, and_self, true_and, and_true, not_false_eq_true, vi_t, cl_64, Nat.reduceLT, yLa_k, yLa_n, yLa_ik, yLa_ik_s, yAn_k, yAn_n, yAn_ik, yAn_ik_s, yMa_k, yMa_n, yMa_ik, yMa_ik_s, yUn_k, yUn_n, yUn_ik, yUn_ik_s, yDa_k, yDa_n, yDa_ik, yDa_ik_s, yTh_k, yTh_n, yTh_ik, yTh_ik_s, yHm_k, yHm_n, yHm_ik, yHm_ik_s, yC_k, yC_n, yC_i1, yC_i1_s, yC_i2, yC_i2_s, yC_i3, yC_i3_s, yC_i4, yC_i4_s, yC_i5, yC_i5_s, yC_i6, yC_i6_s, yC_i7, yC_i7_s, yC_i8, yC_i8_s, yC_i9, yC_i9_s, yM_k, yM_n, yM_m0, yM_m0_s, yM_m1, yM_m1_s, yM_m2, yM_m2_s, M_no11, M_no12, M_no13, M_no14, M_no15, M_no16, M_no17, M_no18, M_no19, M_no20, M_no21, M_no22, M_nl0, M_nl1, M_nl2, M_nl3, M_nl4, M_nl5]
    rw [e]
theorem l_646 {k281 : _} (hb : nc ≤ 600104 ∧ ns ≤ 7301314) (hG : InvG nn σ) (hn : nn ≤ 64) : ∀ f i, i ≤ nn → nn < i + f →
    f_L_law_L646 L xs k281 f b (yLa d) (yAn d) (yMa d) (yUn d) (yDa d) (yTh d) (yHm d) (yC d) (yM d) a1 a2 a3 (nI nn) n18 w19 w20 w21 w22 w24 (nI i) M (memM d (tR6 (tMv σ i 0) i)) nc ns = f_L_law_L698 L xs k281 200 b (yLa d) (yAn d) (yMa d) (yUn d) (yDa d) (yTh d) (yHm d) (yC d) (yM d) a1 a2 a3 (nI nn) n18 w19 w20 w21 w22 w24 (nI 0) M (memM d (tR6 (tMv σ nn 0) nn)) nc ns := by
  intro f
  induction f with
  | zero => intro i h1 h2; omega
  | succ f ih =>
    intro i h1 h2
    show f_L_law_b646 L xs k281 (f_L_law_L646 L xs k281 f) _ _ _ _ _ _ _ _ _ _ _ _ _ _ _ _ _ _ _ _ (nI i) _ _ _ _ = _
    rcases Nat.lt_or_ge i nn with hi | hi
    · rw [s_646 hb hG hn hi]
      exact ih (i + 1) (by omega) (by omega)
    · obtain rfl : i = nn := by omega
      simp only [f_L_law_b646, Int32.le_refl, ↓reduceIte]
      rfl
/-! the moons -/
theorem m3 {k : Nat} : (3 : Int32) * nI k = nI (3 * k) := pk_mul 3 k
theorem nI_2 (k : Nat) : nI k + (2 : Int32) = nI (k + 2) := nI_add k 2
theorem zM_m {d j nn : Nat} {σ : Sg} : memM d (sI (tR6 (tMv σ nn j) nn) 8 j (trn (σ.1 8 j) (spd σ (σ.1 7 j)))) = memM d (tR6 (tMv σ nn (j + 1)) nn) := by
  rw [← tMv_moon]
  refine memM_congr (fun c k hc => ?_) (fun k h1 h2 => ?_) <;> simp only [sI_1, tR6] <;> grind (splits := 40)
theorem s_698 {j : Nat} {k281 : _} {k698 : _} (hb : nc ≤ 600104 ∧ ns ≤ 7301314) (hM : InvM mm σ) (hm : mm ≤ 5) (hj : j < mm) :
    f_L_law_b698 L xs k281 k698 b (yLa d) (yAn d) (yMa d) (yUn d) (yDa d) (yTh d) (yHm d) (yC d) (yM d) a1 a2 a3 (nI nn) (nI mm) w19 w20 w21 w22 w24 (nI j) M (memM d (tR6 (tMv σ nn j) nn)) nc ns = k698 b (yLa d) (yAn d) (yMa d) (yUn d) (yDa d) (yTh d) (yHm d) (yC d) (yM d) a1 a2 a3 (nI nn) (nI mm) w19 w20 w21 w22 w24 (nI (j + 1)) M (memM d (tR6 (tMv σ nn (j + 1)) nn)) nc ns := by
  have hle := nle_t hj (by omega)
  have hj5 : j < 5 := by omega
  have h0 : 3 * j < 16 := by omega
  have h1 : 3 * j + 1 < 16 := by omega
  have c7 := c_r6 (σ := σ) (g := nn) (m := j) (h := nn) (c := 7) (k := j) (by decide)
  have c8 : (tR6 (tMv σ nn j) nn).1 8 j = σ.1 8 j := (tR6_c (by decide)).trans (tMv_8 (Nat.le_refl j))
  have l7 := (hM.2.2 j hj).1
  have e := zM_m (d := d) (j := j) (nn := nn) (σ := σ)
  unfold trn at e
  simp only [f_L_law_b698, hle, hj5, h0, h1, hb, m3, c7, c8, e_L_speed l7, spd_r6, gk_1, bd_s, nI_1, yM_k, yM_n, yM_m0, yM_m1, yM_m1_s, gd, lt_, ↓reduceIte, eq_self, and_self, true_and, and_true, not_false_eq_true, vi_t, cl_16, Nat.reduceLT]
  rw [e]
theorem l_698 {k281 : _} (hb : nc ≤ 600104 ∧ ns ≤ 7301314) (hM : InvM mm σ) (hm : mm ≤ 5) : ∀ f j, j ≤ mm → mm < j + f →
    f_L_law_L698 L xs k281 f b (yLa d) (yAn d) (yMa d) (yUn d) (yDa d) (yTh d) (yHm d) (yC d) (yM d) a1 a2 a3 (nI nn) (nI mm) w19 w20 w21 w22 w24 (nI j) M (memM d (tR6 (tMv σ nn j) nn)) nc ns = f_L_law_L748 L xs k281 200 b (yLa d) (yAn d) (yMa d) (yUn d) (yDa d) (yTh d) (yHm d) (yC d) (yM d) a1 a2 a3 (nI nn) (nI mm) w19 w20 w21 w22 w24 (nI 0) M (memM d (tR6 (tMv σ nn mm) nn)) nc ns := by
  intro f
  induction f with
  | zero => intro i h1 h2; omega
  | succ f ih =>
    intro j h1 h2
    show f_L_law_b698 L xs k281 (f_L_law_L698 L xs k281 f) _ _ _ _ _ _ _ _ _ _ _ _ _ _ _ _ _ _ _ _ (nI j) _ _ _ _ = _
    rcases Nat.lt_or_ge j mm with hj | hj
    · rw [s_698 hb hM hm hj]
      exact ih (j + 1) (by omega) (by omega)
    · obtain rfl : j = mm := by omega
      simp only [f_L_law_b698, Int32.le_refl, ↓reduceIte]
      rfl
end M1
