/-! ===== PURE: the masses of lanes ===== -/
def lm (σ : Sg) (x : Int32) : Nat → Int32
  | 0 => 0
  | k + 1 => if ¬ σ.1 5 k = 0 ∧ σ.1 0 k = x then lm σ x k + σ.1 2 k else lm σ x k
theorem lm_congr {σ τ : Sg} (h : ∀ k, τ.1 0 k = σ.1 0 k ∧ τ.1 2 k = σ.1 2 k ∧ τ.1 5 k = σ.1 5 k) {x : Int32} : ∀ n, lm τ x n = lm σ x n := by
  intro n
  induction n with
  | zero => rfl
  | succ n ih =>
    obtain ⟨h0, h2, h5⟩ := h n
    show (if _ then lm τ x n + τ.1 2 n else lm τ x n) = if _ then lm σ x n + σ.1 2 n else lm σ x n
    rw [ih, h0, h2, h5]
theorem lm_end {nn : Nat} {σ : Sg} (hG : InvG nn σ) {x : Int32} : ∀ k, nn ≤ k → k ≤ 80 → lm σ x k = lm σ x nn := by
  intro k
  induction k with
  | zero =>
    intro h1 h2
    obtain rfl : nn = 0 := (by omega)
    rfl
  | succ k ih =>
    intro h1 h2
    rcases Nat.lt_or_ge k nn with h | h
    · obtain rfl : nn = k + 1 := (by omega)
      rfl
    · rw [lm, if_neg (fun q => q.1 (hG.2.2.2.1 k h (by omega)))]
      exact ih h (by omega)
def tW (σ : Sg) (C o m : Nat) : Sg := (fun c k => if c = C ∧ o ≤ k ∧ k < o + 64 then lm σ (nI (k - o)) m else σ.1 c k, σ.2)
def tZ (σ : Sg) (C o j : Nat) : Sg := (fun c k => if c = C ∧ o ≤ k ∧ k < o + j then 0 else σ.1 c k, σ.2)
theorem tZ_0 {σ : Sg} {C o : Nat} : tZ σ C o 0 = σ := Sg_ext (fun c k => if_neg (by omega)) (fun _ => rfl)
theorem tZ_64 {σ : Sg} {C o : Nat} : tZ σ C o 64 = tW σ C o 0 := rfl
theorem tZ_s {σ : Sg} {C o j : Nat} : sI (tZ σ C o j) C (o + j) 0 = tZ σ C o (j + 1) := by
  refine Sg_ext (fun c k => ?_) (fun _ => rfl)
  simp only [sI_1, tZ]
  grind
theorem nI_ne : ∀ a : Nat, a < 64 → ∀ c : Nat, c < 64 → (nI a = nI c ↔ a = c) := by decide +kernel
theorem tW_c {σ : Sg} {C o m c k : Nat} (h : c ≠ C) : (tW σ C o m).1 c k = σ.1 c k := if_neg (fun q => h q.1)
theorem tZ_c {σ : Sg} {C o m c k : Nat} (h : c ≠ C) : (tZ σ C o m).1 c k = σ.1 c k := if_neg (fun q => h q.1)
theorem tW_at {σ : Sg} {C o m k : Nat} (h : k < 64) : (tW σ C o m).1 C (o + k) = lm σ (nI k) m := by
  show (if _ then _ else _) = _
  rw [if_pos ⟨rfl, by omega, by omega⟩, show o + k - o = k by omega]
theorem tW_z {σ : Sg} {C o m : Nat} (h : σ.1 5 m = 0) : tW σ C o (m + 1) = tW σ C o m := by
  refine Sg_ext (fun c k => ?_) (fun _ => rfl)
  simp only [tW, lm, h, not_true_eq_false, false_and, if_false]
theorem tW_s {σ : Sg} {C o m l : Nat} (h : ¬ σ.1 5 m = 0) (hl : l < 64) (h0 : σ.1 0 m = nI l) : sI (tW σ C o m) C (o + l) (lm σ (nI l) m + σ.1 2 m) = tW σ C o (m + 1) := by
  refine Sg_ext (fun c k => ?_) (fun _ => rfl)
  simp only [sI_1, tW, lm, h, h0, not_false_eq_true, true_and]
  by_cases hc : c = C ∧ k = o + l
  · rw [if_pos hc, if_pos ⟨hc.1, by omega, by omega⟩, show k - o = l by omega, if_pos rfl]
  · rw [if_neg hc]
    by_cases hk : c = C ∧ o ≤ k ∧ k < o + 64
    · rw [if_pos hk, if_pos hk, if_neg]
      rw [nI_ne l hl (k - o) (by omega)]
      omega
    · rw [if_neg hk, if_neg hk]
/-- a row of 64 numbers in the class's memory -/
def RowC (b A C o : Nat) : Prop := (∀ σ, (memC b σ).1 A = 9 ∧ mm_N (memC b σ) A = 64) ∧ ∀ σ k, k < 64 → mm_i (memC b σ) A k = σ.1 C (o + k) ∧ ∀ v, ms_i (memC b σ) A k v = memC b (sI σ C (o + k) v)
theorem rowW {b : Nat} : RowC b (xW b) 17 0 := ⟨fun σ => ⟨xW_k, xW_n⟩, fun σ k hk => ⟨by rw [xW_ik hk, Nat.zero_add], fun v => by rw [xW_ik_s hk, Nat.zero_add]⟩⟩
theorem rowF {b f : Nat} (hf : f < 20) : RowC b (xFm b f) 12 (64 * f) := ⟨fun σ => ⟨xFm_k hf, xFm_n hf⟩, fun σ k hk => ⟨xFm_ik hf hk, fun v => xFm_ik_s hf hk⟩⟩
theorem lt0_f : ∀ l : Nat, l < 64 → (nI l < 0) = False ∧ ((64 : Int32) ≤ nI l) = False ∧ nI 64 = (64 : Int32) := fun l hl => ⟨eq_false (by
  rw [Int32.lt_iff_toInt_lt, ln_all l hl]
  show ¬ _ < (0 : Int)
  omega), eq_false (by
  rw [Int32.le_iff_toInt_le, ln_all l hl]
  show ¬ (64 : Int) ≤ _
  omega), rfl⟩
theorem l_weigh29 {b A C o nn : Nat} {σ : Sg} (hG : InvG nn σ) (hR : RowC b A C o) (hC : C ≠ 0 ∧ C ≠ 2 ∧ C ≠ 5) : ∀ f i, i ≤ 80 → 80 < i + f → f_X3_weighLanes_L29 f A (xA b) (nI 80) (nI i) (memC b (tW σ C o i)) = some (memC b (tW σ C o 80)) := by
  intro f
  induction f with
  | zero => intro i h1 h2; omega
  | succ f ih =>
    intro i h1 h2
    show f_X3_weighLanes_b29 (f_X3_weighLanes_L29 f) A (xA b) (nI 80) (nI i) _ = _
    rcases Nat.lt_or_ge i 80 with hi | hi
    · have hle := nle_t hi (by decide)
      have c5 := tW_c (σ := σ) (C := C) (o := o) (m := i) (c := 5) (k := i) (fun e => hC.2.2 e.symm)
      have c0 := tW_c (σ := σ) (C := C) (o := o) (m := i) (c := 0) (k := i) (fun e => hC.1 e.symm)
      have c2 := tW_c (σ := σ) (C := C) (o := o) (m := i) (c := 2) (k := i) (fun e => hC.2.1 e.symm)
      by_cases h5 : σ.1 5 i = 0
      · simp only [f_X3_weighLanes_b29, f_X3_weighLanes_b82, hle, hi, c5, h5, nI_1, gd, lt_, rd, bd, ↓reduceIte, eq_self, and_self, true_and, and_true, not_false_eq_true, vi_t, cl_6, cl_20, cl_21, cl_40, cl_64, cl_80, cl_1280, Nat.reduceLT, tn_0, true_or, or_true, ab_f, xA_k, xA_n, xA_rk, xG_k, xG_i5]
        rw [← tW_z h5]
        exact ih (i + 1) (by omega) (by omega)
      · obtain ⟨l, hl, el⟩ := ((hG.okG i hi).resolve_left h5).2
        obtain ⟨q1, q2, q3⟩ := lt0_f l hl
        obtain ⟨r1, r2⟩ := hR.1 (tW σ C o i)
        obtain ⟨r3, r4⟩ := hR.2 (tW σ C o i) l hl
        have r3' : mm_i (memC b (tW σ C o i)) A l = lm σ (nI l) i := r3.trans (tW_at hl)
        simp only [f_X3_weighLanes_b29, f_X3_weighLanes_b82, hle, hi, hl, c5, h5, c0, c2, el, q1, q2, q3, r1, r2, r3', r4, nI_1, gd, lt_, rd, bd, ↓reduceIte, eq_self, and_self, true_and, and_true, not_false_eq_true, vi_t, cl_6, cl_20, cl_21, cl_40, cl_64, cl_80, cl_1280, Nat.reduceLT, tn_0, true_or, or_true, ab_f, xA_k, xA_n, xA_rk, xG_k, xG_i5, xG_i0, xG_i2]
        rw [tW_s h5 hl el]
        exact ih (i + 1) (by omega) (by omega)
    · obtain rfl : i = 80 := (by omega)
      simp only [f_X3_weighLanes_b29, Int32.le_refl, ↓reduceIte]
theorem l_weigh2 {b A C o nn : Nat} {σ : Sg} (hG : InvG nn σ) (hR : RowC b A C o) (hC : C ≠ 0 ∧ C ≠ 2 ∧ C ≠ 5) : ∀ f j, j ≤ 64 → 64 < j + f → f_X3_weighLanes_L2 f (xH b) A (nI j) (memC b (tZ σ C o j)) = some (memC b (tW σ C o 80)) := by
  intro f
  induction f with
  | zero => intro i h1 h2; omega
  | succ f ih =>
    intro j h1 h2
    show f_X3_weighLanes_b2 (f_X3_weighLanes_L2 f) (xH b) A (nI j) _ = _
    obtain ⟨r1, r2⟩ := hR.1 (tZ σ C o j)
    rcases Nat.lt_or_ge j 64 with hj | hj
    · have hle := nle_t hj (by decide)
      obtain ⟨r3, r4⟩ := hR.2 (tZ σ C o j) j hj
      simp only [f_X3_weighLanes_b2, hle, hj, r1, r2, r4, nI_1, gd, lt_, rd, bd, ↓reduceIte, eq_self, and_self, true_and, and_true, not_false_eq_true, vi_t, cl_6, cl_20, cl_21, cl_40, cl_64, cl_80, cl_1280, Nat.reduceLT, tn_0, true_or, or_true, ab_f]
      rw [tZ_s]
      exact ih (j + 1) (by omega) (by omega)
    · obtain rfl : j = 64 := (by omega)
      simp only [f_X3_weighLanes_b2, Int32.le_refl, r1, r2, gd, lt_, rd, bd, ↓reduceIte, eq_self, and_self, true_and, and_true, not_false_eq_true, vi_t, cl_6, cl_20, cl_21, cl_40, cl_64, cl_80, cl_1280, Nat.reduceLT, tn_0, true_or, or_true, ab_f, xH_k, xH_r2, xA_k, xA_n]
      exact l_weigh29 hG hR hC 200 0 (by omega) (by omega)
theorem e_weigh {b A C o nn : Nat} {σ : Sg} (hG : InvG nn σ) (hR : RowC b A C o) (hC : C ≠ 0 ∧ C ≠ 2 ∧ C ≠ 5) : f_X3_weighLanes (xH b) A (memC b σ) = some (memC b (tW σ C o 80)) := by
  rw [← l_weigh2 hG hR hC 200 0 (by omega) (by omega), tZ_0]
  rfl
theorem Qs.tw {σ : Sg} {o m : Nat} : Qs σ (tW σ 17 o m) := ⟨fun c k hc => tW_c hc.1, fun _ _ => rfl⟩
