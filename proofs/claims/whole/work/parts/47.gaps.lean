/-! ===== PURE: gaps ===== -/
/-- is lane x held by one of the first n grains -/
def oc (σ : Sg) (x : Nat) : Nat → Bool
  | 0 => false
  | k + 1 => if oc σ x k = true then true else if σ.1 5 k = 0 then false else if σ.1 0 k = nI x then true else false
theorem oc_up {σ : Sg} {x k : Nat} (h : oc σ x k = true) : ∀ m, k ≤ m → oc σ x m = true := by
  intro m
  induction m with
  | zero =>
    intro h1
    obtain rfl : k = 0 := (by omega)
    exact h
  | succ m ih =>
    intro h1
    rcases Nat.lt_or_ge m k with h2 | h2
    · obtain rfl : k = m + 1 := (by omega)
      exact h
    · rw [oc, if_pos (ih h2)]
theorem oc_end {nn : Nat} {σ : Sg} (hG : InvG nn σ) {x : Nat} : oc σ x 80 = oc σ x nn := to_end 80 (fun j h1 h2 => by
  rw [oc, if_pos (hG.2.2.2.1 j h1 h2)]
  split
  · rename_i h; exact h.symm
  · rename_i h; cases e : oc σ x j
    · rfl
    · exact absurd e h) hG.2.1
theorem oc_lm {nn : Nat} {σ : Sg} (hG : InvG nn σ) {x : Nat} : ∀ n, n ≤ 80 → (oc σ x n = false → lm σ (nI x) n = 0) ∧ (oc σ x n = true → 1 ≤ (lm σ (nI x) n).toInt) := by
  intro n
  induction n with
  | zero => intro _; exact ⟨fun _ => rfl, fun h => by cases h⟩
  | succ n ih =>
    intro hn
    obtain ⟨i1, i2⟩ := ih (by omega)
    have hl := lm_in hG (x := nI x) n (by omega)
    have hl1 := lm_in hG (x := nI x) (n + 1) hn
    have h80 := smZ_mono (f := wt σ) (k := n + 1) (fun j hj => wt_ge (hG.2.2.1 j hj)) 80 hn (Nat.le_refl _)
    have hs : smZ (wt σ) (n + 1) = smZ (wt σ) n + wt σ n := rfl
    obtain ⟨-, hnn, -, -, hsum, hr, he, hp, -⟩ := id hG
    by_cases c : ¬ σ.1 5 n = 0 ∧ σ.1 0 n = nI x
    · have ot : oc σ x (n + 1) = true := by
        rw [oc]
        by_cases h : oc σ x n = true
        · rw [if_pos h]
        · rw [if_neg h, if_neg c.1, if_pos c.2]
      refine ⟨fun q => (by rw [ot] at q; cases q), fun _ => ?_⟩
      obtain ⟨-, -, m1, -⟩ := (hG.2.2.1 n (by omega)).resolve_left c.1
      have wn : wt σ n = (σ.1 2 n).toInt := by unfold wt; rw [if_neg c.1]
      rw [lm, if_pos c, i32_add hl.1 (by omega) (by omega)]
      omega
    · have oe : oc σ x (n + 1) = oc σ x n := by
        rw [oc]
        by_cases h : oc σ x n = true
        · rw [if_pos h, h]
        · rw [if_neg h]
          cases e : oc σ x n
          · by_cases h5 : σ.1 5 n = 0
            · rw [if_pos h5]
            · rw [if_neg h5, if_neg (fun q => c ⟨h5, q⟩)]
          · exact absurd e h
      rw [oe, lm, if_neg c]
      exact ⟨i1, i2⟩
theorem lm_le0 {nn : Nat} {σ : Sg} (hG : InvG nn σ) {x : Nat} : (lm σ (nI x) 80 ≤ 0) = ¬ oc σ x 80 = true := by
  obtain ⟨h1, h2⟩ := oc_lm hG (x := x) 80 (Nat.le_refl _)
  rw [Int32.le_iff_toInt_le]
  have e0 : (0 : Int32).toInt = 0 := rfl
  cases e : oc σ x 80
  · rw [h1 e]
    exact propext ⟨fun _ q => (by cases q), fun _ => Int.le_refl _⟩
  · have := h2 e
    exact propext ⟨fun q => (by omega), fun q => absurd rfl q⟩
theorem l_isEmpty {b nn x : Nat} {σ : Sg} (hn : σ.1 10 0 = nI nn) (hnn : nn ≤ 80) : ∀ g i, i ≤ nn → 80 < i + g → f_X8_isEmpty_L4 g b (nI x) (if oc σ x i = true then 0 else 1) (nI i) (memM b σ) = some (memM b σ, if oc σ x nn = true then 0 else 1) := by
  intro g
  induction g with
  | zero => intro i h1 h2; omega
  | succ g ih =>
    intro i h1 h2
    show f_X8_isEmpty_b4 (f_X8_isEmpty_L4 g) b (nI x) _ (nI i) _ = _
    rcases Nat.lt_or_ge i nn with hi | hi
    · have hle := nle_t hi (by omega)
      have hi8 : i < 80 := by omega
      rw [← ih (i + 1) (by omega) (by omega), oc]
      by_cases h : oc σ x i = true
      · simp only [f_X8_isEmpty_b4, f_X8_isEmpty_b39, f_X8_isEmpty_b40, hn, hle, h, nI_1, gd, lt_, yB_k, yB_i6, ↓reduceIte]
      · have z1 : ((1 : Int32) = 0) = False := z_10
        by_cases h5 : σ.1 5 i = 0
        · simp only [f_X8_isEmpty_b4, f_X8_isEmpty_b35, f_X8_isEmpty_b39, f_X8_isEmpty_b40, hn, hle, h, h5, z1, hi8, nI_1, gd, lt_, rd, bd, ↓reduceIte, eq_self, and_self, true_and, and_true, not_false_eq_true, vi_t, cl_6, cl_20, cl_21, cl_40, cl_64, cl_80, cl_1280, Nat.reduceLT, tn_0, true_or, or_true, ab_f, yB_k, yB_i6, yB_r7, yB_r12, yTh_k, yTh_n, yTh_ik, yLa_k, yLa_n, yLa_ik]
          rfl
        · by_cases h0 : σ.1 0 i = nI x
          · simp only [f_X8_isEmpty_b4, f_X8_isEmpty_b35, f_X8_isEmpty_b39, f_X8_isEmpty_b40, hn, hle, h, h5, h0, z1, hi8, nI_1, gd, lt_, rd, bd, ↓reduceIte, eq_self, and_self, true_and, and_true, not_false_eq_true, vi_t, cl_6, cl_20, cl_21, cl_40, cl_64, cl_80, cl_1280, Nat.reduceLT, tn_0, true_or, or_true, ab_f, yB_k, yB_i6, yB_r7, yB_r12, yTh_k, yTh_n, yTh_ik, yLa_k, yLa_n, yLa_ik]
            rfl
          · simp only [f_X8_isEmpty_b4, f_X8_isEmpty_b35, f_X8_isEmpty_b39, f_X8_isEmpty_b40, hn, hle, h, h5, h0, z1, hi8, nI_1, gd, lt_, rd, bd, ↓reduceIte, eq_self, and_self, true_and, and_true, not_false_eq_true, vi_t, cl_6, cl_20, cl_21, cl_40, cl_64, cl_80, cl_1280, Nat.reduceLT, tn_0, true_or, or_true, ab_f, yB_k, yB_i6, yB_r7, yB_r12, yTh_k, yTh_n, yTh_ik, yLa_k, yLa_n, yLa_ik]
            rfl
    · obtain rfl : i = nn := (by omega)
      by_cases h : oc σ x i = true
      · simp only [f_X8_isEmpty_b4, hn, h, Int32.le_refl, gd, yB_k, yB_i6, ↓reduceIte, true_or]
      · simp only [f_X8_isEmpty_b4, hn, h, Int32.le_refl, gd, yB_k, yB_i6, ↓reduceIte, or_true]
        rfl
theorem e_isEmpty {b nn x : Nat} {σ : Sg} (hG : InvG nn σ) : f_X8_isEmpty b (nI x) (memM b σ) = some (memM b σ, if oc σ x 80 = true then 0 else 1) := by
  rw [oc_end hG]
  exact l_isEmpty hG.1 hG.2.1 200 0 (by omega) (by omega)
/-- the gaps from lane x on, by the lanes that bound them; O says which lanes are held -/
def glA (v : Option Nat) (x : Nat) (L : List (Nat × Nat)) : List (Nat × Nat) := match v with | none => L | some p => if x - p ≤ 2 then L else (p, x) :: L
theorem glA_s {p x : Nat} {L : List (Nat × Nat)} : glA (some p) x L = if x - p ≤ 2 then L else (p, x) :: L := rfl
def gl (O : Nat → Bool) : Nat → Option Nat → Nat → List (Nat × Nat)
  | 0, _, _ => []
  | n + 1, v, x => if O x = true then glA v x (gl O n (some x) (x + 1)) else gl O n v (x + 1)
def VO (O : Nat → Bool) (v : Option Nat) (x : Nat) : Prop := match v with | none => True | some p => p < x ∧ ∀ y, p < y → y < x → ¬ O y = true
theorem gl_cases {O : Nat → Bool} : ∀ n v x, x + n = 64 → VO O v x → gl O n v x = [] ∨ ∃ p y, gl O n v x = (p, y) :: gl O (63 - y) (some y) (y + 1) ∧ p + 2 < y ∧ y < 64 ∧ x ≤ y ∧ O y = true ∧ ∀ z, p < z → z < y → ¬ O z = true := by
  intro n
  induction n with
  | zero => intro v x h1 h2; exact Or.inl rfl
  | succ n ih =>
    intro v x h1 h2
    rw [gl]
    by_cases h : O x = true
    · rw [if_pos h]
      have hs : VO O (some x) (x + 1) := ⟨by omega, fun y y1 y2 => by omega⟩
      have hr : ∀ {L}, L = gl O n (some x) (x + 1) → L = [] ∨ ∃ p y, L = (p, y) :: gl O (63 - y) (some y) (y + 1) ∧ p + 2 < y ∧ y < 64 ∧ x ≤ y ∧ O y = true ∧ ∀ z, p < z → z < y → ¬ O z = true := by
        intro L hL
        rw [hL]
        rcases ih (some x) (x + 1) (by omega) hs with q | ⟨p, y, q, q1, q2, q3, q4⟩
        · exact Or.inl q
        · exact Or.inr ⟨p, y, q, q1, q2, by omega, q4⟩
      cases v with
      | none => exact hr rfl
      | some p =>
        rw [glA_s]
        by_cases hp : x - p ≤ 2
        · rw [if_pos hp]
          exact hr rfl
        · rw [if_neg hp]
          refine Or.inr ⟨p, x, ?_, by omega, by omega, Nat.le_refl _, h, h2.2⟩
          rw [show 63 - x = n by omega]
    · rw [if_neg h]
      have hv : VO O v (x + 1) := by
        cases v with
        | none => trivial
        | some p => exact ⟨by have := h2.1; omega, fun y y1 y2 => by
            rcases Nat.lt_or_ge y x with hl | hl
            · exact h2.2 y y1 hl
            · obtain rfl : y = x := (by omega)
              exact h⟩
      rcases ih v (x + 1) (by omega) hv with q | ⟨p, y, q, q1, q2, q3, q4⟩
      · exact Or.inl q
      · exact Or.inr ⟨p, y, q, q1, q2, by omega, q4⟩
theorem VO_next {O : Nat → Bool} (y : Nat) : VO O (some y) (y + 1) := ⟨by omega, fun z z1 z2 => by omega⟩
/-! the reference's way -/
def hd (L : List (Nat × Nat)) : Int32 := match L with | [] => -1 | (p, _) :: _ => nI (p + 1)
theorem hd_n : hd [] = -1 := rfl
theorem hd_c (p y : Nat) (L : List (Nat × Nat)) : hd ((p, y) :: L) = nI (p + 1) := rfl
theorem nI_64 : ∀ m : Nat, m < 66 → ¬ nI m = -1 ∧ ¬ nI m < 0 ∧ (nI (m + 1) - 1 = nI m) := by decide +kernel
theorem tb_g : ∀ x : Nat, x < 64 → ∀ p : Nat, p < 64 → (p < x → (nI x - nI p ≤ 2 ↔ x - p ≤ 2)) := by decide +kernel
theorem l_gap35 {b nn : Nat} {σ : Sg} (hG : InvG nn σ) : ∀ n p x g, x + n = 64 → p < x → n < g → f_X8_gapFrom_L35 g b (nI p) (-1) (nI x) (memM b σ) = some (memM b σ, hd (gl (fun l => oc σ l 80) n (some p) x)) := by
  intro n
  induction n with
  | zero =>
    intro p x g h1 h2 h3
    obtain ⟨g, rfl⟩ : ∃ q, g = q + 1 := ⟨g - 1, by omega⟩
    obtain rfl : x = 64 := (by omega)
    show f_X8_gapFrom_b35 _ b (nI p) (-1) _ _ = _
    simp only [f_X8_gapFrom_b35, f_X8_gapFrom_b81, show ((64 : Int32) ≤ nI 64) = True from eq_true (by decide), if_true, gl, hd]
  | succ n ih =>
    intro p x g h1 h2 h3
    obtain ⟨g, rfl⟩ : ∃ q, g = q + 1 := ⟨g - 1, by omega⟩
    have hle := nle_t (show x < 64 by omega) (by decide)
    rw [show nI 64 = (64 : Int32) from rfl] at hle
    have ht := tb_g x (by omega) p (by omega) h2
    have z1 : ¬ (1 : Int32) = 0 := by decide
    show f_X8_gapFrom_b35 (f_X8_gapFrom_L35 g) b (nI p) (-1) _ _ = _
    rw [gl]
    simp only [f_X8_gapFrom_b35, f_X8_gapFrom_b71, f_X8_gapFrom_b75, f_X8_gapFrom_b81, hle, e_isEmpty hG, bd_s, gd, lt_, nI_1, yB_k, ↓reduceIte]
    by_cases h : oc σ x 80 = true
    · rw [if_pos h, if_pos rfl, if_pos h, glA_s]
      by_cases hp : x - p ≤ 2
      · rw [if_pos (ht.mpr hp), if_pos hp]
        exact ih x (x + 1) g (by omega) (by omega) (by omega)
      · rw [if_neg (fun q => hp (ht.mp q)), if_neg hp]
        obtain ⟨g, rfl⟩ : ∃ q, g = q + 1 := ⟨g - 1, by omega⟩
        show f_X8_gapFrom_b35 _ b _ _ _ _ = _
        simp only [f_X8_gapFrom_b35, f_X8_gapFrom_b81, (nI_64 (p + 1) (by omega)).1, if_false, hd]
        split <;> rfl
    · rw [if_neg h, if_neg z1, if_neg h]
      exact ih p (x + 1) g (by omega) (by omega) (by omega)
theorem s_gap28 {b nn y : Nat} {σ : Sg} (hG : InvG nn σ) (hy : y < 64) : f_X8_gapFrom_b28 b (nI y) (memM b σ) = some (memM b σ, hd (gl (fun l => oc σ l 80) (63 - y) (some y) (y + 1))) := by
  simp only [f_X8_gapFrom_b28, lt_, nI_1]
  exact l_gap35 hG (63 - y) y (y + 1) 200 (by omega) (by omega) (by omega)
theorem l_gap4 {b nn : Nat} {σ : Sg} (hG : InvG nn σ) : ∀ n x g, x + n = 64 → n < g → f_X8_gapFrom_L4 g b (nI x) (memM b σ) = some (memM b σ, hd (gl (fun l => oc σ l 80) n none x)) := by
  intro n
  induction n with
  | zero =>
    intro x g h1 h3
    obtain ⟨g, rfl⟩ : ∃ q, g = q + 1 := ⟨g - 1, by omega⟩
    obtain rfl : x = 64 := (by omega)
    show f_X8_gapFrom_b4 _ b _ _ = _
    simp only [f_X8_gapFrom_b4, f_X8_gapFrom_b28, show ((64 : Int32) ≤ nI 64) = True from eq_true (by decide), lt_, nI_1, if_true, gl, hd]
    show f_X8_gapFrom_b35 _ b _ _ _ _ = _
    simp only [f_X8_gapFrom_b35, f_X8_gapFrom_b81, show ((64 : Int32) ≤ nI (64 + 1)) = True from eq_true (by decide), if_true]
  | succ n ih =>
    intro x g h1 h3
    obtain ⟨g, rfl⟩ : ∃ q, g = q + 1 := ⟨g - 1, by omega⟩
    have hle := nle_t (show x < 64 by omega) (by decide)
    rw [show nI 64 = (64 : Int32) from rfl] at hle
    have z1 : ¬ (1 : Int32) = 0 := by decide
    show f_X8_gapFrom_b4 (f_X8_gapFrom_L4 g) b _ _ = _
    rw [gl]
    simp only [f_X8_gapFrom_b4, f_X8_gapFrom_b22, hle, (nI_64 x (by omega)).2.1, e_isEmpty hG, bd_s, gd, lt_, nI_1, yB_k, ↓reduceIte]
    by_cases h : oc σ x 80 = true
    · rw [if_pos h, if_pos rfl, if_pos h, s_gap28 hG (by omega), show 63 - x = n by omega]
      rfl
    · rw [if_neg h, if_neg z1, if_neg h]
      exact ih (x + 1) g (by omega) (by omega)
theorem e_gapFrom_L {b : Nat} {x : Int32} {M : Mem} : ∃ g, 70 < g ∧ f_X8_gapFrom b x M = f_X8_gapFrom_b4 (f_X8_gapFrom_L4 g) b (x - 1) M := by
  have h : ∃ g, 70 < g ∧ 200 = g + 1 := ⟨199, by omega, rfl⟩
  obtain ⟨g, h1, h2⟩ := h
  refine ⟨g, h1, ?_⟩
  unfold f_X8_gapFrom lt_
  rw [h2]
  rfl
theorem e_gapFrom0 {b nn : Nat} {σ : Sg} (hG : InvG nn σ) : f_X8_gapFrom b 0 (memM b σ) = some (memM b σ, hd (gl (fun l => oc σ l 80) 64 none 0)) := by
  obtain ⟨g, hg, e⟩ := e_gapFrom_L (b := b) (x := 0) (M := memM b σ)
  rw [e, ← l_gap4 hG 64 0 g rfl (by omega)]
  simp only [f_X8_gapFrom_b4, f_X8_gapFrom_b22, show ((64 : Int32) ≤ 0 - 1) = False from eq_false (by decide), show ((0 : Int32) - 1 < 0) = True from eq_true (by decide), lt_, if_true, if_false]
  rw [show (0 : Int32) - 1 + 1 = nI 0 by decide]
theorem e_gapFromN {b nn y : Nat} {σ : Sg} (hG : InvG nn σ) (hy : y < 64) (hO : oc σ y 80 = true) : f_X8_gapFrom b (nI (y + 1)) (memM b σ) = some (memM b σ, hd (gl (fun l => oc σ l 80) (63 - y) (some y) (y + 1))) := by
  have hle := nle_t hy (by decide)
  rw [show nI 64 = (64 : Int32) from rfl] at hle
  obtain ⟨g, hg, e⟩ := e_gapFrom_L (b := b) (x := nI (y + 1)) (M := memM b σ)
  rw [e, (nI_64 y (by omega)).2.2]
  simp only [f_X8_gapFrom_b4, hle, (nI_64 y (by omega)).2.1, e_isEmpty hG, hO, bd_s, gd, yB_k, ↓reduceIte]
  exact s_gap28 hG hy
theorem l_endOf {b nn y : Nat} {σ : Sg} (hG : InvG nn σ) (hy : y < 64) (hO : oc σ y 80 = true) : ∀ n z g, z + 1 + n = y → n < g → (∀ w, z < w → w < y → ¬ oc σ w 80 = true) → f_X8_endOf_L2 g b (nI z) (memM b σ) = some (memM b σ, nI (y - 1)) := by
  have z1 : ¬ (1 : Int32) = 0 := by decide
  intro n
  induction n with
  | zero =>
    intro z g h1 h2 h3
    obtain ⟨g, rfl⟩ : ∃ q, g = q + 1 := ⟨g - 1, by omega⟩
    show f_X8_endOf_b2 _ b _ _ = _
    obtain rfl : y = z + 1 := (by omega)
    simp only [f_X8_endOf_b2, nI_1, e_isEmpty hG, hO, bd_s, gd, yB_k, ↓reduceIte]
    rfl
  | succ n ih =>
    intro z g h1 h2 h3
    obtain ⟨g, rfl⟩ : ∃ q, g = q + 1 := ⟨g - 1, by omega⟩
    show f_X8_endOf_b2 (f_X8_endOf_L2 g) b _ _ = _
    simp only [f_X8_endOf_b2, nI_1, e_isEmpty hG, h3 (z + 1) (by omega) (by omega), z1, lt_, bd_s, gd, yB_k, ↓reduceIte]
    exact ih (z + 1) g (by omega) (by omega) (fun w w1 w2 => h3 w (by omega) w2)
theorem e_endOf {b nn p y : Nat} {σ : Sg} (hG : InvG nn σ) (hy : y < 64) (hO : oc σ y 80 = true) (hp : p + 2 < y) (h : ∀ w, p < w → w < y → ¬ oc σ w 80 = true) : f_X8_endOf b (nI (p + 1)) (memM b σ) = some (memM b σ, nI (y - 1)) :=
  l_endOf hG hy hO (y - (p + 2)) (p + 1) 200 (by omega) (by omega) (fun w w1 w2 => h w (by omega) w2)
theorem nI_p2 {y : Nat} (hy : 0 < y) : nI (y - 1) + (2 : Int32) = nI (y + 1) := by
  have e : (2 : Int32) = 1 + 1 := by decide
  rw [e, ← Int32.add_assoc, nI_1, nI_1, show y - 1 + 1 + 1 = y + 1 by omega]
theorem l_gaps13 {b nn : Nat} {σ : Sg} (hG : InvG nn σ) : ∀ k n v x c g, n ≤ k → x + n = 64 → VO (fun l => oc σ l 80) v x → k < g → f_X8_gaps_L13 g b (nI c) (hd (gl (fun l => oc σ l 80) n v x)) (memM b σ) = some (memM b σ, nI (c + (gl (fun l => oc σ l 80) n v x).length)) := by
  intro k
  induction k with
  | zero =>
    intro n v x c g h1 h2 h3 h4
    obtain ⟨g, rfl⟩ : ∃ q, g = q + 1 := ⟨g - 1, by omega⟩
    obtain rfl : n = 0 := (by omega)
    show f_X8_gaps_b13 _ b _ _ _ = _
    simp only [f_X8_gaps_b13, gl, hd_n, if_true]
    rfl
  | succ k ih =>
    intro n v x c g h1 h2 h3 h4
    obtain ⟨g, rfl⟩ : ∃ q, g = q + 1 := ⟨g - 1, by omega⟩
    show f_X8_gaps_b13 (f_X8_gaps_L13 g) b _ _ _ = _
    rcases gl_cases n v x h2 h3 with q | ⟨p, y, q, q1, q2, q3, q4, q5⟩
    · rw [q]
      simp only [f_X8_gaps_b13, hd_n, if_true]
      rfl
    · rw [q]
      have e := e_endOf (b := b) hG q2 q4 q1 q5
      simp only [f_X8_gaps_b13, hd_c, (nI_64 (p + 1) (by omega)).1, e, nI_p2 (show 0 < y by omega), e_gapFromN (b := b) hG q2 q4, bd_s, gd, lt_, nI_1, yB_k, ↓reduceIte]
      rw [ih (63 - y) (some y) (y + 1) (c + 1) g (by omega) (by omega) (VO_next y) (by omega), List.length_cons, show c + 1 + (gl (fun l => oc σ l 80) (63 - y) (some y) (y + 1)).length = c + ((gl (fun l => oc σ l 80) (63 - y) (some y) (y + 1)).length + 1) by omega]
theorem e_gapsM {b nn : Nat} {σ : Sg} (hG : InvG nn σ) (ht : σ.1 21 0 = 0) : f_X8_gaps b (memM b σ) = some (memM b σ, nI (gl (fun l => oc σ l 80) 64 none 0).length) := by
  have e0 : memM b (sI σ 21 0 0) = memM b σ := by
    rw [show sI σ 21 0 0 = σ from Sg_ext (fun c k => by rw [sI_1]; split; rename_i h; rw [h.1, h.2, ht]; rfl) (fun _ => rfl)]
  simp only [f_X8_gaps, gd, lt_, yB_k, yB_i0_s, e0, e_gapFrom0 hG, bd_s, ↓reduceIte]
  have := l_gaps13 (b := b) hG 64 64 none 0 0 200 (Nat.le_refl _) rfl trivial (by omega)
  rw [Nat.zero_add] at this
  exact this
