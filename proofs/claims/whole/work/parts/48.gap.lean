/-! ===== PURE: gaps, the class's way; gap and gaps as operations ===== -/
def wrG (σ : Sg) (c : Nat) : List (Nat × Nat) → Sg
  | [] => σ
  | (p, x) :: L => wrG (sI (sI σ 18 c (nI (p + 1))) 19 c (nI (x - 1))) (c + 1) L
theorem wrG_c {L : List (Nat × Nat)} : ∀ {σ : Sg} {c a k : Nat}, ¬ ((a = 18 ∨ a = 19) ∧ c ≤ k) → (wrG σ c L).1 a k = σ.1 a k := by
  induction L with
  | nil => intro σ c a k h; rfl
  | cons q L ih =>
    intro σ c a k h
    obtain ⟨p, x⟩ := q
    rw [wrG, ih (by omega), sI_1, if_neg (by omega), sI_1, if_neg (by omega)]
theorem wrG_l {L : List (Nat × Nat)} : ∀ {σ : Sg} {c : Nat}, (wrG σ c L).2 = σ.2 := by
  induction L with
  | nil => intro σ c; rfl
  | cons q L ih => intro σ c; obtain ⟨p, x⟩ := q; rw [wrG, ih]; rfl
theorem wrG_at {L : List (Nat × Nat)} : ∀ {σ : Sg} {c i p x : Nat}, L[i]? = some (p, x) → (wrG σ c L).1 18 (c + i) = nI (p + 1) ∧ (wrG σ c L).1 19 (c + i) = nI (x - 1) := by
  induction L with
  | nil => intro σ c i p x h; cases h
  | cons q L ih =>
    intro σ c i p x h
    obtain ⟨p', x'⟩ := q
    cases i with
    | zero =>
      simp only [List.getElem?_cons_zero, Option.some.injEq, Prod.mk.injEq] at h
      obtain ⟨rfl, rfl⟩ := h
      rw [wrG, wrG_c (by omega), wrG_c (by omega)]
      exact ⟨by simp only [sI_1, sI_2, sL_1, sL_2, false_and, and_false, Nat.reduceEqDiff, reduceCtorEq, ↓reduceIte, eq_self, and_self, true_and, and_true]; simp, by simp only [sI_1, sI_2, sL_1, sL_2, false_and, and_false, Nat.reduceEqDiff, reduceCtorEq, ↓reduceIte, eq_self, and_self, true_and, and_true]; simp⟩
    | succ i =>
      simp only [List.getElem?_cons_succ] at h
      have := ih (σ := sI (sI σ 18 c (nI (p' + 1))) 19 c (nI (x' - 1))) (c := c + 1) h
      rw [show c + 1 + i = c + (i + 1) by omega] at this
      exact this
theorem Qs.wr {L : List (Nat × Nat)} {σ : Sg} {c : Nat} : Qs σ (wrG σ c L) := ⟨fun a k h => wrG_c (by omega), fun j _ => by rw [wrG_l]⟩
def encV (v : Option Nat) : Int32 := match v with | none => -1 | some p => nI p
theorem tb_x : ∀ x : Nat, x < 65 → nI x + 1 = nI (x + 1) ∧ (0 < x → nI x - 1 = nI (x - 1)) := by decide +kernel
theorem l_survey {b : Nat} {O : Nat → Bool} : ∀ n v x c g (σ : Sg), x + n = 64 → n < g → (match v with | none => c = 0 | some p => 3 * c ≤ p ∧ p < x) → (∀ k, k < 64 → ((σ.1 17 k ≤ 0) = ¬ O k = true)) → f_X7_surveyGaps_L17 g b (nI c) (encV v) (nI x) (memC b σ) = some (memC b (wrG σ c (gl O n v x)), nI (c + (gl O n v x).length)) := by
  intro n
  induction n with
  | zero =>
    intro v x c g σ h1 h2 h3 h4
    obtain ⟨g, rfl⟩ : ∃ q, g = q + 1 := ⟨g - 1, by omega⟩
    obtain rfl : x = 64 := (by omega)
    show f_X7_surveyGaps_b17 _ b _ _ _ _ = _
    simp only [f_X7_surveyGaps_b17, show ((64 : Int32) ≤ nI 64) = True from eq_true (by decide), if_true, gl]
    rfl
  | succ n ih =>
    intro v x c g σ h1 h2 h3 h4
    obtain ⟨g, rfl⟩ : ∃ q, g = q + 1 := ⟨g - 1, by omega⟩
    have hx : x < 64 := by omega
    have hle := nle_t hx (by decide)
    rw [show nI 64 = (64 : Int32) from rfl] at hle
    show f_X7_surveyGaps_b17 (f_X7_surveyGaps_L17 g) b _ _ _ _ = _
    rw [gl]
    simp only [f_X7_surveyGaps_b17, f_X7_surveyGaps_b71, f_X7_surveyGaps_b73, hle, hx, h4 x hx, nI_1, gd, lt_, rd, xB_k, xB_r8, xW_k, xW_n, xW_ik, vi_t, cl_64, Nat.reduceLT, true_and, not_false_eq_true, ↓reduceIte]
    by_cases h : O x = true
    · have h' : ¬ ¬ O x = true := fun q => q h
      rw [if_neg h', if_pos h]
      cases v with
      | none =>
        have e1 : (encV none = -1) := rfl
        rw [if_pos e1]
        obtain rfl : c = 0 := h3
        exact ih (some x) (x + 1) 0 g σ (by omega) (by omega) ⟨by omega, by omega⟩ h4
      | some p =>
        obtain ⟨h3a, h3b⟩ := h3
        have e1 : ¬ (encV (some p) = -1) := (nI_64 p (by omega)).1
        have ht := tb_g x hx p (by omega) h3b
        rw [if_neg e1, glA_s]
        show (if nI x - nI p ≤ 2 then _ else _) = _
        by_cases hp : x - p ≤ 2
        · rw [if_pos (ht.mpr hp), if_pos hp]
          exact ih (some x) (x + 1) c g σ (by omega) (by omega) ⟨by omega, by omega⟩ h4
        · rw [if_neg (fun q => hp (ht.mp q)), if_neg hp]
          have hc : c < 21 := by omega
          have hc21 : ¬ (21 : Int32) ≤ nI c := by
            rw [Int32.le_iff_toInt_le, ln_all c (by omega)]
            show ¬ (21 : Int) ≤ _
            omega
          have ex := (tb_x x (by omega)).2 (by omega)
          have ep := (tb_x p (by omega)).1
          have e2 : encV (some p) = nI p := rfl
          rw [if_neg hc21, e2]
          simp only [hc, ep, ex, gd, lt_, rd, xB_k, xB_r9, xB_r10, x1_k, x1_n, x1_ik_s, x2_k, x2_n, x2_ik_s, vi_t, cl_21, nI_1, Nat.reduceLT, true_and, not_false_eq_true, ↓reduceIte]
          rw [wrG, List.length_cons, show c + ((gl O n (some x) (x + 1)).length + 1) = c + 1 + (gl O n (some x) (x + 1)).length by omega]
          exact ih (some x) (x + 1) (c + 1) g _ (by omega) (by omega) ⟨by omega, by omega⟩ (fun k hk => by
            rw [sI_1, if_neg (by omega), sI_1, if_neg (by omega)]
            exact h4 k hk)
    · rw [if_pos h, if_neg h]
      exact ih v (x + 1) c g σ (by omega) (by omega) (by
        cases v with
        | none => exact h3
        | some p => exact ⟨h3.1, by have := h3.2; omega⟩) h4
def gaL (σ : Sg) : List (Nat × Nat) := gl (fun l => oc σ l 80) 64 none 0
def tSur (σ : Sg) : Sg := wrG (tW σ 17 0 80) 0 (gaL σ)
theorem e_survey {b nn : Nat} {σ : Sg} (hG : InvG nn σ) : f_X7_surveyGaps b (memC b σ) = some (memC b (tSur σ), nI (gaL σ).length) := by
  have e := e_weigh hG (rowW (b := b)) (by decide)
  have e2 := l_survey (b := b) (O := fun l => oc σ l 80) 64 none 0 0 200 (tW σ 17 0 80) rfl (by omega) rfl (fun k hk => by
    have := tW_at (σ := σ) (C := 17) (o := 0) (m := 80) hk
    rw [Nat.zero_add] at this
    rw [this, lm_le0 hG])
  rw [Nat.zero_add] at e2
  unfold tSur gaL
  rw [← e2]
  simp only [f_X7_surveyGaps, e, bd_s, gd, rd, xB_k, xB_r0, xB_r8, xH_k, ↓reduceIte]
  rfl
theorem Qs.sur {σ : Sg} : Qs σ (tSur σ) := Qs.tw.trans Qs.wr
theorem tSur_M {b : Nat} {σ : Sg} : memM b (tSur σ) = memM b σ := memM_congr (fun c k h => by
  unfold tSur
  rw [wrG_c (by omega), tW_c (by omega)]) (by unfold tSur; rw [wrG_l]; rfl)
theorem op_gaps {b : Nat} : OpC (I2 b) (f_X7_gaps b) (f_X8_gaps (b + 177)) := by
  rintro M1 M2 ⟨σ, rfl, rfl, hI⟩
  have h0 : Inv (sI σ 21 0 0) := hI.qs (Qs.sI (by omega))
  have h0' := h0
  obtain ⟨nn, mm, ff, cc, g1, g2, g3, g4⟩ := h0
  have t13 : (sI σ 21 0 0).1 21 0 = 0 := by simp only [sI_1, sI_2, sL_1, sL_2, false_and, and_false, Nat.reduceEqDiff, reduceCtorEq, ↓reduceIte, eq_self, and_self, true_and, and_true]
  refine ⟨memC b (tSur (sI σ 21 0 0)), memM (b + 177) (sI σ 21 0 0), nI (gaL (sI σ 21 0 0)).length, ?_, ?_, ⟨tSur (sI σ 21 0 0), rfl, tSur_M.symm, h0'.qs Qs.sur⟩⟩
  · rw [← C_no21 (σ := σ) (i := 0) (v := 0)]
    generalize sI σ 21 0 0 = σ at g1
    simp only [f_X7_gaps, e_survey g1, bd_s, gd, xB_k, ↓reduceIte]
  · have e := e_gapsM (b := b + 177) g1 t13
    unfold gaL
    rw [← e]
    simp only [f_X8_gaps, gd, lt_, yB_k, yB_i0_s, ↓reduceIte]
    rw [show sI (sI σ 21 0 0) 21 0 0 = sI σ 21 0 0 from sI_sI_eq σ 21 0 0 0]
theorem l_gapAt {b nn : Nat} {σ : Sg} (hG : InvG nn σ) {t : Int32} {m : Nat} (ht : t.toInt = m) : ∀ k n v x i g, n ≤ k → x + n = 64 → VO (fun l => oc σ l 80) v x → k < g → i + n ≤ 64 → f_X8_gapAt_L8 g b t (hd (gl (fun l => oc σ l 80) n v x)) (nI i) (memM b σ) = some (memM b σ, hd ((gl (fun l => oc σ l 80) n v x).drop (m - i))) := by
  intro k
  induction k with
  | zero =>
    intro n v x i g h1 h2 h3 h4 h5
    obtain ⟨g, rfl⟩ : ∃ q, g = q + 1 := ⟨g - 1, by omega⟩
    obtain rfl : n = 0 := (by omega)
    show f_X8_gapAt_b8 _ b _ _ _ _ = _
    simp only [f_X8_gapAt_b8, f_X8_gapAt_b36, gl, hd_n, if_true, List.drop_nil]
    split <;> rfl
  | succ k ih =>
    intro n v x i g h1 h2 h3 h4 h5
    obtain ⟨g, rfl⟩ : ∃ q, g = q + 1 := ⟨g - 1, by omega⟩
    show f_X8_gapAt_b8 (f_X8_gapAt_L8 g) b _ _ _ _ = _
    have hti : (t ≤ nI i) = (m ≤ i) := by
      rw [Int32.le_iff_toInt_le, ht, (nIt i (by omega)).1]
      exact propext ⟨fun h => by omega, fun h => by omega⟩
    rcases gl_cases n v x h2 h3 with q | ⟨p, y, q, q1, q2, q3, q4, q5⟩
    · rw [q]
      simp only [f_X8_gapAt_b8, f_X8_gapAt_b36, hd_n, if_true, List.drop_nil]
      split <;> rfl
    · rw [q]
      simp only [f_X8_gapAt_b8, f_X8_gapAt_b36, hti]
      by_cases hm : m ≤ i
      · rw [if_pos hm, show m - i = 0 by omega, List.drop_zero]
      · rw [if_neg hm, hd_c, if_neg (nI_64 (p + 1) (by omega)).1]
        have e := e_endOf (b := b) hG q2 q4 q1 q5
        simp only [e, nI_p2 (show 0 < y by omega), e_gapFromN (b := b) hG q2 q4, bd_s, gd, lt_, nI_1, yB_k, ↓reduceIte]
        rw [ih (63 - y) (some y) (y + 1) (i + 1) g (by omega) (by omega) (VO_next y) (by omega) (by omega), show m - i = (m - (i + 1)) + 1 by omega, List.drop_succ_cons]
theorem gl_mem {O : Nat → Bool} : ∀ (k n : Nat) (v : Option Nat) (x i p y : Nat), n ≤ k → x + n = 64 → VO O v x → (gl O n v x)[i]? = some (p, y) → p + 2 < y ∧ y < 64 ∧ O y = true ∧ ∀ z, p < z → z < y → ¬ O z = true := by
  intro k
  induction k with
  | zero =>
    intro n v x i p y h1 h2 h3 h4
    obtain rfl : n = 0 := (by omega)
    rw [gl] at h4
    cases h4
  | succ k ih =>
    intro n v x i p y h1 h2 h3 h4
    rcases gl_cases n v x h2 h3 with q | ⟨p', y', q, q1, q2, q3, q4, q5⟩
    · rw [q] at h4; cases h4
    · rw [q] at h4
      cases i with
      | zero =>
        simp only [List.getElem?_cons_zero, Option.some.injEq, Prod.mk.injEq] at h4
        obtain ⟨rfl, rfl⟩ := h4
        exact ⟨q1, q2, q4, q5⟩
      | succ i =>
        simp only [List.getElem?_cons_succ] at h4
        exact ih (63 - y') (some y') (y' + 1) i p y (by omega) (by omega) (VO_next y') h4
theorem gl_len {O : Nat → Bool} : ∀ k n v x, n ≤ k → x + n = 64 → VO O v x → (gl O n v x).length ≤ n := by
  intro k
  induction k with
  | zero =>
    intro n v x h1 h2 h3
    obtain rfl : n = 0 := (by omega)
    exact Nat.le_refl _
  | succ k ih =>
    intro n v x h1 h2 h3
    rcases gl_cases n v x h2 h3 with q | ⟨p', y', q, q1, q2, q3, q4, q5⟩
    · rw [q]; exact Nat.zero_le _
    · rw [q, List.length_cons]
      have := ih (63 - y') (some y') (y' + 1) (by omega) (by omega) (VO_next y')
      omega
theorem hd_drop {L : List (Nat × Nat)} : ∀ {m p y : Nat}, L[m]? = some (p, y) → hd (L.drop m) = nI (p + 1) := by
  induction L with
  | nil => intro m p y h; cases h
  | cons q L ih =>
    intro m p y h
    cases m with
    | zero =>
      simp only [List.getElem?_cons_zero, Option.some.injEq] at h
      subst h
      rfl
    | succ m =>
      simp only [List.getElem?_cons_succ] at h
      rw [List.drop_succ_cons]
      exact ih h
theorem hd_drop0 {L : List (Nat × Nat)} {m : Nat} (h : L.length ≤ m) : hd (L.drop m) = -1 := by
  rw [List.drop_eq_nil_of_le h]; rfl
