/-! ===== PURE: disputes ===== -/
def ds (σ : Sg) (k : Nat) (t : Int32) : Nat → Int32
  | 0 => 0
  | v + 1 => if σ.1 11 v < t then ds σ k t v else if hS σ v k = 0 then ds σ k t v + 1 else ds σ k t v
theorem l_dispC {b k ff cc : Nat} {σ : Sg} {t : Int32} (h : InvF ff cc σ) (hk : k < cc) : ∀ g v, v ≤ ff → 20 < v + g → f_X7_disputes_L34 g b (xC b k) t (ds σ k t v) (nI v) (memC b σ) = some (memC b σ, .inl (ds σ k t ff)) := by
  have hff := h.2.1
  have hk40 : k < 40 := by have := h.2.2.2.1; omega
  intro g
  induction g with
  | zero => intro v h1 h2; omega
  | succ g ih =>
    intro v h1 h2
    show f_X7_disputes_b34 (f_X7_disputes_L34 g) b (xC b k) t _ (nI v) _ = _
    rcases Nat.lt_or_ge v ff with hv | hv
    · have hle := nle_t hv (by omega)
      have hv20 : v < 20 := by omega
      rw [← ih (v + 1) (by omega) (by omega)]
      simp only [f_X7_disputes_b34, f_X7_disputes_b74, h.1, hle, hv20, hk40, (s_holds (b := b) h hv hk).1, bd_s, gd, lt_, rd, nI_1, xB_k, xB_i4, xB_r3, xFA_k, xFA_n, xFA_rk, xF_k, xF_i1, xC_k, vi_t, cl_20, Nat.reduceLT, true_and, not_false_eq_true, ↓reduceIte, ds]
      by_cases h3 : σ.1 11 v < t
      · rw [if_pos h3, if_pos h3]
      · rw [if_neg h3, if_neg h3]
        by_cases h4 : hS σ v k = 0
        · rw [if_pos h4, if_pos h4]
        · rw [if_neg h4, if_neg h4]
    · obtain rfl : v = ff := (by omega)
      simp only [f_X7_disputes_b34, h.1, Int32.le_refl, gd, xB_k, xB_i4, ↓reduceIte]
theorem l_dispM {b k ff cc : Nat} {σ : Sg} {f0 : Nat} (h : InvF ff cc σ) (hk : k < cc) (hf0 : f0 < 20) (e13 : σ.1 13 k = nI f0) (h21 : σ.1 21 0 = 0) : ∀ g v, v ≤ ff → 20 < v + g → f_X8_disputes_L21 g (b + 177) (nI k) (ds σ k (σ.1 11 f0) v) (nI v) (memM (b + 177) σ) = some (memM (b + 177) σ, ds σ k (σ.1 11 f0) ff) := by
  have hff := h.2.1
  have hk40 : k < 40 := by have := h.2.2.2.1; omega
  intro g
  induction g with
  | zero => intro v h1 h2; omega
  | succ g ih =>
    intro v h1 h2
    show f_X8_disputes_b21 (f_X8_disputes_L21 g) (b + 177) (nI k) _ (nI v) _ = _
    rcases Nat.lt_or_ge v ff with hv | hv
    · have hle := nle_t hv (by omega)
      have hv20 : v < 20 := by omega
      rw [← ih (v + 1) (by omega) (by omega)]
      simp only [f_X8_disputes_b21, f_X8_disputes_b70, f_X8_disputes_b71, h.1, hle, hv20, hk40, hf0, e13, h21, (s_holds (b := b) h hv hk).2, bd_s, gd, lt_, rd, nI_1, yB_k, yB_i0, yB_i29, yB_r31, yB_r33, yFt_k, yFt_n, yFt_ik, yCf_k, yCf_n, yCf_ik, vi_t, cl_20, cl_40, Nat.reduceLT, true_and, not_false_eq_true, ↓reduceIte, ds]
      by_cases h3 : σ.1 11 v < σ.1 11 f0
      · rw [if_pos h3, if_pos h3, Int32.add_zero]
      · rw [if_neg h3, if_neg h3]
        by_cases h4 : hS σ v k = 0
        · rw [if_pos h4, if_pos h4]
        · rw [if_neg h4, if_neg h4, Int32.add_zero]
    · obtain rfl : v = ff := (by omega)
      simp only [f_X8_disputes_b21, f_X8_disputes_b79, h.1, Int32.le_refl, gd, yB_k, yB_i29, ↓reduceIte]
theorem op_disputes {b : Nat} (p0 : Int32) : OpI (I2 b) (xO b) (b + 177) (f_L_disputes b p0 (xO b)) (f_X8_disputes (b + 177) p0) := by
  refine OpI_mk (E := _) (g := f_X7_disputes b p0) (fun σ hI => ?_)
  have h0 : Inv (sI σ 21 0 0) := hI.qs (Qs.sI (by omega))
  obtain ⟨nn, mm, ff, cc, g1, g2, g3, g4⟩ := h0
  have hff := g3.2.1
  have hcc := g3.2.2.2.1
  have g16 := g3.2.2.1
  have c16 : σ.1 10 16 = nI cc := by rw [← g16]; exact (c21 (by decide)).symm
  have g15 := g3.1
  have c15 : σ.1 10 15 = nI ff := by rw [← g15]; exact (c21 (by decide)).symm
  have t13 : (sI σ 21 0 0).1 21 0 = 0 := by simp only [sI_1, sI_2, sL_1, sL_2, false_and, and_false, Nat.reduceEqDiff, reduceCtorEq, ↓reduceIte, eq_self, and_self, true_and, and_true]
  by_cases hC : OKr 0 p0 (nI cc - 1)
  · obtain ⟨k, hk, rfl⟩ := num_of (by omega) hC
    have hk40 : k < 40 := by omega
    obtain ⟨⟨f, hf, ef⟩, -⟩ := g3.2.2.2.2 k hk
    have hf20 : f < 20 := by omega
    refine Or.inl ⟨sI σ 21 0 0, ds (sI σ 21 0 0) k ((sI σ 21 0 0).1 11 f) ff, ?_, ?_, hI.qs (Qs.sI (by omega)), t13⟩
    · generalize sI σ 21 0 0 = σ at g3 g16 ef
      rw [← l_dispC (b := b) g3 hk 200 0 (by omega) (by omega)]
      simp only [f_X7_disputes, g16, rN_t (show cc ≤ 80 by omega) hC, bx_l, hk40, hf20, ef, gd, lt_, rd, xB_k, xB_r3, xB_r5, xB_i6, xCA_k, xCA_n, xCA_rk, xC_k, xC_i0, xFA_k, xFA_n, xFA_rk, xF_k, xF_i1, vi_t, cl_20, cl_40, Nat.reduceLT, true_and, not_false_eq_true, ↓reduceIte]
      rfl
    · rw [← l_dispM (b := b) g3 hk hf20 ef t13 200 0 (by omega) (by omega)]
      simp only [f_X8_disputes, f_X8_disputes_b14, iC_t c16 hC, z_10, bd_s, gd, lt_, yB_k, yB_i0_s, ↓reduceIte]
      rfl
  · refine Or.inr ⟨1, 2, sI σ 21 0 1, 0, fun _ => rfl, by decide, ?_, ?_, hI.qs (Qs.sI (by omega)), by simp only [sI_1, sI_2, sL_1, sL_2, false_and, and_false, Nat.reduceEqDiff, reduceCtorEq, ↓reduceIte, eq_self, and_self, true_and, and_true]⟩
    · rw [C_no21]
      simp only [f_X7_disputes, c16, rN_f (show cc ≤ 80 by omega) hC, bx_r, gd, xB_k, xB_i6, ↓reduceIte]
    · have e : f_X8_disputes_L21 200 (b + 177) p0 0 0 (memM (b + 177) (sI σ 21 0 1)) = some (memM (b + 177) (sI σ 21 0 1), 0) := by
        show f_X8_disputes_b21 (f_X8_disputes_L21 199) (b + 177) p0 0 0 _ = _
        simp only [f_X8_disputes_b21, f_X8_disputes_b79, gd, yB_k, yB_i0, yB_i29, z_10, ↓reduceIte, sI_1, sI_2, sL_1, sL_2, false_and, and_false, Nat.reduceEqDiff, reduceCtorEq, ↓reduceIte, eq_self, and_self, true_and, and_true]
        split <;> rfl
      simp only [f_X8_disputes, f_X8_disputes_b14, iC_f c16 hC, bd_s, gd, lt_, yB_k, yB_i0_s, e, ↓reduceIte]
/-! ===== PURE: ratios ===== -/
def dist (p q : Nat) : Nat := if q ≤ p then p - q else q - p
def enc (r : Option (Nat × Nat)) : Int32 := match r with | none => -1 | some (p, q) => nI (10 * p + q)
def srP (T : Nat → Nat → Bool) (d : Nat) : Nat → Nat → Option (Nat × Nat)
  | 0, _ => none
  | n + 1, p => if d < p ∧ T p (p - d) = true then some (p, p - d) else if p + d ≤ 9 ∧ T p (p + d) = true then some (p, p + d) else srP T d n (p + 1)
def srD (T : Nat → Nat → Bool) : Nat → Nat → Option (Nat × Nat)
  | 0, _ => none
  | n + 1, d => match srP T d 9 1 with | some r => some r | none => srD T n (d + 1)
def bdO (r : Option (Nat × Nat)) : Nat := match r with | none => 9 | some (p, q) => dist p q
def stP (T : Nat → Nat → Bool) (p q : Nat) (r : Option (Nat × Nat)) : Option (Nat × Nat) := if p ≠ q ∧ T p q = true ∧ dist p q < bdO r then some (p, q) else r
def gq (T : Nat → Nat → Bool) (p : Nat) : Nat → Nat → Option (Nat × Nat) → Option (Nat × Nat)
  | 0, _, r => r
  | n + 1, q, r => gq T p n (q + 1) (stP T p q r)
def gp (T : Nat → Nat → Bool) : Nat → Nat → Option (Nat × Nat) → Option (Nat × Nat)
  | 0, _, r => r
  | n + 1, p, r => gp T n (p + 1) (gq T p 9 1 r)
/-- a pair is a best one among those that hold R -/
def Bst (T : Nat → Nat → Bool) (R : Nat → Nat → Prop) (r : Option (Nat × Nat)) : Prop :=
  (r = none ∧ ∀ p q, 1 ≤ p → p ≤ 9 → 1 ≤ q → q ≤ 9 → p ≠ q → R p q → T p q = false) ∨
  ∃ a c, r = some (a, c) ∧ 1 ≤ a ∧ a ≤ 9 ∧ 1 ≤ c ∧ c ≤ 9 ∧ a ≠ c ∧ R a c ∧ T a c = true ∧ ∀ p q, 1 ≤ p → p ≤ 9 → 1 ≤ q → q ≤ 9 → p ≠ q → R p q → T p q = true → dist a c < dist p q ∨ (dist a c = dist p q ∧ (a < p ∨ (a = p ∧ c ≤ q)))
theorem Bst.uniq {T : Nat → Nat → Bool} {R : Nat → Nat → Prop} {r r' : Option (Nat × Nat)} (h : Bst T R r) (h' : Bst T R r') : r = r' := by
  rcases h with ⟨rfl, h⟩ | ⟨a, c, rfl, a1, a2, a3, a4, a5, a6, a7, h⟩
  · rcases h' with ⟨rfl, -⟩ | ⟨a', c', rfl, b1, b2, b3, b4, b5, b6, b7, -⟩
    · rfl
    · rw [h a' c' b1 b2 b3 b4 b5 b6] at b7; cases b7
  · rcases h' with ⟨rfl, h'⟩ | ⟨a', c', rfl, b1, b2, b3, b4, b5, b6, b7, h'⟩
    · rw [h' a c a1 a2 a3 a4 a5 a6] at a7; cases a7
    · have x := h a' c' b1 b2 b3 b4 b5 b6 b7
      have y := h' a c a1 a2 a3 a4 a5 a6 a7
      have e1 : a = a' := by omega
      have e2 : c = c' := by omega
      rw [e1, e2]
theorem Bst.congr {T : Nat → Nat → Bool} {R R' : Nat → Nat → Prop} {r : Option (Nat × Nat)} (h : Bst T R r) (e : ∀ p q, 1 ≤ p → p ≤ 9 → 1 ≤ q → q ≤ 9 → p ≠ q → (R p q ↔ R' p q)) : Bst T R' r := by
  rcases h with ⟨rfl, h⟩ | ⟨a, c, rfl, a1, a2, a3, a4, a5, a6, a7, h⟩
  · exact Or.inl ⟨rfl, fun p q h1 h2 h3 h4 h5 h6 => h p q h1 h2 h3 h4 h5 ((e p q h1 h2 h3 h4 h5).mpr h6)⟩
  · exact Or.inr ⟨a, c, rfl, a1, a2, a3, a4, a5, (e a c a1 a2 a3 a4 a5).mp a6, a7, fun p q h1 h2 h3 h4 h5 h6 => h p q h1 h2 h3 h4 h5 ((e p q h1 h2 h3 h4 h5).mpr h6)⟩
theorem stP_b {T : Nat → Nat → Bool} {p q : Nat} {r : Option (Nat × Nat)} (hp : 1 ≤ p) (hp9 : p ≤ 9) (hq : 1 ≤ q) (hq9 : q ≤ 9) (h : Bst T (fun a c => a < p ∨ (a = p ∧ c < q)) r) : Bst T (fun a c => a < p ∨ (a = p ∧ c < q + 1)) (stP T p q r) := by
  have hd : ∀ a c, 1 ≤ a → a ≤ 9 → 1 ≤ c → c ≤ 9 → dist a c < 9 := fun a c h1 h2 h3 h4 => by unfold dist; split <;> omega
  unfold stP
  rcases h with ⟨rfl, h⟩ | ⟨a, c, rfl, a1, a2, a3, a4, a5, a6, a7, h⟩
  · by_cases hc : p ≠ q ∧ T p q = true ∧ dist p q < bdO none
    · rw [if_pos hc]
      refine Or.inr ⟨p, q, rfl, hp, hp9, hq, hq9, hc.1, Or.inr ⟨rfl, by omega⟩, hc.2.1, fun p' q' h1 h2 h3 h4 h5 h6 h7 => ?_⟩
      by_cases he : p' = p ∧ q' = q
      · obtain ⟨rfl, rfl⟩ := he
        exact Or.inr ⟨rfl, Or.inr ⟨rfl, Nat.le_refl _⟩⟩
      · rw [h p' q' h1 h2 h3 h4 h5 (by omega)] at h7; cases h7
    · rw [if_neg hc]
      refine Or.inl ⟨rfl, fun p' q' h1 h2 h3 h4 h5 h6 => ?_⟩
      by_cases he : p' = p ∧ q' = q
      · obtain ⟨rfl, rfl⟩ := he
        cases hT : T p' q'
        · rfl
        · exact absurd ⟨h5, hT, hd _ _ h1 h2 h3 h4⟩ hc
      · exact h p' q' h1 h2 h3 h4 h5 (by omega)
  · by_cases hc : p ≠ q ∧ T p q = true ∧ dist p q < bdO (some (a, c))
    · rw [if_pos hc]
      have hlt : dist p q < dist a c := hc.2.2
      refine Or.inr ⟨p, q, rfl, hp, hp9, hq, hq9, hc.1, Or.inr ⟨rfl, by omega⟩, hc.2.1, fun p' q' h1 h2 h3 h4 h5 h6 h7 => ?_⟩
      by_cases he : p' = p ∧ q' = q
      · obtain ⟨rfl, rfl⟩ := he
        exact Or.inr ⟨rfl, Or.inr ⟨rfl, Nat.le_refl _⟩⟩
      · have := h p' q' h1 h2 h3 h4 h5 (by omega) h7
        omega
    · rw [if_neg hc]
      refine Or.inr ⟨a, c, rfl, a1, a2, a3, a4, a5, by omega, a7, fun p' q' h1 h2 h3 h4 h5 h6 h7 => ?_⟩
      by_cases he : p' = p ∧ q' = q
      · obtain ⟨rfl, rfl⟩ := he
        have hge : ¬ dist p' q' < dist a c := fun q => hc ⟨h5, h7, q⟩
        omega
      · exact h p' q' h1 h2 h3 h4 h5 (by omega) h7
theorem gq_b {T : Nat → Nat → Bool} {p : Nat} (hp : 1 ≤ p) (hp9 : p ≤ 9) : ∀ n q r, q + n = 10 → 1 ≤ q → Bst T (fun a c => a < p ∨ (a = p ∧ c < q)) r → Bst T (fun a c => a < p ∨ (a = p ∧ c < 10)) (gq T p n q r) := by
  intro n
  induction n with
  | zero =>
    intro q r h1 h2 h
    obtain rfl : q = 10 := (by omega)
    exact h
  | succ n ih =>
    intro q r h1 h2 h
    exact ih (q + 1) _ (by omega) (by omega) (stP_b hp hp9 h2 (by omega) h)
theorem gp_b {T : Nat → Nat → Bool} : ∀ n p r, p + n = 10 → 1 ≤ p → Bst T (fun a _ => a < p) r → Bst T (fun a _ => a < 10) (gp T n p r) := by
  intro n
  induction n with
  | zero =>
    intro p r h1 h2 h
    obtain rfl : p = 10 := (by omega)
    exact h
  | succ n ih =>
    intro p r h1 h2 h
    refine ih (p + 1) _ (by omega) (by omega) ?_
    exact (gq_b h2 (by omega) 9 1 r rfl (Nat.le_refl _) (h.congr (fun a c k1 k2 k3 k4 k5 => by omega))).congr (fun a c k1 k2 k3 k4 k5 => by omega)
theorem gp_all {T : Nat → Nat → Bool} : Bst T (fun _ _ => True) (gp T 9 1 none) :=
  (gp_b 9 1 none rfl (Nat.le_refl _) (Or.inl ⟨rfl, fun p q h1 h2 h3 h4 h5 h6 => by omega⟩)).congr (fun a c k1 k2 k3 k4 k5 => ⟨fun _ => trivial, fun _ => by omega⟩)
theorem srP_b {T : Nat → Nat → Bool} {d : Nat} (hd : 1 ≤ d) (h0 : ∀ a c, 1 ≤ a → a ≤ 9 → 1 ≤ c → c ≤ 9 → a ≠ c → dist a c < d → T a c = false) : ∀ n p, p + n = 10 → 1 ≤ p → (∀ a c, 1 ≤ a → a ≤ 9 → 1 ≤ c → c ≤ 9 → dist a c = d → a < p → T a c = false) → Bst T (fun a c => dist a c ≤ d) (srP T d n p) := by
  intro n
  induction n with
  | zero =>
    intro p h1 h2 h
    refine Or.inl ⟨rfl, fun a c k1 k2 k3 k4 k5 k6 => ?_⟩
    rcases Nat.lt_or_ge (dist a c) d with hl | hl
    · exact h0 a c k1 k2 k3 k4 k5 hl
    · exact h a c k1 k2 k3 k4 (by omega) (by omega)
  | succ n ih =>
    intro p h1 h2 h
    rw [srP]
    by_cases c1 : d < p ∧ T p (p - d) = true
    · rw [if_pos c1]
      have hdd : dist p (p - d) = d := by unfold dist; rw [if_pos (by omega)]; omega
      refine Or.inr ⟨p, p - d, rfl, h2, by omega, by omega, by omega, by omega, by omega, c1.2, fun a c k1 k2 k3 k4 k5 k6 k7 => ?_⟩
      rcases Nat.lt_or_ge (dist a c) d with hl | hl
      · rw [h0 a c k1 k2 k3 k4 k5 hl] at k7; cases k7
      · have hde : dist a c = d := by omega
        rcases Nat.lt_or_ge a p with hap | hap
        · rw [h a c k1 k2 k3 k4 hde hap] at k7; cases k7
        · refine Or.inr ⟨by omega, ?_⟩
          unfold dist at hde
          split at hde <;> omega
    · rw [if_neg c1]
      by_cases c2 : p + d ≤ 9 ∧ T p (p + d) = true
      · rw [if_pos c2]
        have hdd : dist p (p + d) = d := by unfold dist; rw [if_neg (by omega)]; omega
        refine Or.inr ⟨p, p + d, rfl, h2, by omega, by omega, by omega, by omega, by omega, c2.2, fun a c k1 k2 k3 k4 k5 k6 k7 => ?_⟩
        rcases Nat.lt_or_ge (dist a c) d with hl | hl
        · rw [h0 a c k1 k2 k3 k4 k5 hl] at k7; cases k7
        · have hde : dist a c = d := by omega
          rcases Nat.lt_or_ge a p with hap | hap
          · rw [h a c k1 k2 k3 k4 hde hap] at k7; cases k7
          · refine Or.inr ⟨by omega, ?_⟩
            rcases Nat.lt_or_ge p a with hpa | hpa
            · exact Or.inl hpa
            · obtain rfl : a = p := (by omega)
              refine Or.inr ⟨rfl, ?_⟩
              unfold dist at hde
              split at hde
              · exfalso
                have : c = a - d := by omega
                subst this
                exact c1 ⟨by omega, k7⟩
              · omega
      · rw [if_neg c2]
        refine ih (p + 1) (by omega) (by omega) (fun a c k1 k2 k3 k4 k5 k6 => ?_)
        rcases Nat.lt_or_ge a p with hap | hap
        · exact h a c k1 k2 k3 k4 k5 hap
        · obtain rfl : a = p := (by omega)
          cases hT : T a c
          · rfl
          · exfalso
            unfold dist at k5
            split at k5
            · have : c = a - d := by omega
              subst this
              exact c1 ⟨by omega, hT⟩
            · have : c = a + d := by omega
              subst this
              exact c2 ⟨k4, hT⟩
theorem srD_b {T : Nat → Nat → Bool} {m : Nat} : ∀ n d, d + n = m + 1 → 1 ≤ d → (∀ a c, 1 ≤ a → a ≤ 9 → 1 ≤ c → c ≤ 9 → a ≠ c → dist a c < d → T a c = false) → Bst T (fun a c => dist a c ≤ m) (srD T n d) := by
  intro n
  induction n with
  | zero =>
    intro d h1 h2 h
    exact Or.inl ⟨rfl, fun a c k1 k2 k3 k4 k5 k6 => h a c k1 k2 k3 k4 k5 (by omega)⟩
  | succ n ih =>
    intro d h1 h2 h
    have hb := srP_b h2 h 9 1 rfl (Nat.le_refl _) (fun a c k1 k2 k3 k4 k5 k6 => by omega)
    rw [srD]
    rcases hb with ⟨e, hb⟩ | ⟨a, c, e, a1, a2, a3, a4, a5, a6, a7, hb⟩
    · rw [e]
      exact ih (d + 1) (by omega) (by omega) (fun a c k1 k2 k3 k4 k5 k6 => hb a c k1 k2 k3 k4 k5 (by omega))
    · rw [e]
      refine Or.inr ⟨a, c, rfl, a1, a2, a3, a4, a5, by omega, a7, fun p q k1 k2 k3 k4 k5 k6 k7 => ?_⟩
      rcases Nat.lt_or_ge d (dist p q) with hl | hl
      · exact Or.inl (by omega)
      · exact hb p q k1 k2 k3 k4 k5 hl k7
theorem srD_all {T : Nat → Nat → Bool} (m : Nat) : Bst T (fun a c => dist a c ≤ m) (srD T m 1) := srD_b m 1 (by omega) (Nat.le_refl _) (fun a c k1 k2 k3 k4 k5 k6 => by
  unfold dist at k6
  split at k6 <;> omega)
theorem sr_8 (T : Nat → Nat → Bool) : srD T 8 1 = gp T 9 1 none := by
  refine Bst.uniq (R := fun _ _ => True) ((srD_all 8).congr (fun a c k1 k2 k3 k4 k5 => ⟨fun _ => trivial, fun _ => ?_⟩)) gp_all
  unfold dist
  split <;> omega
/-- near: a ratio whose numbers are at most 2 apart -/
theorem sr_2 (T : Nat → Nat → Bool) : (srD T 2 1 = none ↔ ¬ ∃ a c, gp T 9 1 none = some (a, c) ∧ dist a c ≤ 2) := by
  have h1 := srD_all (T := T) 2
  have h2 := gp_all (T := T)
  rcases h2 with ⟨e, h2⟩ | ⟨a, c, e, a1, a2, a3, a4, a5, -, a7, h2⟩
  · rw [e]
    rcases h1 with ⟨e1, -⟩ | ⟨a', c', e1, b1, b2, b3, b4, b5, b6, b7, -⟩
    · exact ⟨fun _ ⟨_, _, q, _⟩ => (by cases q), fun _ => e1⟩
    · rw [h2 a' c' b1 b2 b3 b4 b5 trivial] at b7; cases b7
  · rcases h1 with ⟨e1, h1⟩ | ⟨a', c', e1, b1, b2, b3, b4, b5, b6, b7, h1⟩
    · refine ⟨fun _ ⟨x, y, q, q2⟩ => ?_, fun _ => e1⟩
      rw [e] at q
      cases q
      rw [h1 _ _ a1 a2 a3 a4 a5 q2] at a7; cases a7
    · refine ⟨fun q => (by rw [e1] at q; cases q), fun q => absurd ⟨a, c, e, ?_⟩ q⟩
      have := h2 a' c' b1 b2 b3 b4 b5 trivial b7
      omega
