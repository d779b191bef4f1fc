/-! ===== PURE: ratios on both sides ===== -/
def tun (s1 s2 : Int32) (p q : Nat) : Bool := if (20 : Int32) < ab_ (nI p * s1 - nI q * s2) then false else true
theorem e_inTune {x y : Int32} {M : Mem} : f_X7_inTune x y M = some (M, if (20 : Int32) < ab_ (x - y) then 0 else 1) := by
  simp only [f_X7_inTune, f_X7_inTune_b16, ab_f]
  split <;> rfl
theorem tb_d1 : ∀ p : Nat, p < 10 → ∀ d : Nat, d < 10 → (nI p - nI d < 1 ↔ ¬ d < p) ∧ (d < p → nI p - nI d = nI (p - d)) ∧ ((9 : Int32) < nI p + nI d ↔ ¬ p + d ≤ 9) ∧ nI p + nI d = nI (p + d) := by decide +kernel
theorem tb_d2 : ∀ p : Nat, p < 10 → ∀ d : Nat, d < 10 → (10 : Int32) * nI p + nI d = nI (10 * p + d) ∧ ab_ (nI p - nI d) = nI (dist p d) ∧ ¬ nI (10 * p + d) = -1 ∧ nI (10 * p + d) / 10 = nI p := by decide +kernel
theorem tb_d3 : ∀ p : Nat, p < 10 → ∀ d : Nat, d < 10 → nI (10 * p + d) - nI p * 10 = nI d ∧ (nI p = nI d ↔ p = d) ∧ dist p d < 10 := by decide +kernel
theorem tb_d : ∀ p : Nat, p < 10 → ∀ d : Nat, d < 10 → (nI p - nI d < 1 ↔ ¬ d < p) ∧ (d < p → nI p - nI d = nI (p - d)) ∧ ((9 : Int32) < nI p + nI d ↔ ¬ p + d ≤ 9) ∧ nI p + nI d = nI (p + d) ∧ (10 : Int32) * nI p + nI d = nI (10 * p + d) ∧ ab_ (nI p - nI d) = nI (dist p d) ∧ ¬ nI (10 * p + d) = -1 ∧ nI (10 * p + d) / 10 = nI p ∧ nI (10 * p + d) - nI p * 10 = nI d ∧ (nI p = nI d ↔ p = d) ∧ dist p d < 10 := fun p hp d hd =>
  have a := tb_d1 p hp d hd
  have b := tb_d2 p hp d hd
  have c := tb_d3 p hp d hd
  ⟨a.1, a.2.1, a.2.2.1, a.2.2.2, b.1, b.2.1, b.2.2.1, b.2.2.2, c.1, c.2.1, c.2.2⟩
theorem tb_9 : ∀ p : Nat, p < 10 → ¬ (9 : Int32) < nI p ∧ ¬ (10 : Int32) ≤ nI p := by decide +kernel
theorem l_L41 {m d : Nat} {s1 s2 : Int32} {k32 : Int32 → Int32 → Int32 → Int32 → Mem → Option (Mem × Int32)} {M : Mem} (hd : 1 ≤ d) (hd8 : d ≤ 8) : ∀ n p g, p + n = 10 → 1 ≤ p → n < g → f_X7_ratioOf_L41 k32 g (nI m) s1 s2 (nI d) (nI p) M = match srP (tun s1 s2) d n p with | some r => some (M, enc (some r)) | none => k32 (nI m) s1 s2 (nI (d + 1)) M := by
  intro n
  induction n with
  | zero =>
    intro p g h1 h2 h3
    obtain ⟨g, rfl⟩ : ∃ q, g = q + 1 := ⟨g - 1, by omega⟩
    obtain rfl : p = 10 := (by omega)
    show f_X7_ratioOf_b41 k32 _ _ _ _ _ _ _ = _
    simp only [f_X7_ratioOf_b41, show ((9 : Int32) < nI 10) = True from eq_true (by decide), lt_, nI_1, if_true, srP]
  | succ n ih =>
    intro p g h1 h2 h3
    obtain ⟨g, rfl⟩ : ∃ q, g = q + 1 := ⟨g - 1, by omega⟩
    show f_X7_ratioOf_b41 k32 (f_X7_ratioOf_L41 k32 g) _ _ _ _ _ _ = _
    obtain ⟨b1, b2, b3, b4, b5, -⟩ := tb_d p (by omega) d (by omega)
    have e125 : f_X7_ratioOf_b125 k32 (f_X7_ratioOf_L41 k32 g) (nI m) s1 s2 (nI d) (nI p) M = match srP (tun s1 s2) d n (p + 1) with | some r => some (M, enc (some r)) | none => k32 (nI m) s1 s2 (nI (d + 1)) M := by
      simp only [f_X7_ratioOf_b125, lt_, nI_1]
      exact ih (p + 1) g (by omega) (by omega) (by omega)
    have e86 : f_X7_ratioOf_b86 k32 (f_X7_ratioOf_L41 k32 g) (nI m) s1 s2 (nI d) (nI p) M = match (if p + d ≤ 9 ∧ tun s1 s2 p (p + d) = true then some (p, p + d) else srP (tun s1 s2) d n (p + 1)) with | some r => some (M, enc (some r)) | none => k32 (nI m) s1 s2 (nI (d + 1)) M := by
      simp only [f_X7_ratioOf_b86, lt_]
      by_cases c : p + d ≤ 9
      · rw [if_neg (fun q => (b3.mp q) c), b4]
        simp only [e_inTune, bd_s]
        have t5 := (tb_d p (by omega) (p + d) (by omega)).2.2.2.2.1
        by_cases t : (20 : Int32) < ab_ (nI p * s1 - nI (p + d) * s2)
        · have tf : tun s1 s2 p (p + d) = false := if_pos t
          rw [if_pos t, if_pos rfl, e125, if_neg (fun q => by rw [tf] at q; cases q.2)]
        · have tt : tun s1 s2 p (p + d) = true := if_neg t
          rw [if_neg t, if_neg (by decide), if_pos ⟨c, tt⟩, t5]
          rfl
      · rw [if_pos (b3.mpr c), e125, if_neg (fun q => c q.1)]
    simp only [f_X7_ratioOf_b41, (tb_9 p (by omega)).1, lt_, if_false]
    rw [srP]
    by_cases c : d < p
    · rw [if_neg (fun q => (b1.mp q) c), b2 c]
      simp only [e_inTune, bd_s]
      have t5 := (tb_d p (by omega) (p - d) (by omega)).2.2.2.2.1
      by_cases t : (20 : Int32) < ab_ (nI p * s1 - nI (p - d) * s2)
      · have tf : tun s1 s2 p (p - d) = false := if_pos t
        rw [if_pos t, if_pos rfl, if_neg (show ¬ (d < p ∧ tun s1 s2 p (p - d) = true) from fun q => by rw [tf] at q; cases q.2), e86]
      · have tt : tun s1 s2 p (p - d) = true := if_neg t
        rw [if_neg t, if_neg (by decide), if_pos ⟨c, tt⟩, t5]
        rfl
    · rw [if_pos (b1.mpr c), if_neg (show ¬ (d < p ∧ tun s1 s2 p (p - d) = true) from fun q => c q.1), e86]
theorem l_L32 {m : Nat} {s1 s2 : Int32} {M : Mem} (hm : m ≤ 8) : ∀ n d g, d + n = m + 1 → 1 ≤ d → n < g → f_X7_ratioOf_L32 g (nI m) s1 s2 (nI d) M = some (M, enc (srD (tun s1 s2) n d)) := by
  intro n
  induction n with
  | zero =>
    intro d g h1 h2 h3
    obtain ⟨g, rfl⟩ : ∃ q, g = q + 1 := ⟨g - 1, by omega⟩
    obtain rfl : d = m + 1 := (by omega)
    show f_X7_ratioOf_b32 _ _ _ _ _ _ = _
    simp only [f_X7_ratioOf_b32, eq_true (nI_lt (show m < m + 1 by omega) (by omega)), if_true, srD, enc]
  | succ n ih =>
    intro d g h1 h2 h3
    obtain ⟨g, rfl⟩ : ∃ q, g = q + 1 := ⟨g - 1, by omega⟩
    show f_X7_ratioOf_b32 (f_X7_ratioOf_L32 g) _ _ _ _ _ = _
    have hlt : (nI m < nI d) = False := by
      rw [← nle32]
      refine eq_false (fun h => h ?_)
      rw [Int32.le_iff_toInt_le, ln_all d (by omega), ln_all m (by omega)]
      omega
    simp only [f_X7_ratioOf_b32, hlt, if_false]
    rw [show (1 : Int32) = nI 1 from rfl, l_L41 h2 (by omega) 9 1 200 rfl (Nat.le_refl _) (by omega), srD]
    cases srP (tun s1 s2) d 9 1 with
    | some r => rfl
    | none => exact ih (d + 1) g (by omega) (by omega) (by omega)
theorem e_X7_ratioOf {b j m : Nat} {σ : Sg} {x : Int32} (hj : j < 6) (hm : m ≤ 8) (h7 : lnOk (σ.1 7 j)) (hx : lnOk x) : f_X7_ratioOf b (xM b j) x (nI m) (memC b σ) = some (memC b σ, enc (srD (tun (spd σ (σ.1 7 j)) (spd σ x)) m 1)) := by
  rw [← l_L32 hm m 1 200 (by omega) (Nat.le_refl _) (by omega)]
  simp only [f_X7_ratioOf, hj, e_X6_speedIn h7, e_X6_speedIn hx, bd_s, gd, rd, xB_k, xB_r0, xH_k, xH_r0, xM_k, xM_i0, xP_k, ↓reduceIte]
  rfl
theorem s_L19 {b j p q : Nat} {σ : Sg} {x : Int32} {k9 : Nat → Int32 → Int32 → Int32 → Int32 → Int32 → Mem → Option (Mem × Int32)} {k19 : Nat → Int32 → Int32 → Int32 → Int32 → Int32 → Int32 → Mem → Option (Mem × Int32)} {r : Option (Nat × Nat)} (hj : j < 6) (h7 : lnOk (σ.1 7 j)) (hx : lnOk x) (hp : p < 10) (hq : q < 10) (hb : bdO r ≤ 9) :
    f_X8_resonanceOf_b19 k9 k19 b (nI j) x (enc r) (nI (bdO r)) (nI p) (nI q) (memM b σ) = k19 b (nI j) x (enc (stP (tun (spd σ (σ.1 7 j)) (spd σ x)) p q r)) (nI (bdO (stP (tun (spd σ (σ.1 7 j)) (spd σ x)) p q r))) (nI p) (nI (q + 1)) (memM b σ) := by
  obtain ⟨-, -, -, -, t5, t6, -, -, -, t10, t11⟩ := tb_d p hp q hq
  have hle : (nI (bdO r) ≤ nI (dist p q)) = (bdO r ≤ dist p q) := by
    rw [Int32.le_iff_toInt_le, ln_all _ (by omega), ln_all _ (by omega)]
    exact propext ⟨fun h => by omega, fun h => by omega⟩
  have e67 : f_X8_resonanceOf_b67 k9 k19 b (nI j) x (enc r) (nI (bdO r)) (nI p) (nI q) (memM b σ) = k19 b (nI j) x (enc r) (nI (bdO r)) (nI p) (nI (q + 1)) (memM b σ) := by
    simp only [f_X8_resonanceOf_b67, f_X8_resonanceOf_b68, f_X8_resonanceOf_b107, lt_, nI_1, ↓reduceIte]
  simp only [f_X8_resonanceOf_b19, (tb_9 q hq).2, if_false]
  unfold stP
  by_cases c : p = q
  · rw [if_pos (t10.mpr c), e67, if_neg (fun z => z.1 c)]
  rw [if_neg (fun z => c (t10.mp z))]
  simp only [hj, e_X8_speedOf h7, e_X8_speedOf hx, e_X8_size, bd_s, gd, rd, yB_k, yB_r15, yML_k, yML_n, yML_ik, vi_t, cl_6, Nat.reduceLT, true_and, not_false_eq_true, ↓reduceIte]
  by_cases t : (20 : Int32) < ab_ (nI p * spd σ (σ.1 7 j) - nI q * spd σ x)
  · have tf : tun (spd σ (σ.1 7 j)) (spd σ x) p q = false := if_pos t
    rw [if_pos t, e67, if_neg (fun z => by rw [tf] at z; cases z.2.1)]
  · have tt : tun (spd σ (σ.1 7 j)) (spd σ x) p q = true := if_neg t
    rw [if_neg t]
    simp only [f_X8_resonanceOf_b68, f_X8_resonanceOf_b107, z_10, e_X8_size, t6, hle, bd_s, lt_, nI_1, t5, if_false]
    by_cases c2 : bdO r ≤ dist p q
    · rw [if_pos c2, if_neg (fun z => by have := z.2.2; omega)]
    · rw [if_neg c2, if_pos ⟨c, tt, by omega⟩]
      rfl
theorem stP_9 {T : Nat → Nat → Bool} {p q : Nat} {r : Option (Nat × Nat)} (hb : bdO r ≤ 9) : bdO (stP T p q r) ≤ 9 := by
  unfold stP
  split
  · rename_i h
    show dist p q ≤ 9
    omega
  · exact hb
theorem gq_9 {T : Nat → Nat → Bool} {p : Nat} : ∀ n q r, bdO r ≤ 9 → bdO (gq T p n q r) ≤ 9 := by
  intro n
  induction n with
  | zero => intro q r h; exact h
  | succ n ih => intro q r h; exact ih _ _ (stP_9 h)
theorem l_L19 {b j p : Nat} {σ : Sg} {x : Int32} {k9 : Nat → Int32 → Int32 → Int32 → Int32 → Int32 → Mem → Option (Mem × Int32)} (hj : j < 6) (h7 : lnOk (σ.1 7 j)) (hx : lnOk x) (hp : p < 10) : ∀ n q r g, q + n = 10 → n < g → bdO r ≤ 9 →
    f_X8_resonanceOf_L19 k9 g b (nI j) x (enc r) (nI (bdO r)) (nI p) (nI q) (memM b σ) = k9 b (nI j) x (enc (gq (tun (spd σ (σ.1 7 j)) (spd σ x)) p n q r)) (nI (bdO (gq (tun (spd σ (σ.1 7 j)) (spd σ x)) p n q r))) (nI (p + 1)) (memM b σ) := by
  intro n
  induction n with
  | zero =>
    intro q r g h1 h2 h3
    obtain ⟨g, rfl⟩ : ∃ z, g = z + 1 := ⟨g - 1, by omega⟩
    obtain rfl : q = 10 := (by omega)
    show f_X8_resonanceOf_b19 k9 _ _ _ _ _ _ _ _ _ = _
    simp only [f_X8_resonanceOf_b19, show ((10 : Int32) ≤ nI 10) = True from eq_true (by decide), lt_, nI_1, if_true, gq]
  | succ n ih =>
    intro q r g h1 h2 h3
    obtain ⟨g, rfl⟩ : ∃ z, g = z + 1 := ⟨g - 1, by omega⟩
    show f_X8_resonanceOf_b19 k9 (f_X8_resonanceOf_L19 k9 g) _ _ _ _ _ _ _ _ = _
    rw [s_L19 hj h7 hx hp (by omega) h3, gq]
    exact ih (q + 1) _ g (by omega) (by omega) (stP_9 h3)
theorem l_L9 {b j : Nat} {σ : Sg} {x : Int32} (hj : j < 6) (h7 : lnOk (σ.1 7 j)) (hx : lnOk x) : ∀ n p r g, p + n = 10 → n < g → bdO r ≤ 9 →
    f_X8_resonanceOf_L9 g b (nI j) x (enc r) (nI (bdO r)) (nI p) (memM b σ) = some (memM b σ, enc (gp (tun (spd σ (σ.1 7 j)) (spd σ x)) n p r)) := by
  intro n
  induction n with
  | zero =>
    intro p r g h1 h2 h3
    obtain ⟨g, rfl⟩ : ∃ z, g = z + 1 := ⟨g - 1, by omega⟩
    obtain rfl : p = 10 := (by omega)
    show f_X8_resonanceOf_b9 _ _ _ _ _ _ _ _ = _
    simp only [f_X8_resonanceOf_b9, show ((10 : Int32) ≤ nI 10) = True from eq_true (by decide), if_true, gp]
  | succ n ih =>
    intro p r g h1 h2 h3
    obtain ⟨g, rfl⟩ : ∃ z, g = z + 1 := ⟨g - 1, by omega⟩
    show f_X8_resonanceOf_b9 (f_X8_resonanceOf_L9 g) _ _ _ _ _ _ _ = _
    simp only [f_X8_resonanceOf_b9, (tb_9 p (by omega)).2, if_false]
    rw [show (1 : Int32) = nI 1 from rfl, l_L19 hj h7 hx (by omega) 9 1 r 200 rfl (by omega) h3, gp]
    exact ih (p + 1) _ g (by omega) (by omega) (gq_9 _ _ _ h3)
theorem e_X8_resonanceOf {b j : Nat} {σ : Sg} {x : Int32} (hj : j < 6) (h7 : lnOk (σ.1 7 j)) (hx : lnOk x) : f_X8_resonanceOf b (nI j) x (memM b σ) = some (memM b σ, enc (gp (tun (spd σ (σ.1 7 j)) (spd σ x)) 9 1 none)) :=
  l_L9 hj h7 hx 9 1 none 200 rfl (by omega) (Nat.le_refl _)
theorem op_resonance {b : Nat} (p0 p1 : Int32) : OpI (I2 b) (xO b) (b + 177) (f_L_resonance b p0 p1 (xO b)) (f_X8_resonance (b + 177) p0 p1) := by
  refine OpI_mk (E := _) (g := f_X7_resonance b p0 p1) (fun σ hI => ?_)
  have h0 : Inv (sI σ 21 0 0) := hI.qs (Qs.sI (by omega))
  obtain ⟨nn, mm, ff, cc, g1, g2, g3, g4⟩ := h0
  have hmm := g2.2.1
  have g10 := g2.1
  have c10 : σ.1 10 1 = nI mm := by rw [← g10]; exact (c21 (by decide)).symm
  have t13 : (sI σ 21 0 0).1 21 0 = 0 := by simp only [sI_1, sI_2, sL_1, sL_2, false_and, and_false, Nat.reduceEqDiff, reduceCtorEq, ↓reduceIte, eq_self, and_self, true_and, and_true]
  by_cases h : OKr 0 p0 (nI mm - 1)
  · by_cases hL : OKr 0 p1 63
    · obtain ⟨j, hj, rfl⟩ := num_of (by omega) h
      have hj6 : j < 6 := by omega
      have hx := ln_of hL
      have h7 := (g2.2.2 j hj).1
      refine Or.inl ⟨sI σ 21 0 0, enc (gp (tun (spd (sI σ 21 0 0) ((sI σ 21 0 0).1 7 j)) (spd (sI σ 21 0 0) p1)) 9 1 none), ?_, ?_, hI.qs (Qs.sI (by omega)), t13⟩
      · generalize sI σ 21 0 0 = σ at g10 h7
        have e := e_X7_ratioOf (b := b) (m := 8) hj6 (by omega) h7 hx
        rw [sr_8, show nI 8 = (8 : Int32) from rfl] at e
        simp only [f_X7_resonance, g10, rN_t (show mm ≤ 80 by omega) h, rL_t hL, bx_l, hj6, e, bd_s, gd, rd, xB_k, xB_r1, xB_i2, xMA_k, xMA_n, xMA_rk, vi_t, cl_6, Nat.reduceLT, true_and, not_false_eq_true, ↓reduceIte]
      · simp only [f_X8_resonance, f_X8_resonance_b31, f_X8_resonance_b51, iI_t h, iL_t hL, c10, z_10, bd_s, gd, lt_, yB_k, yB_i14, yB_i0_s, ↓reduceIte]
        generalize sI σ 21 0 0 = σ at t13 h7
        simp only [yB_i0, t13, z_le0, e_X8_resonanceOf hj6 h7 hx, yB_k, bd_s, ↓reduceIte]
    · refine Or.inr ⟨2, 0, sI σ 21 0 2, 0, fun _ => rfl, by decide, ?_, ?_, hI.qs (Qs.sI (by omega)), by simp only [sI_1, sI_2, sL_1, sL_2, false_and, and_false, Nat.reduceEqDiff, reduceCtorEq, ↓reduceIte, eq_self, and_self, true_and, and_true]⟩
      · rw [C_no21]
        simp only [f_X7_resonance, c10, rN_t (show mm ≤ 80 by omega) h, rL_f hL, bx_l, bx_r, gd, xB_k, xB_i2, ↓reduceIte]
      · simp only [f_X8_resonance, f_X8_resonance_b31, f_X8_resonance_b51, iI_t h, iL_f hL, c10, z_10, z_le2, bd_s, gd, lt_, yB_k, yB_i14, yB_i0, yB_i0_s, ↓reduceIte, sI_1, sI_2, sL_1, sL_2, false_and, and_false, Nat.reduceEqDiff, reduceCtorEq, ↓reduceIte, eq_self, and_self, true_and, and_true]
  · refine Or.inr ⟨1, 2, sI σ 21 0 1, 0, fun _ => rfl, by decide, ?_, ?_, hI.qs (Qs.sI (by omega)), by simp only [sI_1, sI_2, sL_1, sL_2, false_and, and_false, Nat.reduceEqDiff, reduceCtorEq, ↓reduceIte, eq_self, and_self, true_and, and_true]⟩
    · rw [C_no21]
      simp only [f_X7_resonance, c10, rN_f (show mm ≤ 80 by omega) h, bx_r, gd, xB_k, xB_i2, ↓reduceIte]
    · simp only [f_X8_resonance, f_X8_resonance_b31, f_X8_resonance_b51, iI_f h, c10, z_le1, bd_s, gd, lt_, yB_k, yB_i14, yB_i0, yB_i0_s, ↓reduceIte, sI_1, sI_2, sL_1, sL_2, false_and, and_false, Nat.reduceEqDiff, reduceCtorEq, ↓reduceIte, eq_self, and_self, true_and, and_true]
