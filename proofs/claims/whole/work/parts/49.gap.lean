/-! ===== PURE: gap as an operation ===== -/
theorem oc_congr {σ τ : Sg} (h : ∀ k, τ.1 0 k = σ.1 0 k ∧ τ.1 5 k = σ.1 5 k) {x : Nat} : ∀ n, oc τ x n = oc σ x n := by
  intro n
  induction n with
  | zero => rfl
  | succ n ih =>
    obtain ⟨h0, h5⟩ := h n
    rw [oc, oc, ih, h0, h5]
theorem gaL_21 {σ : Sg} {k : Int32} : gaL (sI σ 21 0 k) = gaL σ := by
  unfold gaL
  rw [show (fun l => oc (sI σ 21 0 k) l 80) = fun l => oc σ l 80 from funext fun l => oc_congr (fun k => ⟨by simp only [sI_1, sI_2, sL_1, sL_2, false_and, and_false, Nat.reduceEqDiff, reduceCtorEq, ↓reduceIte, eq_self, and_self, true_and, and_true], by simp only [sI_1, sI_2, sL_1, sL_2, false_and, and_false, Nat.reduceEqDiff, reduceCtorEq, ↓reduceIte, eq_self, and_self, true_and, and_true]⟩) 80]
theorem spd_qs {σ τ : Sg} (q : Qs σ τ) {x : Int32} : spd τ x = spd σ x := by unfold spd; rw [q.1 10 2 (by decide)]
theorem inG_qs {σ τ : Sg} (q : Qs σ τ) {F L : Int32} : inG τ F L = inG σ F L := funext fun j => by unfold inG; rw [q.1 7 j (by decide)]
theorem neG_qs {σ τ : Sg} (q : Qs σ τ) {F L : Int32} : neG τ F L = neG σ F L := funext fun j => by unfold neG; rw [q.1 7 j (by decide), spd_qs q, spd_qs q, spd_qs q]
theorem e_gapAt {b nn : Nat} {σ : Sg} (hG : InvG nn σ) {t : Int32} (h : ¬ t < 0) : f_X8_gapAt b t (memM b σ) = some (memM b σ, hd ((gaL σ).drop t.toInt.toNat)) := by
  have e0 : (0 : Int32).toInt = 0 := rfl
  rw [Int32.lt_iff_toInt_lt, e0] at h
  have := l_gapAt (b := b) hG (t := t) (m := t.toInt.toNat) (by omega) 64 64 none 0 0 200 (Nat.le_refl _) rfl trivial (by omega) (by omega)
  rw [Nat.sub_zero] at this
  unfold gaL
  rw [← this]
  simp only [f_X8_gapAt, gd, yB_k, e_gapFrom0 hG, bd_s, ↓reduceIte]
  rfl
theorem in_02 {v : Int32} (h : OKr 0 v 2) : v = 0 ∨ v = 1 ∨ v = 2 := by
  obtain ⟨t, ht, rfl⟩ := t_dich (n := 3) (by omega) (by decide) h
  have : t = 0 ∨ t = 1 ∨ t = 2 := by omega
  rcases this with rfl | rfl | rfl
  · exact Or.inl rfl
  · exact Or.inr (Or.inl rfl)
  · exact Or.inr (Or.inr rfl)
theorem op_gap {b : Nat} (p0 p1 : Int32) : OpI (I2 b) (xO b) (b + 177) (f_L_gap b p0 p1 (xO b)) (f_X8_gap (b + 177) p0 p1) := by
  refine OpI_mk (E := _) (g := f_X7_gap b p0 p1) (fun σ hI => ?_)
  have hI' := hI
  obtain ⟨nn, mm, ff, cc, g1, g2, g3, g4⟩ := hI
  have hlen : (gaL σ).length ≤ 64 := gl_len 64 64 none 0 (Nat.le_refl _) rfl trivial
  have q0 : ∀ k : Int32, Qs σ (sI σ 21 0 k) := fun k => Qs.sI (by omega)
  have es : ∀ k : Int32, f_X7_surveyGaps b (memC b (sI σ 21 0 k)) = some (memC b (tSur (sI σ 21 0 k)), nI (gaL σ).length) := fun k => by
    rw [e_survey (g1.qs (q0 k)), gaL_21]
  have t21 : ∀ k : Int32, (tSur (sI σ 21 0 k)).1 21 0 = k := fun k => by
    unfold tSur
    rw [wrG_c (by omega), tW_c (by decide)]
    simp only [sI_1, sI_2, sL_1, sL_2, false_and, and_false, Nat.reduceEqDiff, reduceCtorEq, ↓reduceIte, eq_self, and_self, true_and, and_true]
  by_cases hC : OKr 0 p0 (nI (gaL σ).length - 1)
  · obtain ⟨i, hi, rfl⟩ := num_of (by omega) hC
    have hat : (gaL σ)[i]? = some ((gaL σ)[i]) := List.getElem?_eq_getElem hi
    generalize (gaL σ)[i] = py at hat
    obtain ⟨p, y⟩ := py
    obtain ⟨r1, r2, r3, r4⟩ := gl_mem (O := fun l => oc σ l 80) 64 64 none 0 i p y (Nat.le_refl _) rfl trivial hat
    have ea := e_gapAt (b := b + 177) g1 hC.1
    rw [(nIt i (by omega)).1, Int.toNat_natCast, hd_drop hat] at ea
    have h0i : (0 ≤ nI i) = True := eq_true (by
      have := hC.1
      rw [Int32.lt_iff_toInt_lt] at this
      rw [Int32.le_iff_toInt_le]
      omega)
    have hm1 : (nI (p + 1) = (-1 : Int32)) = False := eq_false (nI_64 (p + 1) (by omega)).1
    by_cases hK : OKr 0 p1 2
    · have q := q0 0
      have hM0 := g2.qs q
      have hMs := hM0.qs (Qs.sur (σ := sI σ 21 0 0))
      have hwr := wrG_at (L := gaL (sI σ 21 0 0)) (σ := tW (sI σ 21 0 0) 17 0 80) (c := 0) (i := i) (p := p) (x := y) (by rw [gaL_21]; exact hat)
      rw [Nat.zero_add] at hwr
      have w18 : (tSur (sI σ 21 0 0)).1 18 i = nI (p + 1) := by unfold tSur; exact hwr.1
      have w19 : (tSur (sI σ 21 0 0)).1 19 i = nI (y - 1) := by unfold tSur; exact hwr.2
      have hF : nI (p + 1) - 1 = nI p := (nI_64 p (by omega)).2.2
      have hL : nI (y - 1) + 1 = nI y := by rw [nI_1, show y - 1 + 1 = y by omega]
      have lF : lnOk (nI (p + 1) - 1) := ⟨p, by omega, hF⟩
      have lL : lnOk (nI (y - 1) + 1) := ⟨y, r2, hL⟩
      have kC := e_X7_keeperOf (b := b) hMs lF lL
      have kM := e_X8_keeper (b := b + 177) hM0 lF lL
      rw [inG_qs Qs.sur, neG_qs Qs.sur] at kC
      generalize hv : encN (fi (inG (sI σ 21 0 0) (nI (p + 1)) (nI (y - 1))) mm) (encN (fi (neG (sI σ 21 0 0) (nI (p + 1) - 1) (nI (y - 1) + 1)) mm) (-1)) = v at kC kM
      have eE : f_X8_endOf (b + 177) (nI (p + 1)) (memM (b + 177) (sI σ 21 0 0)) = some (memM (b + 177) (sI σ 21 0 0), nI (y - 1)) := by
        have oe : ∀ l, oc (sI σ 21 0 0) l 80 = oc σ l 80 := fun l => oc_congr (fun k => ⟨by simp only [sI_1, sI_2, sL_1, sL_2, false_and, and_false, Nat.reduceEqDiff, reduceCtorEq, ↓reduceIte, eq_self, and_self, true_and, and_true], by simp only [sI_1, sI_2, sL_1, sL_2, false_and, and_false, Nat.reduceEqDiff, reduceCtorEq, ↓reduceIte, eq_self, and_self, true_and, and_true]⟩) 80
        exact e_endOf (g1.qs q) r2 (by rw [oe]; exact r3) r1 (fun w w1 w2 => by rw [oe]; exact r4 w w1 w2)
      have hi21 : i < 21 := by
        have hc3 : ∀ k n v x, n ≤ k → x + n = 64 → VO (fun l => oc σ l 80) v x → 3 * (gl (fun l => oc σ l 80) n v x).length ≤ n + (match v with | none => 0 | some p => x - p) := by
          intro k
          induction k with
          | zero =>
            intro n v x k1 k2 k3
            obtain rfl : n = 0 := (by omega)
            exact Nat.zero_le _
          | succ k ih =>
            intro n v x k1 k2 k3
            cases n with
            | zero => exact Nat.zero_le _
            | succ n =>
              rw [gl]
              by_cases ho : oc σ x 80 = true
              · rw [if_pos ho]
                have ih1 := ih n (some x) (x + 1) (by omega) (by omega) (VO_next x)
                have e1 : (match some x with | none => 0 | some p => x + 1 - p) = 1 := by show x + 1 - x = 1; omega
                rw [e1] at ih1
                cases v with
                | none => exact ih1
                | some p' =>
                  have hp' := k3.1
                  show 3 * (if x - p' ≤ 2 then _ else _ : List _).length ≤ n + 1 + (x - p')
                  by_cases hp2 : x - p' ≤ 2
                  · rw [if_pos hp2]; omega
                  · rw [if_neg hp2, List.length_cons]; omega
              · rw [if_neg ho]
                cases v with
                | none => exact Nat.le_trans (ih n none (x + 1) (by omega) (by omega) trivial) (by show n + 0 ≤ n + 1 + 0; omega)
                | some p' =>
                  have hp' := k3.1
                  refine Nat.le_trans (ih n (some p') (x + 1) (by omega) (by omega) ⟨by omega, fun z z1 z2 => ?_⟩) (by show n + (x + 1 - p') ≤ n + 1 + (x - p'); omega)
                  rcases Nat.lt_or_ge z x with hl | hl
                  · exact k3.2 z z1 hl
                  · obtain rfl : z = x := (by omega)
                    exact ho
        have h3 := hc3 64 64 none 0 (Nat.le_refl _) rfl trivial
        have : 3 * (gaL σ).length ≤ 64 := h3
        omega
      refine Or.inl ⟨tSur (sI σ 21 0 0), if p1 = 0 then nI (p + 1) else if p1 = 1 then nI (y - 1) else v, ?_, ?_, (hI'.qs q).qs Qs.sur, t21 0⟩
      · have es0 := es 0
        generalize tSur (sI σ 21 0 0) = τ at es0 w18 w19 kC
        simp only [f_X7_gap, gd, xB_k, es0, bd_s, rN_t (show (gaL σ).length ≤ 80 by omega) hC, bx_l, rd, xB_r9, xB_r10, x1_k, x1_n, x2_k, x2_n, hi21, x1_ik, x2_ik, w18, w19, kC, vi_t, cl_21, Nat.reduceLT, true_and, not_false_eq_true, ↓reduceIte]
        rcases in_02 hK with rfl | rfl | rfl <;> rfl
      · rw [tSur_M]
        have t13 : (sI σ 21 0 0).1 21 0 = 0 := by simp only [sI_1, sI_2, sL_1, sL_2, false_and, and_false, Nat.reduceEqDiff, reduceCtorEq, ↓reduceIte, eq_self, and_self, true_and, and_true]
        simp only [f_X8_gap, f_X8_gap_b13, f_X8_gap_b38, f_X8_gap_b82, h0i, ea, hm1, iI_t hK, z_10, bd_s, gd, lt_, yB_k, yB_i0_s, ↓reduceIte]
        generalize sI σ 21 0 0 = τ at t13 kM eE
        simp only [yB_i0, t13, z_le0, eE, kM, bd_s, yB_k, ↓reduceIte]
        rcases in_02 hK with rfl | rfl | rfl <;> rfl
    · have n0 : ∀ q : Int32, OKr 0 q 2 → (p1 = q) = False := fun q hq => eq_false (fun e => hK (e ▸ hq))
      refine Or.inr ⟨2, 0, tSur (sI σ 21 0 2), 0, fun _ => rfl, by decide, ?_, ?_, (hI'.qs (q0 2)).qs Qs.sur, t21 2⟩
      · have es2 := es 2
        generalize tSur (sI σ 21 0 2) = τ at es2
        simp only [f_X7_gap, gd, xB_k, es2, bd_s, rN_t (show (gaL σ).length ≤ 80 by omega) hC, bx_l, n0 0 (by decide), n0 1 (by decide), n0 2 (by decide), ↓reduceIte]
      · rw [tSur_M]
        simp only [f_X8_gap, f_X8_gap_b13, f_X8_gap_b38, h0i, ea, hm1, iI_f hK, z_le2, bd_s, gd, lt_, yB_k, yB_i0, yB_i0_s, ↓reduceIte, sI_1, sI_2, sL_1, sL_2, false_and, and_false, Nat.reduceEqDiff, reduceCtorEq, ↓reduceIte, eq_self, and_self, true_and, and_true]
  · refine Or.inr ⟨1, 2, tSur (sI σ 21 0 1), 0, fun _ => rfl, by decide, ?_, ?_, (hI'.qs (q0 1)).qs Qs.sur, t21 1⟩
    · have es1 := es 1
      generalize tSur (sI σ 21 0 1) = τ at es1
      simp only [f_X7_gap, gd, xB_k, es1, bd_s, rN_f (show (gaL σ).length ≤ 80 by omega) hC, bx_r, ↓reduceIte]
    · rw [tSur_M]
      by_cases hp : p0 < 0
      · have h0i : (0 ≤ p0) = False := eq_false (fun q => by
          rw [Int32.lt_iff_toInt_lt] at hp
          rw [Int32.le_iff_toInt_le] at q
          omega)
        simp only [f_X8_gap, f_X8_gap_b13, f_X8_gap_b38, h0i, z_le1, gd, lt_, yB_k, yB_i0, yB_i0_s, ↓reduceIte, sI_1, sI_2, sL_1, sL_2, false_and, and_false, Nat.reduceEqDiff, reduceCtorEq, ↓reduceIte, eq_self, and_self, true_and, and_true]
      · have h0i : (0 ≤ p0) = True := eq_true (by
          rw [Int32.lt_iff_toInt_lt] at hp
          rw [Int32.le_iff_toInt_le]
          omega)
        have ea := e_gapAt (b := b + 177) g1 hp
        have e0 : (0 : Int32).toInt = 0 := rfl
        rw [hd_drop0 (by
          rcases Nat.lt_or_ge p0.toInt.toNat (gaL σ).length with hl | hl
          · exfalso
            refine hC ⟨hp, ?_⟩
            rw [Int32.le_iff_toInt_le, (nIt _ (by omega)).2]
            rw [Int32.lt_iff_toInt_lt, e0] at hp
            omega
          · exact hl)] at ea
        simp only [f_X8_gap, f_X8_gap_b13, f_X8_gap_b38, h0i, ea, z_le1, bd_s, gd, lt_, yB_k, yB_i0, yB_i0_s, ↓reduceIte, sI_1, sI_2, sL_1, sL_2, false_and, and_false, Nat.reduceEqDiff, reduceCtorEq, ↓reduceIte, eq_self, and_self, true_and, and_true]
