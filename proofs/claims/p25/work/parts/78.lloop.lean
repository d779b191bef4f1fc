/-! ===== PURE: new numbers, a tick, the loop of turns ===== -/
section M13
variable {b d nn mm nc ns L : Nat} {xs : Nat → Int32} {σ : Sg} {a1 a2 a3 : Int64} {n18 w19 w20 w21 w22 w23 w24 : Int32}
theorem s_num {k281 : _} (hb : nc + 4 ≤ 600104 ∧ ns + 24 ≤ 7301314) (hn0 : nn ≠ 0) (hn : nn < 64) : ∃ f p q r, f ≤ 1000 ∧ r ≤ 100 ∧
    f_L_law_b338 L xs k281 b (yLa d) (yAn d) (yMa d) (yUn d) (yDa d) (yTh d) (yHm d) (yC d) (yM d) a1 a2 a3 (nI nn) n18 w19 w20 w21 w22 w23 w24 (3 : Int32) (memC b σ) (memM d σ) nc ns = f_L_law_b1632 L xs k281 b (yLa d) (yAn d) (yMa d) (yUn d) (yDa d) (yTh d) (yHm d) (yC d) (yM d) a1 a2 a3 (nI nn) n18 w19 w20 w21 w22 w24 (memC b (sI (sI (sI (sI σ 10 2 (nI f)) 10 3 (nI p)) 10 4 (nI q)) 10 5 (nI r))) (memM d (sI (sI (sI (sI σ 10 2 (nI f)) 10 3 (nI p)) 10 4 (nI q)) 10 5 (nI r))) (nc + 4) (ns + 24) := by
  have hg : nc ≤ 600104 ∧ nc + 1 ≤ 600104 ∧ nc + 1 + 3 ≤ 600104 := by omega
  have hg2 : ns ≤ 7301314 ∧ ns + 6 ≤ 7301314 ∧ ns + 6 + 18 ≤ 7301314 := by omega
  have q1 : nc + 1 + 3 = nc + 4 := by omega
  have q2 : ns + 6 + 18 = ns + 24 := by omega
  have hz := nI_z (k := nn) (by omega)
  have h1 := lw_lt w24 (n := 1001) (by omega)
  have h2 := lw_lt (w24 >>> ((4 : Int32) &&& 31)) (n := 120) (by omega)
  have h3 := lw_lt (w24 >>> ((11 : Int32) &&& 31)) (n := 120) (by omega)
  have h4 := lw_lt (w24 >>> ((18 : Int32) &&& 31)) (n := 101) (by omega)
  have kf : f_X7_flatness b (nI (lw w24 1001)) (memC b σ) = some (memC b (sI σ 10 2 (nI (lw w24 1001))), .inl (σ.1 10 2)) := k_flatness (nI_ok (m := 1000) (by omega) (by omega))
  have kb : ∀ τ : Sg, f_X7_bounds b (nI (lw (w24 >>> ((4 : Int32) &&& 31)) 120)) (nI (lw (w24 >>> ((4 : Int32) &&& 31)) 120 + lw (w24 >>> ((11 : Int32) &&& 31)) 120)) (nI (lw (w24 >>> ((18 : Int32) &&& 31)) 101)) (memC b τ) = some (memC b (sI (sI (sI τ 10 3 (nI (lw (w24 >>> ((4 : Int32) &&& 31)) 120))) 10 4 (nI (lw (w24 >>> ((4 : Int32) &&& 31)) 120 + lw (w24 >>> ((11 : Int32) &&& 31)) 120))) 10 5 (nI (lw (w24 >>> ((18 : Int32) &&& 31)) 101))), .inl ()) := fun τ => k_bounds (nI_ok (m := 1000) (by omega) (by omega)) ⟨nI_nlt (by omega) (by omega), nI_le (b := 5000) (by omega) (by omega)⟩ (nI_ok (m := 100) (by omega) (by omega))
  refine ⟨lw w24 1001, lw (w24 >>> ((4 : Int32) &&& 31)) 120, lw (w24 >>> ((4 : Int32) &&& 31)) 120 + lw (w24 >>> ((11 : Int32) &&& 31)) 120, lw (w24 >>> ((18 : Int32) &&& 31)) 101, by omega, by omega, ?_⟩
  simp only [f_L_law_b338, hg, hg2, q1, q2, hz, hn0, low_1001, low_120, low_101, kf, kb, nI_add, xB_k, gk_1, gk_M, gk_C, bn_l, bd_s, cs_1, cv_1, cs_2, cv_2, cs_3, cv_3, cs_4, cv_4, cs_5, cv_5, cs_6, cv_6, cs_7, cv_7, cs_8, cv_8, cs_9, cv_9, yC_k, yC_n, yC_i6, yC_i7, yC_i8, yC_i9, yC_i6_s, yC_i7_s, yC_i8_s, yC_i9_s, gd, lt_, ↓reduceIte, eq_self, and_self, true_and, and_true, not_false_eq_true, sI_1, sI_2, sL_1, sL_2, false_and, and_false, Nat.reduceEqDiff, reduceCtorEq, ↓reduceIte, eq_self, and_self, true_and, and_true]
theorem le_1 {q : Nat} (h : q < 100) : ((1 : Int32) ≤ nI (q + 1)) = True := eq_true (nI_le (a := 1) (b := q + 1) (by omega) (by omega))
theorem s_tck {q : Nat} {k281 : _} (hb : nc + 2 ≤ 600104 ∧ ns + 12 ≤ 7301314) (hT : TI nn mm σ) (hn0 : nn ≠ 0) (hn : nn < 64) (h25 : ¬ w20 = (3 : Int32)) (hq : σ.1 10 14 = nI q) (hq2 : q < 100) {v20 : Int32} :
    f_L_law_b338 L xs k281 b (yLa d) (yAn d) (yMa d) (yUn d) (yDa d) (yTh d) (yHm d) (yC d) (yM d) a1 a2 a3 (nI nn) n18 w19 v20 w21 w22 w23 w24 w20 (memC b σ) (memM d σ) nc ns = f_L_law_L646 L xs k281 200 b (yLa d) (yAn d) (yMa d) (yUn d) (yDa d) (yTh d) (yHm d) (yC d) (yM d) a1 a2 a3 (nI nn) n18 w19 v20 w21 w22 w24 (0 : Int32) (memC b (tPass σ nn mm)) (memM d σ) (nc + 2) (ns + 12) := by
  have hz := nI_z (k := nn) (by omega)
  have hI := hT.inv
  have e : tP σ = tPass σ nn mm := by unfold tP; rw [gn_eq hT.1, gm_eq hT.2.1]
  have kt := k_tick (b := b) hI (by rw [hq, nI_1]; exact nI_le (b := 2000) (by omega) (by omega))
  rw [e] at kt
  have e14 : (tPass σ nn mm).1 10 14 = nI (q + 1) := by rw [tPass_now, hq, nI_1]
  rw [e14] at kt
  have h1 := le_1 hq2
  simp only [f_L_law_b338, hb, hz, hn0, h25, kt, h1, xB_k, gk_1, gk_C, bn_l, gd, ↓reduceIte, and_self]
/-- a turn -/
theorem s_281 {at_ bs ar t q : Nat} {k281 : _} (hb : nc + 700 ≤ 600104 ∧ ns + 4200 ≤ 7301314) (hT : TI nn mm σ) (hn : nn < 34) (ht : t < 36) (hat : at_ < 1000) (hbs : bs < 36000) (har : ar < 64) (hq : σ.1 10 14 = nI q) (hq2 : q ≤ t) : ∃ (n2 : Nat) (σ2 : Sg) (q' nc' ns' : Nat), TI n2 mm σ2 ∧ n2 < 64 ∧ σ2.1 10 14 = nI q' ∧ q' ≤ t + 1 ∧ nc' ≤ nc + 700 ∧ ns' ≤ ns + 4200 ∧
    f_L_law_b281 L xs k281 b (yLa d) (yAn d) (yMa d) (yUn d) (yDa d) (yTh d) (yHm d) (yC d) (yM d) (σ.2 1) (σ.2 2) (σ.2 0) (nI nn) (nI mm) (nI at_) (nI bs) (nI ar) (nI t) (memC b σ) (memM d σ) nc ns = k281 b (yLa d) (yAn d) (yMa d) (yUn d) (yDa d) (yTh d) (yHm d) (yC d) (yM d) (σ2.2 1) (σ2.2 2) (σ2.2 0) (nI n2) (nI mm) (nI (at_ + 2)) (nI bs) (nI ar) (nI (t + 1)) (memC b σ2) (memM d σ2) nc' ns' := by
  have hmm := hT.2.2.2.2.1
  have h36 : ((36 : Int32) ≤ nI t) = False := nle_t (b := 36) ht (by omega)
  have h34 : ((34 : Int32) ≤ nI nn) = False := nle_t (b := 34) hn (by omega)
  have hg : nc ≤ 600104 ∧ ns ≤ 7301314 := by omega
  have p0 : ((0 : Int32) ≤ nI at_) = True := eq_true (nI_pos' (by omega))
  have p1 : ((0 : Int32) ≤ nI (at_ + 1)) = True := eq_true (nI_pos' (by omega))
  -- the end: all questions, from a state that both hold
  have fin : ∀ (n1 : Nat) (τ : Sg) (y : Int32) (q' nc1 ns1 : Nat), TI n1 mm τ → n1 < 50 → τ.1 10 14 = nI q' → q' ≤ t + 1 → nc1 ≤ nc + 5 → ns1 ≤ ns + 30 → ∃ (n2 : Nat) (σ2 : Sg) (q' nc' ns' : Nat), TI n2 mm σ2 ∧ n2 < 64 ∧ σ2.1 10 14 = nI q' ∧ q' ≤ t + 1 ∧ nc' ≤ nc + 700 ∧ ns' ≤ ns + 4200 ∧
      f_L_law_b1632 L xs k281 b (yLa d) (yAn d) (yMa d) (yUn d) (yDa d) (yTh d) (yHm d) (yC d) (yM d) (τ.2 1) (τ.2 2) (τ.2 0) (nI n1) (nI mm) (nI (at_ + 2)) (nI bs) (nI ar) (nI t) y (memC b τ) (memM d τ) nc1 ns1 = k281 b (yLa d) (yAn d) (yMa d) (yUn d) (yDa d) (yTh d) (yHm d) (yC d) (yM d) (σ2.2 1) (σ2.2 2) (σ2.2 0) (nI n2) (nI mm) (nI (at_ + 2)) (nI bs) (nI ar) (nI (t + 1)) (memC b σ2) (memM d σ2) nc' ns' := by
    intro n1 τ y q' nc1 ns1 hT1 hn1 hq1 hq2 hc1 hs1
    have e := s_asks (b := b) (d := d) (L := L) (xs := xs) (w19 := nI (at_ + 2)) (w20 := nI bs) (w21 := nI ar) (t := t) (w24 := y) (k281 := k281) (nc := nc1) (ns := ns1) (by omega) hT1.1 hT1.2.2.2.2.2.2.2.2.2.2 hT1.2.1 (by omega) (by omega)
    have q1 : Qs τ (tW (tW τ 17 0 80) 17 0 80) := Qs.trans Qs.tw Qs.tw
    have em : memM d (tW (tW τ 17 0 80) 17 0 80) = memM d τ := memM_congr (fun c k hc => by rw [tW_c (by omega), tW_c (by omega)]) (fun k _ _ => by rw [tW_c (by decide), tW_c (by decide)])
    refine ⟨n1, tW (tW τ 17 0 80) 17 0 80, q', nc1 + 12 * n1 + mm + 20, ns1 + 72 * n1 + 6 * mm + 120, hT1.qs q1 (fun j => rfl), by omega, (q1.1 10 14 (by decide)).trans hq1, hq2, by omega, by omega, ?_⟩
    rw [em]
    exact e
  -- a grain
  have gr : ∀ x y : Int32, ∃ (n2 : Nat) (σ2 : Sg) (q' nc' ns' : Nat), TI n2 mm σ2 ∧ n2 < 64 ∧ σ2.1 10 14 = nI q' ∧ q' ≤ t + 1 ∧ nc' ≤ nc + 700 ∧ ns' ≤ ns + 4200 ∧
      f_L_law_b343 L xs k281 b (yLa d) (yAn d) (yMa d) (yUn d) (yDa d) (yTh d) (yHm d) (yC d) (yM d) (σ.2 1) (σ.2 2) (σ.2 0) (nI nn) (nI mm) (nI (at_ + 2)) (nI bs) (nI ar) (nI t) x y (memC b σ) (memM d σ) nc ns = k281 b (yLa d) (yAn d) (yMa d) (yUn d) (yDa d) (yTh d) (yHm d) (yC d) (yM d) (σ2.2 1) (σ2.2 2) (σ2.2 0) (nI n2) (nI mm) (nI (at_ + 2)) (nI bs) (nI ar) (nI (t + 1)) (memC b σ2) (memM d σ2) nc' ns' := by
    intro x y
    obtain ⟨l, a, w, u, g1, g2, g3, g4, g5, e⟩ := s_343 (b := b) (d := d) (L := L) (xs := xs) (a1 := σ.2 1) (a2 := σ.2 2) (n18 := nI mm) (w19 := nI (at_ + 2)) (w22 := nI t) (w24 := y) (v23 := x) (k281 := k281) (nc := nc) (ns := ns) (by omega) hT.1 (by omega) hbs har
    have hT1 := hT.put (by omega) g1 g2 g3 g4 g5
    obtain ⟨n2, σ2, q', nc', ns', r1, r2, r3, r4, r5, r6, r7⟩ := fin (nn + 1) (tPut σ nn (nI l) (nI a) (nI w) (nI u)) y q (nc + 5) (ns + 30) hT1 (by omega) (by rw [put_c _ _ (by omega)]; exact hq) (by omega) (by omega) (by omega)
    have l1 : (tPut σ nn (nI l) (nI a) (nI w) (nI u)).2 1 = σ.2 1 := rfl
    have l2 : (tPut σ nn (nI l) (nI a) (nI w) (nI u)).2 2 = σ.2 2 := rfl
    rw [l1, l2] at r7
    exact ⟨n2, σ2, q', nc', ns', r1, r2, r3, r4, r5, r6, e.trans r7⟩
  -- otherwise
  have ot : ∀ (x y : Int32) (kd : Nat), kd < 8 → ∃ (n2 : Nat) (σ2 : Sg) (q' nc' ns' : Nat), TI n2 mm σ2 ∧ n2 < 64 ∧ σ2.1 10 14 = nI q' ∧ q' ≤ t + 1 ∧ nc' ≤ nc + 700 ∧ ns' ≤ ns + 4200 ∧
      f_L_law_b338 L xs k281 b (yLa d) (yAn d) (yMa d) (yUn d) (yDa d) (yTh d) (yHm d) (yC d) (yM d) (σ.2 1) (σ.2 2) (σ.2 0) (nI nn) (nI mm) (nI (at_ + 2)) (nI bs) (nI ar) (nI t) x y (nI kd) (memC b σ) (memM d σ) nc ns = k281 b (yLa d) (yAn d) (yMa d) (yUn d) (yDa d) (yTh d) (yHm d) (yC d) (yM d) (σ2.2 1) (σ2.2 2) (σ2.2 0) (nI n2) (nI mm) (nI (at_ + 2)) (nI bs) (nI ar) (nI (t + 1)) (memC b σ2) (memM d σ2) nc' ns' := by
    intro x y kd hkd
    by_cases h0 : nn = 0
    · obtain ⟨n2, σ2, q', nc', ns', r1, r2, r3, r4, r5, r6, r7⟩ := gr x y
      refine ⟨n2, σ2, q', nc', ns', r1, r2, r3, r4, r5, r6, ?_⟩
      rw [← r7]
      have hz : nI nn = 0 := by rw [h0]; rfl
      simp only [f_L_law_b338, hz, ↓reduceIte]
    · by_cases h3 : kd = 3
      · obtain ⟨f, p, q3, r, g1, g2, e⟩ := s_num (b := b) (d := d) (σ := σ) (L := L) (xs := xs) (a1 := σ.2 1) (a2 := σ.2 2) (a3 := σ.2 0) (n18 := nI mm) (w19 := nI (at_ + 2)) (w20 := nI bs) (w21 := nI ar) (w22 := nI t) (w23 := x) (w24 := y) (k281 := k281) (nc := nc) (ns := ns) (by omega) h0 (by omega)
        have hT1 := hT.num (f := f) (p := p) (q := q3) (r := r) g1 g2
        obtain ⟨n2, σ2, q', nc', ns', r1, r2, r3, r4, r5, r6, r7⟩ := fin nn _ y q (nc + 4) (ns + 24) hT1 (by omega) (by simp only [sI_1, sI_2, sL_1, sL_2, false_and, and_false, Nat.reduceEqDiff, reduceCtorEq, ↓reduceIte, eq_self, and_self, true_and, and_true]; exact hq) (by omega) (by omega) (by omega)
        subst h3
        exact ⟨n2, σ2, q', nc', ns', r1, r2, r3, r4, r5, r6, e.trans r7⟩
      · have n3 : ¬ nI kd = (3 : Int32) := fun z => h3 ((nI_eq (a := kd) (b := 3) (by omega) (by omega)).mp z)
        have e := s_tck (b := b) (d := d) (σ := σ) (L := L) (xs := xs) (a1 := σ.2 1) (a2 := σ.2 2) (a3 := σ.2 0) (n18 := nI mm) (w19 := nI (at_ + 2)) (v20 := nI bs) (w20 := nI kd) (w21 := nI ar) (w22 := nI t) (w23 := x) (w24 := y) (k281 := k281) (nc := nc) (ns := ns) (q := q) (by omega) hT h0 (by omega) n3 hq (by omega)
        have e2 := s_ltick (b := b) (d := d) (L := L) (xs := xs) (M := memC b (tPass σ nn mm)) (w19 := nI (at_ + 2)) (w20 := nI bs) (w21 := nI ar) (w22 := nI t) (w24 := y) (k281 := k281) (nc := nc + 2) (ns := ns + 12) (by omega) hT (by omega)
        obtain ⟨n1, hT1, hn1⟩ := hT.pass (by omega)
        rw [hT1.1.1] at e2
        have hq' : (tPass σ nn mm).1 10 14 = nI (q + 1) := by rw [tPass_now, hq, nI_1]
        obtain ⟨n2, σ2, q', nc', ns', r1, r2, r3, r4, r5, r6, r7⟩ := fin n1 _ y (q + 1) (nc + 2) (ns + 12) hT1 (by omega) hq' (by omega) (by omega) (by omega)
        exact ⟨n2, σ2, q', nc', ns', r1, r2, r3, r4, r5, r6, e.trans (e2.trans r7)⟩
  have hk8 := lw_lt (cellv L xs (nI at_)) (n := 8) (by omega)
  have h3k : ((3 : Int32) ≤ nI (lw (cellv L xs (nI at_)) 8)) = (3 ≤ lw (cellv L xs (nI at_)) 8) := propext (nI_leI (a := 3) (by omega) (by omega))
  have h24 : (nI nn < (24 : Int32)) = (nn < 24) := propext (nI_ltI (b := 24) (by omega) (by omega))
  by_cases hA : 3 ≤ lw (cellv L xs (nI at_)) 8
  · obtain ⟨n2, σ2, q', nc', ns', r1, r2, r3, r4, r5, r6, r7⟩ := ot (cellv L xs (nI at_)) (cellv L xs (nI (at_ + 1))) _ hk8
    refine ⟨n2, σ2, q', nc', ns', r1, r2, r3, r4, r5, r6, ?_⟩
    rw [← r7]
    simp only [f_L_law_b281, h36, h34, hg, p0, p1, low_8, h3k, hA, nI_1, nI_2, gk_1, bd_s, gd, lt_, ↓reduceIte, and_self]
  · by_cases hB : nn < 24
    · obtain ⟨n2, σ2, q', nc', ns', r1, r2, r3, r4, r5, r6, r7⟩ := gr (cellv L xs (nI at_)) (cellv L xs (nI (at_ + 1)))
      refine ⟨n2, σ2, q', nc', ns', r1, r2, r3, r4, r5, r6, ?_⟩
      rw [← r7]
      simp only [f_L_law_b281, h36, h34, hg, p0, p1, low_8, h3k, hA, h24, hB, nI_1, nI_2, gk_1, bd_s, gd, lt_, ↓reduceIte, and_self]
    · obtain ⟨n2, σ2, q', nc', ns', r1, r2, r3, r4, r5, r6, r7⟩ := ot (cellv L xs (nI at_)) (cellv L xs (nI (at_ + 1))) _ hk8
      refine ⟨n2, σ2, q', nc', ns', r1, r2, r3, r4, r5, r6, ?_⟩
      rw [← r7]
      simp only [f_L_law_b281, h36, h34, hg, p0, p1, low_8, h3k, hA, h24, hB, nI_1, nI_2, gk_1, bd_s, gd, lt_, ↓reduceIte, and_self]
theorem l_281 {bs ar : Nat} (hbs : bs < 36000) (har : ar < 64) : ∀ (f t nn q nc ns : Nat) (σ : Sg), t ≤ 36 → 36 < t + f → nc + 700 * (36 - t) ≤ 600104 → ns + 4200 * (36 - t) ≤ 7301314 → TI nn mm σ → nn < 64 → σ.1 10 14 = nI q → q ≤ t →
    f_L_law_L281 L xs f b (yLa d) (yAn d) (yMa d) (yUn d) (yDa d) (yTh d) (yHm d) (yC d) (yM d) (σ.2 1) (σ.2 2) (σ.2 0) (nI nn) (nI mm) (nI (5 + 2 * t)) (nI bs) (nI ar) (nI t) (memC b σ) (memM d σ) nc ns = some (1 : Int32) := by
  intro f
  induction f with
  | zero => intro t nn q nc ns σ h1 h2; omega
  | succ f ih =>
    intro t nn q nc ns σ h1 h2 hb hb2 hT hn hq hq2
    show f_L_law_b281 L xs (f_L_law_L281 L xs f) _ _ _ _ _ _ _ _ _ _ _ _ _ _ _ _ _ _ (nI t) _ _ _ _ = _
    have hg : nc ≤ 600104 ∧ ns ≤ 7301314 := by omega
    rcases Nat.lt_or_ge t 36 with ht | ht
    · by_cases hn34 : nn < 34
      · obtain ⟨n2, σ2, q', nc', ns', r1, r2, r3, r4, r5, r6, r7⟩ := s_281 (b := b) (d := d) (L := L) (xs := xs) (k281 := f_L_law_L281 L xs f) (nc := nc) (ns := ns) (at_ := 5 + 2 * t) (by omega) hT hn34 ht (by omega) hbs har hq hq2
        rw [r7, show 5 + 2 * t + 2 = 5 + 2 * (t + 1) by omega]
        exact ih (t + 1) n2 q' nc' ns' σ2 (by omega) (by omega) (by omega) (by omega) r1 r2 r3 r4
      · have h36 : ((36 : Int32) ≤ nI t) = False := nle_t (b := 36) ht (by omega)
        have h34 : ((34 : Int32) ≤ nI nn) = True := eq_true (nI_le (a := 34) (by omega) (by omega))
        simp only [f_L_law_b281, f_L_law_b2114, h36, h34, hg, gd, ↓reduceIte, and_self]
    · obtain rfl : t = 36 := by omega
      have h36 : ((36 : Int32) ≤ nI 36) = True := eq_true (by decide)
      simp only [f_L_law_b281, f_L_law_b2114, h36, hg, gd, ↓reduceIte, and_self]
end M13
