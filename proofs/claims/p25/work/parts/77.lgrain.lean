/-! ===== PURE: the law puts a grain; new numbers ===== -/
theorem low_4 {v : Int32} {M : Mem} : f_L_low v (4 : Int32) M = some (M, nI (lw v 4)) := e_L_low (n := 4) (by omega) (by omega)
theorem low_2 {v : Int32} {M : Mem} : f_L_low v (2 : Int32) M = some (M, nI (lw v 2)) := e_L_low (n := 2) (by omega) (by omega)
theorem low_3 {v : Int32} {M : Mem} : f_L_low v (3 : Int32) M = some (M, nI (lw v 3)) := e_L_low (n := 3) (by omega) (by omega)
theorem low_8 {v : Int32} {M : Mem} : f_L_low v (8 : Int32) M = some (M, nI (lw v 8)) := e_L_low (n := 8) (by omega) (by omega)
theorem low_100 {v : Int32} {M : Mem} : f_L_low v (100 : Int32) M = some (M, nI (lw v 100)) := e_L_low (n := 100) (by omega) (by omega)
theorem low_101 {v : Int32} {M : Mem} : f_L_low v (101 : Int32) M = some (M, nI (lw v 101)) := e_L_low (n := 101) (by omega) (by omega)
theorem low_120 {v : Int32} {M : Mem} : f_L_low v (120 : Int32) M = some (M, nI (lw v 120)) := e_L_low (n := 120) (by omega) (by omega)
theorem low_150 {v : Int32} {M : Mem} : f_L_low v (150 : Int32) M = some (M, nI (lw v 150)) := e_L_low (n := 150) (by omega) (by omega)
theorem low_1001 {v : Int32} {M : Mem} : f_L_low v (1001 : Int32) M = some (M, nI (lw v 1001)) := e_L_low (n := 1001) (by omega) (by omega)
theorem low_10000 {v : Int32} {M : Mem} : f_L_low v (10000 : Int32) M = some (M, nI (lw v 10000)) := e_L_low (n := 10000) (by omega) (by omega)
theorem low_36000 {v : Int32} {M : Mem} : f_L_low v (36000 : Int32) M = some (M, nI (lw v 36000)) := e_L_low (n := 36000) (by omega) (by omega)
theorem low_5 {v : Int32} {M : Mem} : f_L_low v (5 : Int32) M = some (M, nI (lw v 5)) := e_L_low (n := 5) (by omega) (by omega)
theorem md_64 {k : Nat} (h : k < 2147483648) : nI k - nI k / (64 : Int32) * (64 : Int32) = nI (k % 64) := pk_rem (a := k) (d := 64) (by omega) (by omega) (by omega)
theorem md_36 {k : Nat} (h : k < 2147483648) : nI k - nI k / (36000 : Int32) * (36000 : Int32) = nI (k % 36000) := pk_rem (a := k) (d := 36000) (by omega) (by omega) (by omega)
theorem o_1 (k : Nat) : (1 : Int32) + nI k = nI (1 + k) := nI_add 1 k
theorem nI_z {k : Nat} (h : k < 2147483648) : (nI k = 0) = (k = 0) := propext (nI_eq (a := k) (b := 0) (by omega) (by omega))
theorem put_mem {d : Nat} {σ : Sg} {n : Nat} {l a m u : Int32} : memM d (sI (sI (sI (sI (sI σ 0 n l) 1 n a) 2 n m) 3 n u) 5 n 1) = memM d (tPut σ n l a m u) := by
  refine memM_congr (fun c k hc => ?_) (fun k h1 h2 => ?_) <;> simp only [tPut, sI_1, sL_1] <;> grind (splits := 20)
theorem put_0 {σ : Sg} {n : Nat} {l a m u : Int32} : (tPut σ n l a m u).2 0 = σ.2 0 + m.toInt64 * (l + (20 : Int32)).toInt64 := by simp only [tPut, sI_1, sI_2, sL_1, sL_2, false_and, and_false, Nat.reduceEqDiff, reduceCtorEq, ↓reduceIte, eq_self, and_self, true_and, and_true]
section M12
variable {b d nn nc ns L : Nat} {xs : Nat → Int32} {σ : Sg} {a1 a2 a3 : Int64} {n18 w19 w20 w21 w22 w24 : Int32}
theorem s_443 {s l a : Nat} {s0 s1 v23 : Int32} {k281 : _} (hb : nc + 5 ≤ 600104 ∧ ns + 30 ≤ 7301314) (hG : InvG nn σ) (hn : nn < 64) (hl : l < 64) (ha : a < 36000) (hs : s0 = nI s) (hs1 : 0 < s) (hs2 : s ≤ 10000) :
    f_L_law_b443 L xs k281 s0 s1 (1 : Int32) b (yLa d) (yAn d) (yMa d) (yUn d) (yDa d) (yTh d) (yHm d) (yC d) (yM d) a1 a2 (σ.2 0) (nI nn) n18 w19 w20 w21 w22 v23 w24 (nI l) (nI a) (memC b σ) (memM d σ) nc ns = f_L_law_b1632 L xs k281 b (yLa d) (yAn d) (yMa d) (yUn d) (yDa d) (yTh d) (yHm d) (yC d) (yM d) a1 a2 ((tPut σ nn (nI l) (nI a) (nI (1 + lw s1 s)) (nI (lw (v23 >>> ((7 : Int32) &&& 31)) 100))).2 0) (nI (nn + 1)) n18 w19 w20 w21 w22 w24 (memC b (tPut σ nn (nI l) (nI a) (nI (1 + lw s1 s)) (nI (lw (v23 >>> ((7 : Int32) &&& 31)) 100)))) (memM d (tPut σ nn (nI l) (nI a) (nI (1 + lw s1 s)) (nI (lw (v23 >>> ((7 : Int32) &&& 31)) 100)))) (nc + 5) (ns + 30) := by
  subst hs
  have hlw := lw_lt s1 hs1
  have hlu := lw_lt (v23 >>> ((7 : Int32) &&& 31)) (n := 100) (by omega)
  have hg : nc ≤ 600104 ∧ ns ≤ 7301314 := by omega
  have kg : f_X7_grain b (nI l) (nI a) (nI (1 + lw s1 s)) (nI (lw (v23 >>> ((7 : Int32) &&& 31)) 100)) (memC b σ) = some (memC b (tPut σ nn (nI l) (nI a) (nI (1 + lw s1 s)) (nI (lw (v23 >>> ((7 : Int32) &&& 31)) 100))), .inl (nI nn)) :=
    k_grain hG (by omega) (nI_ok (m := 63) (by omega) (by omega)) (nI_ok (m := 35999) (by omega) (by omega)) (nI_ok1 (m := 10000) (by omega) (by omega) (by omega)) (nI_ok (m := 99) (by omega) (by omega))
  have el : ∀ M, f_L_low s1 (nI s) M = some (M, nI (lw s1 s)) := fun M => e_L_low hs1 (by omega)
  generalize lw s1 s = w at *
  rw [put_0, ← put_mem]
  simp only [f_L_law_b443, hb, hg, hn, el, low_100, o_1, kg, e_L_moment hn, xB_k, gk_1, gk_C, bn_l, bd_s, nI_1, car, gd, lt_, ↓reduceIte, eq_self, and_self, true_and, and_true, not_false_eq_true, vi_t, cl_64, Nat.reduceLT, yLa_k, yLa_n, yLa_ik, yLa_ik_s, yAn_k, yAn_n, yAn_ik, yAn_ik_s, yMa_k, yMa_n, yMa_ik, yMa_ik_s, yUn_k, yUn_n, yUn_ik, yUn_ik_s, yDa_k, yDa_n, yDa_ik, yDa_ik_s, yTh_k, yTh_n, yTh_ik, yTh_ik_s, yHm_k, yHm_n, yHm_ik, yHm_ik_s, yC_k, yC_n, yC_i1, yC_i1_s, yC_i2, yC_i2_s, yC_i3, yC_i3_s, yC_i4, yC_i4_s, yC_i5, yC_i5_s, yC_i6, yC_i6_s, yC_i7, yC_i7_s, yC_i8, yC_i8_s, yC_i9, yC_i9_s, yM_k, yM_n, yM_m0, yM_m0_s, yM_m1, yM_m1_s, yM_m2, yM_m2_s, M_no11, M_no12, M_no13, M_no14, M_no15, M_no16, M_no17, M_no18, M_no19, M_no20, M_no21, M_no22, M_nl0, M_nl1, M_nl2, M_nl3, M_nl4, M_nl5, sI_1, sI_2, sL_1, sL_2, false_and, and_false, Nat.reduceEqDiff, reduceCtorEq, ↓reduceIte, eq_self, and_self, true_and, and_true]
theorem s_417 {l a : Nat} {v23 : Int32} {k281 : _} (hb : nc + 5 ≤ 600104 ∧ ns + 30 ≤ 7301314) (hG : InvG nn σ) (hn : nn < 64) (hl : l < 64) (ha : a < 36000) : ∃ w u, 1 ≤ w ∧ w ≤ 10000 ∧ u ≤ 99 ∧
    f_L_law_b417 L xs k281 (nI a) b (yLa d) (yAn d) (yMa d) (yUn d) (yDa d) (yTh d) (yHm d) (yC d) (yM d) a1 a2 (σ.2 0) (nI nn) n18 w19 w20 w21 w22 v23 w24 (nI l) (memC b σ) (memM d σ) nc ns = f_L_law_b1632 L xs k281 b (yLa d) (yAn d) (yMa d) (yUn d) (yDa d) (yTh d) (yHm d) (yC d) (yM d) a1 a2 ((tPut σ nn (nI l) (nI a) (nI w) (nI u)).2 0) (nI (nn + 1)) n18 w19 w20 w21 w22 w24 (memC b (tPut σ nn (nI l) (nI a) (nI w) (nI u))) (memM d (tPut σ nn (nI l) (nI a) (nI w) (nI u))) (nc + 5) (ns + 30) := by
  have hg : nc ≤ 600104 ∧ ns ≤ 7301314 := by omega
  have hlu := lw_lt (v23 >>> ((7 : Int32) &&& 31)) (n := 100) (by omega)
  have h2 := lw_lt (v23 >>> ((5 : Int32) &&& 31)) (n := 2) (by omega)
  have hz := nI_z (k := lw (v23 >>> ((5 : Int32) &&& 31)) 2) (by omega)
  have hw5 := lw_lt (w24 >>> ((13 : Int32) &&& 31)) (n := 5) (by omega)
  have hw1 := lw_lt (w24 >>> ((13 : Int32) &&& 31)) (n := 10000) (by omega)
  by_cases h : lw (v23 >>> ((5 : Int32) &&& 31)) 2 = 0
  · refine ⟨1 + lw (w24 >>> ((13 : Int32) &&& 31)) 5, lw (v23 >>> ((7 : Int32) &&& 31)) 100, by omega, by omega, by omega, ?_⟩
    rw [← s_443 (k281 := k281) (s := 5) (L := L) (xs := xs) hb hG hn hl ha rfl (by omega) (by omega)]
    simp only [f_L_law_b417, hg, low_2, hz, h, gk_1, bd_s, gd, lt_, ↓reduceIte, and_self]
    rfl
  · refine ⟨1 + lw (w24 >>> ((13 : Int32) &&& 31)) 10000, lw (v23 >>> ((7 : Int32) &&& 31)) 100, by omega, by omega, by omega, ?_⟩
    rw [← s_443 (k281 := k281) (s := 10000) (L := L) (xs := xs) hb hG hn hl ha rfl (by omega) (by omega)]
    simp only [f_L_law_b417, hg, low_2, hz, h, gk_1, bd_s, gd, lt_, ↓reduceIte, and_self]
    rfl
theorem s_380 {l bs : Nat} {v23 v26 : Int32} {k281 : _} (hb : nc + 5 ≤ 600104 ∧ ns + 30 ≤ 7301314) (hG : InvG nn σ) (hn : nn < 64) (hl : l < 64) (hbs : bs < 36000) : ∃ a w u, a < 36000 ∧ 1 ≤ w ∧ w ≤ 10000 ∧ u ≤ 99 ∧
    f_L_law_b380 L xs k281 (nI l) b (yLa d) (yAn d) (yMa d) (yUn d) (yDa d) (yTh d) (yHm d) (yC d) (yM d) a1 a2 (σ.2 0) (nI nn) n18 w19 (nI bs) w21 w22 v23 w24 v26 (memC b σ) (memM d σ) nc ns = f_L_law_b1632 L xs k281 b (yLa d) (yAn d) (yMa d) (yUn d) (yDa d) (yTh d) (yHm d) (yC d) (yM d) a1 a2 ((tPut σ nn (nI l) (nI a) (nI w) (nI u)).2 0) (nI (nn + 1)) n18 w19 (nI bs) w21 w22 w24 (memC b (tPut σ nn (nI l) (nI a) (nI w) (nI u))) (memM d (tPut σ nn (nI l) (nI a) (nI w) (nI u))) (nc + 5) (ns + 30) := by
  have hg : nc ≤ 600104 ∧ ns ≤ 7301314 := by omega
  have hw1 := lw_lt (w24 >>> ((6 : Int32) &&& 31)) (n := 36000) (by omega)
  have hw2 := lw_lt (w24 >>> ((6 : Int32) &&& 31)) (n := 150) (by omega)
  by_cases h : v26 = 0
  · obtain ⟨w, u, h1, h2, h3, e⟩ := s_417 (b := b) (d := d) (L := L) (xs := xs) (a1 := a1) (a2 := a2) (n18 := n18) (w19 := w19) (w20 := nI bs) (w21 := w21) (w22 := w22) (w24 := w24) (v23 := v23) (k281 := k281) hb hG hn hl hw1
    refine ⟨_, w, u, hw1, h1, h2, h3, ?_⟩
    rw [← e]
    simp only [f_L_law_b380, hg, low_36000, h, gk_1, bd_s, gd, lt_, ↓reduceIte, and_self]
  · have hm : (bs + lw (w24 >>> ((6 : Int32) &&& 31)) 150) % 36000 < 36000 := Nat.mod_lt _ (by omega)
    obtain ⟨w, u, h1, h2, h3, e⟩ := s_417 (b := b) (d := d) (L := L) (xs := xs) (a1 := a1) (a2 := a2) (n18 := n18) (w19 := w19) (w20 := nI bs) (w21 := w21) (w22 := w22) (w24 := w24) (v23 := v23) (k281 := k281) hb hG hn hl hm
    refine ⟨_, w, u, hm, h1, h2, h3, ?_⟩
    rw [← e, ← md_36 (by omega)]
    simp only [f_L_law_b380, hg, low_150, h, nI_add, gk_1, bd_s, gd, lt_, ↓reduceIte, and_self]
theorem s_343 {bs ar : Nat} {v23 : Int32} {k281 : _} (hb : nc + 5 ≤ 600104 ∧ ns + 30 ≤ 7301314) (hG : InvG nn σ) (hn : nn < 64) (hbs : bs < 36000) (har : ar < 64) : ∃ l a w u, l < 64 ∧ a < 36000 ∧ 1 ≤ w ∧ w ≤ 10000 ∧ u ≤ 99 ∧
    f_L_law_b343 L xs k281 b (yLa d) (yAn d) (yMa d) (yUn d) (yDa d) (yTh d) (yHm d) (yC d) (yM d) a1 a2 (σ.2 0) (nI nn) n18 w19 (nI bs) (nI ar) w22 v23 w24 (memC b σ) (memM d σ) nc ns = f_L_law_b1632 L xs k281 b (yLa d) (yAn d) (yMa d) (yUn d) (yDa d) (yTh d) (yHm d) (yC d) (yM d) a1 a2 ((tPut σ nn (nI l) (nI a) (nI w) (nI u)).2 0) (nI (nn + 1)) n18 w19 (nI bs) (nI ar) w22 w24 (memC b (tPut σ nn (nI l) (nI a) (nI w) (nI u))) (memM d (tPut σ nn (nI l) (nI a) (nI w) (nI u))) (nc + 5) (ns + 30) := by
  have hg : nc ≤ 600104 ∧ ns ≤ 7301314 := by omega
  have hw1 := lw_lt w24 (n := 64) (by omega)
  have hw2 := lw_lt w24 (n := 4) (by omega)
  have h4 := lw_lt (v23 >>> ((3 : Int32) &&& 31)) (n := 4) (by omega)
  have hz := nI_z (k := lw (v23 >>> ((3 : Int32) &&& 31)) 4) (by omega)
  by_cases h : lw (v23 >>> ((3 : Int32) &&& 31)) 4 = 0
  · obtain ⟨a, w, u, h0, h1, h2, h3, e⟩ := s_380 (b := b) (d := d) (L := L) (xs := xs) (a1 := a1) (a2 := a2) (n18 := n18) (w19 := w19) (w21 := nI ar) (w22 := w22) (w24 := w24) (v23 := v23) (v26 := nI (lw (v23 >>> ((3 : Int32) &&& 31)) 4)) (k281 := k281) hb hG hn hw1 hbs
    refine ⟨_, a, w, u, hw1, h0, h1, h2, h3, ?_⟩
    rw [← e]
    simp only [f_L_law_b343, hg, low_4, low_64, hz, h, nI_0, gk_1, bd_s, gd, lt_, ↓reduceIte, and_self]
  · have hm : (ar + lw w24 4) % 64 < 64 := Nat.mod_lt _ (by omega)
    obtain ⟨a, w, u, h0, h1, h2, h3, e⟩ := s_380 (b := b) (d := d) (L := L) (xs := xs) (a1 := a1) (a2 := a2) (n18 := n18) (w19 := w19) (w21 := nI ar) (w22 := w22) (w24 := w24) (v23 := v23) (v26 := nI (lw (v23 >>> ((3 : Int32) &&& 31)) 4)) (k281 := k281) hb hG hn hm hbs
    refine ⟨_, a, w, u, hm, h0, h1, h2, h3, ?_⟩
    rw [← e, ← md_64 (by omega)]
    simp only [f_L_law_b343, hg, low_4, hz, h, nI_add, gk_1, bd_s, gd, lt_, ↓reduceIte, and_self]
end M12
