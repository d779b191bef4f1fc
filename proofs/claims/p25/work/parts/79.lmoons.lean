/-! ===== PURE: the law puts its moons; its whole body ===== -/
theorem tMoon_2 {σ : Sg} {m c : Nat} {l a w : Int32} : (tMoon σ m l a w).2 c = σ.2 c := rfl
theorem moon_c {σ : Sg} {m : Nat} {l a w : Int32} (c k : Nat) (hc : ¬ (c = 7 ∨ c = 8 ∨ c = 9 ∨ c = 20 ∨ (c = 10 ∧ k = 1))) : (tMoon σ m l a w).1 c k = σ.1 c k := by
  simp only [tMoon, sI_1]
  rw [if_neg (by omega), if_neg (by omega), if_neg (by omega), if_neg (by omega), if_neg (by omega)]
theorem TI.moon {nn m l a w : Nat} {σ : Sg} (h : TI nn m σ) (hm3 : m < 3) (hl : l < 64) (ha : a < 36000) (hw1 : 1 ≤ w) (hw2 : w ≤ 10000) : TI nn (m + 1) (tMoon σ m (nI l) (nI a) (nI w)) := by
  obtain ⟨hG, hM, ⟨ff, cc, hF0⟩, hD, hm, hR, hA, hS, hF, hK, hC⟩ := h
  have hnn := hG.2.1
  have hp : Inv (tMoon σ m (nI l) (nI a) (nI w)) := Inv.moon hG hM hF0 hD (by omega) ⟨l, hl, rfl⟩ (by rw [nI_toInt (by omega)]; omega) (by rw [nI_toInt (by omega)]; omega)
  obtain ⟨g1, g2, g3, g4⟩ := hp.G (nn := nn) (mm := m + 1) ((moon_c _ _ (by omega)).trans hG.1) (by omega) (by simp only [tMoon, sI_1, sI_2, sL_1, sL_2, false_and, and_false, Nat.reduceEqDiff, reduceCtorEq, ↓reduceIte, eq_self, and_self, true_and, and_true]) (by omega)
  have e8 : ∀ k, (tMoon σ m (nI l) (nI a) (nI w)).1 8 k = if k = m then nI a else σ.1 8 k := fun k => by simp only [tMoon, sI_1, sI_2, sL_1, sL_2, false_and, and_false, Nat.reduceEqDiff, reduceCtorEq, ↓reduceIte, eq_self, and_self, true_and, and_true]
  refine ⟨g1, g2, g3, g4, by omega, hR.same (fun k _ => ⟨moon_c _ _ (by omega), moon_c _ _ (by omega)⟩), fun j hj => ?_, ?_, ?_, fun k k1 k2 => by rw [moon_c _ _ (by omega)]; exact hK k k1 k2, hC.same (fun k _ => ⟨moon_c _ _ (by omega), moon_c _ _ (by omega), moon_c _ _ (by omega)⟩) (fun _ _ => rfl)⟩
  · rw [e8]
    by_cases hjm : j = m
    · rw [if_pos hjm]; exact aOk_nI ha
    · rw [if_neg hjm]; exact hA j (by omega)
  · unfold Sp
    rw [moon_c _ _ (by omega)]
    exact hS
  · unfold Fl
    rw [moon_c _ _ (by omega)]
    exact hF
theorem sq_101 {v : Int32} (h : v.toInt ≤ 10000) : v < nI (100 + 1) * nI (100 + 1) := by
  rw [Int32.lt_iff_toInt_lt, pk_mul, nI_toInt (by omega)]
  omega
section M14
variable {b d mt nc ns L : Nat} {xs : Nat → Int32} {σ : Sg} {M N : Mem} {a1 a2 a3 : Int64} {n17 n18 n19 : Int32}
theorem r_177 {v : Int32} (hv : v.toInt ≤ 10000) {k109 : _} : ∀ f g ρ, f + ρ = 100 → f < g → ∃ (R : Nat) (kk : _), R ≤ 100 ∧ v < nI (R + 1) * nI (R + 1) ∧ nI R / (20 : Int32) = wdA v f ρ ∧
    f_L_law_L177 L xs k109 g b (yLa d) (yAn d) (yMa d) (yUn d) (yDa d) (yTh d) (yHm d) (yC d) (yM d) a1 a2 a3 n17 n18 n19 v (nI (ρ + 1)) M N nc ns = f_L_law_b177 L xs k109 kk b (yLa d) (yAn d) (yMa d) (yUn d) (yDa d) (yTh d) (yHm d) (yC d) (yM d) a1 a2 a3 n17 n18 n19 v (nI (R + 1)) M N nc ns := by
  intro f
  induction f with
  | zero =>
    intro g ρ h1 h2
    obtain ⟨g, rfl⟩ : ∃ g', g = g' + 1 := ⟨g - 1, by omega⟩
    obtain rfl : ρ = 100 := by omega
    exact ⟨100, f_L_law_L177 L xs k109 g, by omega, sq_101 hv, rfl, rfl⟩
  | succ f ih =>
    intro g ρ h1 h2
    obtain ⟨g, rfl⟩ : ∃ g', g = g' + 1 := ⟨g - 1, by omega⟩
    by_cases h : v < nI (ρ + 1) * nI (ρ + 1)
    · exact ⟨ρ, f_L_law_L177 L xs k109 g, by omega, h, (if_pos h).symm, rfl⟩
    · obtain ⟨R, kk, e1, e2, e3, e4⟩ := ih g (ρ + 1) (by omega) (by omega)
      refine ⟨R, kk, e1, e2, e3.trans (if_neg h).symm, ?_⟩
      rw [← e4]
      show f_L_law_b177 L xs k109 (f_L_law_L177 L xs k109 g) _ _ _ _ _ _ _ _ _ _ _ _ _ _ _ _ _ (nI (ρ + 1)) _ _ _ _ = _
      simp only [f_L_law_b177, h, lt_, nI_1, ↓reduceIte]
theorem moon_mem {d j : Nat} {σ : Sg} {l a w : Int32} : memM d (sI (sI (sI σ 7 j l) 8 j a) 9 j (wd w)) = memM d (tMoon σ j l a w) := by
  unfold tMoon
  refine memM_congr (fun c k hc => ?_) (fun k h1 h2 => ?_) <;> simp only [sI_1] <;> grind (splits := 20)
theorem x_177 {j l a w R : Nat} {k109 : _} {kk : _} (hb : nc + 4 ≤ 600104 ∧ ns + 24 ≤ 7301314) (hT : TI 0 j σ) (hj : j < 3) (hl : l < 64) (ha : a < 36000) (hw1 : 1 ≤ w) (hw2 : w ≤ 10000) (h1 : nI w < nI (R + 1) * nI (R + 1)) (h2 : nI R / (20 : Int32) = wd (nI w)) :
    f_L_law_b177 L xs k109 kk b (yLa d) (yAn d) (yMa d) (yUn d) (yDa d) (yTh d) (yHm d) (yC d) (yM d) a1 a2 a3 n17 n18 (nI j) (nI w) (nI (R + 1)) (memC b σ) (memM d (sI (sI σ 7 j (nI l)) 8 j (nI a))) nc ns = k109 b (yLa d) (yAn d) (yMa d) (yUn d) (yDa d) (yTh d) (yHm d) (yC d) (yM d) a1 a2 a3 n17 n18 (nI (j + 1)) (memC b (tMoon σ j (nI l) (nI a) (nI w))) (memM d (tMoon σ j (nI l) (nI a) (nI w))) (nc + 4) (ns + 24) := by
  have hj5 : j < 5 := by omega
  have h30 : 3 * j < 16 := by omega
  have h31 : 3 * j + 1 < 16 := by omega
  have h32 : 3 * j + 2 < 16 := by omega
  have ep : nI (R + 1) - 1 = nI R := nI_pred R
  have km : f_X7_moon b (nI l) (nI a) (nI w) (memC b σ) = some (memC b (tMoon σ j (nI l) (nI a) (nI w)), .inl (nI j)) := k_moon hT.2.1 (by omega) (nI_ok (m := 63) (by omega) (by omega)) (nI_ok (m := 35999) (by omega) (by omega)) (nI_ok1 (m := 10000) (by omega) (by omega) (by omega))
  rw [← moon_mem]
  simp only [f_L_law_b177, h1, h2, hb, ep, hj5, h30, h31, h32, m3, km, nI_1, nI_2, xB_k, gk_1, gk_C, bn_l, yM_k, yM_n, yM_m0, yM_m1, yM_m2_s, cl_16, gd, lt_, rd, bd, ↓reduceIte, eq_self, and_self, true_and, and_true, not_false_eq_true, vi_t, cl_6, cl_20, cl_21, cl_40, cl_64, cl_80, cl_1280, Nat.reduceLT, tn_0, true_or, or_true, ab_f, sI_1, sI_2, sL_1, sL_2, false_and, and_false, Nat.reduceEqDiff, reduceCtorEq, ↓reduceIte, eq_self, and_self, true_and, and_true]
theorem s_109 {j : Nat} {k109 : _} (hb : nc + 4 ≤ 600104 ∧ ns + 24 ≤ 7301314) (hT : TI 0 j σ) (hj : j < mt) (hmt : mt ≤ 3) : ∃ l a w, l < 64 ∧ a < 36000 ∧ 1 ≤ w ∧ w ≤ 10000 ∧
    f_L_law_b109 L xs k109 b (yLa d) (yAn d) (yMa d) (yUn d) (yDa d) (yTh d) (yHm d) (yC d) (yM d) a1 a2 a3 n17 (nI mt) (nI j) (memC b σ) (memM d σ) nc ns = k109 b (yLa d) (yAn d) (yMa d) (yUn d) (yDa d) (yTh d) (yHm d) (yC d) (yM d) a1 a2 a3 n17 (nI mt) (nI (j + 1)) (memC b (tMoon σ j (nI l) (nI a) (nI w))) (memM d (tMoon σ j (nI l) (nI a) (nI w))) (nc + 4) (ns + 24) := by
  have hle := nle_t hj (by omega)
  have hg : nc ≤ 600104 ∧ ns ≤ 7301314 := by omega
  have p1 : ((0 : Int32) ≤ nI (1 + j)) = True := eq_true (nI_pos' (by omega))
  have hj5 : j < 5 := by omega
  have h30 : 3 * j < 16 := by omega
  have h31 : 3 * j + 1 < 16 := by omega
  have w1 := lw_lt (cellv L xs (nI (1 + j))) (n := 64) (by omega)
  have w2 := lw_lt (cellv L xs (nI (1 + j)) >>> ((6 : Int32) &&& 31)) (n := 36000) (by omega)
  have w3 := lw_lt (cellv L xs (nI (1 + j)) >>> ((9 : Int32) &&& 31)) (n := 10000) (by omega)
  refine ⟨lw (cellv L xs (nI (1 + j))) 64, lw (cellv L xs (nI (1 + j)) >>> ((6 : Int32) &&& 31)) 36000, 1 + lw (cellv L xs (nI (1 + j)) >>> ((9 : Int32) &&& 31)) 10000, w1, w2, by omega, by omega, ?_⟩
  obtain ⟨g, hg1⟩ : ∃ g : Nat, g + 1 = 200 := ⟨199, rfl⟩
  obtain ⟨R, kk, e1, e2, e3, e4⟩ := r_177 (b := b) (d := d) (L := L) (xs := xs) (M := memC b σ) (N := memM d (sI (sI σ 7 j (nI (lw (cellv L xs (nI (1 + j))) 64))) 8 j (nI (lw (cellv L xs (nI (1 + j)) >>> ((6 : Int32) &&& 31)) 36000)))) (nc := nc) (ns := ns) (a1 := a1) (a2 := a2) (a3 := a3) (n17 := n17) (n18 := nI mt) (n19 := nI j) (v := nI (1 + lw (cellv L xs (nI (1 + j)) >>> ((9 : Int32) &&& 31)) 10000)) (by rw [nI_toInt (by omega)]; omega) (k109 := k109) 100 199 0 rfl (by omega)
  have hlt0 : (nI (1 + lw (cellv L xs (nI (1 + j)) >>> ((9 : Int32) &&& 31)) 10000) < (0 : Int32) * 0) = False := eq_false (fun z => by
    rw [Int32.lt_iff_toInt_lt, nI_toInt (by omega)] at z
    have : ((0 : Int32) * 0).toInt = 0 := by decide
    omega)
  have ex := x_177 (b := b) (d := d) (L := L) (xs := xs) (nc := nc) (ns := ns) (a1 := a1) (a2 := a2) (a3 := a3) (n17 := n17) (n18 := nI mt) (k109 := k109) (kk := kk) hb hT (by omega) w1 w2 (by omega) (by omega) e2 e3
  rw [← e4] at ex
  rw [← ex]
  have e200 : ∀ (r : Int32) K1 K2 K3 K4, f_L_law_L177 L xs k109 200 b (yLa d) (yAn d) (yMa d) (yUn d) (yDa d) (yTh d) (yHm d) (yC d) (yM d) a1 a2 a3 n17 (nI mt) (nI j) r (0 : Int32) K1 K2 K3 K4 = f_L_law_b177 L xs k109 (f_L_law_L177 L xs k109 199) b (yLa d) (yAn d) (yMa d) (yUn d) (yDa d) (yTh d) (yHm d) (yC d) (yM d) a1 a2 a3 n17 (nI mt) (nI j) r (0 : Int32) K1 K2 K3 K4 := fun r K1 K2 K3 K4 => rfl
  have z1 : (0 : Int32) + 1 = nI (0 + 1) := rfl
  simp only [f_L_law_b109, e200, f_L_law_b177, hlt0, hle, hg, p1, hj5, h30, h31, o_1, m3, nI_1, z1, low_64, low_36000, low_10000, gk_1, gk_M, bd_s, yM_k, yM_n, yM_m0_s, yM_m1_s, cl_16, gd, lt_, rd, bd, ↓reduceIte, eq_self, and_self, true_and, and_true, not_false_eq_true, vi_t, cl_6, cl_20, cl_21, cl_40, cl_64, cl_80, cl_1280, Nat.reduceLT, tn_0, true_or, or_true, ab_f]
theorem l_109 (hmt : mt ≤ 3) : ∀ (f j nc ns : Nat) (σ : Sg), j ≤ mt → mt < j + f → nc + 4 * (mt - j) ≤ 20000 → ns + 24 * (mt - j) ≤ 200000 → TI 0 j σ → σ.1 10 14 = 0 →
    f_L_law_L109 L xs f b (yLa d) (yAn d) (yMa d) (yUn d) (yDa d) (yTh d) (yHm d) (yC d) (yM d) (σ.2 1) (σ.2 2) (σ.2 0) (0 : Int32) (nI mt) (nI j) (memC b σ) (memM d σ) nc ns = some (1 : Int32) := by
  intro f
  induction f with
  | zero => intro j nc ns σ h1 h2; omega
  | succ f ih =>
    intro j nc ns σ h1 h2 hb hb2 hT hq
    show f_L_law_b109 L xs (f_L_law_L109 L xs f) _ _ _ _ _ _ _ _ _ _ _ _ _ _ _ (nI j) _ _ _ _ = _
    rcases Nat.lt_or_ge j mt with hj | hj
    · obtain ⟨l, a, w, g1, g2, g3, g4, e⟩ := s_109 (b := b) (d := d) (L := L) (xs := xs) (nc := nc) (ns := ns) (a1 := σ.2 1) (a2 := σ.2 2) (a3 := σ.2 0) (n17 := 0) (k109 := f_L_law_L109 L xs f) (by omega) hT hj hmt
      rw [e]
      have hT1 := hT.moon (by omega) g1 g2 g3 g4
      have := ih (j + 1) (nc + 4) (ns + 24) _ (by omega) (by omega) (by omega) (by omega) hT1 ((moon_c _ _ (by omega)).trans hq)
      rw [tMoon_2, tMoon_2, tMoon_2] at this
      exact this
    · obtain rfl : j = mt := by omega
      have hg : nc ≤ 600104 ∧ ns ≤ 7301314 := by omega
      have w1 := lw_lt (cellv L xs (4 : Int32)) (n := 36000) (by omega)
      have w2 := lw_lt (cellv L xs (4 : Int32) >>> ((5 : Int32) &&& 31)) (n := 64) (by omega)
      have e := l_281 (b := b) (d := d) (L := L) (xs := xs) (mm := j) w1 w2 200 0 0 0 nc ns σ (by omega) (by omega) (by omega) (by omega) hT (by omega) hq (by omega)
      have z4 : ((0 : Int32) ≤ (4 : Int32)) = True := eq_true (by decide)
      have z5 : (4 : Int32) + 1 = nI (5 + 2 * 0) := rfl
      have z0 : (0 : Int32) = nI 0 := rfl
      rw [← e]
      simp only [f_L_law_b109, Int32.le_refl, hg, z4, z5, low_36000, low_64, gk_1, bd_s, gd, lt_, ↓reduceIte, and_self]
      rfl
/-! the first state -/
theorem Inv0 : Inv sg0 := by
  refine ⟨0, 0, 0, 0, ⟨rfl, by omega, fun i _ => Or.inl rfl, fun i _ _ => rfl, ?_, by decide, by decide, by decide, by decide, by decide⟩, ⟨rfl, by omega, fun j hj => by omega⟩, ⟨rfl, by omega, rfl, by omega, fun k hk => by omega⟩, fun k _ _ => rfl⟩
  have h : ∀ n, smZ (wt sg0) n = 0 := by
    intro n
    induction n with
    | zero => rfl
    | succ n ih => rw [smZ, ih]; rfl
  rw [h 80]
  decide
theorem TI0 : TI 0 0 sg0 := by
  obtain ⟨g1, g2, g3, g4⟩ := Inv0.G (nn := 0) (mm := 0) rfl (by omega) rfl (by omega)
  refine ⟨g1, g2, g3, g4, by omega, fun k _ => ?_, fun j hj => by omega, by unfold Sp; decide, by unfold Fl; decide, fun k _ _ => rfl, ?_⟩
  · have e1 : sg0.1 1 k = 0 := rfl
    have e3 : sg0.1 3 k = 0 := rfl
    rw [e1, e3]
    unfold aOk
    decide
  · have h : ∀ n, mo sg0 n = 0 := by
      intro n
      induction n with
      | zero => rfl
      | succ n ih =>
        have e : mo sg0 (n + 1) = mo sg0 n := if_pos rfl
        rw [e, ih]
    unfold Cm TT
    rw [h 80]
    decide
def zz : Sg := (fun _ _ => 0, fun _ => 0)
theorem zz_mem {d : Nat} : memM d (sI (sI (sI zz 10 3 20) 10 4 80) 10 5 50) = memM d sg0 := by
  refine memM_congr (fun c k hc => ?_) (fun k h1 h2 => ?_) <;> simp only [sI_1, zz, sg0] <;> grind (splits := 20)
theorem low_o3 {v : Int32} {M : Mem} : f_L_low v (3 : Int32) M = some (M, nI (lw v 3)) := low_3
theorem law_1 {b0 : Nat} (hb : nc ≤ 10000 ∧ ns ≤ 100000) : f_L_law L xs b0 b (yLa d) (yAn d) (yMa d) (yUn d) (yDa d) (yTh d) (yHm d) (yC d) (yM d) (memC b sg0) (memM d zz) nc ns = some (1 : Int32) := by
  have hg : nc ≤ 600104 ∧ ns ≤ 7301314 := by omega
  have w1 := lw_lt (cellv L xs (0 : Int32)) (n := 3) (by omega)
  have e := l_109 (b := b) (d := d) (L := L) (xs := xs) (mt := 1 + lw (cellv L xs (0 : Int32)) 3) (by omega) 200 0 nc ns sg0 (by omega) (by omega) (by omega) (by omega) TI0 rfl
  have z0 : ((0 : Int32) ≤ (0 : Int32)) = True := eq_true (by decide)
  have l0 : ∀ c, sg0.2 c = 0 := fun c => rfl
  rw [l0, l0, l0] at e
  rw [← e, ← zz_mem]
  simp only [f_L_law, hg, z0, low_3, o_1, gk_1, bd_s, cs_1, cv_1, cs_2, cv_2, cs_3, cv_3, cs_4, cv_4, cs_5, cv_5, cs_6, cv_6, cs_7, cv_7, cs_8, cv_8, cs_9, cv_9, yC_k, yC_n, yC_i7_s, yC_i8_s, yC_i9_s, gd, lt_, ↓reduceIte, and_self]
  rfl
end M14
