/-! ===== PURE: the class's constructor ===== -/
theorem l_consM {h a : Nat} {M : Mem} (hh : h < mm_x M) (ha : a < mm_x M) (hah : a ≠ h) (k1 : M.1 h = 7) (k2 : M.1 a = 14) (r2 : mm_r M h 1 = some a) (n2 : mm_N M a = 6) : ∀ g i, i ≤ 6 → 6 < i + g → f_X7_init_L26 g h (nI i) (gpM M a 5 i) = f_X7_init_L62 21 h 0 (ms_r (ms_n (gpM M a 5 6) 12 20) h 3 (some (mm_x (gpM M a 5 6)))) := by
  intro g
  induction g with
  | zero => intro i h1 h2; omega
  | succ g ih =>
    intro i h1 h2
    show f_X7_init_b26 (f_X7_init_L26 g) h (nI i) _ = _
    have kh : (gpM M a 5 i).1 h = 7 := (if_neg (by omega)).trans k1
    rcases Nat.lt_or_ge i 6 with hi | hi
    · have hle := nle_t hi (by decide)
      rw [show nI 6 = (6 : Int32) from rfl] at hle
      have rh : mm_r (gpM M a 5 i) h 1 = some a := by
        show (if _ then _ else if _ then _ else _) = _
        rw [if_neg (fun q => hah q.1.symm), if_neg (by omega)]
        exact r2
      have ka : (ms_n (gpM M a 5 i) 5 0).1 a = 14 := by
        show (if a = mm_x M + i then 5 else if mm_x M ≤ a ∧ a < mm_x M + i then 5 else M.1 a) = 14
        rw [if_neg (by omega), if_neg (by omega)]
        exact k2
      have kx : (ms_n (gpM M a 5 i) 5 0).1 (mm_x (gpM M a 5 i)) = 5 := if_pos rfl
      have na : mm_N (ms_n (gpM M a 5 i) 5 0) a = 6 := by
        show (if a = mm_x M + i then 0 else if mm_x M ≤ a ∧ a < mm_x M + i then 0 else mm_N M a) = 6
        rw [if_neg (by omega), if_neg (by omega)]
        exact n2
      simp only [f_X7_init_b26, f_X5_init, hle, kh, rh, bd_s, gd, lt_, rd, ↓reduceIte]
      rw [if_pos ⟨⟨ka, kx⟩, by rw [na]; exact vi_of hi (by decide)⟩, cl_6 hi, gpM_s ha, nI_1]
      exact ih (i + 1) (by omega) (by omega)
    · obtain rfl : i = 6 := (by omega)
      have hle : ((6 : Int32) ≤ nI 6) = True := eq_true (by decide)
      have kh1 : (ms_n (gpM M a 5 6) 12 20).1 h = 7 := by
        show (if h = mm_x M + 6 then 12 else _) = 7
        rw [if_neg (by omega)]
        exact kh
      simp only [f_X7_init_b26, hle, kh1, gd, lt_, ↓reduceIte]
theorem l_consC {h a : Nat} {M : Mem} (hh : h < mm_x M) (ha : a < mm_x M) (hah : a ≠ h) (k1 : M.1 h = 7) (k2 : M.1 a = 11) (r2 : mm_r M h 5 = some a) (n2 : mm_N M a = 40) : ∀ g i, i ≤ 40 → 40 < i + g → f_X7_init_L98 g h (nI i) (gpM M a 0 i) = some (ms_r (ms_n (ms_r (ms_n (ms_r (ms_n (gpM M a 0 40) 9 64) h 8 (some (mm_x M + 40))) 9 21) h 9 (some (mm_x M + 41))) 9 21) h 10 (some (mm_x M + 42))) := by
  intro g
  induction g with
  | zero => intro i h1 h2; omega
  | succ g ih =>
    intro i h1 h2
    show f_X7_init_b98 (f_X7_init_L98 g) h (nI i) _ = _
    have kh : (gpM M a 0 i).1 h = 7 := (if_neg (by omega)).trans k1
    rcases Nat.lt_or_ge i 40 with hi | hi
    · have hle := nle_t hi (by decide)
      rw [show nI 40 = (40 : Int32) from rfl] at hle
      have rh : mm_r (gpM M a 0 i) h 5 = some a := by
        show (if _ then _ else if _ then _ else _) = _
        rw [if_neg (fun q => hah q.1.symm), if_neg (by omega)]
        exact r2
      have ka : (ms_n (gpM M a 0 i) 0 0).1 a = 11 := by
        show (if a = mm_x M + i then 0 else if mm_x M ≤ a ∧ a < mm_x M + i then 0 else M.1 a) = 11
        rw [if_neg (by omega), if_neg (by omega)]
        exact k2
      have kx : (ms_n (gpM M a 0 i) 0 0).1 (mm_x (gpM M a 0 i)) = 0 := if_pos rfl
      have na : mm_N (ms_n (gpM M a 0 i) 0 0) a = 40 := by
        show (if a = mm_x M + i then 0 else if mm_x M ≤ a ∧ a < mm_x M + i then 0 else mm_N M a) = 40
        rw [if_neg (by omega), if_neg (by omega)]
        exact n2
      simp only [f_X7_init_b98, f_X0_init, hle, kh, rh, bd_s, gd, lt_, rd, ↓reduceIte]
      rw [if_pos ⟨⟨ka, kx⟩, by rw [na]; exact vi_of hi (by decide)⟩, cl_40 hi, gpM_s ha, nI_1]
      exact ih (i + 1) (by omega) (by omega)
    · obtain rfl : i = 40 := (by omega)
      have hle : ((40 : Int32) ≤ nI 40) = True := eq_true (by decide)
      have x1 : mm_x (gpM M a 0 40) = mm_x M + 40 := rfl
      have e1 : (ms_n (gpM M a 0 40) 9 64).1 h = 7 := by
        show (if h = mm_x M + 40 then 9 else _) = 7
        rw [if_neg (by omega)]
        exact kh
      generalize hA : ms_r (ms_n (gpM M a 0 40) 9 64) h 8 (some (mm_x M + 40)) = N1
      have x2 : mm_x N1 = mm_x M + 41 := by rw [← hA]; rfl
      have e2 : (ms_n N1 9 21).1 h = 7 := by
        show (if h = mm_x N1 then 9 else N1.1 h) = 7
        rw [x2, if_neg (by omega), ← hA]
        exact e1
      generalize hB : ms_r (ms_n N1 9 21) h 9 (some (mm_x M + 41)) = N2
      have x3 : mm_x N2 = mm_x M + 42 := by
        rw [← hB]
        show mm_x N1 + 1 = _
        rw [x2]
      have e3 : (ms_n N2 9 21).1 h = 7 := by
        show (if h = mm_x N2 then 9 else N2.1 h) = 7
        rw [x3, if_neg (by omega), ← hB]
        exact e2
      simp only [f_X7_init_b98, hle, x1, e1, hA, x2, e2, hB, x3, e3, gd, lt_, ↓reduceIte]
theorem l_consF {h a : Nat} {M : Mem} (hh : h < mm_x M) (ha : a < mm_x M) (hah : a ≠ h) (k1 : M.1 h = 7) (k2 : M.1 a = 12) (r2 : mm_r M h 3 = some a) (n2 : mm_N M a = 20) : ∀ g i, i ≤ 20 → 20 < i + g → f_X7_init_L62 g h (nI i) (gfM M a i) = f_X7_init_L98 41 h 0 (ms_r (ms_n (gfM M a 20) 11 40) h 5 (some (mm_x (gfM M a 20)))) := by
  intro g
  induction g with
  | zero => intro i h1 h2; omega
  | succ g ih =>
    intro i h1 h2
    show f_X7_init_b62 (f_X7_init_L62 g) h (nI i) _ = _
    have kh : (gfM M a i).1 h = 7 := (if_neg (by omega)).trans k1
    rcases Nat.lt_or_ge i 20 with hi | hi
    · have hle := nle_t hi (by decide)
      rw [show nI 20 = (20 : Int32) from rfl] at hle
      have rh : mm_r (gfM M a i) h 3 = some a := by
        show (if _ then _ else if _ then _ else _) = _
        rw [if_neg (fun q => hah q.1.symm), if_neg (by omega)]
        exact r2
      have x0 : mm_x (gfM M a i) = mm_x M + 2 * i := rfl
      have x1 : mm_x (ms_n (gfM M a i) 1 0) = mm_x (gfM M a i) + 1 := rfl
      have kf : (ms_n (ms_n (gfM M a i) 1 0) 9 64).1 (mm_x (gfM M a i)) = 1 := by
        show (if mm_x M + 2 * i = mm_x M + 2 * i + 1 then 9 else if mm_x M + 2 * i = mm_x M + 2 * i then 1 else _) = 1
        rw [if_neg (by omega), if_pos rfl]
      have ka : (ms_n (ms_n (gfM M a i) 1 0) 9 64).1 a = 12 := by
        show (if a = mm_x M + 2 * i + 1 then 9 else if a = mm_x M + 2 * i then 1 else if mm_x M ≤ a ∧ a < mm_x M + 2 * i then _ else M.1 a) = 12
        rw [if_neg (by omega), if_neg (by omega), if_neg (by omega)]
        exact k2
      have na : mm_N (ms_n (ms_n (gfM M a i) 1 0) 9 64) a = 20 := by
        show (if a = mm_x M + 2 * i + 1 then 64 else if a = mm_x M + 2 * i then 0 else if mm_x M ≤ a ∧ a < mm_x M + 2 * i then _ else mm_N M a) = 20
        rw [if_neg (by omega), if_neg (by omega), if_neg (by omega)]
        exact n2
      simp only [f_X7_init_b62, f_X1_init, hle, kh, rh, x1, kf, bd_s, gd, lt_, rd, ↓reduceIte]
      have ka' : (ms_r (ms_n (ms_n (gfM M a i) 1 0) 9 64) (mm_x (gfM M a i)) 0 (some (mm_x (gfM M a i) + 1))).1 a = 12 := ka
      have kf' : (ms_r (ms_n (ms_n (gfM M a i) 1 0) 9 64) (mm_x (gfM M a i)) 0 (some (mm_x (gfM M a i) + 1))).1 (mm_x (gfM M a i)) = 1 := kf
      have na' : mm_N (ms_r (ms_n (ms_n (gfM M a i) 1 0) 9 64) (mm_x (gfM M a i)) 0 (some (mm_x (gfM M a i) + 1))) a = 20 := na
      rw [if_pos ⟨⟨ka', kf'⟩, by rw [na']; exact vi_of hi (by decide)⟩, cl_20 hi, gfM_s ha, nI_1]
      exact ih (i + 1) (by omega) (by omega)
    · obtain rfl : i = 20 := (by omega)
      have hle : ((20 : Int32) ≤ nI 20) = True := eq_true (by decide)
      have kh1 : (ms_n (gfM M a 20) 11 40).1 h = 7 := by
        show (if h = mm_x M + 2 * 20 then 11 else _) = 7
        rw [if_neg (by omega)]
        exact kh
      simp only [f_X7_init_b62, hle, kh1, gd, lt_, ↓reduceIte]
