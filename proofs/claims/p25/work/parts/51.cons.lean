/-! ===== PURE: what the constructors build ===== -/
/-- i new cells of kind κ, each put into the array a -/
def gpM (M : Mem) (a κ i : Nat) : Mem :=
  (fun q => if mm_x M ≤ q ∧ q < mm_x M + i then κ else M.1 q, fun q => if mm_x M ≤ q ∧ q < mm_x M + i then 0 else mm_N M q, fun q k => if mm_x M ≤ q ∧ q < mm_x M + i then 0 else mm_i M q k, fun q k => if mm_x M ≤ q ∧ q < mm_x M + i then 0 else mm_l M q k, fun q k => if q = a ∧ k < i then some (mm_x M + k) else if mm_x M ≤ q ∧ q < mm_x M + i then none else mm_r M q k, mm_x M + i)
theorem Mem_ext {M N : Mem} (h1 : ∀ q, M.1 q = N.1 q) (h2 : ∀ q, mm_N M q = mm_N N q) (h3 : ∀ q k, mm_i M q k = mm_i N q k) (h4 : ∀ q k, mm_l M q k = mm_l N q k) (h5 : ∀ q k, mm_r M q k = mm_r N q k) (h6 : mm_x M = mm_x N) : M = N :=
  Prod.ext (funext h1) (Prod.ext (funext h2) (Prod.ext (funext fun q => funext (h3 q)) (Prod.ext (funext fun q => funext (h4 q)) (Prod.ext (funext fun q => funext (h5 q)) h6))))
theorem gpM_0 {M : Mem} {a κ : Nat} : gpM M a κ 0 = M := by
  refine Mem_ext (fun q => if_neg (by omega)) (fun q => if_neg (by omega)) (fun q k => if_neg (by omega)) (fun q k => if_neg (by omega)) (fun q k => ?_) rfl
  show (if _ then _ else if _ then _ else _) = _
  rw [if_neg (by omega), if_neg (by omega)]
theorem gpM_s {M : Mem} {a κ i : Nat} (ha : a < mm_x M) : ms_r (ms_n (gpM M a κ i) κ 0) a i (some (mm_x (gpM M a κ i))) = gpM M a κ (i + 1) := by
  refine Mem_ext (fun q => ?_) (fun q => ?_) (fun q k => ?_) (fun q k => ?_) (fun q k => ?_) rfl
  · show (if q = mm_x M + i then κ else if mm_x M ≤ q ∧ q < mm_x M + i then κ else M.1 q) = if mm_x M ≤ q ∧ q < mm_x M + (i + 1) then κ else M.1 q
    grind
  · show (if q = mm_x M + i then 0 else if mm_x M ≤ q ∧ q < mm_x M + i then 0 else mm_N M q) = if mm_x M ≤ q ∧ q < mm_x M + (i + 1) then 0 else mm_N M q
    grind
  · show (if q = mm_x M + i then 0 else if mm_x M ≤ q ∧ q < mm_x M + i then 0 else mm_i M q k) = if mm_x M ≤ q ∧ q < mm_x M + (i + 1) then 0 else mm_i M q k
    grind
  · show (if q = mm_x M + i then 0 else if mm_x M ≤ q ∧ q < mm_x M + i then 0 else mm_l M q k) = if mm_x M ≤ q ∧ q < mm_x M + (i + 1) then 0 else mm_l M q k
    grind
  · show (if q = a ∧ k = i then some (mm_x M + i) else if q = mm_x M + i then none else if q = a ∧ k < i then some (mm_x M + k) else if mm_x M ≤ q ∧ q < mm_x M + i then none else mm_r M q k) = if q = a ∧ k < i + 1 then some (mm_x M + k) else if mm_x M ≤ q ∧ q < mm_x M + (i + 1) then none else mm_r M q k
    grind
/-- i new frames with their rows, each put into the array a -/
def gfM (M : Mem) (a i : Nat) : Mem :=
  (fun q => if mm_x M ≤ q ∧ q < mm_x M + 2 * i then (if (q - mm_x M) % 2 = 0 then 1 else 9) else M.1 q, fun q => if mm_x M ≤ q ∧ q < mm_x M + 2 * i then (if (q - mm_x M) % 2 = 0 then 0 else 64) else mm_N M q, fun q k => if mm_x M ≤ q ∧ q < mm_x M + 2 * i then 0 else mm_i M q k, fun q k => if mm_x M ≤ q ∧ q < mm_x M + 2 * i then 0 else mm_l M q k, fun q k => if q = a ∧ k < i then some (mm_x M + 2 * k) else if mm_x M ≤ q ∧ q < mm_x M + 2 * i then (if (q - mm_x M) % 2 = 0 ∧ k = 0 then some (q + 1) else none) else mm_r M q k, mm_x M + 2 * i)
theorem gfM_0 {M : Mem} {a : Nat} : gfM M a 0 = M := by
  refine Mem_ext (fun q => if_neg (by omega)) (fun q => if_neg (by omega)) (fun q k => if_neg (by omega)) (fun q k => if_neg (by omega)) (fun q k => ?_) rfl
  show (if _ then _ else if _ then _ else _) = _
  rw [if_neg (by omega), if_neg (by omega)]
theorem gfM_s {M : Mem} {a i : Nat} (ha : a < mm_x M) : ms_r (ms_r (ms_n (ms_n (gfM M a i) 1 0) 9 64) (mm_x (gfM M a i)) 0 (some (mm_x (gfM M a i) + 1))) a i (some (mm_x (gfM M a i))) = gfM M a (i + 1) := by
  refine Mem_ext (fun q => ?_) (fun q => ?_) (fun q k => ?_) (fun q k => ?_) (fun q k => ?_) ?_
  · show (if q = mm_x M + 2 * i + 1 then 9 else if q = mm_x M + 2 * i then 1 else if mm_x M ≤ q ∧ q < mm_x M + 2 * i then (if (q - mm_x M) % 2 = 0 then 1 else 9) else M.1 q) = if mm_x M ≤ q ∧ q < mm_x M + 2 * (i + 1) then (if (q - mm_x M) % 2 = 0 then 1 else 9) else M.1 q
    grind
  · show (if q = mm_x M + 2 * i + 1 then 64 else if q = mm_x M + 2 * i then 0 else if mm_x M ≤ q ∧ q < mm_x M + 2 * i then (if (q - mm_x M) % 2 = 0 then 0 else 64) else mm_N M q) = if mm_x M ≤ q ∧ q < mm_x M + 2 * (i + 1) then (if (q - mm_x M) % 2 = 0 then 0 else 64) else mm_N M q
    grind
  · show (if q = mm_x M + 2 * i + 1 then 0 else if q = mm_x M + 2 * i then 0 else if mm_x M ≤ q ∧ q < mm_x M + 2 * i then 0 else mm_i M q k) = if mm_x M ≤ q ∧ q < mm_x M + 2 * (i + 1) then 0 else mm_i M q k
    grind
  · show (if q = mm_x M + 2 * i + 1 then 0 else if q = mm_x M + 2 * i then 0 else if mm_x M ≤ q ∧ q < mm_x M + 2 * i then 0 else mm_l M q k) = if mm_x M ≤ q ∧ q < mm_x M + 2 * (i + 1) then 0 else mm_l M q k
    grind
  · show (if q = a ∧ k = i then some (mm_x M + 2 * i) else if q = mm_x M + 2 * i ∧ k = 0 then some (mm_x M + 2 * i + 1) else if q = mm_x M + 2 * i + 1 then none else if q = mm_x M + 2 * i then none else if q = a ∧ k < i then some (mm_x M + 2 * k) else if mm_x M ≤ q ∧ q < mm_x M + 2 * i then (if (q - mm_x M) % 2 = 0 ∧ k = 0 then some (q + 1) else none) else mm_r M q k) = if q = a ∧ k < i + 1 then some (mm_x M + 2 * k) else if mm_x M ≤ q ∧ q < mm_x M + 2 * (i + 1) then (if (q - mm_x M) % 2 = 0 ∧ k = 0 then some (q + 1) else none) else mm_r M q k
    generalize mm_r M q k = w
    generalize mm_x M = x at ha ⊢
    by_cases c1 : q = a ∧ k = i
    · rw [if_pos c1, if_pos ⟨c1.1, by omega⟩, c1.2]
    rw [if_neg c1]
    by_cases c2 : q = x + 2 * i ∧ k = 0
    · rw [if_pos c2, if_neg (by omega), if_pos (by omega), if_pos (by omega), c2.1]
    rw [if_neg c2]
    by_cases c3 : q = x + 2 * i + 1
    · rw [if_pos c3, if_neg (by omega), if_pos (by omega), if_neg (by omega)]
    rw [if_neg c3]
    by_cases c4 : q = x + 2 * i
    · rw [if_pos c4, if_neg (by omega), if_pos (by omega), if_neg (by omega)]
    rw [if_neg c4]
    by_cases c5 : q = a ∧ k < i
    · rw [if_pos c5, if_pos ⟨c5.1, by omega⟩]
    rw [if_neg c5, if_neg (show ¬ (q = a ∧ k < i + 1) by omega)]
    by_cases c6 : x ≤ q ∧ q < x + 2 * i
    · rw [if_pos c6, if_pos (show x ≤ q ∧ q < x + 2 * (i + 1) by omega)]
    · rw [if_neg c6, if_neg (show ¬ (x ≤ q ∧ q < x + 2 * (i + 1)) by omega)]
  · show mm_x M + 2 * i + 1 + 1 = mm_x M + 2 * (i + 1)
    omega
theorem vi_of {i N : Nat} (h : i < N) (hN : N < 2147483648) : vi_ (nI i) N := of_eq_true (vi_t h hN)
/-- the grains of a herd -/
theorem l_consG {h a : Nat} {M : Mem} (hh : h < mm_x M) (ha : a < mm_x M) (hah : a ≠ h) (k1 : M.1 h = 3) (k2 : M.1 a = 13) (r2 : mm_r M h 2 = some a) (n2 : mm_N M a = 80) : ∀ g i, i ≤ 80 → 80 < i + g → f_X3_init_L37 g h (nI i) (gpM M a 2 i) = some (ms_i (ms_i (ms_i (gpM M a 2 80) h 4 20) h 5 80) h 6 50) := by
  intro g
  induction g with
  | zero => intro i h1 h2; omega
  | succ g ih =>
    intro i h1 h2
    show f_X3_init_b37 (f_X3_init_L37 g) h (nI i) _ = _
    have kh : (gpM M a 2 i).1 h = 3 := (if_neg (by omega)).trans k1
    rcases Nat.lt_or_ge i 80 with hi | hi
    · have hle := nle_t hi (by decide)
      rw [show nI 80 = (80 : Int32) from rfl] at hle
      have rh : mm_r (gpM M a 2 i) h 2 = some a := by
        show (if _ then _ else if _ then _ else _) = _
        rw [if_neg (fun q => hah q.1.symm), if_neg (by omega)]
        exact r2
      have ka : (ms_n (gpM M a 2 i) 2 0).1 a = 13 := by
        show (if a = mm_x M + i then 2 else if mm_x M ≤ a ∧ a < mm_x M + i then 2 else M.1 a) = 13
        rw [if_neg (by omega), if_neg (by omega)]
        exact k2
      have kx : (ms_n (gpM M a 2 i) 2 0).1 (mm_x (gpM M a 2 i)) = 2 := if_pos rfl
      have na : mm_N (ms_n (gpM M a 2 i) 2 0) a = 80 := by
        show (if a = mm_x M + i then 0 else if mm_x M ≤ a ∧ a < mm_x M + i then 0 else mm_N M a) = 80
        rw [if_neg (by omega), if_neg (by omega)]
        exact n2
      simp only [f_X3_init_b37, f_X2_init, hle, kh, rh, bd_s, gd, lt_, rd, ↓reduceIte]
      rw [if_pos ⟨⟨ka, kx⟩, by rw [na]; exact vi_of hi (by decide)⟩, cl_80 hi, gpM_s ha, nI_1]
      exact ih (i + 1) (by omega) (by omega)
    · obtain rfl : i = 80 := (by omega)
      have hle : ((80 : Int32) ≤ nI 80) = True := eq_true (by decide)
      have kh1 : (ms_i (gpM M a 2 80) h 4 20).1 h = 3 := kh
      have kh2 : (ms_i (ms_i (gpM M a 2 80) h 4 20) h 5 80).1 h = 3 := kh
      simp only [f_X3_init_b37, hle, kh, kh1, kh2, gd, lt_, ↓reduceIte]
