/-! ===== PURE: the class's constructor, step by step ===== -/
theorem kn_ (M : Mem) (κ n q : Nat) : (ms_n M κ n).1 q = if q = mm_x M then κ else M.1 q := rfl
theorem kr_ (M : Mem) (a j : Nat) (v : Option Nat) (q : Nat) : (ms_r M a j v).1 q = M.1 q := rfl
theorem ki_ (M : Mem) (a j : Nat) (v : Int32) (q : Nat) : (ms_i M a j v).1 q = M.1 q := rfl
theorem kg_ (M : Mem) (a κ i q : Nat) : (gpM M a κ i).1 q = if mm_x M ≤ q ∧ q < mm_x M + i then κ else M.1 q := rfl
theorem kf_ (M : Mem) (a i q : Nat) : (gfM M a i).1 q = if mm_x M ≤ q ∧ q < mm_x M + 2 * i then (if (q - mm_x M) % 2 = 0 then 1 else 9) else M.1 q := rfl
theorem xn_ (M : Mem) (κ n : Nat) : mm_x (ms_n M κ n) = mm_x M + 1 := rfl
theorem xr_ (M : Mem) (a j : Nat) (v : Option Nat) : mm_x (ms_r M a j v) = mm_x M := rfl
theorem xi_ (M : Mem) (a j : Nat) (v : Int32) : mm_x (ms_i M a j v) = mm_x M := rfl
theorem xg_ (M : Mem) (a κ i : Nat) : mm_x (gpM M a κ i) = mm_x M + i := rfl
theorem xf_ (M : Mem) (a i : Nat) : mm_x (gfM M a i) = mm_x M + 2 * i := rfl
theorem nn_ (M : Mem) (κ n q : Nat) : mm_N (ms_n M κ n) q = if q = mm_x M then n else mm_N M q := rfl
theorem nr_ (M : Mem) (a j : Nat) (v : Option Nat) (q : Nat) : mm_N (ms_r M a j v) q = mm_N M q := rfl
theorem ni_ (M : Mem) (a j : Nat) (v : Int32) (q : Nat) : mm_N (ms_i M a j v) q = mm_N M q := rfl
theorem ng_ (M : Mem) (a κ i q : Nat) : mm_N (gpM M a κ i) q = if mm_x M ≤ q ∧ q < mm_x M + i then 0 else mm_N M q := rfl
theorem nf_ (M : Mem) (a i q : Nat) : mm_N (gfM M a i) q = if mm_x M ≤ q ∧ q < mm_x M + 2 * i then (if (q - mm_x M) % 2 = 0 then 0 else 64) else mm_N M q := rfl
theorem rn_ (M : Mem) (κ n q k : Nat) : mm_r (ms_n M κ n) q k = if q = mm_x M then none else mm_r M q k := rfl
theorem rr_ (M : Mem) (a j : Nat) (v : Option Nat) (q k : Nat) : mm_r (ms_r M a j v) q k = if q = a ∧ k = j then v else mm_r M q k := rfl
theorem ri_ (M : Mem) (a j : Nat) (v : Int32) (q k : Nat) : mm_r (ms_i M a j v) q k = mm_r M q k := rfl
theorem rg_ (M : Mem) (a κ i q k : Nat) : mm_r (gpM M a κ i) q k = if q = a ∧ k < i then some (mm_x M + k) else if mm_x M ≤ q ∧ q < mm_x M + i then none else mm_r M q k := rfl
theorem rf_ (M : Mem) (a i q k : Nat) : mm_r (gfM M a i) q k = if q = a ∧ k < i then some (mm_x M + 2 * k) else if mm_x M ≤ q ∧ q < mm_x M + 2 * i then (if (q - mm_x M) % 2 = 0 ∧ k = 0 then some (q + 1) else none) else mm_r M q k := rfl
def cT0 (M : Mem) : Mem := ms_n (ms_n M 7 0) 3 0
def cT4 (M : Mem) (b : Nat) : Mem := ms_r (ms_n (ms_r (ms_n (ms_r (ms_n (cT0 M) 6 0) (b + 1) 0 (some (b + 2))) 4 0) (b + 1) 1 (some (b + 3))) 13 80) (b + 1) 2 (some (b + 4))
def cT5 (M : Mem) (b : Nat) : Mem := ms_i (ms_i (ms_i (gpM (cT4 M b) (b + 4) 2 80) (b + 1) 4 20) (b + 1) 5 80) (b + 1) 6 50
def cT7 (M : Mem) (b : Nat) : Mem := ms_r (ms_n (ms_r (cT5 M b) b 0 (some (b + 1))) 14 6) b 1 (some (b + 85))
def cT8 (M : Mem) (b : Nat) : Mem := ms_r (ms_n (gpM (cT7 M b) (b + 85) 5 6) 12 20) b 3 (some (b + 92))
def cT9 (M : Mem) (b : Nat) : Mem := ms_r (ms_n (gfM (cT8 M b) (b + 92) 20) 11 40) b 5 (some (b + 133))
def cT10 (M : Mem) (b : Nat) : Mem := ms_r (ms_n (ms_r (ms_n (ms_r (ms_n (gpM (cT9 M b) (b + 133) 0 40) 9 64) b 8 (some (b + 174))) 9 21) b 9 (some (b + 175))) 9 21) b 10 (some (b + 176))
theorem x_T4 {M : Mem} {b : Nat} (hb : mm_x M = b) : mm_x (cT4 M b) = b + 5 := by simp only [cT4, cT0, xn_, xr_, hb]
theorem x_T5 {M : Mem} {b : Nat} (hb : mm_x M = b) : mm_x (cT5 M b) = b + 85 := by simp only [cT5, xi_, xg_, x_T4 hb]
theorem x_T7 {M : Mem} {b : Nat} (hb : mm_x M = b) : mm_x (cT7 M b) = b + 86 := by simp only [cT7, xn_, xr_, x_T5 hb]
theorem x_T8 {M : Mem} {b : Nat} (hb : mm_x M = b) : mm_x (cT8 M b) = b + 93 := by simp only [cT8, xn_, xr_, xg_, x_T7 hb]
theorem x_T9 {M : Mem} {b : Nat} (hb : mm_x M = b) : mm_x (cT9 M b) = b + 134 := by simp only [cT9, xn_, xr_, xf_, x_T8 hb]
theorem x_T10 {M : Mem} {b : Nat} (hb : mm_x M = b) : mm_x (cT10 M b) = b + 177 := by simp only [cT10, xn_, xr_, xg_, x_T9 hb]
theorem k_T4 {M : Mem} {b : Nat} (hb : mm_x M = b) (q : Nat) : (cT4 M b).1 q = if q = b + 4 then 13 else if q = b + 3 then 4 else if q = b + 2 then 6 else if q = b + 1 then 3 else if q = b then 7 else M.1 q := by
  simp only [cT4, cT0, kn_, kr_, xn_, xr_, hb]
theorem k_T5 {M : Mem} {b : Nat} (hb : mm_x M = b) (q : Nat) : (cT5 M b).1 q = if b + 5 ≤ q ∧ q < b + 5 + 80 then 2 else (cT4 M b).1 q := by
  simp only [cT5, ki_, kg_, x_T4 hb]
theorem k_T7 {M : Mem} {b : Nat} (hb : mm_x M = b) (q : Nat) : (cT7 M b).1 q = if q = b + 85 then 14 else (cT5 M b).1 q := by
  simp only [cT7, kn_, kr_, xr_, x_T5 hb]
theorem k_T8 {M : Mem} {b : Nat} (hb : mm_x M = b) (q : Nat) : (cT8 M b).1 q = if q = b + 92 then 12 else if b + 86 ≤ q ∧ q < b + 86 + 6 then 5 else (cT7 M b).1 q := by
  simp only [cT8, kn_, kr_, kg_, xg_, x_T7 hb]
theorem k_T9 {M : Mem} {b : Nat} (hb : mm_x M = b) (q : Nat) : (cT9 M b).1 q = if q = b + 133 then 11 else if b + 93 ≤ q ∧ q < b + 93 + 40 then (if (q - (b + 93)) % 2 = 0 then 1 else 9) else (cT8 M b).1 q := by
  simp only [cT9, kn_, kr_, kf_, xf_, x_T8 hb, Nat.reduceMul]
theorem k_T10 {M : Mem} {b : Nat} (hb : mm_x M = b) (q : Nat) : (cT10 M b).1 q = if q = b + 176 then 9 else if q = b + 175 then 9 else if q = b + 174 then 9 else if b + 134 ≤ q ∧ q < b + 134 + 40 then 0 else (cT9 M b).1 q := by
  simp only [cT10, kn_, kr_, kg_, xn_, xr_, xg_, x_T9 hb]
theorem e_X7_init {M : Mem} {b : Nat} (hb : mm_x M = b) : f_X7_init b (ms_n M 7 0) = some (cT10 M b) := by
  have x0 : mm_x (ms_n M 7 0) = b + 1 := by rw [xn_, hb]
  have x1 : mm_x (cT0 M) = b + 2 := by simp only [cT0, xn_, hb]
  -- the herd
  have e3 : f_X3_init (b + 1) (cT0 M) = some (cT5 M b) := by
    have h1 : (ms_n (cT0 M) 6 0).1 (b + 1) = 3 := by
      simp only [cT0, kn_, xn_, hb]
      rw [if_neg (by omega), if_pos trivial]
    generalize hA : ms_r (ms_n (cT0 M) 6 0) (b + 1) 0 (some (b + 2)) = A
    have xA : mm_x A = b + 3 := by rw [← hA, xr_, xn_, x1]
    have h2 : (ms_n A 4 0).1 (b + 1) = 3 := by
      rw [kn_, xA, if_neg (by omega), ← hA]
      exact h1
    generalize hB : ms_r (ms_n A 4 0) (b + 1) 1 (some (b + 3)) = B
    have xB : mm_x B = b + 4 := by rw [← hB, xr_, xn_, xA]
    have h3 : (ms_n B 13 80).1 (b + 1) = 3 := by
      rw [kn_, xB, if_neg (by omega), ← hB]
      exact h2
    have hC : ms_r (ms_n B 13 80) (b + 1) 2 (some (b + 4)) = cT4 M b := by rw [← hB, ← hA]; rfl
    have e := l_consG (h := b + 1) (a := b + 4) (M := cT4 M b) (by rw [x_T4 hb]; omega) (by rw [x_T4 hb]; omega) (by omega) (by rw [k_T4 hb, if_neg (by omega), if_neg (by omega), if_neg (by omega), if_pos rfl]) (by rw [k_T4 hb, if_pos rfl]) (by rw [← hC, rr_, if_pos ⟨rfl, rfl⟩]) (by rw [← hC, nr_, nn_, xB, if_pos rfl]) 81 0 (by omega) (by omega)
    rw [gpM_0] at e
    simp only [f_X3_init, f_X6_init, f_X4_init, x1, h1, hA, xA, h2, hB, xB, h3, hC, bd_s, gd, lt_, ↓reduceIte]
    exact e
  have k5 : (cT5 M b).1 b = 7 := by
    rw [k_T5 hb, if_neg (by omega), k_T4 hb, if_neg (by omega), if_neg (by omega), if_neg (by omega), if_neg (by omega), if_pos rfl]
  have k6 : (ms_n (ms_r (cT5 M b) b 0 (some (b + 1))) 14 6).1 b = 7 := by
    rw [kn_, xr_, x_T5 hb, if_neg (by omega)]
    exact k5
  have x6 : mm_x (ms_r (cT5 M b) b 0 (some (b + 1))) = b + 85 := by rw [xr_, x_T5 hb]
  have e7 : ms_r (ms_n (ms_r (cT5 M b) b 0 (some (b + 1))) 14 6) b 1 (some (b + 85)) = cT7 M b := rfl
  have em := l_consM (h := b) (a := b + 85) (M := cT7 M b) (by rw [x_T7 hb]; omega) (by rw [x_T7 hb]; omega) (by omega) (by rw [k_T7 hb, if_neg (by omega)]; exact k5) (by rw [k_T7 hb, if_pos rfl]) (by rw [← e7, rr_, if_pos ⟨rfl, rfl⟩]) (by rw [← e7, nr_, nn_, x6, if_pos rfl]) 7 0 (by omega) (by omega)
  have e8 : ms_r (ms_n (gpM (cT7 M b) (b + 85) 5 6) 12 20) b 3 (some (b + 92)) = cT8 M b := rfl
  have x8 : mm_x (gpM (cT7 M b) (b + 85) 5 6) = b + 92 := by rw [xg_, x_T7 hb]
  rw [gpM_0, x8, e8] at em
  have k8 : (cT8 M b).1 b = 7 := by rw [k_T8 hb, if_neg (by omega), if_neg (by omega), k_T7 hb, if_neg (by omega)]; exact k5
  have ef := l_consF (h := b) (a := b + 92) (M := cT8 M b) (by rw [x_T8 hb]; omega) (by rw [x_T8 hb]; omega) (by omega) k8 (by rw [k_T8 hb, if_pos rfl]) (by rw [← e8, rr_, if_pos ⟨rfl, rfl⟩]) (by rw [← e8, nr_, nn_, x8, if_pos rfl]) 21 0 (by omega) (by omega)
  have e9 : ms_r (ms_n (gfM (cT8 M b) (b + 92) 20) 11 40) b 5 (some (b + 133)) = cT9 M b := rfl
  have x9 : mm_x (gfM (cT8 M b) (b + 92) 20) = b + 133 := by rw [xf_, x_T8 hb]
  rw [gfM_0, x9, e9] at ef
  have k9 : (cT9 M b).1 b = 7 := by rw [k_T9 hb, if_neg (by omega), if_neg (by omega)]; exact k8
  have ec := l_consC (h := b) (a := b + 133) (M := cT9 M b) (by rw [x_T9 hb]; omega) (by rw [x_T9 hb]; omega) (by omega) k9 (by rw [k_T9 hb, if_pos rfl]) (by rw [← e9, rr_, if_pos ⟨rfl, rfl⟩]) (by rw [← e9, nr_, nn_, x9, if_pos rfl]) 41 0 (by omega) (by omega)
  rw [gpM_0, x_T9 hb] at ec
  have e0 : ms_n (ms_n M 7 0) 3 0 = cT0 M := rfl
  simp only [f_X7_init, x0, e0, e3, k5, x6, k6, e7, bd_s, gd, lt_, ↓reduceIte]
  exact em.trans (ef.trans ec)
