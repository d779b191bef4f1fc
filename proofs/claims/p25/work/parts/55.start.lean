/-! ===== PURE: the first state ===== -/
theorem Rg.to {D : va_G} {ca : Nat → ClassId} {M N : Mem} {H : Heap} (h : Rg D ca M H) (hN : ∀ q, N.1 q < 16 → M.1 q = N.1 q ∧ mm_N M q = mm_N N q ∧ ∀ k, mm_i M q k = mm_i N q k ∧ mm_l M q k = mm_l N q k ∧ mm_r M q k = mm_r N q k) : Rg D ca N H := by
  intro q
  by_cases hq : N.1 q < 16
  · obtain ⟨h1, h2, h3⟩ := hN q hq
    exact (h q).kept (fun _ => rfl) h1.symm h2.symm (fun k => (h3 k).1.symm) (fun k => (h3 k).2.1.symm) (fun k => (h3 k).2.2.symm)
  · exact ⟨fun h9 => absurd h9 (by omega), fun _ h16 => absurd h16 hq⟩
theorem in_ (M : Mem) (κ n q k : Nat) : mm_i (ms_n M κ n) q k = if q = mm_x M then 0 else mm_i M q k := rfl
theorem ir_ (M : Mem) (a j : Nat) (v : Option Nat) (q k : Nat) : mm_i (ms_r M a j v) q k = mm_i M q k := rfl
theorem ii_ (M : Mem) (a j : Nat) (v : Int32) (q k : Nat) : mm_i (ms_i M a j v) q k = if q = a ∧ k = j then v else mm_i M q k := rfl
theorem ig_ (M : Mem) (a κ i q k : Nat) : mm_i (gpM M a κ i) q k = if mm_x M ≤ q ∧ q < mm_x M + i then 0 else mm_i M q k := rfl
theorem if_ (M : Mem) (a i q k : Nat) : mm_i (gfM M a i) q k = if mm_x M ≤ q ∧ q < mm_x M + 2 * i then 0 else mm_i M q k := rfl
theorem ln_ (M : Mem) (κ n q k : Nat) : mm_l (ms_n M κ n) q k = if q = mm_x M then 0 else mm_l M q k := rfl
theorem lr_ (M : Mem) (a j : Nat) (v : Option Nat) (q k : Nat) : mm_l (ms_r M a j v) q k = mm_l M q k := rfl
theorem li_ (M : Mem) (a j : Nat) (v : Int32) (q k : Nat) : mm_l (ms_i M a j v) q k = mm_l M q k := rfl
theorem lg_ (M : Mem) (a κ i q k : Nat) : mm_l (gpM M a κ i) q k = if mm_x M ≤ q ∧ q < mm_x M + i then 0 else mm_l M q k := rfl
theorem lf_ (M : Mem) (a i q k : Nat) : mm_l (gfM M a i) q k = if mm_x M ≤ q ∧ q < mm_x M + 2 * i then 0 else mm_l M q k := rfl
/-- the class's region, kinds and lengths -/
theorem kC_T10 {M : Mem} {b : Nat} (hb : mm_x M = b) (q : Nat) (h : b ≤ q ∧ q < b + 177) : (cT10 M b).1 q = kdC b q := by
  rw [k_T10 hb, k_T9 hb, k_T8 hb, k_T7 hb, k_T5 hb, k_T4 hb]
  unfold kdC
  grind (splits := 80)
theorem nC_T10 {M : Mem} {b : Nat} (hb : mm_x M = b) (q : Nat) (h : b ≤ q ∧ q < b + 177) : mm_N (cT10 M b) q = lnC b q := by
  have e : mm_N (cT10 M b) q = if q = b + 176 then 21 else if q = b + 175 then 21 else if q = b + 174 then 64 else if b + 134 ≤ q ∧ q < b + 134 + 40 then 0 else if q = b + 133 then 40 else if b + 93 ≤ q ∧ q < b + 93 + 40 then (if (q - (b + 93)) % 2 = 0 then 0 else 64) else if q = b + 92 then 20 else if b + 86 ≤ q ∧ q < b + 86 + 6 then 0 else if q = b + 85 then 6 else if b + 5 ≤ q ∧ q < b + 5 + 80 then 0 else if q = b + 4 then 80 else if q = b + 3 then 0 else if q = b + 2 then 0 else if q = b + 1 then 0 else if q = b then 0 else mm_N M q := by
    simp only [cT10, nn_, nr_, ng_, xn_, xr_, xg_, x_T9 hb, Nat.reduceMul]
    simp only [cT9, nn_, nr_, nf_, xf_, x_T8 hb, Nat.reduceMul]
    simp only [cT8, nn_, nr_, ng_, xg_, x_T7 hb]
    simp only [cT7, nn_, nr_, xr_, x_T5 hb]
    simp only [cT5, ni_, ng_, x_T4 hb]
    simp only [cT4, cT0, nn_, nr_, xn_, xr_, hb]
  rw [e]
  clear e
  unfold lnC
  grind (splits := 80)
def sg0 : Sg := (fun c i => if c = 10 then (if i = 3 then 20 else if i = 4 then 80 else if i = 5 then 50 else 0) else 0, fun _ => 0)
theorem iC_T10 {M : Mem} {b : Nat} (hb : mm_x M = b) (q k : Nat) (h : b ≤ q ∧ q < b + 177) : mm_i (cT10 M b) q k = if q = b + 1 ∧ k = 6 then 50 else if q = b + 1 ∧ k = 5 then 80 else if q = b + 1 ∧ k = 4 then 20 else 0 := by
  have e : mm_i (cT10 M b) q k = if q = b + 176 then 0 else if q = b + 175 then 0 else if q = b + 174 then 0 else if b + 134 ≤ q ∧ q < b + 134 + 40 then 0 else if q = b + 133 then 0 else if b + 93 ≤ q ∧ q < b + 93 + 40 then 0 else if q = b + 92 then 0 else if b + 86 ≤ q ∧ q < b + 86 + 6 then 0 else if q = b + 85 then 0 else if q = b + 1 ∧ k = 6 then 50 else if q = b + 1 ∧ k = 5 then 80 else if q = b + 1 ∧ k = 4 then 20 else if b + 5 ≤ q ∧ q < b + 5 + 80 then 0 else if q = b + 4 then 0 else if q = b + 3 then 0 else if q = b + 2 then 0 else if q = b + 1 then 0 else if q = b then 0 else mm_i M q k := by
    simp only [cT10, in_, ir_, ig_, xn_, xr_, xg_, x_T9 hb, Nat.reduceMul]
    simp only [cT9, in_, ir_, if_, xf_, x_T8 hb, Nat.reduceMul]
    simp only [cT8, in_, ir_, ig_, xg_, x_T7 hb]
    simp only [cT7, in_, ir_, xr_, x_T5 hb]
    simp only [cT5, ii_, ig_, x_T4 hb]
    simp only [cT4, cT0, in_, ir_, xn_, xr_, hb]
  rw [e]
  clear e
  grind (splits := 80)
theorem lC_T10 {M : Mem} {b : Nat} (hb : mm_x M = b) (q k : Nat) (h : b ≤ q ∧ q < b + 177) : mm_l (cT10 M b) q k = 0 := by
  have e : mm_l (cT10 M b) q k = if q = b + 176 then 0 else if q = b + 175 then 0 else if q = b + 174 then 0 else if b + 134 ≤ q ∧ q < b + 134 + 40 then 0 else if q = b + 133 then 0 else if b + 93 ≤ q ∧ q < b + 93 + 40 then 0 else if q = b + 92 then 0 else if b + 86 ≤ q ∧ q < b + 86 + 6 then 0 else if q = b + 85 then 0 else if b + 5 ≤ q ∧ q < b + 5 + 80 then 0 else if q = b + 4 then 0 else if q = b + 3 then 0 else if q = b + 2 then 0 else if q = b + 1 then 0 else if q = b then 0 else mm_l M q k := by
    simp only [cT10, ln_, lr_, lg_, xn_, xr_, xg_, x_T9 hb, Nat.reduceMul]
    simp only [cT9, ln_, lr_, lf_, xf_, x_T8 hb, Nat.reduceMul]
    simp only [cT8, ln_, lr_, lg_, xg_, x_T7 hb]
    simp only [cT7, ln_, lr_, xr_, x_T5 hb]
    simp only [cT5, li_, lg_, x_T4 hb]
    simp only [cT4, cT0, ln_, lr_, xn_, xr_, hb]
  rw [e]
  clear e
  grind (splits := 80)
theorem rC_T10 {M : Mem} {b : Nat} (hb : mm_x M = b) (q k : Nat) (h : b ≤ q ∧ q < b + 177) : mm_r (cT10 M b) q k = rfC b q k := by
  have e : mm_r (cT10 M b) q k = if q = b ∧ k = 10 then some (b + 176) else if q = b + 176 then none else if q = b ∧ k = 9 then some (b + 175) else if q = b + 175 then none else if q = b ∧ k = 8 then some (b + 174) else if q = b + 174 then none else if q = b + 133 ∧ k < 40 then some (b + 134 + k) else if b + 134 ≤ q ∧ q < b + 134 + 40 then none else if q = b ∧ k = 5 then some (b + 133) else if q = b + 133 then none else if q = b + 92 ∧ k < 20 then some (b + 93 + 2 * k) else if b + 93 ≤ q ∧ q < b + 93 + 40 then (if (q - (b + 93)) % 2 = 0 ∧ k = 0 then some (q + 1) else none) else if q = b ∧ k = 3 then some (b + 92) else if q = b + 92 then none else if q = b + 85 ∧ k < 6 then some (b + 86 + k) else if b + 86 ≤ q ∧ q < b + 86 + 6 then none else if q = b ∧ k = 1 then some (b + 85) else if q = b + 85 then none else if q = b ∧ k = 0 then some (b + 1) else if q = b + 4 ∧ k < 80 then some (b + 5 + k) else if b + 5 ≤ q ∧ q < b + 5 + 80 then none else if q = b + 1 ∧ k = 2 then some (b + 4) else if q = b + 4 then none else if q = b + 1 ∧ k = 1 then some (b + 3) else if q = b + 3 then none else if q = b + 1 ∧ k = 0 then some (b + 2) else if q = b + 2 then none else if q = b + 1 then none else if q = b then none else mm_r M q k := by
    simp only [cT10, rn_, rr_, rg_, xn_, xr_, xg_, x_T9 hb, Nat.reduceMul]
    simp only [cT9, rn_, rr_, rf_, xf_, x_T8 hb, Nat.reduceMul]
    simp only [cT8, rn_, rr_, rg_, xg_, x_T7 hb]
    simp only [cT7, rn_, rr_, xr_, x_T5 hb]
    simp only [cT5, ri_, rg_, x_T4 hb]
    simp only [cT4, cT0, rn_, rr_, xn_, xr_, hb]
  rw [e]
  clear e
  unfold rfC xH xMA xFA xCA xW x1 x2 xP xL xA xG xM xF xFm xC
  grind (splits := 80)
