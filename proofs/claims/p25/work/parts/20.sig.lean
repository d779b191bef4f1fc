/-! ===== ONE STATE FOR BOTH: what class and reference hold, as numbers by code and place =====
ints: 0 lane, 1 angle, 2 mass, 3 unrest, 4 darkness, 5 there, 6 met (class), 22 met (reference), 7 moon's lane, 8 moon's angle, 9 moon's width (class), 20 moon's mass (reference),
10: 0 grains, 1 moons, 2 flatness, 3 first, 4 second, 5 spring, 6 stuck, 7 broke, 8 bumps, 9 rained, 10 escaped, 11 rainedMass, 12 escapedMass, 13 putMass, 14 now, 15 frames, 16 claims;
11 a frame's tick, 12 framed, 13 claim's frame, 14 from, 15 to, 16 most, 17 to 19 the class's rows, 21 thrown (reference)
longs: 0 putMomentum, 1 given, 2 heat, 3 rainedMomentum, 4 escapedMomentum (class), 5 the law's out -/
abbrev Sg : Type := (Nat → Nat → Int32) × (Nat → Int64)
def sI (σ : Sg) (c i : Nat) (v : Int32) : Sg := (up2 σ.1 c i v, σ.2)
def sL (σ : Sg) (c : Nat) (v : Int64) : Sg := (σ.1, fun j => if j = c then v else σ.2 j)
theorem sI_1 (σ : Sg) (c i : Nat) (v : Int32) (c' i' : Nat) : (sI σ c i v).1 c' i' = if c' = c ∧ i' = i then v else σ.1 c' i' := rfl
theorem sI_2 (σ : Sg) (c i : Nat) (v : Int32) (j : Nat) : (sI σ c i v).2 j = σ.2 j := rfl
theorem sL_1 (σ : Sg) (c : Nat) (v : Int64) (c' i' : Nat) : (sL σ c v).1 c' i' = σ.1 c' i' := rfl
theorem sL_2 (σ : Sg) (c : Nat) (v : Int64) (j : Nat) : (sL σ c v).2 j = if j = c then v else σ.2 j := rfl

def xH (b : Nat) : Nat := b + 1
def xP (b : Nat) : Nat := b + 2
def xL (b : Nat) : Nat := b + 3
def xA (b : Nat) : Nat := b + 4
def xG (b i : Nat) : Nat := b + 5 + i
def xMA (b : Nat) : Nat := b + 85
def xM (b i : Nat) : Nat := b + 86 + i
def xFA (b : Nat) : Nat := b + 92
def xF (b i : Nat) : Nat := b + 93 + 2 * i
def xFm (b i : Nat) : Nat := b + 94 + 2 * i
def xCA (b : Nat) : Nat := b + 133
def xC (b i : Nat) : Nat := b + 134 + i
def xW (b : Nat) : Nat := b + 174
def x1 (b : Nat) : Nat := b + 175
def x2 (b : Nat) : Nat := b + 176
def yLa (b : Nat) : Nat := b
def yAn (b : Nat) : Nat := b + 1
def yMa (b : Nat) : Nat := b + 2
def yUn (b : Nat) : Nat := b + 3
def yDa (b : Nat) : Nat := b + 4
def yTh (b : Nat) : Nat := b + 5
def yHm (b : Nat) : Nat := b + 6
def yC (b : Nat) : Nat := b + 7
def yM (b : Nat) : Nat := b + 8
def kdC (b q : Nat) : Nat := if q = b then 7 else if q = b + 1 then 3 else if q = b + 2 then 6 else if q = b + 3 then 4 else if q = b + 4 then 13 else if b + 5 ≤ q ∧ q < b + 5 + 80 then 2 else if q = b + 85 then 14 else if b + 86 ≤ q ∧ q < b + 86 + 6 then 5 else if q = b + 92 then 12 else if b + 93 ≤ q ∧ q < b + 93 + 40 ∧ (q - (b + 93)) % 2 = 0 then 1 else if b + 94 ≤ q ∧ q < b + 94 + 40 ∧ (q - (b + 94)) % 2 = 0 then 9 else if q = b + 133 then 11 else if b + 134 ≤ q ∧ q < b + 134 + 40 then 0 else if q = b + 174 then 9 else if q = b + 175 then 9 else if q = b + 176 then 9 else 16
def lnC (b q : Nat) : Nat := if q = b + 4 then 80 else if q = b + 85 then 6 else if q = b + 92 then 20 else if b + 94 ≤ q ∧ q < b + 94 + 40 ∧ (q - (b + 94)) % 2 = 0 then 64 else if q = b + 133 then 40 else if q = b + 174 then 64 else if q = b + 175 then 21 else if q = b + 176 then 21 else 0
def itC (b q k : Nat) : Nat × Nat := if (q = b) ∧ k = 2 then (10, 1) else if (q = b) ∧ k = 4 then (10, 15) else if (q = b) ∧ k = 6 then (10, 16) else if (q = b) ∧ k = 7 then (10, 14) else if (q = b + 1) ∧ k = 3 then (10, 0) else if (q = b + 1) ∧ k = 4 then (10, 3) else if (q = b + 1) ∧ k = 5 then (10, 4) else if (q = b + 1) ∧ k = 6 then (10, 5) else if (q = b + 2) ∧ k = 0 then (10, 2) else if (q = b + 3) ∧ k = 0 then (10, 6) else if (q = b + 3) ∧ k = 1 then (10, 7) else if (q = b + 3) ∧ k = 2 then (10, 8) else if (q = b + 3) ∧ k = 3 then (10, 9) else if (q = b + 3) ∧ k = 4 then (10, 10) else if (q = b + 3) ∧ k = 5 then (10, 13) else if (q = b + 3) ∧ k = 6 then (10, 11) else if (q = b + 3) ∧ k = 7 then (10, 12) else if (b + 5 ≤ q ∧ q < b + 5 + 80) ∧ k = 0 then (0, q - (b + 5)) else if (b + 5 ≤ q ∧ q < b + 5 + 80) ∧ k = 1 then (1, q - (b + 5)) else if (b + 5 ≤ q ∧ q < b + 5 + 80) ∧ k = 2 then (2, q - (b + 5)) else if (b + 5 ≤ q ∧ q < b + 5 + 80) ∧ k = 3 then (3, q - (b + 5)) else if (b + 5 ≤ q ∧ q < b + 5 + 80) ∧ k = 4 then (4, q - (b + 5)) else if (b + 5 ≤ q ∧ q < b + 5 + 80) ∧ k = 5 then (5, q - (b + 5)) else if (b + 5 ≤ q ∧ q < b + 5 + 80) ∧ k = 6 then (6, q - (b + 5)) else if (b + 86 ≤ q ∧ q < b + 86 + 6) ∧ k = 0 then (7, q - (b + 86)) else if (b + 86 ≤ q ∧ q < b + 86 + 6) ∧ k = 1 then (8, q - (b + 86)) else if (b + 86 ≤ q ∧ q < b + 86 + 6) ∧ k = 2 then (9, q - (b + 86)) else if (b + 93 ≤ q ∧ q < b + 93 + 40 ∧ (q - (b + 93)) % 2 = 0) ∧ k = 1 then (11, (q - (b + 93)) / 2) else if (b + 94 ≤ q ∧ q < b + 94 + 40 ∧ (q - (b + 94)) % 2 = 0) ∧ k < 64 then (12, 64 * ((q - (b + 94)) / 2) + k) else if (b + 134 ≤ q ∧ q < b + 134 + 40) ∧ k = 0 then (13, q - (b + 134)) else if (b + 134 ≤ q ∧ q < b + 134 + 40) ∧ k = 1 then (14, q - (b + 134)) else if (b + 134 ≤ q ∧ q < b + 134 + 40) ∧ k = 2 then (15, q - (b + 134)) else if (b + 134 ≤ q ∧ q < b + 134 + 40) ∧ k = 3 then (16, q - (b + 134)) else if (q = b + 174) ∧ k < 64 then (17, k) else if (q = b + 175) ∧ k < 21 then (18, k) else if (q = b + 176) ∧ k < 21 then (19, k) else (99, 0)
def lgC (b q k : Nat) : Nat := if (q = b + 3) ∧ k = 8 then 0 else if (q = b + 3) ∧ k = 9 then 3 else if (q = b + 3) ∧ k = 10 then 4 else if (q = b + 3) ∧ k = 11 then 1 else if (q = b + 3) ∧ k = 12 then 2 else 99
def rfC (b q k : Nat) : Option Nat := if (q = b) ∧ k = 0 then some (xH b) else if (q = b) ∧ k = 1 then some (xMA b) else if (q = b) ∧ k = 3 then some (xFA b) else if (q = b) ∧ k = 5 then some (xCA b) else if (q = b) ∧ k = 8 then some (xW b) else if (q = b) ∧ k = 9 then some (x1 b) else if (q = b) ∧ k = 10 then some (x2 b) else if (q = b + 1) ∧ k = 0 then some (xP b) else if (q = b + 1) ∧ k = 1 then some (xL b) else if (q = b + 1) ∧ k = 2 then some (xA b) else if (q = b + 4) ∧ k < 80 then some (xG b k) else if (q = b + 85) ∧ k < 6 then some (xM b k) else if (q = b + 92) ∧ k < 20 then some (xF b k) else if (b + 93 ≤ q ∧ q < b + 93 + 40 ∧ (q - (b + 93)) % 2 = 0) ∧ k = 0 then some (xFm b ((q - (b + 93)) / 2)) else if (q = b + 133) ∧ k < 40 then some (xC b k) else none
def memC (b : Nat) (σ : Sg) : Mem := (kdC b, lnC b, fun q k => if (itC b q k).1 = 99 then 0 else σ.1 (itC b q k).1 (itC b q k).2, fun q k => if lgC b q k = 99 then 0 else σ.2 (lgC b q k), rfC b, 0)
def iqC (b c i : Nat) : Nat := if c = 0 then (b + 5 + i) else if c = 1 then (b + 5 + i) else if c = 2 then (b + 5 + i) else if c = 3 then (b + 5 + i) else if c = 4 then (b + 5 + i) else if c = 5 then (b + 5 + i) else if c = 6 then (b + 5 + i) else if c = 7 then (b + 86 + i) else if c = 8 then (b + 86 + i) else if c = 9 then (b + 86 + i) else if c = 10 then (if i = 1 then b else if i = 15 then b else if i = 16 then b else if i = 14 then b else if i = 0 then b + 1 else if i = 3 then b + 1 else if i = 4 then b + 1 else if i = 5 then b + 1 else if i = 2 then b + 2 else if i = 6 then b + 3 else if i = 7 then b + 3 else if i = 8 then b + 3 else if i = 9 then b + 3 else if i = 10 then b + 3 else if i = 13 then b + 3 else if i = 11 then b + 3 else if i = 12 then b + 3 else 0) else if c = 11 then (b + 93 + 2 * i) else if c = 12 then (b + 94 + 2 * (i / 64)) else if c = 13 then (b + 134 + i) else if c = 14 then (b + 134 + i) else if c = 15 then (b + 134 + i) else if c = 16 then (b + 134 + i) else if c = 17 then (b + 174) else if c = 18 then (b + 175) else if c = 19 then (b + 176) else 0
def ikC (c i : Nat) : Nat := if c = 0 then (0) else if c = 1 then (1) else if c = 2 then (2) else if c = 3 then (3) else if c = 4 then (4) else if c = 5 then (5) else if c = 6 then (6) else if c = 7 then (0) else if c = 8 then (1) else if c = 9 then (2) else if c = 10 then (if i = 1 then 2 else if i = 15 then 4 else if i = 16 then 6 else if i = 14 then 7 else if i = 0 then 3 else if i = 3 then 4 else if i = 4 then 5 else if i = 5 then 6 else if i = 2 then 0 else if i = 6 then 0 else if i = 7 then 1 else if i = 8 then 2 else if i = 9 then 3 else if i = 10 then 4 else if i = 13 then 5 else if i = 11 then 6 else if i = 12 then 7 else 0) else if c = 11 then (1) else if c = 12 then (i % 64) else if c = 13 then (0) else if c = 14 then (1) else if c = 15 then (2) else if c = 16 then (3) else if c = 17 then (i) else if c = 18 then (i) else if c = 19 then (i) else 0
theorem itC_inv {b q k c i : Nat} (h : itC b q k = (c, i)) (hc : c ≠ 99) : q = iqC b c i ∧ k = ikC c i := by
  unfold itC at h
  by_cases h1 : (q = b) ∧ k = 2
  · rw [if_pos h1] at h
    simp only [Prod.mk.injEq] at h
    obtain ⟨rfl, rfl⟩ := h
    show q = b ∧ k = 2
    omega
  rw [if_neg h1] at h
  clear h1
  by_cases h1 : (q = b) ∧ k = 4
  · rw [if_pos h1] at h
    simp only [Prod.mk.injEq] at h
    obtain ⟨rfl, rfl⟩ := h
    show q = b ∧ k = 4
    omega
  rw [if_neg h1] at h
  clear h1
  by_cases h1 : (q = b) ∧ k = 6
  · rw [if_pos h1] at h
    simp only [Prod.mk.injEq] at h
    obtain ⟨rfl, rfl⟩ := h
    show q = b ∧ k = 6
    omega
  rw [if_neg h1] at h
  clear h1
  by_cases h1 : (q = b) ∧ k = 7
  · rw [if_pos h1] at h
    simp only [Prod.mk.injEq] at h
    obtain ⟨rfl, rfl⟩ := h
    show q = b ∧ k = 7
    omega
  rw [if_neg h1] at h
  clear h1
  by_cases h1 : (q = b + 1) ∧ k = 3
  · rw [if_pos h1] at h
    simp only [Prod.mk.injEq] at h
    obtain ⟨rfl, rfl⟩ := h
    show q = b + 1 ∧ k = 3
    omega
  rw [if_neg h1] at h
  clear h1
  by_cases h1 : (q = b + 1) ∧ k = 4
  · rw [if_pos h1] at h
    simp only [Prod.mk.injEq] at h
    obtain ⟨rfl, rfl⟩ := h
    show q = b + 1 ∧ k = 4
    omega
  rw [if_neg h1] at h
  clear h1
  by_cases h1 : (q = b + 1) ∧ k = 5
  · rw [if_pos h1] at h
    simp only [Prod.mk.injEq] at h
    obtain ⟨rfl, rfl⟩ := h
    show q = b + 1 ∧ k = 5
    omega
  rw [if_neg h1] at h
  clear h1
  by_cases h1 : (q = b + 1) ∧ k = 6
  · rw [if_pos h1] at h
    simp only [Prod.mk.injEq] at h
    obtain ⟨rfl, rfl⟩ := h
    show q = b + 1 ∧ k = 6
    omega
  rw [if_neg h1] at h
  clear h1
  by_cases h1 : (q = b + 2) ∧ k = 0
  · rw [if_pos h1] at h
    simp only [Prod.mk.injEq] at h
    obtain ⟨rfl, rfl⟩ := h
    show q = b + 2 ∧ k = 0
    omega
  rw [if_neg h1] at h
  clear h1
  by_cases h1 : (q = b + 3) ∧ k = 0
  · rw [if_pos h1] at h
    simp only [Prod.mk.injEq] at h
    obtain ⟨rfl, rfl⟩ := h
    show q = b + 3 ∧ k = 0
    omega
  rw [if_neg h1] at h
  clear h1
  by_cases h1 : (q = b + 3) ∧ k = 1
  · rw [if_pos h1] at h
    simp only [Prod.mk.injEq] at h
    obtain ⟨rfl, rfl⟩ := h
    show q = b + 3 ∧ k = 1
    omega
  rw [if_neg h1] at h
  clear h1
  by_cases h1 : (q = b + 3) ∧ k = 2
  · rw [if_pos h1] at h
    simp only [Prod.mk.injEq] at h
    obtain ⟨rfl, rfl⟩ := h
    show q = b + 3 ∧ k = 2
    omega
  rw [if_neg h1] at h
  clear h1
  by_cases h1 : (q = b + 3) ∧ k = 3
  · rw [if_pos h1] at h
    simp only [Prod.mk.injEq] at h
    obtain ⟨rfl, rfl⟩ := h
    show q = b + 3 ∧ k = 3
    omega
  rw [if_neg h1] at h
  clear h1
  by_cases h1 : (q = b + 3) ∧ k = 4
  · rw [if_pos h1] at h
    simp only [Prod.mk.injEq] at h
    obtain ⟨rfl, rfl⟩ := h
    show q = b + 3 ∧ k = 4
    omega
  rw [if_neg h1] at h
  clear h1
  by_cases h1 : (q = b + 3) ∧ k = 5
  · rw [if_pos h1] at h
    simp only [Prod.mk.injEq] at h
    obtain ⟨rfl, rfl⟩ := h
    show q = b + 3 ∧ k = 5
    omega
  rw [if_neg h1] at h
  clear h1
  by_cases h1 : (q = b + 3) ∧ k = 6
  · rw [if_pos h1] at h
    simp only [Prod.mk.injEq] at h
    obtain ⟨rfl, rfl⟩ := h
    show q = b + 3 ∧ k = 6
    omega
  rw [if_neg h1] at h
  clear h1
  by_cases h1 : (q = b + 3) ∧ k = 7
  · rw [if_pos h1] at h
    simp only [Prod.mk.injEq] at h
    obtain ⟨rfl, rfl⟩ := h
    show q = b + 3 ∧ k = 7
    omega
  rw [if_neg h1] at h
  clear h1
  by_cases h1 : (b + 5 ≤ q ∧ q < b + 5 + 80) ∧ k = 0
  · rw [if_pos h1] at h
    simp only [Prod.mk.injEq] at h
    obtain ⟨rfl, rfl⟩ := h
    show q = b + 5 + (q - (b + 5)) ∧ k = 0
    omega
  rw [if_neg h1] at h
  clear h1
  by_cases h1 : (b + 5 ≤ q ∧ q < b + 5 + 80) ∧ k = 1
  · rw [if_pos h1] at h
    simp only [Prod.mk.injEq] at h
    obtain ⟨rfl, rfl⟩ := h
    show q = b + 5 + (q - (b + 5)) ∧ k = 1
    omega
  rw [if_neg h1] at h
  clear h1
  by_cases h1 : (b + 5 ≤ q ∧ q < b + 5 + 80) ∧ k = 2
  · rw [if_pos h1] at h
    simp only [Prod.mk.injEq] at h
    obtain ⟨rfl, rfl⟩ := h
    show q = b + 5 + (q - (b + 5)) ∧ k = 2
    omega
  rw [if_neg h1] at h
  clear h1
  by_cases h1 : (b + 5 ≤ q ∧ q < b + 5 + 80) ∧ k = 3
  · rw [if_pos h1] at h
    simp only [Prod.mk.injEq] at h
    obtain ⟨rfl, rfl⟩ := h
    show q = b + 5 + (q - (b + 5)) ∧ k = 3
    omega
  rw [if_neg h1] at h
  clear h1
  by_cases h1 : (b + 5 ≤ q ∧ q < b + 5 + 80) ∧ k = 4
  · rw [if_pos h1] at h
    simp only [Prod.mk.injEq] at h
    obtain ⟨rfl, rfl⟩ := h
    show q = b + 5 + (q - (b + 5)) ∧ k = 4
    omega
  rw [if_neg h1] at h
  clear h1
  by_cases h1 : (b + 5 ≤ q ∧ q < b + 5 + 80) ∧ k = 5
  · rw [if_pos h1] at h
    simp only [Prod.mk.injEq] at h
    obtain ⟨rfl, rfl⟩ := h
    show q = b + 5 + (q - (b + 5)) ∧ k = 5
    omega
  rw [if_neg h1] at h
  clear h1
  by_cases h1 : (b + 5 ≤ q ∧ q < b + 5 + 80) ∧ k = 6
  · rw [if_pos h1] at h
    simp only [Prod.mk.injEq] at h
    obtain ⟨rfl, rfl⟩ := h
    show q = b + 5 + (q - (b + 5)) ∧ k = 6
    omega
  rw [if_neg h1] at h
  clear h1
  by_cases h1 : (b + 86 ≤ q ∧ q < b + 86 + 6) ∧ k = 0
  · rw [if_pos h1] at h
    simp only [Prod.mk.injEq] at h
    obtain ⟨rfl, rfl⟩ := h
    show q = b + 86 + (q - (b + 86)) ∧ k = 0
    omega
  rw [if_neg h1] at h
  clear h1
  by_cases h1 : (b + 86 ≤ q ∧ q < b + 86 + 6) ∧ k = 1
  · rw [if_pos h1] at h
    simp only [Prod.mk.injEq] at h
    obtain ⟨rfl, rfl⟩ := h
    show q = b + 86 + (q - (b + 86)) ∧ k = 1
    omega
  rw [if_neg h1] at h
  clear h1
  by_cases h1 : (b + 86 ≤ q ∧ q < b + 86 + 6) ∧ k = 2
  · rw [if_pos h1] at h
    simp only [Prod.mk.injEq] at h
    obtain ⟨rfl, rfl⟩ := h
    show q = b + 86 + (q - (b + 86)) ∧ k = 2
    omega
  rw [if_neg h1] at h
  clear h1
  by_cases h1 : (b + 93 ≤ q ∧ q < b + 93 + 40 ∧ (q - (b + 93)) % 2 = 0) ∧ k = 1
  · rw [if_pos h1] at h
    simp only [Prod.mk.injEq] at h
    obtain ⟨rfl, rfl⟩ := h
    show q = b + 93 + 2 * ((q - (b + 93)) / 2) ∧ k = 1
    omega
  rw [if_neg h1] at h
  clear h1
  by_cases h1 : (b + 94 ≤ q ∧ q < b + 94 + 40 ∧ (q - (b + 94)) % 2 = 0) ∧ k < 64
  · rw [if_pos h1] at h
    simp only [Prod.mk.injEq] at h
    obtain ⟨rfl, rfl⟩ := h
    show q = b + 94 + 2 * ((64 * ((q - (b + 94)) / 2) + k) / 64) ∧ k = (64 * ((q - (b + 94)) / 2) + k) % 64
    omega
  rw [if_neg h1] at h
  clear h1
  by_cases h1 : (b + 134 ≤ q ∧ q < b + 134 + 40) ∧ k = 0
  · rw [if_pos h1] at h
    simp only [Prod.mk.injEq] at h
    obtain ⟨rfl, rfl⟩ := h
    show q = b + 134 + (q - (b + 134)) ∧ k = 0
    omega
  rw [if_neg h1] at h
  clear h1
  by_cases h1 : (b + 134 ≤ q ∧ q < b + 134 + 40) ∧ k = 1
  · rw [if_pos h1] at h
    simp only [Prod.mk.injEq] at h
    obtain ⟨rfl, rfl⟩ := h
    show q = b + 134 + (q - (b + 134)) ∧ k = 1
    omega
  rw [if_neg h1] at h
  clear h1
  by_cases h1 : (b + 134 ≤ q ∧ q < b + 134 + 40) ∧ k = 2
  · rw [if_pos h1] at h
    simp only [Prod.mk.injEq] at h
    obtain ⟨rfl, rfl⟩ := h
    show q = b + 134 + (q - (b + 134)) ∧ k = 2
    omega
  rw [if_neg h1] at h
  clear h1
  by_cases h1 : (b + 134 ≤ q ∧ q < b + 134 + 40) ∧ k = 3
  · rw [if_pos h1] at h
    simp only [Prod.mk.injEq] at h
    obtain ⟨rfl, rfl⟩ := h
    show q = b + 134 + (q - (b + 134)) ∧ k = 3
    omega
  rw [if_neg h1] at h
  clear h1
  by_cases h1 : (q = b + 174) ∧ k < 64
  · rw [if_pos h1] at h
    simp only [Prod.mk.injEq] at h
    obtain ⟨rfl, rfl⟩ := h
    show q = b + 174 ∧ k = k
    omega
  rw [if_neg h1] at h
  clear h1
  by_cases h1 : (q = b + 175) ∧ k < 21
  · rw [if_pos h1] at h
    simp only [Prod.mk.injEq] at h
    obtain ⟨rfl, rfl⟩ := h
    show q = b + 175 ∧ k = k
    omega
  rw [if_neg h1] at h
  clear h1
  by_cases h1 : (q = b + 176) ∧ k < 21
  · rw [if_pos h1] at h
    simp only [Prod.mk.injEq] at h
    obtain ⟨rfl, rfl⟩ := h
    show q = b + 176 ∧ k = k
    omega
  rw [if_neg h1] at h
  clear h1
  simp only [Prod.mk.injEq] at h
  exact absurd h.1.symm hc
theorem itC_code (b q k : Nat) : (itC b q k).1 ≠ 20 ∧ (itC b q k).1 ≠ 21 ∧ (itC b q k).1 ≠ 22 := by
  unfold itC
  by_cases h1 : (q = b) ∧ k = 2
  · rw [if_pos h1]; simp only [ne_eq, Nat.reduceEqDiff, not_false_eq_true, and_self]
  rw [if_neg h1]
  clear h1
  by_cases h1 : (q = b) ∧ k = 4
  · rw [if_pos h1]; simp only [ne_eq, Nat.reduceEqDiff, not_false_eq_true, and_self]
  rw [if_neg h1]
  clear h1
  by_cases h1 : (q = b) ∧ k = 6
  · rw [if_pos h1]; simp only [ne_eq, Nat.reduceEqDiff, not_false_eq_true, and_self]
  rw [if_neg h1]
  clear h1
  by_cases h1 : (q = b) ∧ k = 7
  · rw [if_pos h1]; simp only [ne_eq, Nat.reduceEqDiff, not_false_eq_true, and_self]
  rw [if_neg h1]
  clear h1
  by_cases h1 : (q = b + 1) ∧ k = 3
  · rw [if_pos h1]; simp only [ne_eq, Nat.reduceEqDiff, not_false_eq_true, and_self]
  rw [if_neg h1]
  clear h1
  by_cases h1 : (q = b + 1) ∧ k = 4
  · rw [if_pos h1]; simp only [ne_eq, Nat.reduceEqDiff, not_false_eq_true, and_self]
  rw [if_neg h1]
  clear h1
  by_cases h1 : (q = b + 1) ∧ k = 5
  · rw [if_pos h1]; simp only [ne_eq, Nat.reduceEqDiff, not_false_eq_true, and_self]
  rw [if_neg h1]
  clear h1
  by_cases h1 : (q = b + 1) ∧ k = 6
  · rw [if_pos h1]; simp only [ne_eq, Nat.reduceEqDiff, not_false_eq_true, and_self]
  rw [if_neg h1]
  clear h1
  by_cases h1 : (q = b + 2) ∧ k = 0
  · rw [if_pos h1]; simp only [ne_eq, Nat.reduceEqDiff, not_false_eq_true, and_self]
  rw [if_neg h1]
  clear h1
  by_cases h1 : (q = b + 3) ∧ k = 0
  · rw [if_pos h1]; simp only [ne_eq, Nat.reduceEqDiff, not_false_eq_true, and_self]
  rw [if_neg h1]
  clear h1
  by_cases h1 : (q = b + 3) ∧ k = 1
  · rw [if_pos h1]; simp only [ne_eq, Nat.reduceEqDiff, not_false_eq_true, and_self]
  rw [if_neg h1]
  clear h1
  by_cases h1 : (q = b + 3) ∧ k = 2
  · rw [if_pos h1]; simp only [ne_eq, Nat.reduceEqDiff, not_false_eq_true, and_self]
  rw [if_neg h1]
  clear h1
  by_cases h1 : (q = b + 3) ∧ k = 3
  · rw [if_pos h1]; simp only [ne_eq, Nat.reduceEqDiff, not_false_eq_true, and_self]
  rw [if_neg h1]
  clear h1
  by_cases h1 : (q = b + 3) ∧ k = 4
  · rw [if_pos h1]; simp only [ne_eq, Nat.reduceEqDiff, not_false_eq_true, and_self]
  rw [if_neg h1]
  clear h1
  by_cases h1 : (q = b + 3) ∧ k = 5
  · rw [if_pos h1]; simp only [ne_eq, Nat.reduceEqDiff, not_false_eq_true, and_self]
  rw [if_neg h1]
  clear h1
  by_cases h1 : (q = b + 3) ∧ k = 6
  · rw [if_pos h1]; simp only [ne_eq, Nat.reduceEqDiff, not_false_eq_true, and_self]
  rw [if_neg h1]
  clear h1
  by_cases h1 : (q = b + 3) ∧ k = 7
  · rw [if_pos h1]; simp only [ne_eq, Nat.reduceEqDiff, not_false_eq_true, and_self]
  rw [if_neg h1]
  clear h1
  by_cases h1 : (b + 5 ≤ q ∧ q < b + 5 + 80) ∧ k = 0
  · rw [if_pos h1]; simp only [ne_eq, Nat.reduceEqDiff, not_false_eq_true, and_self]
  rw [if_neg h1]
  clear h1
  by_cases h1 : (b + 5 ≤ q ∧ q < b + 5 + 80) ∧ k = 1
  · rw [if_pos h1]; simp only [ne_eq, Nat.reduceEqDiff, not_false_eq_true, and_self]
  rw [if_neg h1]
  clear h1
  by_cases h1 : (b + 5 ≤ q ∧ q < b + 5 + 80) ∧ k = 2
  · rw [if_pos h1]; simp only [ne_eq, Nat.reduceEqDiff, not_false_eq_true, and_self]
  rw [if_neg h1]
  clear h1
  by_cases h1 : (b + 5 ≤ q ∧ q < b + 5 + 80) ∧ k = 3
  · rw [if_pos h1]; simp only [ne_eq, Nat.reduceEqDiff, not_false_eq_true, and_self]
  rw [if_neg h1]
  clear h1
  by_cases h1 : (b + 5 ≤ q ∧ q < b + 5 + 80) ∧ k = 4
  · rw [if_pos h1]; simp only [ne_eq, Nat.reduceEqDiff, not_false_eq_true, and_self]
  rw [if_neg h1]
  clear h1
  by_cases h1 : (b + 5 ≤ q ∧ q < b + 5 + 80) ∧ k = 5
  · rw [if_pos h1]; simp only [ne_eq, Nat.reduceEqDiff, not_false_eq_true, and_self]
  rw [if_neg h1]
  clear h1
  by_cases h1 : (b + 5 ≤ q ∧ q < b + 5 + 80) ∧ k = 6
  · rw [if_pos h1]; simp only [ne_eq, Nat.reduceEqDiff, not_false_eq_true, and_self]
  rw [if_neg h1]
  clear h1
  by_cases h1 : (b + 86 ≤ q ∧ q < b + 86 + 6) ∧ k = 0
  · rw [if_pos h1]; simp only [ne_eq, Nat.reduceEqDiff, not_false_eq_true, and_self]
  rw [if_neg h1]
  clear h1
  by_cases h1 : (b + 86 ≤ q ∧ q < b + 86 + 6) ∧ k = 1
  · rw [if_pos h1]; simp only [ne_eq, Nat.reduceEqDiff, not_false_eq_true, and_self]
  rw [if_neg h1]
  clear h1
  by_cases h1 : (b + 86 ≤ q ∧ q < b + 86 + 6) ∧ k = 2
  · rw [if_pos h1]; simp only [ne_eq, Nat.reduceEqDiff, not_false_eq_true, and_self]
  rw [if_neg h1]
  clear h1
  by_cases h1 : (b + 93 ≤ q ∧ q < b + 93 + 40 ∧ (q - (b + 93)) % 2 = 0) ∧ k = 1
  · rw [if_pos h1]; simp only [ne_eq, Nat.reduceEqDiff, not_false_eq_true, and_self]
  rw [if_neg h1]
  clear h1
  by_cases h1 : (b + 94 ≤ q ∧ q < b + 94 + 40 ∧ (q - (b + 94)) % 2 = 0) ∧ k < 64
  · rw [if_pos h1]; simp only [ne_eq, Nat.reduceEqDiff, not_false_eq_true, and_self]
  rw [if_neg h1]
  clear h1
  by_cases h1 : (b + 134 ≤ q ∧ q < b + 134 + 40) ∧ k = 0
  · rw [if_pos h1]; simp only [ne_eq, Nat.reduceEqDiff, not_false_eq_true, and_self]
  rw [if_neg h1]
  clear h1
  by_cases h1 : (b + 134 ≤ q ∧ q < b + 134 + 40) ∧ k = 1
  · rw [if_pos h1]; simp only [ne_eq, Nat.reduceEqDiff, not_false_eq_true, and_self]
  rw [if_neg h1]
  clear h1
  by_cases h1 : (b + 134 ≤ q ∧ q < b + 134 + 40) ∧ k = 2
  · rw [if_pos h1]; simp only [ne_eq, Nat.reduceEqDiff, not_false_eq_true, and_self]
  rw [if_neg h1]
  clear h1
  by_cases h1 : (b + 134 ≤ q ∧ q < b + 134 + 40) ∧ k = 3
  · rw [if_pos h1]; simp only [ne_eq, Nat.reduceEqDiff, not_false_eq_true, and_self]
  rw [if_neg h1]
  clear h1
  by_cases h1 : (q = b + 174) ∧ k < 64
  · rw [if_pos h1]; simp only [ne_eq, Nat.reduceEqDiff, not_false_eq_true, and_self]
  rw [if_neg h1]
  clear h1
  by_cases h1 : (q = b + 175) ∧ k < 21
  · rw [if_pos h1]; simp only [ne_eq, Nat.reduceEqDiff, not_false_eq_true, and_self]
  rw [if_neg h1]
  clear h1
  by_cases h1 : (q = b + 176) ∧ k < 21
  · rw [if_pos h1]; simp only [ne_eq, Nat.reduceEqDiff, not_false_eq_true, and_self]
  rw [if_neg h1]
  clear h1
  simp only [ne_eq, Nat.reduceEqDiff, not_false_eq_true, and_self]
def lqC (b c : Nat) : Nat := if c = 0 then b + 3 else if c = 3 then b + 3 else if c = 4 then b + 3 else if c = 1 then b + 3 else if c = 2 then b + 3 else 0
def lkC (c : Nat) : Nat := if c = 0 then 8 else if c = 3 then 9 else if c = 4 then 10 else if c = 1 then 11 else if c = 2 then 12 else 0
theorem lgC_inv {b q k c : Nat} (h : lgC b q k = c) (hc : c ≠ 99) : q = lqC b c ∧ k = lkC c := by
  unfold lgC at h
  by_cases h1 : (q = b + 3) ∧ k = 8
  · rw [if_pos h1] at h
    subst h
    show q = b + 3 ∧ k = 8
    omega
  rw [if_neg h1] at h
  clear h1
  by_cases h1 : (q = b + 3) ∧ k = 9
  · rw [if_pos h1] at h
    subst h
    show q = b + 3 ∧ k = 9
    omega
  rw [if_neg h1] at h
  clear h1
  by_cases h1 : (q = b + 3) ∧ k = 10
  · rw [if_pos h1] at h
    subst h
    show q = b + 3 ∧ k = 10
    omega
  rw [if_neg h1] at h
  clear h1
  by_cases h1 : (q = b + 3) ∧ k = 11
  · rw [if_pos h1] at h
    subst h
    show q = b + 3 ∧ k = 11
    omega
  rw [if_neg h1] at h
  clear h1
  by_cases h1 : (q = b + 3) ∧ k = 12
  · rw [if_pos h1] at h
    subst h
    show q = b + 3 ∧ k = 12
    omega
  rw [if_neg h1] at h
  clear h1
  exact absurd h.symm hc
theorem lgC_code (b q k : Nat) : lgC b q k ≠ 5 := by
  unfold lgC
  by_cases h1 : (q = b + 3) ∧ k = 8
  · rw [if_pos h1]; simp only [ne_eq, Nat.reduceEqDiff, not_false_eq_true, and_self]
  rw [if_neg h1]
  clear h1
  by_cases h1 : (q = b + 3) ∧ k = 9
  · rw [if_pos h1]; simp only [ne_eq, Nat.reduceEqDiff, not_false_eq_true, and_self]
  rw [if_neg h1]
  clear h1
  by_cases h1 : (q = b + 3) ∧ k = 10
  · rw [if_pos h1]; simp only [ne_eq, Nat.reduceEqDiff, not_false_eq_true, and_self]
  rw [if_neg h1]
  clear h1
  by_cases h1 : (q = b + 3) ∧ k = 11
  · rw [if_pos h1]; simp only [ne_eq, Nat.reduceEqDiff, not_false_eq_true, and_self]
  rw [if_neg h1]
  clear h1
  by_cases h1 : (q = b + 3) ∧ k = 12
  · rw [if_pos h1]; simp only [ne_eq, Nat.reduceEqDiff, not_false_eq_true, and_self]
  rw [if_neg h1]
  clear h1
  simp only [ne_eq, Nat.reduceEqDiff, not_false_eq_true, and_self]
theorem memC_it {b q k c i : Nat} {σ : Sg} (h : itC b q k = (c, i)) (hc : c ≠ 99) : mm_i (memC b σ) q k = σ.1 c i := by
  show (if (itC b q k).1 = 99 then 0 else σ.1 (itC b q k).1 (itC b q k).2) = _
  rw [h]; exact if_neg hc
theorem memC_lg {b q k c : Nat} {σ : Sg} (h : lgC b q k = c) (hc : c ≠ 99) : mm_l (memC b σ) q k = σ.2 c := by
  show (if lgC b q k = 99 then 0 else σ.2 (lgC b q k)) = _
  rw [h]; exact if_neg hc
theorem memC_si {b q k c i : Nat} {σ : Sg} {v : Int32} (h : itC b q k = (c, i)) (hc : c ≠ 99) : ms_i (memC b σ) q k v = memC b (sI σ c i v) := by
  refine Prod.ext rfl (Prod.ext rfl (Prod.ext (funext fun a => funext fun j => ?_) (Prod.ext rfl rfl)))
  show (if a = q ∧ j = k then v else (if (itC b a j).1 = 99 then 0 else σ.1 (itC b a j).1 (itC b a j).2)) = (if (itC b a j).1 = 99 then 0 else if (itC b a j).1 = c ∧ (itC b a j).2 = i then v else σ.1 (itC b a j).1 (itC b a j).2)
  by_cases hq : a = q ∧ j = k
  · obtain ⟨rfl, rfl⟩ := hq
    rw [if_pos ⟨rfl, rfl⟩, h, if_neg hc, if_pos ⟨rfl, rfl⟩]
  · rw [if_neg hq]
    by_cases h2 : (itC b a j).1 = c ∧ (itC b a j).2 = i
    · have e1 := itC_inv (Prod.ext h2.1 h2.2 : itC b a j = (c, i)) hc
      have e2 := itC_inv h hc
      exact absurd ⟨e1.1.trans e2.1.symm, e1.2.trans e2.2.symm⟩ hq
    · rw [if_neg h2]
theorem memC_sl {b q k c : Nat} {σ : Sg} {v : Int64} (h : lgC b q k = c) (hc : c ≠ 99) : ms_l (memC b σ) q k v = memC b (sL σ c v) := by
  refine Prod.ext rfl (Prod.ext rfl (Prod.ext rfl (Prod.ext (funext fun a => funext fun j => ?_) rfl)))
  show (if a = q ∧ j = k then v else (if lgC b a j = 99 then 0 else σ.2 (lgC b a j))) = (if lgC b a j = 99 then 0 else if lgC b a j = c then v else σ.2 (lgC b a j))
  by_cases hq : a = q ∧ j = k
  · obtain ⟨rfl, rfl⟩ := hq
    rw [if_pos ⟨rfl, rfl⟩, h, if_neg hc, if_pos rfl]
  · rw [if_neg hq]
    by_cases h2 : lgC b a j = c
    · have e1 := lgC_inv h2 hc
      have e2 := lgC_inv h hc
      exact absurd ⟨e1.1.trans e2.1.symm, e1.2.trans e2.2.symm⟩ hq
    · rw [if_neg h2]
/-- a number that this side doesn't hold -/
theorem memC_no {b c i : Nat} {σ : Sg} {v : Int32} (hu : ∀ q k, itC b q k ≠ (c, i)) : memC b (sI σ c i v) = memC b σ := by
  refine Prod.ext rfl (Prod.ext rfl (Prod.ext (funext fun a => funext fun j => ?_) (Prod.ext rfl rfl)))
  show (if (itC b a j).1 = 99 then 0 else if (itC b a j).1 = c ∧ (itC b a j).2 = i then v else σ.1 (itC b a j).1 (itC b a j).2) = _
  by_cases h2 : (itC b a j).1 = c ∧ (itC b a j).2 = i
  · exact absurd (Prod.ext h2.1 h2.2) (hu a j)
  · rw [if_neg h2]; rfl
theorem memC_nl {b c : Nat} {σ : Sg} {v : Int64} (hu : ∀ q k, lgC b q k ≠ c) : memC b (sL σ c v) = memC b σ := by
  refine Prod.ext rfl (Prod.ext rfl (Prod.ext rfl (Prod.ext (funext fun a => funext fun j => ?_) rfl)))
  show (if lgC b a j = 99 then 0 else if lgC b a j = c then v else σ.2 (lgC b a j)) = _
  by_cases h2 : lgC b a j = c
  · exact absurd h2 (hu a j)
  · rw [if_neg h2]; rfl
def kdM (b q : Nat) : Nat := if q = b then 9 else if q = b + 1 then 9 else if q = b + 2 then 9 else if q = b + 3 then 9 else if q = b + 4 then 9 else if q = b + 5 then 9 else if q = b + 6 then 9 else if q = b + 7 then 9 else if q = b + 8 then 9 else 16
def lnM (b q : Nat) : Nat := if q = b then 64 else if q = b + 1 then 64 else if q = b + 2 then 64 else if q = b + 3 then 64 else if q = b + 4 then 64 else if q = b + 5 then 64 else if q = b + 6 then 64 else if q = b + 7 then 16 else if q = b + 8 then 16 else 0
def itM (b q k : Nat) : Nat × Nat := if (q = b) ∧ k < 64 then (0, k) else if (q = b + 1) ∧ k < 64 then (1, k) else if (q = b + 2) ∧ k < 64 then (2, k) else if (q = b + 3) ∧ k < 64 then (3, k) else if (q = b + 4) ∧ k < 64 then (4, k) else if (q = b + 5) ∧ k < 64 then (5, k) else if (q = b + 6) ∧ k < 64 then (6, k) else if (q = b + 7) ∧ k = 1 then (10, 6) else if (q = b + 7) ∧ k = 2 then (10, 7) else if (q = b + 7) ∧ k = 3 then (10, 8) else if (q = b + 7) ∧ k = 4 then (10, 9) else if (q = b + 7) ∧ k = 5 then (10, 10) else if (q = b + 7) ∧ k = 6 then (10, 2) else if (q = b + 7) ∧ k = 7 then (10, 3) else if (q = b + 7) ∧ k = 8 then (10, 4) else if (q = b + 7) ∧ k = 9 then (10, 5) else if (q = b + 8) ∧ k % 3 = 0 ∧ k < 15 then (7, k / 3) else if (q = b + 8) ∧ k % 3 = 1 ∧ k < 15 then (8, k / 3) else if (q = b + 8) ∧ k % 3 = 2 ∧ k < 15 then (9, k / 3) else (99, 0)
def lgM (b q k : Nat) : Nat := 99
def rfM (b q k : Nat) : Option Nat := none
def memM (b : Nat) (σ : Sg) : Mem := (kdM b, lnM b, fun q k => if (itM b q k).1 = 99 then 0 else σ.1 (itM b q k).1 (itM b q k).2, fun q k => if lgM b q k = 99 then 0 else σ.2 (lgM b q k), rfM b, 0)
def iqM (b c i : Nat) : Nat := if c = 0 then (b) else if c = 1 then (b + 1) else if c = 2 then (b + 2) else if c = 3 then (b + 3) else if c = 4 then (b + 4) else if c = 5 then (b + 5) else if c = 6 then (b + 6) else if c = 7 then (b + 8) else if c = 8 then (b + 8) else if c = 9 then (b + 8) else if c = 10 then (if i = 6 then b + 7 else if i = 7 then b + 7 else if i = 8 then b + 7 else if i = 9 then b + 7 else if i = 10 then b + 7 else if i = 2 then b + 7 else if i = 3 then b + 7 else if i = 4 then b + 7 else if i = 5 then b + 7 else 0) else 0
def ikM (c i : Nat) : Nat := if c = 0 then (i) else if c = 1 then (i) else if c = 2 then (i) else if c = 3 then (i) else if c = 4 then (i) else if c = 5 then (i) else if c = 6 then (i) else if c = 7 then (3 * i + 0) else if c = 8 then (3 * i + 1) else if c = 9 then (3 * i + 2) else if c = 10 then (if i = 6 then 1 else if i = 7 then 2 else if i = 8 then 3 else if i = 9 then 4 else if i = 10 then 5 else if i = 2 then 6 else if i = 3 then 7 else if i = 4 then 8 else if i = 5 then 9 else 0) else 0
theorem itM_inv {b q k c i : Nat} (h : itM b q k = (c, i)) (hc : c ≠ 99) : q = iqM b c i ∧ k = ikM c i := by
  unfold itM at h
  by_cases h1 : (q = b) ∧ k < 64
  · rw [if_pos h1] at h
    simp only [Prod.mk.injEq] at h
    obtain ⟨rfl, rfl⟩ := h
    show q = b ∧ k = k
    omega
  rw [if_neg h1] at h
  clear h1
  by_cases h1 : (q = b + 1) ∧ k < 64
  · rw [if_pos h1] at h
    simp only [Prod.mk.injEq] at h
    obtain ⟨rfl, rfl⟩ := h
    show q = b + 1 ∧ k = k
    omega
  rw [if_neg h1] at h
  clear h1
  by_cases h1 : (q = b + 2) ∧ k < 64
  · rw [if_pos h1] at h
    simp only [Prod.mk.injEq] at h
    obtain ⟨rfl, rfl⟩ := h
    show q = b + 2 ∧ k = k
    omega
  rw [if_neg h1] at h
  clear h1
  by_cases h1 : (q = b + 3) ∧ k < 64
  · rw [if_pos h1] at h
    simp only [Prod.mk.injEq] at h
    obtain ⟨rfl, rfl⟩ := h
    show q = b + 3 ∧ k = k
    omega
  rw [if_neg h1] at h
  clear h1
  by_cases h1 : (q = b + 4) ∧ k < 64
  · rw [if_pos h1] at h
    simp only [Prod.mk.injEq] at h
    obtain ⟨rfl, rfl⟩ := h
    show q = b + 4 ∧ k = k
    omega
  rw [if_neg h1] at h
  clear h1
  by_cases h1 : (q = b + 5) ∧ k < 64
  · rw [if_pos h1] at h
    simp only [Prod.mk.injEq] at h
    obtain ⟨rfl, rfl⟩ := h
    show q = b + 5 ∧ k = k
    omega
  rw [if_neg h1] at h
  clear h1
  by_cases h1 : (q = b + 6) ∧ k < 64
  · rw [if_pos h1] at h
    simp only [Prod.mk.injEq] at h
    obtain ⟨rfl, rfl⟩ := h
    show q = b + 6 ∧ k = k
    omega
  rw [if_neg h1] at h
  clear h1
  by_cases h1 : (q = b + 7) ∧ k = 1
  · rw [if_pos h1] at h
    simp only [Prod.mk.injEq] at h
    obtain ⟨rfl, rfl⟩ := h
    show q = b + 7 ∧ k = 1
    omega
  rw [if_neg h1] at h
  clear h1
  by_cases h1 : (q = b + 7) ∧ k = 2
  · rw [if_pos h1] at h
    simp only [Prod.mk.injEq] at h
    obtain ⟨rfl, rfl⟩ := h
    show q = b + 7 ∧ k = 2
    omega
  rw [if_neg h1] at h
  clear h1
  by_cases h1 : (q = b + 7) ∧ k = 3
  · rw [if_pos h1] at h
    simp only [Prod.mk.injEq] at h
    obtain ⟨rfl, rfl⟩ := h
    show q = b + 7 ∧ k = 3
    omega
  rw [if_neg h1] at h
  clear h1
  by_cases h1 : (q = b + 7) ∧ k = 4
  · rw [if_pos h1] at h
    simp only [Prod.mk.injEq] at h
    obtain ⟨rfl, rfl⟩ := h
    show q = b + 7 ∧ k = 4
    omega
  rw [if_neg h1] at h
  clear h1
  by_cases h1 : (q = b + 7) ∧ k = 5
  · rw [if_pos h1] at h
    simp only [Prod.mk.injEq] at h
    obtain ⟨rfl, rfl⟩ := h
    show q = b + 7 ∧ k = 5
    omega
  rw [if_neg h1] at h
  clear h1
  by_cases h1 : (q = b + 7) ∧ k = 6
  · rw [if_pos h1] at h
    simp only [Prod.mk.injEq] at h
    obtain ⟨rfl, rfl⟩ := h
    show q = b + 7 ∧ k = 6
    omega
  rw [if_neg h1] at h
  clear h1
  by_cases h1 : (q = b + 7) ∧ k = 7
  · rw [if_pos h1] at h
    simp only [Prod.mk.injEq] at h
    obtain ⟨rfl, rfl⟩ := h
    show q = b + 7 ∧ k = 7
    omega
  rw [if_neg h1] at h
  clear h1
  by_cases h1 : (q = b + 7) ∧ k = 8
  · rw [if_pos h1] at h
    simp only [Prod.mk.injEq] at h
    obtain ⟨rfl, rfl⟩ := h
    show q = b + 7 ∧ k = 8
    omega
  rw [if_neg h1] at h
  clear h1
  by_cases h1 : (q = b + 7) ∧ k = 9
  · rw [if_pos h1] at h
    simp only [Prod.mk.injEq] at h
    obtain ⟨rfl, rfl⟩ := h
    show q = b + 7 ∧ k = 9
    omega
  rw [if_neg h1] at h
  clear h1
  by_cases h1 : (q = b + 8) ∧ k % 3 = 0 ∧ k < 15
  · rw [if_pos h1] at h
    simp only [Prod.mk.injEq] at h
    obtain ⟨rfl, rfl⟩ := h
    show q = b + 8 ∧ k = 3 * (k / 3) + 0
    omega
  rw [if_neg h1] at h
  clear h1
  by_cases h1 : (q = b + 8) ∧ k % 3 = 1 ∧ k < 15
  · rw [if_pos h1] at h
    simp only [Prod.mk.injEq] at h
    obtain ⟨rfl, rfl⟩ := h
    show q = b + 8 ∧ k = 3 * (k / 3) + 1
    omega
  rw [if_neg h1] at h
  clear h1
  by_cases h1 : (q = b + 8) ∧ k % 3 = 2 ∧ k < 15
  · rw [if_pos h1] at h
    simp only [Prod.mk.injEq] at h
    obtain ⟨rfl, rfl⟩ := h
    show q = b + 8 ∧ k = 3 * (k / 3) + 2
    omega
  rw [if_neg h1] at h
  clear h1
  simp only [Prod.mk.injEq] at h
  exact absurd h.1.symm hc
theorem itM_code (b q k : Nat) : (itM b q k).1 ≠ 11 ∧ (itM b q k).1 ≠ 12 ∧ (itM b q k).1 ≠ 13 ∧ (itM b q k).1 ≠ 14 ∧ (itM b q k).1 ≠ 15 ∧ (itM b q k).1 ≠ 16 ∧ (itM b q k).1 ≠ 17 ∧ (itM b q k).1 ≠ 18 ∧ (itM b q k).1 ≠ 19 ∧ (itM b q k).1 ≠ 20 ∧ (itM b q k).1 ≠ 21 ∧ (itM b q k).1 ≠ 22 := by
  unfold itM
  by_cases h1 : (q = b) ∧ k < 64
  · rw [if_pos h1]; simp only [ne_eq, Nat.reduceEqDiff, not_false_eq_true, and_self]
  rw [if_neg h1]
  clear h1
  by_cases h1 : (q = b + 1) ∧ k < 64
  · rw [if_pos h1]; simp only [ne_eq, Nat.reduceEqDiff, not_false_eq_true, and_self]
  rw [if_neg h1]
  clear h1
  by_cases h1 : (q = b + 2) ∧ k < 64
  · rw [if_pos h1]; simp only [ne_eq, Nat.reduceEqDiff, not_false_eq_true, and_self]
  rw [if_neg h1]
  clear h1
  by_cases h1 : (q = b + 3) ∧ k < 64
  · rw [if_pos h1]; simp only [ne_eq, Nat.reduceEqDiff, not_false_eq_true, and_self]
  rw [if_neg h1]
  clear h1
  by_cases h1 : (q = b + 4) ∧ k < 64
  · rw [if_pos h1]; simp only [ne_eq, Nat.reduceEqDiff, not_false_eq_true, and_self]
  rw [if_neg h1]
  clear h1
  by_cases h1 : (q = b + 5) ∧ k < 64
  · rw [if_pos h1]; simp only [ne_eq, Nat.reduceEqDiff, not_false_eq_true, and_self]
  rw [if_neg h1]
  clear h1
  by_cases h1 : (q = b + 6) ∧ k < 64
  · rw [if_pos h1]; simp only [ne_eq, Nat.reduceEqDiff, not_false_eq_true, and_self]
  rw [if_neg h1]
  clear h1
  by_cases h1 : (q = b + 7) ∧ k = 1
  · rw [if_pos h1]; simp only [ne_eq, Nat.reduceEqDiff, not_false_eq_true, and_self]
  rw [if_neg h1]
  clear h1
  by_cases h1 : (q = b + 7) ∧ k = 2
  · rw [if_pos h1]; simp only [ne_eq, Nat.reduceEqDiff, not_false_eq_true, and_self]
  rw [if_neg h1]
  clear h1
  by_cases h1 : (q = b + 7) ∧ k = 3
  · rw [if_pos h1]; simp only [ne_eq, Nat.reduceEqDiff, not_false_eq_true, and_self]
  rw [if_neg h1]
  clear h1
  by_cases h1 : (q = b + 7) ∧ k = 4
  · rw [if_pos h1]; simp only [ne_eq, Nat.reduceEqDiff, not_false_eq_true, and_self]
  rw [if_neg h1]
  clear h1
  by_cases h1 : (q = b + 7) ∧ k = 5
  · rw [if_pos h1]; simp only [ne_eq, Nat.reduceEqDiff, not_false_eq_true, and_self]
  rw [if_neg h1]
  clear h1
  by_cases h1 : (q = b + 7) ∧ k = 6
  · rw [if_pos h1]; simp only [ne_eq, Nat.reduceEqDiff, not_false_eq_true, and_self]
  rw [if_neg h1]
  clear h1
  by_cases h1 : (q = b + 7) ∧ k = 7
  · rw [if_pos h1]; simp only [ne_eq, Nat.reduceEqDiff, not_false_eq_true, and_self]
  rw [if_neg h1]
  clear h1
  by_cases h1 : (q = b + 7) ∧ k = 8
  · rw [if_pos h1]; simp only [ne_eq, Nat.reduceEqDiff, not_false_eq_true, and_self]
  rw [if_neg h1]
  clear h1
  by_cases h1 : (q = b + 7) ∧ k = 9
  · rw [if_pos h1]; simp only [ne_eq, Nat.reduceEqDiff, not_false_eq_true, and_self]
  rw [if_neg h1]
  clear h1
  by_cases h1 : (q = b + 8) ∧ k % 3 = 0 ∧ k < 15
  · rw [if_pos h1]; simp only [ne_eq, Nat.reduceEqDiff, not_false_eq_true, and_self]
  rw [if_neg h1]
  clear h1
  by_cases h1 : (q = b + 8) ∧ k % 3 = 1 ∧ k < 15
  · rw [if_pos h1]; simp only [ne_eq, Nat.reduceEqDiff, not_false_eq_true, and_self]
  rw [if_neg h1]
  clear h1
  by_cases h1 : (q = b + 8) ∧ k % 3 = 2 ∧ k < 15
  · rw [if_pos h1]; simp only [ne_eq, Nat.reduceEqDiff, not_false_eq_true, and_self]
  rw [if_neg h1]
  clear h1
  simp only [ne_eq, Nat.reduceEqDiff, not_false_eq_true, and_self]
def lqM (b c : Nat) : Nat := 0
def lkM (c : Nat) : Nat := 0
theorem lgM_inv {b q k c : Nat} (h : lgM b q k = c) (hc : c ≠ 99) : q = lqM b c ∧ k = lkM c := by
  unfold lgM at h
  exact absurd h.symm hc
theorem lgM_code (b q k : Nat) : lgM b q k ≠ 0 ∧ lgM b q k ≠ 1 ∧ lgM b q k ≠ 2 ∧ lgM b q k ≠ 3 ∧ lgM b q k ≠ 4 ∧ lgM b q k ≠ 5 := by
  unfold lgM
  simp only [ne_eq, Nat.reduceEqDiff, not_false_eq_true, and_self]
theorem memM_it {b q k c i : Nat} {σ : Sg} (h : itM b q k = (c, i)) (hc : c ≠ 99) : mm_i (memM b σ) q k = σ.1 c i := by
  show (if (itM b q k).1 = 99 then 0 else σ.1 (itM b q k).1 (itM b q k).2) = _
  rw [h]; exact if_neg hc
theorem memM_lg {b q k c : Nat} {σ : Sg} (h : lgM b q k = c) (hc : c ≠ 99) : mm_l (memM b σ) q k = σ.2 c := by
  show (if lgM b q k = 99 then 0 else σ.2 (lgM b q k)) = _
  rw [h]; exact if_neg hc
theorem memM_si {b q k c i : Nat} {σ : Sg} {v : Int32} (h : itM b q k = (c, i)) (hc : c ≠ 99) : ms_i (memM b σ) q k v = memM b (sI σ c i v) := by
  refine Prod.ext rfl (Prod.ext rfl (Prod.ext (funext fun a => funext fun j => ?_) (Prod.ext rfl rfl)))
  show (if a = q ∧ j = k then v else (if (itM b a j).1 = 99 then 0 else σ.1 (itM b a j).1 (itM b a j).2)) = (if (itM b a j).1 = 99 then 0 else if (itM b a j).1 = c ∧ (itM b a j).2 = i then v else σ.1 (itM b a j).1 (itM b a j).2)
  by_cases hq : a = q ∧ j = k
  · obtain ⟨rfl, rfl⟩ := hq
    rw [if_pos ⟨rfl, rfl⟩, h, if_neg hc, if_pos ⟨rfl, rfl⟩]
  · rw [if_neg hq]
    by_cases h2 : (itM b a j).1 = c ∧ (itM b a j).2 = i
    · have e1 := itM_inv (Prod.ext h2.1 h2.2 : itM b a j = (c, i)) hc
      have e2 := itM_inv h hc
      exact absurd ⟨e1.1.trans e2.1.symm, e1.2.trans e2.2.symm⟩ hq
    · rw [if_neg h2]
theorem memM_sl {b q k c : Nat} {σ : Sg} {v : Int64} (h : lgM b q k = c) (hc : c ≠ 99) : ms_l (memM b σ) q k v = memM b (sL σ c v) := by
  refine Prod.ext rfl (Prod.ext rfl (Prod.ext rfl (Prod.ext (funext fun a => funext fun j => ?_) rfl)))
  show (if a = q ∧ j = k then v else (if lgM b a j = 99 then 0 else σ.2 (lgM b a j))) = (if lgM b a j = 99 then 0 else if lgM b a j = c then v else σ.2 (lgM b a j))
  by_cases hq : a = q ∧ j = k
  · obtain ⟨rfl, rfl⟩ := hq
    rw [if_pos ⟨rfl, rfl⟩, h, if_neg hc, if_pos rfl]
  · rw [if_neg hq]
    by_cases h2 : lgM b a j = c
    · have e1 := lgM_inv h2 hc
      have e2 := lgM_inv h hc
      exact absurd ⟨e1.1.trans e2.1.symm, e1.2.trans e2.2.symm⟩ hq
    · rw [if_neg h2]
/-- a number that this side doesn't hold -/
theorem memM_no {b c i : Nat} {σ : Sg} {v : Int32} (hu : ∀ q k, itM b q k ≠ (c, i)) : memM b (sI σ c i v) = memM b σ := by
  refine Prod.ext rfl (Prod.ext rfl (Prod.ext (funext fun a => funext fun j => ?_) (Prod.ext rfl rfl)))
  show (if (itM b a j).1 = 99 then 0 else if (itM b a j).1 = c ∧ (itM b a j).2 = i then v else σ.1 (itM b a j).1 (itM b a j).2) = _
  by_cases h2 : (itM b a j).1 = c ∧ (itM b a j).2 = i
  · exact absurd (Prod.ext h2.1 h2.2) (hu a j)
  · rw [if_neg h2]; rfl
theorem memM_nl {b c : Nat} {σ : Sg} {v : Int64} (hu : ∀ q k, lgM b q k ≠ c) : memM b (sL σ c v) = memM b σ := by
  refine Prod.ext rfl (Prod.ext rfl (Prod.ext rfl (Prod.ext (funext fun a => funext fun j => ?_) rfl)))
  show (if lgM b a j = 99 then 0 else if lgM b a j = c then v else σ.2 (lgM b a j)) = _
  by_cases h2 : lgM b a j = c
  · exact absurd h2 (hu a j)
  · rw [if_neg h2]; rfl
theorem xB_k {b : Nat} {σ : Sg} : (memC b σ).1 b = 7 := by
  show kdC b (b) = 7
  unfold kdC
  (repeat (first | rw [if_pos (by omega)] | rw [if_neg (by omega)]))
theorem xB_r0 {b : Nat} {σ : Sg} : mm_r (memC b σ) b 0 = some (xH b) := by
  show rfC b (b) 0 = some (xH b)
  unfold rfC
  (repeat (first | rw [if_pos (by omega)] | rw [if_neg (by omega)]))
theorem xB_r1 {b : Nat} {σ : Sg} : mm_r (memC b σ) b 1 = some (xMA b) := by
  show rfC b (b) 1 = some (xMA b)
  unfold rfC
  (repeat (first | rw [if_pos (by omega)] | rw [if_neg (by omega)]))
theorem xB_r3 {b : Nat} {σ : Sg} : mm_r (memC b σ) b 3 = some (xFA b) := by
  show rfC b (b) 3 = some (xFA b)
  unfold rfC
  (repeat (first | rw [if_pos (by omega)] | rw [if_neg (by omega)]))
theorem xB_r5 {b : Nat} {σ : Sg} : mm_r (memC b σ) b 5 = some (xCA b) := by
  show rfC b (b) 5 = some (xCA b)
  unfold rfC
  (repeat (first | rw [if_pos (by omega)] | rw [if_neg (by omega)]))
theorem xB_r8 {b : Nat} {σ : Sg} : mm_r (memC b σ) b 8 = some (xW b) := by
  show rfC b (b) 8 = some (xW b)
  unfold rfC
  (repeat (first | rw [if_pos (by omega)] | rw [if_neg (by omega)]))
theorem xB_r9 {b : Nat} {σ : Sg} : mm_r (memC b σ) b 9 = some (x1 b) := by
  show rfC b (b) 9 = some (x1 b)
  unfold rfC
  (repeat (first | rw [if_pos (by omega)] | rw [if_neg (by omega)]))
theorem xB_r10 {b : Nat} {σ : Sg} : mm_r (memC b σ) b 10 = some (x2 b) := by
  show rfC b (b) 10 = some (x2 b)
  unfold rfC
  (repeat (first | rw [if_pos (by omega)] | rw [if_neg (by omega)]))
theorem xB_i2_t {b : Nat} : itC b b 2 = (10, 1) := by
  show itC b (b) 2 = (10, 1)
  unfold itC
  (repeat (first | rw [if_pos (by omega)] | rw [if_neg (by omega)]))
theorem xB_i2 {b : Nat} {σ : Sg} : mm_i (memC b σ) b 2 = σ.1 10 (1) := memC_it (xB_i2_t ) (by decide)
theorem xB_i2_s {b : Nat} {σ : Sg} {v : Int32} : ms_i (memC b σ) b 2 v = memC b (sI σ 10 (1) v) := memC_si (xB_i2_t ) (by decide)
theorem xB_i4_t {b : Nat} : itC b b 4 = (10, 15) := by
  show itC b (b) 4 = (10, 15)
  unfold itC
  (repeat (first | rw [if_pos (by omega)] | rw [if_neg (by omega)]))
theorem xB_i4 {b : Nat} {σ : Sg} : mm_i (memC b σ) b 4 = σ.1 10 (15) := memC_it (xB_i4_t ) (by decide)
theorem xB_i4_s {b : Nat} {σ : Sg} {v : Int32} : ms_i (memC b σ) b 4 v = memC b (sI σ 10 (15) v) := memC_si (xB_i4_t ) (by decide)
theorem xB_i6_t {b : Nat} : itC b b 6 = (10, 16) := by
  show itC b (b) 6 = (10, 16)
  unfold itC
  (repeat (first | rw [if_pos (by omega)] | rw [if_neg (by omega)]))
theorem xB_i6 {b : Nat} {σ : Sg} : mm_i (memC b σ) b 6 = σ.1 10 (16) := memC_it (xB_i6_t ) (by decide)
theorem xB_i6_s {b : Nat} {σ : Sg} {v : Int32} : ms_i (memC b σ) b 6 v = memC b (sI σ 10 (16) v) := memC_si (xB_i6_t ) (by decide)
theorem xB_i7_t {b : Nat} : itC b b 7 = (10, 14) := by
  show itC b (b) 7 = (10, 14)
  unfold itC
  (repeat (first | rw [if_pos (by omega)] | rw [if_neg (by omega)]))
theorem xB_i7 {b : Nat} {σ : Sg} : mm_i (memC b σ) b 7 = σ.1 10 (14) := memC_it (xB_i7_t ) (by decide)
theorem xB_i7_s {b : Nat} {σ : Sg} {v : Int32} : ms_i (memC b σ) b 7 v = memC b (sI σ 10 (14) v) := memC_si (xB_i7_t ) (by decide)
theorem xH_k {b : Nat} {σ : Sg} : (memC b σ).1 (xH b) = 3 := by
  show kdC b (b + 1) = 3
  unfold kdC
  (repeat (first | rw [if_pos (by omega)] | rw [if_neg (by omega)]))
theorem xH_r0 {b : Nat} {σ : Sg} : mm_r (memC b σ) (xH b) 0 = some (xP b) := by
  show rfC b (b + 1) 0 = some (xP b)
  unfold rfC
  (repeat (first | rw [if_pos (by omega)] | rw [if_neg (by omega)]))
theorem xH_r1 {b : Nat} {σ : Sg} : mm_r (memC b σ) (xH b) 1 = some (xL b) := by
  show rfC b (b + 1) 1 = some (xL b)
  unfold rfC
  (repeat (first | rw [if_pos (by omega)] | rw [if_neg (by omega)]))
theorem xH_r2 {b : Nat} {σ : Sg} : mm_r (memC b σ) (xH b) 2 = some (xA b) := by
  show rfC b (b + 1) 2 = some (xA b)
  unfold rfC
  (repeat (first | rw [if_pos (by omega)] | rw [if_neg (by omega)]))
theorem xH_i3_t {b : Nat} : itC b (xH b) 3 = (10, 0) := by
  show itC b (b + 1) 3 = (10, 0)
  unfold itC
  (repeat (first | rw [if_pos (by omega)] | rw [if_neg (by omega)]))
theorem xH_i3 {b : Nat} {σ : Sg} : mm_i (memC b σ) (xH b) 3 = σ.1 10 (0) := memC_it (xH_i3_t ) (by decide)
theorem xH_i3_s {b : Nat} {σ : Sg} {v : Int32} : ms_i (memC b σ) (xH b) 3 v = memC b (sI σ 10 (0) v) := memC_si (xH_i3_t ) (by decide)
theorem xH_i4_t {b : Nat} : itC b (xH b) 4 = (10, 3) := by
  show itC b (b + 1) 4 = (10, 3)
  unfold itC
  (repeat (first | rw [if_pos (by omega)] | rw [if_neg (by omega)]))
theorem xH_i4 {b : Nat} {σ : Sg} : mm_i (memC b σ) (xH b) 4 = σ.1 10 (3) := memC_it (xH_i4_t ) (by decide)
theorem xH_i4_s {b : Nat} {σ : Sg} {v : Int32} : ms_i (memC b σ) (xH b) 4 v = memC b (sI σ 10 (3) v) := memC_si (xH_i4_t ) (by decide)
theorem xH_i5_t {b : Nat} : itC b (xH b) 5 = (10, 4) := by
  show itC b (b + 1) 5 = (10, 4)
  unfold itC
  (repeat (first | rw [if_pos (by omega)] | rw [if_neg (by omega)]))
theorem xH_i5 {b : Nat} {σ : Sg} : mm_i (memC b σ) (xH b) 5 = σ.1 10 (4) := memC_it (xH_i5_t ) (by decide)
theorem xH_i5_s {b : Nat} {σ : Sg} {v : Int32} : ms_i (memC b σ) (xH b) 5 v = memC b (sI σ 10 (4) v) := memC_si (xH_i5_t ) (by decide)
theorem xH_i6_t {b : Nat} : itC b (xH b) 6 = (10, 5) := by
  show itC b (b + 1) 6 = (10, 5)
  unfold itC
  (repeat (first | rw [if_pos (by omega)] | rw [if_neg (by omega)]))
theorem xH_i6 {b : Nat} {σ : Sg} : mm_i (memC b σ) (xH b) 6 = σ.1 10 (5) := memC_it (xH_i6_t ) (by decide)
theorem xH_i6_s {b : Nat} {σ : Sg} {v : Int32} : ms_i (memC b σ) (xH b) 6 v = memC b (sI σ 10 (5) v) := memC_si (xH_i6_t ) (by decide)
theorem xP_k {b : Nat} {σ : Sg} : (memC b σ).1 (xP b) = 6 := by
  show kdC b (b + 2) = 6
  unfold kdC
  (repeat (first | rw [if_pos (by omega)] | rw [if_neg (by omega)]))
theorem xP_i0_t {b : Nat} : itC b (xP b) 0 = (10, 2) := by
  show itC b (b + 2) 0 = (10, 2)
  unfold itC
  (repeat (first | rw [if_pos (by omega)] | rw [if_neg (by omega)]))
theorem xP_i0 {b : Nat} {σ : Sg} : mm_i (memC b σ) (xP b) 0 = σ.1 10 (2) := memC_it (xP_i0_t ) (by decide)
theorem xP_i0_s {b : Nat} {σ : Sg} {v : Int32} : ms_i (memC b σ) (xP b) 0 v = memC b (sI σ 10 (2) v) := memC_si (xP_i0_t ) (by decide)
theorem xL_k {b : Nat} {σ : Sg} : (memC b σ).1 (xL b) = 4 := by
  show kdC b (b + 3) = 4
  unfold kdC
  (repeat (first | rw [if_pos (by omega)] | rw [if_neg (by omega)]))
theorem xL_i0_t {b : Nat} : itC b (xL b) 0 = (10, 6) := by
  show itC b (b + 3) 0 = (10, 6)
  unfold itC
  (repeat (first | rw [if_pos (by omega)] | rw [if_neg (by omega)]))
theorem xL_i0 {b : Nat} {σ : Sg} : mm_i (memC b σ) (xL b) 0 = σ.1 10 (6) := memC_it (xL_i0_t ) (by decide)
theorem xL_i0_s {b : Nat} {σ : Sg} {v : Int32} : ms_i (memC b σ) (xL b) 0 v = memC b (sI σ 10 (6) v) := memC_si (xL_i0_t ) (by decide)
theorem xL_i1_t {b : Nat} : itC b (xL b) 1 = (10, 7) := by
  show itC b (b + 3) 1 = (10, 7)
  unfold itC
  (repeat (first | rw [if_pos (by omega)] | rw [if_neg (by omega)]))
theorem xL_i1 {b : Nat} {σ : Sg} : mm_i (memC b σ) (xL b) 1 = σ.1 10 (7) := memC_it (xL_i1_t ) (by decide)
theorem xL_i1_s {b : Nat} {σ : Sg} {v : Int32} : ms_i (memC b σ) (xL b) 1 v = memC b (sI σ 10 (7) v) := memC_si (xL_i1_t ) (by decide)
theorem xL_i2_t {b : Nat} : itC b (xL b) 2 = (10, 8) := by
  show itC b (b + 3) 2 = (10, 8)
  unfold itC
  (repeat (first | rw [if_pos (by omega)] | rw [if_neg (by omega)]))
theorem xL_i2 {b : Nat} {σ : Sg} : mm_i (memC b σ) (xL b) 2 = σ.1 10 (8) := memC_it (xL_i2_t ) (by decide)
theorem xL_i2_s {b : Nat} {σ : Sg} {v : Int32} : ms_i (memC b σ) (xL b) 2 v = memC b (sI σ 10 (8) v) := memC_si (xL_i2_t ) (by decide)
theorem xL_i3_t {b : Nat} : itC b (xL b) 3 = (10, 9) := by
  show itC b (b + 3) 3 = (10, 9)
  unfold itC
  (repeat (first | rw [if_pos (by omega)] | rw [if_neg (by omega)]))
theorem xL_i3 {b : Nat} {σ : Sg} : mm_i (memC b σ) (xL b) 3 = σ.1 10 (9) := memC_it (xL_i3_t ) (by decide)
theorem xL_i3_s {b : Nat} {σ : Sg} {v : Int32} : ms_i (memC b σ) (xL b) 3 v = memC b (sI σ 10 (9) v) := memC_si (xL_i3_t ) (by decide)
theorem xL_i4_t {b : Nat} : itC b (xL b) 4 = (10, 10) := by
  show itC b (b + 3) 4 = (10, 10)
  unfold itC
  (repeat (first | rw [if_pos (by omega)] | rw [if_neg (by omega)]))
theorem xL_i4 {b : Nat} {σ : Sg} : mm_i (memC b σ) (xL b) 4 = σ.1 10 (10) := memC_it (xL_i4_t ) (by decide)
theorem xL_i4_s {b : Nat} {σ : Sg} {v : Int32} : ms_i (memC b σ) (xL b) 4 v = memC b (sI σ 10 (10) v) := memC_si (xL_i4_t ) (by decide)
theorem xL_i5_t {b : Nat} : itC b (xL b) 5 = (10, 13) := by
  show itC b (b + 3) 5 = (10, 13)
  unfold itC
  (repeat (first | rw [if_pos (by omega)] | rw [if_neg (by omega)]))
theorem xL_i5 {b : Nat} {σ : Sg} : mm_i (memC b σ) (xL b) 5 = σ.1 10 (13) := memC_it (xL_i5_t ) (by decide)
theorem xL_i5_s {b : Nat} {σ : Sg} {v : Int32} : ms_i (memC b σ) (xL b) 5 v = memC b (sI σ 10 (13) v) := memC_si (xL_i5_t ) (by decide)
theorem xL_i6_t {b : Nat} : itC b (xL b) 6 = (10, 11) := by
  show itC b (b + 3) 6 = (10, 11)
  unfold itC
  (repeat (first | rw [if_pos (by omega)] | rw [if_neg (by omega)]))
theorem xL_i6 {b : Nat} {σ : Sg} : mm_i (memC b σ) (xL b) 6 = σ.1 10 (11) := memC_it (xL_i6_t ) (by decide)
theorem xL_i6_s {b : Nat} {σ : Sg} {v : Int32} : ms_i (memC b σ) (xL b) 6 v = memC b (sI σ 10 (11) v) := memC_si (xL_i6_t ) (by decide)
theorem xL_i7_t {b : Nat} : itC b (xL b) 7 = (10, 12) := by
  show itC b (b + 3) 7 = (10, 12)
  unfold itC
  (repeat (first | rw [if_pos (by omega)] | rw [if_neg (by omega)]))
theorem xL_i7 {b : Nat} {σ : Sg} : mm_i (memC b σ) (xL b) 7 = σ.1 10 (12) := memC_it (xL_i7_t ) (by decide)
theorem xL_i7_s {b : Nat} {σ : Sg} {v : Int32} : ms_i (memC b σ) (xL b) 7 v = memC b (sI σ 10 (12) v) := memC_si (xL_i7_t ) (by decide)
theorem xL_l8_t {b : Nat} : lgC b (xL b) 8 = 0 := by
  show lgC b (b + 3) 8 = 0
  unfold lgC
  (repeat (first | rw [if_pos (by omega)] | rw [if_neg (by omega)]))
theorem xL_l8 {b : Nat} {σ : Sg} : mm_l (memC b σ) (xL b) 8 = σ.2 0 := memC_lg (xL_l8_t ) (by decide)
theorem xL_l8_s {b : Nat} {σ : Sg} {v : Int64} : ms_l (memC b σ) (xL b) 8 v = memC b (sL σ 0 v) := memC_sl (xL_l8_t ) (by decide)
theorem xL_l9_t {b : Nat} : lgC b (xL b) 9 = 3 := by
  show lgC b (b + 3) 9 = 3
  unfold lgC
  (repeat (first | rw [if_pos (by omega)] | rw [if_neg (by omega)]))
theorem xL_l9 {b : Nat} {σ : Sg} : mm_l (memC b σ) (xL b) 9 = σ.2 3 := memC_lg (xL_l9_t ) (by decide)
theorem xL_l9_s {b : Nat} {σ : Sg} {v : Int64} : ms_l (memC b σ) (xL b) 9 v = memC b (sL σ 3 v) := memC_sl (xL_l9_t ) (by decide)
theorem xL_l10_t {b : Nat} : lgC b (xL b) 10 = 4 := by
  show lgC b (b + 3) 10 = 4
  unfold lgC
  (repeat (first | rw [if_pos (by omega)] | rw [if_neg (by omega)]))
theorem xL_l10 {b : Nat} {σ : Sg} : mm_l (memC b σ) (xL b) 10 = σ.2 4 := memC_lg (xL_l10_t ) (by decide)
theorem xL_l10_s {b : Nat} {σ : Sg} {v : Int64} : ms_l (memC b σ) (xL b) 10 v = memC b (sL σ 4 v) := memC_sl (xL_l10_t ) (by decide)
theorem xL_l11_t {b : Nat} : lgC b (xL b) 11 = 1 := by
  show lgC b (b + 3) 11 = 1
  unfold lgC
  (repeat (first | rw [if_pos (by omega)] | rw [if_neg (by omega)]))
theorem xL_l11 {b : Nat} {σ : Sg} : mm_l (memC b σ) (xL b) 11 = σ.2 1 := memC_lg (xL_l11_t ) (by decide)
theorem xL_l11_s {b : Nat} {σ : Sg} {v : Int64} : ms_l (memC b σ) (xL b) 11 v = memC b (sL σ 1 v) := memC_sl (xL_l11_t ) (by decide)
theorem xL_l12_t {b : Nat} : lgC b (xL b) 12 = 2 := by
  show lgC b (b + 3) 12 = 2
  unfold lgC
  (repeat (first | rw [if_pos (by omega)] | rw [if_neg (by omega)]))
theorem xL_l12 {b : Nat} {σ : Sg} : mm_l (memC b σ) (xL b) 12 = σ.2 2 := memC_lg (xL_l12_t ) (by decide)
theorem xL_l12_s {b : Nat} {σ : Sg} {v : Int64} : ms_l (memC b σ) (xL b) 12 v = memC b (sL σ 2 v) := memC_sl (xL_l12_t ) (by decide)
theorem xA_k {b : Nat} {σ : Sg} : (memC b σ).1 (xA b) = 13 := by
  show kdC b (b + 4) = 13
  unfold kdC
  (repeat (first | rw [if_pos (by omega)] | rw [if_neg (by omega)]))
theorem xA_n {b : Nat} {σ : Sg} : mm_N (memC b σ) (xA b) = 80 := by
  show lnC b (b + 4) = 80
  unfold lnC
  (repeat (first | rw [if_pos (by omega)] | rw [if_neg (by omega)]))
theorem xA_rk {b k : Nat} {σ : Sg} (hk : k < 80) : mm_r (memC b σ) (xA b) k = some (xG b k) := by
  show rfC b (b + 4) k = some (xG b k)
  unfold rfC
  (repeat (first | rw [if_pos (by omega)] | rw [if_neg (by omega)]))
theorem xG_k {b i : Nat} {σ : Sg} (hi : i < 80) : (memC b σ).1 (xG b i) = 2 := by
  show kdC b (b + 5 + i) = 2
  unfold kdC
  (repeat (first | rw [if_pos (by omega)] | rw [if_neg (by omega)]))
theorem xG_i0_t {b i : Nat} (hi : i < 80) : itC b (xG b i) 0 = (0, i) := by
  show itC b (b + 5 + i) 0 = (0, i)
  unfold itC
  (repeat (first | rw [if_pos (by omega)] | rw [if_neg (by omega)]))
  exact Prod.ext rfl (by show _ = i; omega)
theorem xG_i0 {b i : Nat} {σ : Sg} (hi : i < 80) : mm_i (memC b σ) (xG b i) 0 = σ.1 0 (i) := memC_it (xG_i0_t hi ) (by decide)
theorem xG_i0_s {b i : Nat} {σ : Sg} {v : Int32} (hi : i < 80) : ms_i (memC b σ) (xG b i) 0 v = memC b (sI σ 0 (i) v) := memC_si (xG_i0_t hi ) (by decide)
theorem xG_i1_t {b i : Nat} (hi : i < 80) : itC b (xG b i) 1 = (1, i) := by
  show itC b (b + 5 + i) 1 = (1, i)
  unfold itC
  (repeat (first | rw [if_pos (by omega)] | rw [if_neg (by omega)]))
  exact Prod.ext rfl (by show _ = i; omega)
theorem xG_i1 {b i : Nat} {σ : Sg} (hi : i < 80) : mm_i (memC b σ) (xG b i) 1 = σ.1 1 (i) := memC_it (xG_i1_t hi ) (by decide)
theorem xG_i1_s {b i : Nat} {σ : Sg} {v : Int32} (hi : i < 80) : ms_i (memC b σ) (xG b i) 1 v = memC b (sI σ 1 (i) v) := memC_si (xG_i1_t hi ) (by decide)
theorem xG_i2_t {b i : Nat} (hi : i < 80) : itC b (xG b i) 2 = (2, i) := by
  show itC b (b + 5 + i) 2 = (2, i)
  unfold itC
  (repeat (first | rw [if_pos (by omega)] | rw [if_neg (by omega)]))
  exact Prod.ext rfl (by show _ = i; omega)
theorem xG_i2 {b i : Nat} {σ : Sg} (hi : i < 80) : mm_i (memC b σ) (xG b i) 2 = σ.1 2 (i) := memC_it (xG_i2_t hi ) (by decide)
theorem xG_i2_s {b i : Nat} {σ : Sg} {v : Int32} (hi : i < 80) : ms_i (memC b σ) (xG b i) 2 v = memC b (sI σ 2 (i) v) := memC_si (xG_i2_t hi ) (by decide)
theorem xG_i3_t {b i : Nat} (hi : i < 80) : itC b (xG b i) 3 = (3, i) := by
  show itC b (b + 5 + i) 3 = (3, i)
  unfold itC
  (repeat (first | rw [if_pos (by omega)] | rw [if_neg (by omega)]))
  exact Prod.ext rfl (by show _ = i; omega)
theorem xG_i3 {b i : Nat} {σ : Sg} (hi : i < 80) : mm_i (memC b σ) (xG b i) 3 = σ.1 3 (i) := memC_it (xG_i3_t hi ) (by decide)
theorem xG_i3_s {b i : Nat} {σ : Sg} {v : Int32} (hi : i < 80) : ms_i (memC b σ) (xG b i) 3 v = memC b (sI σ 3 (i) v) := memC_si (xG_i3_t hi ) (by decide)
theorem xG_i4_t {b i : Nat} (hi : i < 80) : itC b (xG b i) 4 = (4, i) := by
  show itC b (b + 5 + i) 4 = (4, i)
  unfold itC
  (repeat (first | rw [if_pos (by omega)] | rw [if_neg (by omega)]))
  exact Prod.ext rfl (by show _ = i; omega)
theorem xG_i4 {b i : Nat} {σ : Sg} (hi : i < 80) : mm_i (memC b σ) (xG b i) 4 = σ.1 4 (i) := memC_it (xG_i4_t hi ) (by decide)
theorem xG_i4_s {b i : Nat} {σ : Sg} {v : Int32} (hi : i < 80) : ms_i (memC b σ) (xG b i) 4 v = memC b (sI σ 4 (i) v) := memC_si (xG_i4_t hi ) (by decide)
theorem xG_i5_t {b i : Nat} (hi : i < 80) : itC b (xG b i) 5 = (5, i) := by
  show itC b (b + 5 + i) 5 = (5, i)
  unfold itC
  (repeat (first | rw [if_pos (by omega)] | rw [if_neg (by omega)]))
  exact Prod.ext rfl (by show _ = i; omega)
theorem xG_i5 {b i : Nat} {σ : Sg} (hi : i < 80) : mm_i (memC b σ) (xG b i) 5 = σ.1 5 (i) := memC_it (xG_i5_t hi ) (by decide)
theorem xG_i5_s {b i : Nat} {σ : Sg} {v : Int32} (hi : i < 80) : ms_i (memC b σ) (xG b i) 5 v = memC b (sI σ 5 (i) v) := memC_si (xG_i5_t hi ) (by decide)
theorem xG_i6_t {b i : Nat} (hi : i < 80) : itC b (xG b i) 6 = (6, i) := by
  show itC b (b + 5 + i) 6 = (6, i)
  unfold itC
  (repeat (first | rw [if_pos (by omega)] | rw [if_neg (by omega)]))
  exact Prod.ext rfl (by show _ = i; omega)
theorem xG_i6 {b i : Nat} {σ : Sg} (hi : i < 80) : mm_i (memC b σ) (xG b i) 6 = σ.1 6 (i) := memC_it (xG_i6_t hi ) (by decide)
theorem xG_i6_s {b i : Nat} {σ : Sg} {v : Int32} (hi : i < 80) : ms_i (memC b σ) (xG b i) 6 v = memC b (sI σ 6 (i) v) := memC_si (xG_i6_t hi ) (by decide)
theorem xMA_k {b : Nat} {σ : Sg} : (memC b σ).1 (xMA b) = 14 := by
  show kdC b (b + 85) = 14
  unfold kdC
  (repeat (first | rw [if_pos (by omega)] | rw [if_neg (by omega)]))
theorem xMA_n {b : Nat} {σ : Sg} : mm_N (memC b σ) (xMA b) = 6 := by
  show lnC b (b + 85) = 6
  unfold lnC
  (repeat (first | rw [if_pos (by omega)] | rw [if_neg (by omega)]))
theorem xMA_rk {b k : Nat} {σ : Sg} (hk : k < 6) : mm_r (memC b σ) (xMA b) k = some (xM b k) := by
  show rfC b (b + 85) k = some (xM b k)
  unfold rfC
  (repeat (first | rw [if_pos (by omega)] | rw [if_neg (by omega)]))
theorem xM_k {b i : Nat} {σ : Sg} (hi : i < 6) : (memC b σ).1 (xM b i) = 5 := by
  show kdC b (b + 86 + i) = 5
  unfold kdC
  (repeat (first | rw [if_pos (by omega)] | rw [if_neg (by omega)]))
theorem xM_i0_t {b i : Nat} (hi : i < 6) : itC b (xM b i) 0 = (7, i) := by
  show itC b (b + 86 + i) 0 = (7, i)
  unfold itC
  (repeat (first | rw [if_pos (by omega)] | rw [if_neg (by omega)]))
  exact Prod.ext rfl (by show _ = i; omega)
theorem xM_i0 {b i : Nat} {σ : Sg} (hi : i < 6) : mm_i (memC b σ) (xM b i) 0 = σ.1 7 (i) := memC_it (xM_i0_t hi ) (by decide)
theorem xM_i0_s {b i : Nat} {σ : Sg} {v : Int32} (hi : i < 6) : ms_i (memC b σ) (xM b i) 0 v = memC b (sI σ 7 (i) v) := memC_si (xM_i0_t hi ) (by decide)
theorem xM_i1_t {b i : Nat} (hi : i < 6) : itC b (xM b i) 1 = (8, i) := by
  show itC b (b + 86 + i) 1 = (8, i)
  unfold itC
  (repeat (first | rw [if_pos (by omega)] | rw [if_neg (by omega)]))
  exact Prod.ext rfl (by show _ = i; omega)
theorem xM_i1 {b i : Nat} {σ : Sg} (hi : i < 6) : mm_i (memC b σ) (xM b i) 1 = σ.1 8 (i) := memC_it (xM_i1_t hi ) (by decide)
theorem xM_i1_s {b i : Nat} {σ : Sg} {v : Int32} (hi : i < 6) : ms_i (memC b σ) (xM b i) 1 v = memC b (sI σ 8 (i) v) := memC_si (xM_i1_t hi ) (by decide)
theorem xM_i2_t {b i : Nat} (hi : i < 6) : itC b (xM b i) 2 = (9, i) := by
  show itC b (b + 86 + i) 2 = (9, i)
  unfold itC
  (repeat (first | rw [if_pos (by omega)] | rw [if_neg (by omega)]))
  exact Prod.ext rfl (by show _ = i; omega)
theorem xM_i2 {b i : Nat} {σ : Sg} (hi : i < 6) : mm_i (memC b σ) (xM b i) 2 = σ.1 9 (i) := memC_it (xM_i2_t hi ) (by decide)
theorem xM_i2_s {b i : Nat} {σ : Sg} {v : Int32} (hi : i < 6) : ms_i (memC b σ) (xM b i) 2 v = memC b (sI σ 9 (i) v) := memC_si (xM_i2_t hi ) (by decide)
theorem xFA_k {b : Nat} {σ : Sg} : (memC b σ).1 (xFA b) = 12 := by
  show kdC b (b + 92) = 12
  unfold kdC
  (repeat (first | rw [if_pos (by omega)] | rw [if_neg (by omega)]))
theorem xFA_n {b : Nat} {σ : Sg} : mm_N (memC b σ) (xFA b) = 20 := by
  show lnC b (b + 92) = 20
  unfold lnC
  (repeat (first | rw [if_pos (by omega)] | rw [if_neg (by omega)]))
theorem xFA_rk {b k : Nat} {σ : Sg} (hk : k < 20) : mm_r (memC b σ) (xFA b) k = some (xF b k) := by
  show rfC b (b + 92) k = some (xF b k)
  unfold rfC
  (repeat (first | rw [if_pos (by omega)] | rw [if_neg (by omega)]))
theorem xF_k {b i : Nat} {σ : Sg} (hi : i < 20) : (memC b σ).1 (xF b i) = 1 := by
  show kdC b (b + 93 + 2 * i) = 1
  unfold kdC
  (repeat (first | rw [if_pos (by omega)] | rw [if_neg (by omega)]))
theorem xF_r0 {b i : Nat} {σ : Sg} (hi : i < 20) : mm_r (memC b σ) (xF b i) 0 = some (xFm b i) := by
  show rfC b (b + 93 + 2 * i) 0 = some (xFm b i)
  unfold rfC
  (repeat (first | rw [if_pos (by omega)] | rw [if_neg (by omega)]))
  exact congrArg some (congrArg (xFm b) (by omega))
theorem xF_i1_t {b i : Nat} (hi : i < 20) : itC b (xF b i) 1 = (11, i) := by
  show itC b (b + 93 + 2 * i) 1 = (11, i)
  unfold itC
  (repeat (first | rw [if_pos (by omega)] | rw [if_neg (by omega)]))
  exact Prod.ext rfl (by show _ = i; omega)
theorem xF_i1 {b i : Nat} {σ : Sg} (hi : i < 20) : mm_i (memC b σ) (xF b i) 1 = σ.1 11 (i) := memC_it (xF_i1_t hi ) (by decide)
theorem xF_i1_s {b i : Nat} {σ : Sg} {v : Int32} (hi : i < 20) : ms_i (memC b σ) (xF b i) 1 v = memC b (sI σ 11 (i) v) := memC_si (xF_i1_t hi ) (by decide)
theorem xFm_k {b i : Nat} {σ : Sg} (hi : i < 20) : (memC b σ).1 (xFm b i) = 9 := by
  show kdC b (b + 94 + 2 * i) = 9
  unfold kdC
  (repeat (first | rw [if_pos (by omega)] | rw [if_neg (by omega)]))
theorem xFm_n {b i : Nat} {σ : Sg} (hi : i < 20) : mm_N (memC b σ) (xFm b i) = 64 := by
  show lnC b (b + 94 + 2 * i) = 64
  unfold lnC
  (repeat (first | rw [if_pos (by omega)] | rw [if_neg (by omega)]))
theorem xFm_ik_t {b i k : Nat} (hi : i < 20) (hk : k < 64) : itC b (xFm b i) k = (12, 64 * i + k) := by
  show itC b (b + 94 + 2 * i) k = (12, 64 * i + k)
  unfold itC
  (repeat (first | rw [if_pos (by omega)] | rw [if_neg (by omega)]))
  exact Prod.ext rfl (by show _ = 64 * i + k; omega)
theorem xFm_ik {b i k : Nat} {σ : Sg} (hi : i < 20) (hk : k < 64) : mm_i (memC b σ) (xFm b i) k = σ.1 12 (64 * i + k) := memC_it (xFm_ik_t hi hk) (by decide)
theorem xFm_ik_s {b i k : Nat} {σ : Sg} {v : Int32} (hi : i < 20) (hk : k < 64) : ms_i (memC b σ) (xFm b i) k v = memC b (sI σ 12 (64 * i + k) v) := memC_si (xFm_ik_t hi hk) (by decide)
theorem xCA_k {b : Nat} {σ : Sg} : (memC b σ).1 (xCA b) = 11 := by
  show kdC b (b + 133) = 11
  unfold kdC
  (repeat (first | rw [if_pos (by omega)] | rw [if_neg (by omega)]))
theorem xCA_n {b : Nat} {σ : Sg} : mm_N (memC b σ) (xCA b) = 40 := by
  show lnC b (b + 133) = 40
  unfold lnC
  (repeat (first | rw [if_pos (by omega)] | rw [if_neg (by omega)]))
theorem xCA_rk {b k : Nat} {σ : Sg} (hk : k < 40) : mm_r (memC b σ) (xCA b) k = some (xC b k) := by
  show rfC b (b + 133) k = some (xC b k)
  unfold rfC
  (repeat (first | rw [if_pos (by omega)] | rw [if_neg (by omega)]))
theorem xC_k {b i : Nat} {σ : Sg} (hi : i < 40) : (memC b σ).1 (xC b i) = 0 := by
  show kdC b (b + 134 + i) = 0
  unfold kdC
  (repeat (first | rw [if_pos (by omega)] | rw [if_neg (by omega)]))
theorem xC_i0_t {b i : Nat} (hi : i < 40) : itC b (xC b i) 0 = (13, i) := by
  show itC b (b + 134 + i) 0 = (13, i)
  unfold itC
  (repeat (first | rw [if_pos (by omega)] | rw [if_neg (by omega)]))
  exact Prod.ext rfl (by show _ = i; omega)
theorem xC_i0 {b i : Nat} {σ : Sg} (hi : i < 40) : mm_i (memC b σ) (xC b i) 0 = σ.1 13 (i) := memC_it (xC_i0_t hi ) (by decide)
theorem xC_i0_s {b i : Nat} {σ : Sg} {v : Int32} (hi : i < 40) : ms_i (memC b σ) (xC b i) 0 v = memC b (sI σ 13 (i) v) := memC_si (xC_i0_t hi ) (by decide)
theorem xC_i1_t {b i : Nat} (hi : i < 40) : itC b (xC b i) 1 = (14, i) := by
  show itC b (b + 134 + i) 1 = (14, i)
  unfold itC
  (repeat (first | rw [if_pos (by omega)] | rw [if_neg (by omega)]))
  exact Prod.ext rfl (by show _ = i; omega)
theorem xC_i1 {b i : Nat} {σ : Sg} (hi : i < 40) : mm_i (memC b σ) (xC b i) 1 = σ.1 14 (i) := memC_it (xC_i1_t hi ) (by decide)
theorem xC_i1_s {b i : Nat} {σ : Sg} {v : Int32} (hi : i < 40) : ms_i (memC b σ) (xC b i) 1 v = memC b (sI σ 14 (i) v) := memC_si (xC_i1_t hi ) (by decide)
theorem xC_i2_t {b i : Nat} (hi : i < 40) : itC b (xC b i) 2 = (15, i) := by
  show itC b (b + 134 + i) 2 = (15, i)
  unfold itC
  (repeat (first | rw [if_pos (by omega)] | rw [if_neg (by omega)]))
  exact Prod.ext rfl (by show _ = i; omega)
theorem xC_i2 {b i : Nat} {σ : Sg} (hi : i < 40) : mm_i (memC b σ) (xC b i) 2 = σ.1 15 (i) := memC_it (xC_i2_t hi ) (by decide)
theorem xC_i2_s {b i : Nat} {σ : Sg} {v : Int32} (hi : i < 40) : ms_i (memC b σ) (xC b i) 2 v = memC b (sI σ 15 (i) v) := memC_si (xC_i2_t hi ) (by decide)
theorem xC_i3_t {b i : Nat} (hi : i < 40) : itC b (xC b i) 3 = (16, i) := by
  show itC b (b + 134 + i) 3 = (16, i)
  unfold itC
  (repeat (first | rw [if_pos (by omega)] | rw [if_neg (by omega)]))
  exact Prod.ext rfl (by show _ = i; omega)
theorem xC_i3 {b i : Nat} {σ : Sg} (hi : i < 40) : mm_i (memC b σ) (xC b i) 3 = σ.1 16 (i) := memC_it (xC_i3_t hi ) (by decide)
theorem xC_i3_s {b i : Nat} {σ : Sg} {v : Int32} (hi : i < 40) : ms_i (memC b σ) (xC b i) 3 v = memC b (sI σ 16 (i) v) := memC_si (xC_i3_t hi ) (by decide)
theorem xW_k {b : Nat} {σ : Sg} : (memC b σ).1 (xW b) = 9 := by
  show kdC b (b + 174) = 9
  unfold kdC
  (repeat (first | rw [if_pos (by omega)] | rw [if_neg (by omega)]))
theorem xW_n {b : Nat} {σ : Sg} : mm_N (memC b σ) (xW b) = 64 := by
  show lnC b (b + 174) = 64
  unfold lnC
  (repeat (first | rw [if_pos (by omega)] | rw [if_neg (by omega)]))
theorem xW_ik_t {b k : Nat} (hk : k < 64) : itC b (xW b) k = (17, k) := by
  show itC b (b + 174) k = (17, k)
  unfold itC
  (repeat (first | rw [if_pos (by omega)] | rw [if_neg (by omega)]))
theorem xW_ik {b k : Nat} {σ : Sg} (hk : k < 64) : mm_i (memC b σ) (xW b) k = σ.1 17 (k) := memC_it (xW_ik_t hk) (by decide)
theorem xW_ik_s {b k : Nat} {σ : Sg} {v : Int32} (hk : k < 64) : ms_i (memC b σ) (xW b) k v = memC b (sI σ 17 (k) v) := memC_si (xW_ik_t hk) (by decide)
theorem x1_k {b : Nat} {σ : Sg} : (memC b σ).1 (x1 b) = 9 := by
  show kdC b (b + 175) = 9
  unfold kdC
  (repeat (first | rw [if_pos (by omega)] | rw [if_neg (by omega)]))
theorem x1_n {b : Nat} {σ : Sg} : mm_N (memC b σ) (x1 b) = 21 := by
  show lnC b (b + 175) = 21
  unfold lnC
  (repeat (first | rw [if_pos (by omega)] | rw [if_neg (by omega)]))
theorem x1_ik_t {b k : Nat} (hk : k < 21) : itC b (x1 b) k = (18, k) := by
  show itC b (b + 175) k = (18, k)
  unfold itC
  (repeat (first | rw [if_pos (by omega)] | rw [if_neg (by omega)]))
theorem x1_ik {b k : Nat} {σ : Sg} (hk : k < 21) : mm_i (memC b σ) (x1 b) k = σ.1 18 (k) := memC_it (x1_ik_t hk) (by decide)
theorem x1_ik_s {b k : Nat} {σ : Sg} {v : Int32} (hk : k < 21) : ms_i (memC b σ) (x1 b) k v = memC b (sI σ 18 (k) v) := memC_si (x1_ik_t hk) (by decide)
theorem x2_k {b : Nat} {σ : Sg} : (memC b σ).1 (x2 b) = 9 := by
  show kdC b (b + 176) = 9
  unfold kdC
  (repeat (first | rw [if_pos (by omega)] | rw [if_neg (by omega)]))
theorem x2_n {b : Nat} {σ : Sg} : mm_N (memC b σ) (x2 b) = 21 := by
  show lnC b (b + 176) = 21
  unfold lnC
  (repeat (first | rw [if_pos (by omega)] | rw [if_neg (by omega)]))
theorem x2_ik_t {b k : Nat} (hk : k < 21) : itC b (x2 b) k = (19, k) := by
  show itC b (b + 176) k = (19, k)
  unfold itC
  (repeat (first | rw [if_pos (by omega)] | rw [if_neg (by omega)]))
theorem x2_ik {b k : Nat} {σ : Sg} (hk : k < 21) : mm_i (memC b σ) (x2 b) k = σ.1 19 (k) := memC_it (x2_ik_t hk) (by decide)
theorem x2_ik_s {b k : Nat} {σ : Sg} {v : Int32} (hk : k < 21) : ms_i (memC b σ) (x2 b) k v = memC b (sI σ 19 (k) v) := memC_si (x2_ik_t hk) (by decide)
theorem yLa_k {b : Nat} {σ : Sg} : (memM b σ).1 (yLa b) = 9 := by
  show kdM b (b) = 9
  unfold kdM
  (repeat (first | rw [if_pos (by omega)] | rw [if_neg (by omega)]))
theorem yLa_n {b : Nat} {σ : Sg} : mm_N (memM b σ) (yLa b) = 64 := by
  show lnM b (b) = 64
  unfold lnM
  (repeat (first | rw [if_pos (by omega)] | rw [if_neg (by omega)]))
theorem yLa_ik_t {b k : Nat} (hk : k < 64) : itM b (yLa b) k = (0, k) := by
  show itM b (b) k = (0, k)
  unfold itM
  (repeat (first | rw [if_pos (by omega)] | rw [if_neg (by omega)]))
theorem yLa_ik {b k : Nat} {σ : Sg} (hk : k < 64) : mm_i (memM b σ) (yLa b) k = σ.1 0 (k) := memM_it (yLa_ik_t hk) (by decide)
theorem yLa_ik_s {b k : Nat} {σ : Sg} {v : Int32} (hk : k < 64) : ms_i (memM b σ) (yLa b) k v = memM b (sI σ 0 (k) v) := memM_si (yLa_ik_t hk) (by decide)
theorem yAn_k {b : Nat} {σ : Sg} : (memM b σ).1 (yAn b) = 9 := by
  show kdM b (b + 1) = 9
  unfold kdM
  (repeat (first | rw [if_pos (by omega)] | rw [if_neg (by omega)]))
theorem yAn_n {b : Nat} {σ : Sg} : mm_N (memM b σ) (yAn b) = 64 := by
  show lnM b (b + 1) = 64
  unfold lnM
  (repeat (first | rw [if_pos (by omega)] | rw [if_neg (by omega)]))
theorem yAn_ik_t {b k : Nat} (hk : k < 64) : itM b (yAn b) k = (1, k) := by
  show itM b (b + 1) k = (1, k)
  unfold itM
  (repeat (first | rw [if_pos (by omega)] | rw [if_neg (by omega)]))
theorem yAn_ik {b k : Nat} {σ : Sg} (hk : k < 64) : mm_i (memM b σ) (yAn b) k = σ.1 1 (k) := memM_it (yAn_ik_t hk) (by decide)
theorem yAn_ik_s {b k : Nat} {σ : Sg} {v : Int32} (hk : k < 64) : ms_i (memM b σ) (yAn b) k v = memM b (sI σ 1 (k) v) := memM_si (yAn_ik_t hk) (by decide)
theorem yMa_k {b : Nat} {σ : Sg} : (memM b σ).1 (yMa b) = 9 := by
  show kdM b (b + 2) = 9
  unfold kdM
  (repeat (first | rw [if_pos (by omega)] | rw [if_neg (by omega)]))
theorem yMa_n {b : Nat} {σ : Sg} : mm_N (memM b σ) (yMa b) = 64 := by
  show lnM b (b + 2) = 64
  unfold lnM
  (repeat (first | rw [if_pos (by omega)] | rw [if_neg (by omega)]))
theorem yMa_ik_t {b k : Nat} (hk : k < 64) : itM b (yMa b) k = (2, k) := by
  show itM b (b + 2) k = (2, k)
  unfold itM
  (repeat (first | rw [if_pos (by omega)] | rw [if_neg (by omega)]))
theorem yMa_ik {b k : Nat} {σ : Sg} (hk : k < 64) : mm_i (memM b σ) (yMa b) k = σ.1 2 (k) := memM_it (yMa_ik_t hk) (by decide)
theorem yMa_ik_s {b k : Nat} {σ : Sg} {v : Int32} (hk : k < 64) : ms_i (memM b σ) (yMa b) k v = memM b (sI σ 2 (k) v) := memM_si (yMa_ik_t hk) (by decide)
theorem yUn_k {b : Nat} {σ : Sg} : (memM b σ).1 (yUn b) = 9 := by
  show kdM b (b + 3) = 9
  unfold kdM
  (repeat (first | rw [if_pos (by omega)] | rw [if_neg (by omega)]))
theorem yUn_n {b : Nat} {σ : Sg} : mm_N (memM b σ) (yUn b) = 64 := by
  show lnM b (b + 3) = 64
  unfold lnM
  (repeat (first | rw [if_pos (by omega)] | rw [if_neg (by omega)]))
theorem yUn_ik_t {b k : Nat} (hk : k < 64) : itM b (yUn b) k = (3, k) := by
  show itM b (b + 3) k = (3, k)
  unfold itM
  (repeat (first | rw [if_pos (by omega)] | rw [if_neg (by omega)]))
theorem yUn_ik {b k : Nat} {σ : Sg} (hk : k < 64) : mm_i (memM b σ) (yUn b) k = σ.1 3 (k) := memM_it (yUn_ik_t hk) (by decide)
theorem yUn_ik_s {b k : Nat} {σ : Sg} {v : Int32} (hk : k < 64) : ms_i (memM b σ) (yUn b) k v = memM b (sI σ 3 (k) v) := memM_si (yUn_ik_t hk) (by decide)
theorem yDa_k {b : Nat} {σ : Sg} : (memM b σ).1 (yDa b) = 9 := by
  show kdM b (b + 4) = 9
  unfold kdM
  (repeat (first | rw [if_pos (by omega)] | rw [if_neg (by omega)]))
theorem yDa_n {b : Nat} {σ : Sg} : mm_N (memM b σ) (yDa b) = 64 := by
  show lnM b (b + 4) = 64
  unfold lnM
  (repeat (first | rw [if_pos (by omega)] | rw [if_neg (by omega)]))
theorem yDa_ik_t {b k : Nat} (hk : k < 64) : itM b (yDa b) k = (4, k) := by
  show itM b (b + 4) k = (4, k)
  unfold itM
  (repeat (first | rw [if_pos (by omega)] | rw [if_neg (by omega)]))
theorem yDa_ik {b k : Nat} {σ : Sg} (hk : k < 64) : mm_i (memM b σ) (yDa b) k = σ.1 4 (k) := memM_it (yDa_ik_t hk) (by decide)
theorem yDa_ik_s {b k : Nat} {σ : Sg} {v : Int32} (hk : k < 64) : ms_i (memM b σ) (yDa b) k v = memM b (sI σ 4 (k) v) := memM_si (yDa_ik_t hk) (by decide)
theorem yTh_k {b : Nat} {σ : Sg} : (memM b σ).1 (yTh b) = 9 := by
  show kdM b (b + 5) = 9
  unfold kdM
  (repeat (first | rw [if_pos (by omega)] | rw [if_neg (by omega)]))
theorem yTh_n {b : Nat} {σ : Sg} : mm_N (memM b σ) (yTh b) = 64 := by
  show lnM b (b + 5) = 64
  unfold lnM
  (repeat (first | rw [if_pos (by omega)] | rw [if_neg (by omega)]))
theorem yTh_ik_t {b k : Nat} (hk : k < 64) : itM b (yTh b) k = (5, k) := by
  show itM b (b + 5) k = (5, k)
  unfold itM
  (repeat (first | rw [if_pos (by omega)] | rw [if_neg (by omega)]))
theorem yTh_ik {b k : Nat} {σ : Sg} (hk : k < 64) : mm_i (memM b σ) (yTh b) k = σ.1 5 (k) := memM_it (yTh_ik_t hk) (by decide)
theorem yTh_ik_s {b k : Nat} {σ : Sg} {v : Int32} (hk : k < 64) : ms_i (memM b σ) (yTh b) k v = memM b (sI σ 5 (k) v) := memM_si (yTh_ik_t hk) (by decide)
theorem yHm_k {b : Nat} {σ : Sg} : (memM b σ).1 (yHm b) = 9 := by
  show kdM b (b + 6) = 9
  unfold kdM
  (repeat (first | rw [if_pos (by omega)] | rw [if_neg (by omega)]))
theorem yHm_n {b : Nat} {σ : Sg} : mm_N (memM b σ) (yHm b) = 64 := by
  show lnM b (b + 6) = 64
  unfold lnM
  (repeat (first | rw [if_pos (by omega)] | rw [if_neg (by omega)]))
theorem yHm_ik_t {b k : Nat} (hk : k < 64) : itM b (yHm b) k = (6, k) := by
  show itM b (b + 6) k = (6, k)
  unfold itM
  (repeat (first | rw [if_pos (by omega)] | rw [if_neg (by omega)]))
theorem yHm_ik {b k : Nat} {σ : Sg} (hk : k < 64) : mm_i (memM b σ) (yHm b) k = σ.1 6 (k) := memM_it (yHm_ik_t hk) (by decide)
theorem yHm_ik_s {b k : Nat} {σ : Sg} {v : Int32} (hk : k < 64) : ms_i (memM b σ) (yHm b) k v = memM b (sI σ 6 (k) v) := memM_si (yHm_ik_t hk) (by decide)
theorem yC_k {b : Nat} {σ : Sg} : (memM b σ).1 (yC b) = 9 := by
  show kdM b (b + 7) = 9
  unfold kdM
  (repeat (first | rw [if_pos (by omega)] | rw [if_neg (by omega)]))
theorem yC_n {b : Nat} {σ : Sg} : mm_N (memM b σ) (yC b) = 16 := by
  show lnM b (b + 7) = 16
  unfold lnM
  (repeat (first | rw [if_pos (by omega)] | rw [if_neg (by omega)]))
theorem yC_i1_t {b : Nat} : itM b (yC b) 1 = (10, 6) := by
  show itM b (b + 7) 1 = (10, 6)
  unfold itM
  (repeat (first | rw [if_pos (by omega)] | rw [if_neg (by omega)]))
theorem yC_i1 {b : Nat} {σ : Sg} : mm_i (memM b σ) (yC b) 1 = σ.1 10 (6) := memM_it (yC_i1_t ) (by decide)
theorem yC_i1_s {b : Nat} {σ : Sg} {v : Int32} : ms_i (memM b σ) (yC b) 1 v = memM b (sI σ 10 (6) v) := memM_si (yC_i1_t ) (by decide)
theorem yC_i2_t {b : Nat} : itM b (yC b) 2 = (10, 7) := by
  show itM b (b + 7) 2 = (10, 7)
  unfold itM
  (repeat (first | rw [if_pos (by omega)] | rw [if_neg (by omega)]))
theorem yC_i2 {b : Nat} {σ : Sg} : mm_i (memM b σ) (yC b) 2 = σ.1 10 (7) := memM_it (yC_i2_t ) (by decide)
theorem yC_i2_s {b : Nat} {σ : Sg} {v : Int32} : ms_i (memM b σ) (yC b) 2 v = memM b (sI σ 10 (7) v) := memM_si (yC_i2_t ) (by decide)
theorem yC_i3_t {b : Nat} : itM b (yC b) 3 = (10, 8) := by
  show itM b (b + 7) 3 = (10, 8)
  unfold itM
  (repeat (first | rw [if_pos (by omega)] | rw [if_neg (by omega)]))
theorem yC_i3 {b : Nat} {σ : Sg} : mm_i (memM b σ) (yC b) 3 = σ.1 10 (8) := memM_it (yC_i3_t ) (by decide)
theorem yC_i3_s {b : Nat} {σ : Sg} {v : Int32} : ms_i (memM b σ) (yC b) 3 v = memM b (sI σ 10 (8) v) := memM_si (yC_i3_t ) (by decide)
theorem yC_i4_t {b : Nat} : itM b (yC b) 4 = (10, 9) := by
  show itM b (b + 7) 4 = (10, 9)
  unfold itM
  (repeat (first | rw [if_pos (by omega)] | rw [if_neg (by omega)]))
theorem yC_i4 {b : Nat} {σ : Sg} : mm_i (memM b σ) (yC b) 4 = σ.1 10 (9) := memM_it (yC_i4_t ) (by decide)
theorem yC_i4_s {b : Nat} {σ : Sg} {v : Int32} : ms_i (memM b σ) (yC b) 4 v = memM b (sI σ 10 (9) v) := memM_si (yC_i4_t ) (by decide)
theorem yC_i5_t {b : Nat} : itM b (yC b) 5 = (10, 10) := by
  show itM b (b + 7) 5 = (10, 10)
  unfold itM
  (repeat (first | rw [if_pos (by omega)] | rw [if_neg (by omega)]))
theorem yC_i5 {b : Nat} {σ : Sg} : mm_i (memM b σ) (yC b) 5 = σ.1 10 (10) := memM_it (yC_i5_t ) (by decide)
theorem yC_i5_s {b : Nat} {σ : Sg} {v : Int32} : ms_i (memM b σ) (yC b) 5 v = memM b (sI σ 10 (10) v) := memM_si (yC_i5_t ) (by decide)
theorem yC_i6_t {b : Nat} : itM b (yC b) 6 = (10, 2) := by
  show itM b (b + 7) 6 = (10, 2)
  unfold itM
  (repeat (first | rw [if_pos (by omega)] | rw [if_neg (by omega)]))
theorem yC_i6 {b : Nat} {σ : Sg} : mm_i (memM b σ) (yC b) 6 = σ.1 10 (2) := memM_it (yC_i6_t ) (by decide)
theorem yC_i6_s {b : Nat} {σ : Sg} {v : Int32} : ms_i (memM b σ) (yC b) 6 v = memM b (sI σ 10 (2) v) := memM_si (yC_i6_t ) (by decide)
theorem yC_i7_t {b : Nat} : itM b (yC b) 7 = (10, 3) := by
  show itM b (b + 7) 7 = (10, 3)
  unfold itM
  (repeat (first | rw [if_pos (by omega)] | rw [if_neg (by omega)]))
theorem yC_i7 {b : Nat} {σ : Sg} : mm_i (memM b σ) (yC b) 7 = σ.1 10 (3) := memM_it (yC_i7_t ) (by decide)
theorem yC_i7_s {b : Nat} {σ : Sg} {v : Int32} : ms_i (memM b σ) (yC b) 7 v = memM b (sI σ 10 (3) v) := memM_si (yC_i7_t ) (by decide)
theorem yC_i8_t {b : Nat} : itM b (yC b) 8 = (10, 4) := by
  show itM b (b + 7) 8 = (10, 4)
  unfold itM
  (repeat (first | rw [if_pos (by omega)] | rw [if_neg (by omega)]))
theorem yC_i8 {b : Nat} {σ : Sg} : mm_i (memM b σ) (yC b) 8 = σ.1 10 (4) := memM_it (yC_i8_t ) (by decide)
theorem yC_i8_s {b : Nat} {σ : Sg} {v : Int32} : ms_i (memM b σ) (yC b) 8 v = memM b (sI σ 10 (4) v) := memM_si (yC_i8_t ) (by decide)
theorem yC_i9_t {b : Nat} : itM b (yC b) 9 = (10, 5) := by
  show itM b (b + 7) 9 = (10, 5)
  unfold itM
  (repeat (first | rw [if_pos (by omega)] | rw [if_neg (by omega)]))
theorem yC_i9 {b : Nat} {σ : Sg} : mm_i (memM b σ) (yC b) 9 = σ.1 10 (5) := memM_it (yC_i9_t ) (by decide)
theorem yC_i9_s {b : Nat} {σ : Sg} {v : Int32} : ms_i (memM b σ) (yC b) 9 v = memM b (sI σ 10 (5) v) := memM_si (yC_i9_t ) (by decide)
theorem yM_k {b : Nat} {σ : Sg} : (memM b σ).1 (yM b) = 9 := by
  show kdM b (b + 8) = 9
  unfold kdM
  (repeat (first | rw [if_pos (by omega)] | rw [if_neg (by omega)]))
theorem yM_n {b : Nat} {σ : Sg} : mm_N (memM b σ) (yM b) = 16 := by
  show lnM b (b + 8) = 16
  unfold lnM
  (repeat (first | rw [if_pos (by omega)] | rw [if_neg (by omega)]))
theorem yM_m0_t {b k : Nat} (hk : k < 5) : itM b (yM b) (3 * k) = (7, k) := by
  show itM b (b + 8) (3 * k) = (7, k)
  unfold itM
  (repeat (first | rw [if_pos (by omega)] | rw [if_neg (by omega)]))
  exact Prod.ext rfl (by show (3 * k) / 3 = k; omega)
theorem yM_m0 {b k : Nat} {σ : Sg} (hk : k < 5) : mm_i (memM b σ) (yM b) (3 * k) = σ.1 7 k := memM_it (yM_m0_t hk) (by decide)
theorem yM_m0_s {b k : Nat} {σ : Sg} {v : Int32} (hk : k < 5) : ms_i (memM b σ) (yM b) (3 * k) v = memM b (sI σ 7 k v) := memM_si (yM_m0_t hk) (by decide)
theorem yM_m1_t {b k : Nat} (hk : k < 5) : itM b (yM b) (3 * k + 1) = (8, k) := by
  show itM b (b + 8) (3 * k + 1) = (8, k)
  unfold itM
  (repeat (first | rw [if_pos (by omega)] | rw [if_neg (by omega)]))
  exact Prod.ext rfl (by show (3 * k + 1) / 3 = k; omega)
theorem yM_m1 {b k : Nat} {σ : Sg} (hk : k < 5) : mm_i (memM b σ) (yM b) (3 * k + 1) = σ.1 8 k := memM_it (yM_m1_t hk) (by decide)
theorem yM_m1_s {b k : Nat} {σ : Sg} {v : Int32} (hk : k < 5) : ms_i (memM b σ) (yM b) (3 * k + 1) v = memM b (sI σ 8 k v) := memM_si (yM_m1_t hk) (by decide)
theorem yM_m2_t {b k : Nat} (hk : k < 5) : itM b (yM b) (3 * k + 2) = (9, k) := by
  show itM b (b + 8) (3 * k + 2) = (9, k)
  unfold itM
  (repeat (first | rw [if_pos (by omega)] | rw [if_neg (by omega)]))
  exact Prod.ext rfl (by show (3 * k + 2) / 3 = k; omega)
theorem yM_m2 {b k : Nat} {σ : Sg} (hk : k < 5) : mm_i (memM b σ) (yM b) (3 * k + 2) = σ.1 9 k := memM_it (yM_m2_t hk) (by decide)
theorem yM_m2_s {b k : Nat} {σ : Sg} {v : Int32} (hk : k < 5) : ms_i (memM b σ) (yM b) (3 * k + 2) v = memM b (sI σ 9 k v) := memM_si (yM_m2_t hk) (by decide)
theorem C_no20 {b i : Nat} {σ : Sg} {v : Int32} : memC b (sI σ 20 i v) = memC b σ := memC_no (fun q k h => by have := itC_code b q k; rw [h] at this; simp at this)
theorem C_no21 {b i : Nat} {σ : Sg} {v : Int32} : memC b (sI σ 21 i v) = memC b σ := memC_no (fun q k h => by have := itC_code b q k; rw [h] at this; simp at this)
theorem C_no22 {b i : Nat} {σ : Sg} {v : Int32} : memC b (sI σ 22 i v) = memC b σ := memC_no (fun q k h => by have := itC_code b q k; rw [h] at this; simp at this)
theorem M_no11 {b i : Nat} {σ : Sg} {v : Int32} : memM b (sI σ 11 i v) = memM b σ := memM_no (fun q k h => by have := itM_code b q k; rw [h] at this; simp at this)
theorem M_no12 {b i : Nat} {σ : Sg} {v : Int32} : memM b (sI σ 12 i v) = memM b σ := memM_no (fun q k h => by have := itM_code b q k; rw [h] at this; simp at this)
theorem M_no13 {b i : Nat} {σ : Sg} {v : Int32} : memM b (sI σ 13 i v) = memM b σ := memM_no (fun q k h => by have := itM_code b q k; rw [h] at this; simp at this)
theorem M_no14 {b i : Nat} {σ : Sg} {v : Int32} : memM b (sI σ 14 i v) = memM b σ := memM_no (fun q k h => by have := itM_code b q k; rw [h] at this; simp at this)
theorem M_no15 {b i : Nat} {σ : Sg} {v : Int32} : memM b (sI σ 15 i v) = memM b σ := memM_no (fun q k h => by have := itM_code b q k; rw [h] at this; simp at this)
theorem M_no16 {b i : Nat} {σ : Sg} {v : Int32} : memM b (sI σ 16 i v) = memM b σ := memM_no (fun q k h => by have := itM_code b q k; rw [h] at this; simp at this)
theorem M_no17 {b i : Nat} {σ : Sg} {v : Int32} : memM b (sI σ 17 i v) = memM b σ := memM_no (fun q k h => by have := itM_code b q k; rw [h] at this; simp at this)
theorem M_no18 {b i : Nat} {σ : Sg} {v : Int32} : memM b (sI σ 18 i v) = memM b σ := memM_no (fun q k h => by have := itM_code b q k; rw [h] at this; simp at this)
theorem M_no19 {b i : Nat} {σ : Sg} {v : Int32} : memM b (sI σ 19 i v) = memM b σ := memM_no (fun q k h => by have := itM_code b q k; rw [h] at this; simp at this)
theorem M_no20 {b i : Nat} {σ : Sg} {v : Int32} : memM b (sI σ 20 i v) = memM b σ := memM_no (fun q k h => by have := itM_code b q k; rw [h] at this; simp at this)
theorem M_no21 {b i : Nat} {σ : Sg} {v : Int32} : memM b (sI σ 21 i v) = memM b σ := memM_no (fun q k h => by have := itM_code b q k; rw [h] at this; simp at this)
theorem M_no22 {b i : Nat} {σ : Sg} {v : Int32} : memM b (sI σ 22 i v) = memM b σ := memM_no (fun q k h => by have := itM_code b q k; rw [h] at this; simp at this)
theorem M_nl0 {b : Nat} {σ : Sg} {v : Int64} : memM b (sL σ 0 v) = memM b σ := memM_nl (fun q k h => by have := lgM_code b q k; rw [h] at this; simp at this)
theorem M_nl1 {b : Nat} {σ : Sg} {v : Int64} : memM b (sL σ 1 v) = memM b σ := memM_nl (fun q k h => by have := lgM_code b q k; rw [h] at this; simp at this)
theorem M_nl2 {b : Nat} {σ : Sg} {v : Int64} : memM b (sL σ 2 v) = memM b σ := memM_nl (fun q k h => by have := lgM_code b q k; rw [h] at this; simp at this)
theorem M_nl3 {b : Nat} {σ : Sg} {v : Int64} : memM b (sL σ 3 v) = memM b σ := memM_nl (fun q k h => by have := lgM_code b q k; rw [h] at this; simp at this)
theorem M_nl4 {b : Nat} {σ : Sg} {v : Int64} : memM b (sL σ 4 v) = memM b σ := memM_nl (fun q k h => by have := lgM_code b q k; rw [h] at this; simp at this)
theorem M_nl5 {b : Nat} {σ : Sg} {v : Int64} : memM b (sL σ 5 v) = memM b σ := memM_nl (fun q k h => by have := lgM_code b q k; rw [h] at this; simp at this)
