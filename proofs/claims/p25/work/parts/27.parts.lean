/-! ===== PURE: .. the reference's bump ===== -/
/-- unrest first, then the two go (any order: they are two) -/
def tPar (σ : Sg) (i j : Nat) : Sg := sI (sI σ 3 i (σ.1 3 i * σ.1 10 5 / (100 : Int32))) 3 j (σ.1 3 j * σ.1 10 5 / (100 : Int32))
theorem nI_inj {a b : Nat} (ha : a < 80) (hb : b < 80) : (nI a = nI b) = (a = b) := propext (nI_eq (by omega) (by omega))
theorem tGo_un {σ : Sg} {i k : Nat} {v x : Int32} : tGo (sI σ 3 k x) i v = sI (tGo σ i v) 3 k x := tGo_sI (Or.inl (by decide))
theorem lt_nle {x y : Int32} : (x ≤ y) = ¬ y < x := by
  rw [Int32.le_iff_toInt_le, Int32.lt_iff_toInt_lt]
  exact propext ⟨fun h => by omega, fun h => by omega⟩
