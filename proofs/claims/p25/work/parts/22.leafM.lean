/-! ===== PURE: what the reference's small methods make of the state ===== -/
theorem ab_n (x : Int32) : ab_ x = if 0 ≤ x then x else -x := by
  unfold ab_
  split
  · rfl
  · exact Int32.zero_sub x
theorem apt_le (x : Int32) {y : Int32} : (if x ≤ y then x else y) = if y < x then y else x := by
  by_cases h : x ≤ y
  · rw [if_pos h, if_neg (by rw [Int32.le_iff_toInt_le] at h; rw [Int32.lt_iff_toInt_lt]; omega)]
  · rw [if_neg h, if_pos (by rw [Int32.le_iff_toInt_le] at h; rw [Int32.lt_iff_toInt_lt]; omega)]
