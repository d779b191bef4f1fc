/-! ===== PURE: the law's loop over one state ===== -/
theorem kdC_in {b q : Nat} (h : kdC b q < 16) : (b ≤ q ∧ q < b + 177) ∨ q = b + 194 := by
  unfold kdC at h
  by_cases h1 : (b ≤ q ∧ q < b + 177) ∨ q = b + 194
  · exact h1
  · exfalso
    rw [if_neg (by omega), if_neg (by omega), if_neg (by omega), if_neg (by omega), if_neg (by omega), if_neg (by omega), if_neg (by omega), if_neg (by omega), if_neg (by omega), if_neg (by omega), if_neg (by omega), if_neg (by omega), if_neg (by omega), if_neg (by omega), if_neg (by omega), if_neg (by omega), if_neg (by omega)] at h
    exact absurd h (by decide)
theorem kdM_in {b q : Nat} (h : kdM b q < 16) : b ≤ q ∧ q < b + 17 := by
  unfold kdM at h
  by_cases h1 : b ≤ q ∧ q < b + 17
  · exact h1
  · exfalso
    rw [if_neg (by omega), if_neg (by omega), if_neg (by omega), if_neg (by omega), if_neg (by omega), if_neg (by omega), if_neg (by omega), if_neg (by omega), if_neg (by omega), if_neg (by omega), if_neg (by omega), if_neg (by omega), if_neg (by omega), if_neg (by omega), if_neg (by omega), if_neg (by omega), if_neg (by omega)] at h
    exact absurd h (by decide)
theorem I2_ap {b : Nat} (M1 M2 N1 N2 : Mem) (h : I2 b M1 M2) (h' : I2 b N1 N2) : ∀ q, N1.1 q < 16 → ¬ M2.1 q < 16 := by
  obtain ⟨σ, -, rfl, -⟩ := h
  obtain ⟨τ, rfl, -, -⟩ := h'
  intro q h1 h2
  have a1 := kdC_in (b := b) (q := q) h1
  have a2 := kdM_in (b := b + 177) (q := q) h2
  omega
theorem I2_K {b : Nat} : LwK (I2 b) b (b + 177) (xO b) := by
  intro M1 M2 h
  refine ⟨?_, ?_, ?_, ?_, fun q h2 h1 => I2_ap M1 M2 M1 M2 h h q h1 h2⟩
  · obtain ⟨σ, rfl, rfl, -⟩ := h; exact xB_k
  · obtain ⟨σ, rfl, rfl, -⟩ := h; exact yB_k
  · obtain ⟨σ, rfl, rfl, -⟩ := h; exact xO_k
  · obtain ⟨σ, rfl, rfl, -⟩ := h; exact xO_n
theorem whole_loop {p : Program} {l : Launch} {e : Env} {s : State} {m : MethodId} {below : List Frame} {meth : Method} {c : Code} {D : va_G} {ca : Nat → ClassId} {b L : Nat} {xs : Nat → Int32} (hlt : l.stackTraces = false) (hL : L ≤ 2560) (C0 : lw_At p s m meth c b L xs) (hC : Cx cL_law 8 yL_law D ca s.heap.size (fun q => s.heap.size ≤ q) p s m #[Value.ref b] meth c) {x : Nat} :
    ∀ (n i : Nat) (x4 : Int32) (nc ns : Nat) (M1 M2 : Mem) (H : Heap) (locs : List Loc), i ≤ L → L + 1 ≤ i + n → x4 = nI i → nc + n * 6 ≤ 601024 → ns + n * 36 ≤ 7293034 → I2 x M1 M2 → Wr D ca false (fun q => s.heap.size ≤ q) M1 H → Wr D ca false (fun q => s.heap.size ≤ q) M2 H → va_S (fun q => s.heap.size ≤ q) s.heap H locs → ∀ ls : Array Slot, lv_has ls 8 [(0, .ref b), (1, .ref x), (2, .ref (x + 177)), (3, .ref (xO x)), (4, .int x4)] → W p l e room_1 s m #[Value.ref b] below meth c H locs nc ns (lw_Z below #[Value.ref b] s) (F0 m 23 ls []) :=
  law_loop hlt hL C0 hC I2_K I2_ap op_grain op_moon op_flatness op_bounds op_tick op_frame op_claim op_now op_told op_angle op_speed op_count op_mass op_sum op_momentum op_momentumByLanes op_resonance op_gap op_gaps op_framed op_holds op_disputes
