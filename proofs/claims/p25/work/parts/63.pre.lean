/-! ===== PURE: marks away ahead of the pushes, or behind them ===== -/
theorem memM_congr6 {b : Nat} {σ τ : Sg} (h : ∀ c k, c ≤ 9 → c ≠ 6 → σ.1 c k = τ.1 c k) (h6 : ∀ k, k < 64 → σ.1 6 k = τ.1 6 k) (h10 : ∀ k, 2 ≤ k → k ≤ 10 → σ.1 10 k = τ.1 10 k) : memM b σ = memM b τ := by
  have e : memM b σ = memM b (fun c k => if c = 6 ∧ 64 ≤ k then σ.1 c k else τ.1 c k, τ.2) := memM_congr (fun c k hc => by
    show _ = if c = 6 ∧ 64 ≤ k then σ.1 c k else τ.1 c k
    by_cases hc6 : c = 6
    · subst hc6
      by_cases hk : 64 ≤ k
      · rw [if_pos ⟨rfl, hk⟩]
      · rw [if_neg (fun q => hk q.2)]; exact h6 k (by omega)
    · rw [if_neg (fun q => hc6 q.1)]; exact h c k hc hc6) (fun k h1 h2 => by
    show _ = if 10 = 6 ∧ 64 ≤ k then σ.1 10 k else τ.1 10 k
    rw [if_neg (by omega)]; exact h10 k h1 h2)
  rw [e]
  refine Prod.ext rfl (Prod.ext rfl (Prod.ext (funext fun a => funext fun j => ?_) (Prod.ext rfl rfl)))
  show (if (itM b a j).1 = 99 then 0 else if (itM b a j).1 = 6 ∧ 64 ≤ (itM b a j).2 then σ.1 (itM b a j).1 (itM b a j).2 else τ.1 (itM b a j).1 (itM b a j).2) = (if (itM b a j).1 = 99 then 0 else τ.1 (itM b a j).1 (itM b a j).2)
  by_cases h9 : (itM b a j).1 = 6 ∧ 64 ≤ (itM b a j).2
  · exfalso
    have h7 : ¬ ((itM b a j).1 = 6 ∧ 64 ≤ (itM b a j).2) := by
      unfold itM
      grind (splits := 80)
    exact h7 h9
  · rw [if_neg h9]
theorem r6_sI {σ : Sg} {m c i : Nat} {v : Int32} (h : c ≠ 6) : sI (tR6 σ m) c i v = tR6 (sI σ c i v) m := by
  refine Sg_ext (fun a k => ?_) (fun _ => rfl)
  simp only [sI_1, tR6]
  grind
theorem r6_sL {σ : Sg} {m j : Nat} {v : Int64} : sL (tR6 σ m) j v = tR6 (sL σ j v) m := rfl
theorem r6_1 {σ : Sg} {m c k : Nat} (h : c ≠ 6) : (tR6 σ m).1 c k = σ.1 c k := tR6_c h
theorem r6_2 {σ : Sg} {m j : Nat} : (tR6 σ m).2 j = σ.2 j := rfl
theorem r6_go {σ : Sg} {m i : Nat} {v : Int32} : tGo (tR6 σ m) i v = tR6 (tGo σ i v) m := by
  unfold tGo
  rw [r6_1 (c := 10) (by decide), r6_1 (c := 10) (by decide), r6_1 (c := 10) (by decide), r6_1 (c := 10) (by decide), r6_1 (c := 2) (by decide), r6_2, r6_2]
  rw [r6_sI (c := 0) (by decide), r6_sI (c := 5) (by decide), r6_sI (c := 10) (by decide), r6_sI (c := 10) (by decide), r6_sI (c := 10) (by decide), r6_sI (c := 10) (by decide), r6_sL, r6_sL]
  split
  · split <;> rfl
  · rfl
theorem r6_car {σ : Sg} {m i : Nat} : car (tR6 σ m) i = car σ i := by
  unfold car
  rw [r6_1 (c := 2) (by decide), r6_1 (c := 0) (by decide)]
theorem r6_puE {σ : Sg} {m i : Nat} {m0 : Int64} : tPuE (tR6 σ m) i m0 = tR6 (tPuE σ i m0) m := by
  unfold tPuE
  rw [r6_car, r6_1 (c := 3) (by decide), r6_2, r6_sI (c := 3) (by decide), r6_sL]
theorem r6_nr {σ : Sg} {m i : Nat} {x a w k : Int32} : nrS (tR6 σ m) i x a w k = nrS σ i x a w k := by
  unfold nrS
  rw [r6_1 (c := 0) (by decide), r6_1 (c := 1) (by decide)]
theorem r6_push {σ : Sg} {m j i : Nat} : tPush (tR6 σ m) j i = tR6 (tPush σ j i) m := by
  unfold tPush
  rw [r6_nr, r6_car, r6_go, r6_puE, r6_1 (c := 5) (by decide), r6_1 (c := 7) (by decide), r6_1 (c := 8) (by decide), r6_1 (c := 9) (by decide), r6_1 (c := 0) (by decide)]
  split
  · rfl
  split
  · rfl
  · rfl
theorem r6_pushN {σ : Sg} {m j : Nat} : ∀ k, tPushN (tR6 σ m) j k = tR6 (tPushN σ j k) m := by
  intro k
  induction k with
  | zero => rfl
  | succ k ih => rw [tPushN, ih, r6_push]; rfl
theorem r6_pa {σ : Sg} {m : Nat} : ∀ j, tPA (tR6 σ m) j = tR6 (tPA σ j) m := by
  intro j
  induction j with
  | zero => rfl
  | succ j ih => rw [tPA, ih, r6_pushN]; rfl
theorem pre_eq {σ : Sg} {nn mm : Nat} : tPA (tR6 (tMv σ nn mm) 80) mm = tPre σ nn mm := r6_pa mm
/-- no marks behind the grains -/
def Mk (nn : Nat) (σ : Sg) : Prop := ∀ k, nn ≤ k → k < 80 → σ.1 6 k = 0
theorem memM_80 {d nn mm : Nat} {σ : Sg} (h : Mk nn σ) : memM d (tR6 (tMv σ nn mm) nn) = memM d (tR6 (tMv σ nn mm) 80) := by
  show _ = _
  have e : ∀ k, k < 64 → (tR6 (tMv σ nn mm) nn).1 6 k = (tR6 (tMv σ nn mm) 80).1 6 k := fun k hk => by
    have h2 : (tR6 (tMv σ nn mm) 80).1 6 k = 0 := if_pos ⟨rfl, by omega⟩
    rw [h2]
    by_cases hl : k < nn
    · exact if_pos ⟨rfl, hl⟩
    · show (if 6 = 6 ∧ k < nn then (0 : Int32) else (tMv σ nn mm).1 6 k) = 0
      rw [if_neg (fun q => hl q.2), tMv_c (by decide)]
      exact h k (by omega) (by omega)
  exact memM_congr6 (fun c k hc h6 => by rw [tR6_c h6, tR6_c h6]) e (fun k _ _ => by rw [tR6_c (by decide), tR6_c (by decide)])
/-! the marks are 0 or 1 -/
def M01 (σ : Sg) : Prop := ∀ k, k < 80 → σ.1 6 k = 0 ∨ σ.1 6 k = 1
