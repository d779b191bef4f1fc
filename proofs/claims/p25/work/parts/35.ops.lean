/-! ===== PURE: the invariant of a run, and the frame of an operation ===== -/
def InvF (ff cc : Nat) (σ : Sg) : Prop := σ.1 10 15 = nI ff ∧ ff ≤ 20 ∧ σ.1 10 16 = nI cc ∧ cc ≤ 40 ∧ ∀ k, k < cc → (∃ f, f < ff ∧ σ.1 13 k = nI f) ∧ lnOk (σ.1 14 k) ∧ lnOk (σ.1 15 k)
def Inv (σ : Sg) : Prop := ∃ nn mm ff cc, InvG nn σ ∧ InvM mm σ ∧ InvF ff cc σ ∧ InvD σ
theorem InvF.sk {ff cc : Nat} {σ τ : Sg} (h : InvF ff cc σ) (h2 : Sk σ τ) : InvF ff cc τ := by
  obtain ⟨a1, a2, a3, a4, a5⟩ := h
  obtain ⟨b1, -⟩ := h2
  refine ⟨(b1 10 15 (by omega)).trans a1, a2, (b1 10 16 (by omega)).trans a3, a4, fun j hj => ?_⟩
  rw [b1 13 j (by omega), b1 14 j (by omega), b1 15 j (by omega)]
  exact a5 j hj
/-- what questions may write -/
def Qs (σ τ : Sg) : Prop := (∀ c k, c ≠ 17 ∧ c ≠ 18 ∧ c ≠ 19 ∧ c ≠ 21 → τ.1 c k = σ.1 c k) ∧ ∀ j, j ≠ 5 → τ.2 j = σ.2 j
theorem Qs.rfl' (σ : Sg) : Qs σ σ := ⟨fun _ _ _ => rfl, fun _ _ => rfl⟩
theorem Qs.trans {σ τ υ : Sg} (h : Qs σ τ) (h2 : Qs τ υ) : Qs σ υ := ⟨fun c k hc => (h2.1 c k hc).trans (h.1 c k hc), fun j hj => (h2.2 j hj).trans (h.2 j hj)⟩
theorem Qs.sI {σ : Sg} {c k : Nat} {v : Int32} (hc : c = 17 ∨ c = 18 ∨ c = 19 ∨ c = 21) : Qs σ (sI σ c k v) := by
  refine ⟨fun a j ha => ?_, fun _ _ => rfl⟩
  rw [sI_1, if_neg (fun e => by omega)]
theorem Qs.sL {σ : Sg} {v : Int64} : Qs σ (sL σ 5 v) := ⟨fun _ _ _ => rfl, fun j hj => by rw [sL_2, if_neg hj]⟩
theorem InvG.qs {nn : Nat} {σ τ : Sg} (h : InvG nn σ) (q : Qs σ τ) : InvG nn τ := by
  refine h.same (fun k hk => ?_) ?_ ⟨q.2 3 (by decide), q.2 4 (by decide)⟩
  · exact ⟨q.1 _ _ (by decide), q.1 _ _ (by decide), q.1 _ _ (by decide), q.1 _ _ (by decide)⟩
  · exact ⟨q.1 _ _ (by decide), q.1 _ _ (by decide), q.1 _ _ (by decide), q.1 _ _ (by decide)⟩
theorem InvM.qs {mm : Nat} {σ τ : Sg} (h : InvM mm σ) (q : Qs σ τ) : InvM mm τ := by
  obtain ⟨a1, a2, a3⟩ := h
  refine ⟨(q.1 10 1 (by decide)).trans a1, a2, fun j hj => ?_⟩
  rw [q.1 7 j (by decide), q.1 9 j (by decide), q.1 20 j (by decide)]
  exact a3 j hj
theorem InvF.qs {ff cc : Nat} {σ τ : Sg} (h : InvF ff cc σ) (q : Qs σ τ) : InvF ff cc τ := by
  obtain ⟨a1, a2, a3, a4, a5⟩ := h
  refine ⟨(q.1 10 15 (by decide)).trans a1, a2, (q.1 10 16 (by decide)).trans a3, a4, fun j hj => ?_⟩
  rw [q.1 13 j (by decide), q.1 14 j (by decide), q.1 15 j (by decide)]
  exact a5 j hj
theorem Inv.qs {σ τ : Sg} (h : Inv σ) (q : Qs σ τ) : Inv τ := by
  obtain ⟨nn, mm, ff, cc, h1, h2, h3, h4⟩ := h
  exact ⟨nn, mm, ff, cc, h1.qs q, h2.qs q, h3.qs q, h4.same (q.1 _ _ (by decide)) (fun k _ _ => q.1 _ _ (by decide))⟩
/-! ranges -/
abbrev OKr (lo v hi : Int32) : Prop := ¬ v < lo ∧ v ≤ hi
theorem rR_t {lo v hi : Int32} {M : Mem} (h : OKr lo v hi) : f_X7_requireRange v lo hi M = some (M, .inl ()) := by
  unfold f_X7_requireRange
  rw [if_neg h.1, if_pos h.2]
theorem rR_f {lo v hi : Int32} {M : Mem} (h : ¬ OKr lo v hi) : f_X7_requireRange v lo hi M = some (M, .inr 0) := by
  unfold f_X7_requireRange f_X7_requireRange_b10
  by_cases h1 : v < lo
  · rw [if_pos h1]
  · rw [if_neg h1, if_neg (fun q => h ⟨h1, q⟩)]
theorem rL_t {v : Int32} {M : Mem} (h : OKr 0 v 63) : f_X7_requireLane v M = some (M, .inl ()) := by
  unfold f_X7_requireLane
  rw [rR_t h]; rfl
theorem rL_f {v : Int32} {M : Mem} (h : ¬ OKr 0 v 63) : f_X7_requireLane v M = some (M, .inr 0) := by
  unfold f_X7_requireLane
  rw [rR_f h]; rfl
theorem ln_of {v : Int32} (h : OKr 0 v 63) : lnOk v := by
  obtain ⟨h1, h2⟩ := h
  rw [Int32.lt_iff_toInt_lt] at h1
  rw [Int32.le_iff_toInt_le] at h2
  have e0 : (0 : Int32).toInt = 0 := rfl
  have e63 : (63 : Int32).toInt = 63 := rfl
  exact lnOk_iff.mpr (by omega)
/-- a number below a count -/
theorem nIt : ∀ m : Nat, m ≤ 80 → (nI m).toInt = m ∧ (nI m - 1).toInt = (m : Int) - 1 := by decide +kernel
theorem num_of {v : Int32} {n : Nat} (hn : n ≤ 80) (h : OKr 0 v (nI n - 1)) : ∃ i, i < n ∧ v = nI i := by
  obtain ⟨h1, h2⟩ := h
  rw [Int32.lt_iff_toInt_lt] at h1
  rw [Int32.le_iff_toInt_le, (nIt n hn).2] at h2
  have e0 : (0 : Int32).toInt = 0 := rfl
  refine ⟨v.toInt.toNat, by omega, ?_⟩
  apply Int32.toInt_inj.mp
  rw [(nIt _ (by omega)).1]
  omega
theorem rN_t {v : Int32} {n : Nat} {M : Mem} (hn : n ≤ 80) (h : OKr 0 v (nI n - 1)) : f_X7_requireNumber v (nI n) M = some (M, .inl ()) := by
  obtain ⟨i, hi, rfl⟩ := num_of hn h
  unfold f_X7_requireNumber
  rw [if_neg h.1, if_pos (nI_lt hi (by omega))]
theorem rN_f {v : Int32} {n : Nat} {M : Mem} (hn : n ≤ 80) (h : ¬ OKr 0 v (nI n - 1)) : f_X7_requireNumber v (nI n) M = some (M, .inr 2) := by
  unfold f_X7_requireNumber f_X7_requireNumber_b9
  by_cases h1 : v < 0
  · rw [if_pos h1]
  · rw [if_neg h1, if_neg (fun q => h ⟨h1, ?_⟩)]
    rw [Int32.lt_iff_toInt_lt, (nIt n hn).1] at q
    rw [Int32.le_iff_toInt_le, (nIt n hn).2]
    omega
theorem bx_l {β γ : Type} (M : Mem) (v : β) (F : Mem → β → Option (Mem × (γ ⊕ Nat))) : bx (some (M, .inl v)) F = F M v := rfl
theorem bx_r {β γ : Type} (M : Mem) (e : Nat) (F : Mem → β → Option (Mem × (γ ⊕ Nat))) : bx (some (M, .inr e)) F = some (M, .inr e) := rfl
theorem c21 {σ : Sg} {c i : Nat} {k : Int32} (h : c ≠ 21) : (sI σ 21 0 k).1 c i = σ.1 c i := by rw [sI_1, if_neg (fun q => h q.1)]
/-! flatness, bounds, now -/
theorem Inv.scal {σ : Sg} {k : Nat} {v : Int32} (h : Inv σ) (hk : k = 2 ∨ k = 3 ∨ k = 4 ∨ k = 5) : Inv (sI σ 10 k v) := by
  obtain ⟨nn, mm, ff, cc, h1, h2, h3, h4⟩ := h
  have r : ∀ j, j ≠ k → (sI σ 10 k v).1 10 j = σ.1 10 j := fun j hj => by rw [sI_1, if_neg (fun q => hj q.2)]
  have r2 : ∀ c j, c ≠ 10 → (sI σ 10 k v).1 c j = σ.1 c j := fun c j hc => by rw [sI_1, if_neg (fun q => hc q.1)]
  refine ⟨nn, mm, ff, cc, h1.same (fun j hj => ⟨r2 _ _ (by decide), r2 _ _ (by decide), r2 _ _ (by decide), r2 _ _ (by decide)⟩) ⟨r _ (by omega), r _ (by omega), r _ (by omega), r _ (by omega)⟩ ⟨rfl, rfl⟩, ?_, ?_, h4.same (r _ (by omega)) (fun j _ _ => r2 _ _ (by decide))⟩
  · obtain ⟨a1, a2, a3⟩ := h2
    refine ⟨(r 1 (by omega)).trans a1, a2, fun j hj => ?_⟩
    rw [r2 7 j (by decide), r2 9 j (by decide), r2 20 j (by decide)]
    exact a3 j hj
  · obtain ⟨a1, a2, a3, a4, a5⟩ := h3
    refine ⟨(r 15 (by omega)).trans a1, a2, (r 16 (by omega)).trans a3, a4, fun j hj => ?_⟩
    rw [r2 13 j (by decide), r2 14 j (by decide), r2 15 j (by decide)]
    exact a5 j hj
theorem z_le0 : ((0 : Int32) ≤ 0) = True := eq_true (by decide)
theorem z_le1 : ((1 : Int32) ≤ 0) = False := eq_false (by decide)
theorem z_le2 : ((2 : Int32) ≤ 0) = False := eq_false (by decide)
theorem z_le3 : ((3 : Int32) ≤ 0) = False := eq_false (by decide)
theorem z_10 : ((1 : Int32) = 0) = False := eq_false (by decide)
theorem z_20 : ((2 : Int32) = 0) = False := eq_false (by decide)
theorem z_30 : ((3 : Int32) = 0) = False := eq_false (by decide)
