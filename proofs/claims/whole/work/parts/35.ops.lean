/-! ===== PURE: the invariant of a run, and the frame of an operation ===== -/
def InvF (ff cc : Nat) (σ : Sg) : Prop := σ.1 10 15 = nI ff ∧ ff ≤ 20 ∧ σ.1 10 16 = nI cc ∧ cc ≤ 40 ∧ ∀ k, k < cc → (∃ f, f < ff ∧ σ.1 13 k = nI f) ∧ lnOk (σ.1 14 k) ∧ lnOk (σ.1 15 k)
def Inv (σ : Sg) : Prop := ∃ nn mm ff cc, InvG nn σ ∧ InvM mm σ ∧ InvF ff cc σ ∧ InvD σ
theorem InvF.sk {ff cc : Nat} {σ τ : Sg} (h : InvF ff cc σ) (h2 : Sk σ τ) : InvF ff cc τ := by
  obtain ⟨a1, a2, a3, a4, a5⟩ := h
  obtain ⟨b1, -⟩ := h2
  refine ⟨(b1 10 15 (by omega)).trans a1, a2, (b1 10 16 (by omega)).trans a3, a4, fun j hj => ?_⟩
  rw [b1 13 j (by omega), b1 14 j (by omega), b1 15 j (by omega)]
  exact a5 j hj
/-- what questions may write -/
def Qs (σ τ : Sg) : Prop := (∀ c k, c ≠ 17 ∧ c ≠ 18 ∧ c ≠ 19 ∧ c ≠ 21 → τ.1 c k = σ.1 c k) ∧ ∀ j, j ≠ 5 → τ.2 j = σ.2 j
theorem Qs.rfl' (σ : Sg) : Qs σ σ := ⟨fun _ _ _ => rfl, fun _ _ => rfl⟩
theorem Qs.trans {σ τ υ : Sg} (h : Qs σ τ) (h2 : Qs τ υ) : Qs σ υ := ⟨fun c k hc => (h2.1 c k hc).trans (h.1 c k hc), fun j hj => (h2.2 j hj).trans (h.2 j hj)⟩
theorem Qs.sI {σ : Sg} {c k : Nat} {v : Int32} (hc : c = 17 ∨ c = 18 ∨ c = 19 ∨ c = 21) : Qs σ (sI σ c k v) := by
  refine ⟨fun a j ha => ?_, fun _ _ => rfl⟩
  rw [sI_1, if_neg (fun e => by omega)]
theorem Qs.sL {σ : Sg} {v : Int64} : Qs σ (sL σ 5 v) := ⟨fun _ _ _ => rfl, fun j hj => by rw [sL_2, if_neg hj]⟩
theorem InvG.qs {nn : Nat} {σ τ : Sg} (h : InvG nn σ) (q : Qs σ τ) : InvG nn τ := by
  refine h.same (fun k hk => ?_) ?_ ⟨q.2 3 (by decide), q.2 4 (by decide)⟩
  · exact ⟨q.1 _ _ (by decide), q.1 _ _ (by decide), q.1 _ _ (by decide), q.1 _ _ (by decide)⟩
  · exact ⟨q.1 _ _ (by decide), q.1 _ _ (by decide), q.1 _ _ (by decide), q.1 _ _ (by decide)⟩
theorem InvM.qs {mm : Nat} {σ τ : Sg} (h : InvM mm σ) (q : Qs σ τ) : InvM mm τ := by
  obtain ⟨a1, a2, a3⟩ := h
  refine ⟨(q.1 10 1 (by decide)).trans a1, a2, fun j hj => ?_⟩
  rw [q.1 7 j (by decide), q.1 9 j (by decide), q.1 20 j (by decide)]
  exact a3 j hj
theorem InvF.qs {ff cc : Nat} {σ τ : Sg} (h : InvF ff cc σ) (q : Qs σ τ) : InvF ff cc τ := by
  obtain ⟨a1, a2, a3, a4, a5⟩ := h
  refine ⟨(q.1 10 15 (by decide)).trans a1, a2, (q.1 10 16 (by decide)).trans a3, a4, fun j hj => ?_⟩
  rw [q.1 13 j (by decide), q.1 14 j (by decide), q.1 15 j (by decide)]
  exact a5 j hj
theorem Inv.qs {σ τ : Sg} (h : Inv σ) (q : Qs σ τ) : Inv τ := by
  obtain ⟨nn, mm, ff, cc, h1, h2, h3, h4⟩ := h
  exact ⟨nn, mm, ff, cc, h1.qs q, h2.qs q, h3.qs q, h4.same (q.1 _ _ (by decide)) (fun k _ _ => q.1 _ _ (by decide))⟩
/-- both memories out of one state -/
def I2 (b : Nat) (M1 M2 : Mem) : Prop := ∃ σ, M1 = memC b σ ∧ M2 = memM (b + 177) σ ∧ Inv σ
/-- one of the law's wrappers -/
def wI (x o : Nat) (E : Mem → Nat → Option (Mem × Int32)) (g : Mem → Option (Mem × (Int32 ⊕ Nat))) (M : Mem) : Option (Mem × Int32) := gd (M.1 x = 7) <| bc (g M) (fun M1 x2 => gd (M1.1 o = 15 ∧ vi_ (0 : Int32) (mm_N M1 o)) <| lt_ (ms_l M1 o ((0 : Int32)).toNatClampNeg (x2).toInt64) fun M4 => some (M4, (0 : Int32))) E
theorem e_out {b : Nat} {σ : Sg} {v : Int64} {k : Int32} : (gd ((memC b σ).1 (xO b) = 15 ∧ vi_ (0 : Int32) (mm_N (memC b σ) (xO b))) <| lt_ (ms_l (memC b σ) (xO b) ((0 : Int32)).toNatClampNeg v) fun M4 => some (M4, k)) = some (memC b (sL σ 5 v), k) := by
  simp only [gd, lt_, xO_k, xO_n, vi_, tn_0, xO_lk_s (b := b) (σ := σ) (v := v) (show 0 < 1 by decide)]
  rw [if_pos ⟨trivial, by decide⟩]
theorem e_thrown {b : Nat} {σ : Sg} : f_X8_thrown b (memM b σ) = some (memM b σ, σ.1 21 0) := by
  simp only [f_X8_thrown, gd, yB_k, yB_i0, if_true]
def OkI (b : Nat) (σ : Sg) (g : Mem → Option (Mem × (Int32 ⊕ Nat))) (fM : Mem → Option (Mem × Int32)) : Prop := ∃ τ v, g (memC b (sI σ 21 0 0)) = some (memC b τ, .inl v) ∧ fM (memM (b + 177) σ) = some (memM (b + 177) τ, v) ∧ Inv τ ∧ τ.1 21 0 = 0
def NoI (b : Nat) (σ : Sg) (E : Mem → Nat → Option (Mem × Int32)) (g : Mem → Option (Mem × (Int32 ⊕ Nat))) (fM : Mem → Option (Mem × Int32)) : Prop := ∃ k e τ v, (∀ M, E M e = some (M, k)) ∧ k ≠ 0 ∧ g (memC b (sI σ 21 0 k)) = some (memC b τ, .inr e) ∧ fM (memM (b + 177) σ) = some (memM (b + 177) τ, v) ∧ Inv τ ∧ τ.1 21 0 = k
theorem OpI_mk {b : Nat} {E : Mem → Nat → Option (Mem × Int32)} {g : Mem → Option (Mem × (Int32 ⊕ Nat))} {fM : Mem → Option (Mem × Int32)} (H : ∀ σ, Inv σ → OkI b σ g fM ∨ NoI b σ E g fM) : OpI (I2 b) (xO b) (b + 177) (wI b (xO b) E g) fM := by
  rintro M1 M2 ⟨σ, rfl, rfl, hI⟩
  rcases H σ hI with ⟨τ, v, h1, h2, h3, h4⟩ | ⟨k, e, τ, v, h1, hk, h2, h3, h4, h5⟩
  · rw [C_no21] at h1
    refine ⟨memC b (sL τ 5 v.toInt64), 0, memM (b + 177) τ, v, ?_, h2, by rw [e_thrown, h4], fun _ => ?_, ⟨_, rfl, ?_, h3.qs Qs.sL⟩⟩
    · simp only [wI, gd, xB_k, if_true, h1, bc]
      exact e_out
    · rw [xO_lk (by decide), sL_2, if_pos rfl]
    · rw [M_nl5]
  · rw [C_no21] at h2
    refine ⟨memC b τ, k, memM (b + 177) τ, v, ?_, h3, by rw [e_thrown, h5], fun h => absurd h hk, ⟨_, rfl, rfl, h4⟩⟩
    simp only [wI, gd, xB_k, if_true, h2, bc, h1]
/-! ranges -/
abbrev OKr (lo v hi : Int32) : Prop := ¬ v < lo ∧ v ≤ hi
theorem rR_t {lo v hi : Int32} {M : Mem} (h : OKr lo v hi) : f_X7_requireRange v lo hi M = some (M, .inl ()) := by
  unfold f_X7_requireRange
  rw [if_neg h.1, if_pos h.2]
theorem rR_f {lo v hi : Int32} {M : Mem} (h : ¬ OKr lo v hi) : f_X7_requireRange v lo hi M = some (M, .inr 0) := by
  unfold f_X7_requireRange f_X7_requireRange_b10
  by_cases h1 : v < lo
  · rw [if_pos h1]
  · rw [if_neg h1, if_neg (fun q => h ⟨h1, q⟩)]
theorem iI_t {lo v hi : Int32} {M : Mem} (h : OKr lo v hi) : f_X8_isIn v lo hi M = some (M, 1) := by
  unfold f_X8_isIn f_X8_isIn_b15
  have h2 : ¬ hi < v := by
    have := h.2
    rw [Int32.le_iff_toInt_le] at this
    rw [Int32.lt_iff_toInt_lt]
    omega
  rw [if_neg h.1, if_neg h2]
  rfl
theorem iI_f {lo v hi : Int32} {M : Mem} (h : ¬ OKr lo v hi) : f_X8_isIn v lo hi M = some (M, 0) := by
  unfold f_X8_isIn f_X8_isIn_b14 f_X8_isIn_b15
  by_cases h1 : v < lo
  · rw [if_pos h1]; rfl
  · have h2 : hi < v := by
      have h3 : ¬ v ≤ hi := fun q => h ⟨h1, q⟩
      rw [Int32.le_iff_toInt_le] at h3
      rw [Int32.lt_iff_toInt_lt]
      omega
    rw [if_neg h1, if_pos h2]; rfl
theorem rL_t {v : Int32} {M : Mem} (h : OKr 0 v 63) : f_X7_requireLane v M = some (M, .inl ()) := by
  unfold f_X7_requireLane
  rw [rR_t h]; rfl
theorem rL_f {v : Int32} {M : Mem} (h : ¬ OKr 0 v 63) : f_X7_requireLane v M = some (M, .inr 0) := by
  unfold f_X7_requireLane
  rw [rR_f h]; rfl
theorem iL_t {v : Int32} {M : Mem} (h : OKr 0 v 63) : f_X8_isLane v M = some (M, 1) := by
  unfold f_X8_isLane
  rw [iI_t h]; rfl
theorem iL_f {v : Int32} {M : Mem} (h : ¬ OKr 0 v 63) : f_X8_isLane v M = some (M, 0) := by
  unfold f_X8_isLane
  rw [iI_f h]; rfl
theorem ln_of {v : Int32} (h : OKr 0 v 63) : lnOk v := by
  obtain ⟨h1, h2⟩ := h
  rw [Int32.lt_iff_toInt_lt] at h1
  rw [Int32.le_iff_toInt_le] at h2
  have e0 : (0 : Int32).toInt = 0 := rfl
  have e63 : (63 : Int32).toInt = 63 := rfl
  exact lnOk_iff.mpr (by omega)
/-- a number below a count -/
theorem nIt : ∀ m : Nat, m ≤ 80 → (nI m).toInt = m ∧ (nI m - 1).toInt = (m : Int) - 1 := by decide +kernel
theorem num_of {v : Int32} {n : Nat} (hn : n ≤ 80) (h : OKr 0 v (nI n - 1)) : ∃ i, i < n ∧ v = nI i := by
  obtain ⟨h1, h2⟩ := h
  rw [Int32.lt_iff_toInt_lt] at h1
  rw [Int32.le_iff_toInt_le, (nIt n hn).2] at h2
  have e0 : (0 : Int32).toInt = 0 := rfl
  refine ⟨v.toInt.toNat, by omega, ?_⟩
  apply Int32.toInt_inj.mp
  rw [(nIt _ (by omega)).1]
  omega
theorem rN_t {v : Int32} {n : Nat} {M : Mem} (hn : n ≤ 80) (h : OKr 0 v (nI n - 1)) : f_X7_requireNumber v (nI n) M = some (M, .inl ()) := by
  obtain ⟨i, hi, rfl⟩ := num_of hn h
  unfold f_X7_requireNumber
  rw [if_neg h.1, if_pos (nI_lt hi (by omega))]
theorem rN_f {v : Int32} {n : Nat} {M : Mem} (hn : n ≤ 80) (h : ¬ OKr 0 v (nI n - 1)) : f_X7_requireNumber v (nI n) M = some (M, .inr 2) := by
  unfold f_X7_requireNumber f_X7_requireNumber_b9
  by_cases h1 : v < 0
  · rw [if_pos h1]
  · rw [if_neg h1, if_neg (fun q => h ⟨h1, ?_⟩)]
    rw [Int32.lt_iff_toInt_lt, (nIt n hn).1] at q
    rw [Int32.le_iff_toInt_le, (nIt n hn).2]
    omega
theorem bx_l {β γ : Type} (M : Mem) (v : β) (F : Mem → β → Option (Mem × (γ ⊕ Nat))) : bx (some (M, .inl v)) F = F M v := rfl
theorem bx_r {β γ : Type} (M : Mem) (e : Nat) (F : Mem → β → Option (Mem × (γ ⊕ Nat))) : bx (some (M, .inr e)) F = some (M, .inr e) := rfl
theorem c21 {σ : Sg} {c i : Nat} {k : Int32} (h : c ≠ 21) : (sI σ 21 0 k).1 c i = σ.1 c i := by rw [sI_1, if_neg (fun q => h q.1)]
/-! flatness, bounds, now -/
theorem Inv.scal {σ : Sg} {k : Nat} {v : Int32} (h : Inv σ) (hk : k = 2 ∨ k = 3 ∨ k = 4 ∨ k = 5) : Inv (sI σ 10 k v) := by
  obtain ⟨nn, mm, ff, cc, h1, h2, h3, h4⟩ := h
  have r : ∀ j, j ≠ k → (sI σ 10 k v).1 10 j = σ.1 10 j := fun j hj => by rw [sI_1, if_neg (fun q => hj q.2)]
  have r2 : ∀ c j, c ≠ 10 → (sI σ 10 k v).1 c j = σ.1 c j := fun c j hc => by rw [sI_1, if_neg (fun q => hc q.1)]
  refine ⟨nn, mm, ff, cc, h1.same (fun j hj => ⟨r2 _ _ (by decide), r2 _ _ (by decide), r2 _ _ (by decide), r2 _ _ (by decide)⟩) ⟨r _ (by omega), r _ (by omega), r _ (by omega), r _ (by omega)⟩ ⟨rfl, rfl⟩, ?_, ?_, h4.same (r _ (by omega)) (fun j _ _ => r2 _ _ (by decide))⟩
  · obtain ⟨a1, a2, a3⟩ := h2
    refine ⟨(r 1 (by omega)).trans a1, a2, fun j hj => ?_⟩
    rw [r2 7 j (by decide), r2 9 j (by decide), r2 20 j (by decide)]
    exact a3 j hj
  · obtain ⟨a1, a2, a3, a4, a5⟩ := h3
    refine ⟨(r 15 (by omega)).trans a1, a2, (r 16 (by omega)).trans a3, a4, fun j hj => ?_⟩
    rw [r2 13 j (by decide), r2 14 j (by decide), r2 15 j (by decide)]
    exact a5 j hj
theorem z_le0 : ((0 : Int32) ≤ 0) = True := eq_true (by decide)
theorem z_le1 : ((1 : Int32) ≤ 0) = False := eq_false (by decide)
theorem z_le2 : ((2 : Int32) ≤ 0) = False := eq_false (by decide)
theorem z_le3 : ((3 : Int32) ≤ 0) = False := eq_false (by decide)
theorem z_10 : ((1 : Int32) = 0) = False := eq_false (by decide)
theorem z_20 : ((2 : Int32) = 0) = False := eq_false (by decide)
theorem z_30 : ((3 : Int32) = 0) = False := eq_false (by decide)
theorem op_flatness {b : Nat} (p0 : Int32) : OpI (I2 b) (xO b) (b + 177) (f_L_flatness b p0 (xO b)) (f_X8_flatness (b + 177) p0) := by
  refine OpI_mk (E := _) (g := f_X7_flatness b p0) (fun σ hI => ?_)
  by_cases h : OKr 0 p0 1000
  · refine Or.inl ⟨sI (sI σ 21 0 0) 10 2 p0, (sI σ 21 0 0).1 10 2, ?_, ?_, (hI.qs (Qs.sI (by omega))).scal (by omega), by simp only [sI_1, sI_2, sL_1, sL_2, false_and, and_false, Nat.reduceEqDiff, reduceCtorEq, ↓reduceIte, eq_self, and_self, true_and, and_true]⟩
    · generalize sI σ 21 0 0 = σ
      simp only [f_X7_flatness, rR_t h, bx_l, gd, lt_, rd, xB_k, xB_r0, xB_r1, xB_r3, xB_r5, xB_r8, xB_r9, xB_r10, xB_i2, xB_i2_s, xB_i4, xB_i4_s, xB_i6, xB_i6_s, xB_i7, xB_i7_s, xH_k, xH_r0, xH_r1, xH_r2, xH_i3, xH_i3_s, xH_i4, xH_i4_s, xH_i5, xH_i5_s, xH_i6, xH_i6_s, xP_k, xP_i0, xP_i0_s, xL_k, xL_i0, xL_i0_s, xL_i1, xL_i1_s, xL_i2, xL_i2_s, xL_i3, xL_i3_s, xL_i4, xL_i4_s, xL_i5, xL_i5_s, xL_i6, xL_i6_s, xL_i7, xL_i7_s, xL_l8, xL_l8_s, xL_l9, xL_l9_s, xL_l10, xL_l10_s, xL_l11, xL_l11_s, xL_l12, xL_l12_s, xA_k, xA_n, xA_rk, xG_k, xG_i0, xG_i0_s, xG_i1, xG_i1_s, xG_i2, xG_i2_s, xG_i3, xG_i3_s, xG_i4, xG_i4_s, xG_i5, xG_i5_s, xG_i6, xG_i6_s, xMA_k, xMA_n, xMA_rk, xM_k, xM_i0, xM_i0_s, xM_i1, xM_i1_s, xM_i2, xM_i2_s, xFA_k, xFA_n, xFA_rk, xF_k, xF_r0, xF_i1, xF_i1_s, xFm_k, xFm_n, xFm_ik, xFm_ik_s, xCA_k, xCA_n, xCA_rk, xC_k, xC_i0, xC_i0_s, xC_i1, xC_i1_s, xC_i2, xC_i2_s, xC_i3, xC_i3_s, xW_k, xW_n, xW_ik, xW_ik_s, x1_k, x1_n, x1_ik, x1_ik_s, x2_k, x2_n, x2_ik, x2_ik_s, xO_k, xO_n, xO_lk, xO_lk_s, C_no20, C_no21, C_no22, ↓reduceIte]
    · simp only [f_X8_flatness, f_X8_flatness_b17, iI_t h, z_10, z_le0, gd, lt_, rd, bd, ↓reduceIte, eq_self, and_self, true_and, and_true, not_false_eq_true, vi_t, cl_6, cl_20, cl_21, cl_40, cl_64, cl_80, cl_1280, Nat.reduceLT, tn_0, true_or, or_true, ab_f, yB_k, yB_r7, yB_r8, yB_r9, yB_r10, yB_r11, yB_r12, yB_r13, yB_r15, yB_r16, yB_r17, yB_r30, yB_r31, yB_r33, yB_r34, yB_r35, yB_r36, yB_i0, yB_i0_s, yB_i1, yB_i1_s, yB_i2, yB_i2_s, yB_i3, yB_i3_s, yB_i4, yB_i4_s, yB_i5, yB_i5_s, yB_i6, yB_i6_s, yB_i14, yB_i14_s, yB_i18, yB_i18_s, yB_i19, yB_i19_s, yB_i20, yB_i20_s, yB_i21, yB_i21_s, yB_i22, yB_i22_s, yB_i23, yB_i23_s, yB_i24, yB_i24_s, yB_i25, yB_i25_s, yB_i29, yB_i29_s, yB_i32, yB_i32_s, yB_l26, yB_l26_s, yB_l27, yB_l27_s, yB_l28, yB_l28_s, yLa_k, yLa_n, yLa_ik, yLa_ik_s, yAn_k, yAn_n, yAn_ik, yAn_ik_s, yMa_k, yMa_n, yMa_ik, yMa_ik_s, yUn_k, yUn_n, yUn_ik, yUn_ik_s, yDa_k, yDa_n, yDa_ik, yDa_ik_s, yTh_k, yTh_n, yTh_ik, yTh_ik_s, yHm_k, yHm_n, yHm_ik, yHm_ik_s, yML_k, yML_n, yML_ik, yML_ik_s, yMn_k, yMn_n, yMn_ik, yMn_ik_s, yMm_k, yMm_n, yMm_ik, yMm_ik_s, yFr_k, yFr_n, yFr_ik, yFr_ik_s, yFt_k, yFt_n, yFt_ik, yFt_ik_s, yCf_k, yCf_n, yCf_ik, yCf_ik_s, yCo_k, yCo_n, yCo_ik, yCo_ik_s, yCt_k, yCt_n, yCt_ik, yCt_ik_s, yCm_k, yCm_n, yCm_ik, yCm_ik_s, M_no6, M_no9, M_no17, M_no18, M_no19, M_nl3, M_nl4, M_nl5, sI_1, sI_2, sL_1, sL_2, false_and, and_false, Nat.reduceEqDiff, reduceCtorEq, ↓reduceIte, eq_self, and_self, true_and, and_true]
  · refine Or.inr ⟨1, 0, sI σ 21 0 1, 0, fun _ => rfl, by decide, ?_, ?_, hI.qs (Qs.sI (by omega)), by simp only [sI_1, sI_2, sL_1, sL_2, false_and, and_false, Nat.reduceEqDiff, reduceCtorEq, ↓reduceIte, eq_self, and_self, true_and, and_true]⟩
    · simp only [f_X7_flatness, rR_f h, bx_r]
    · simp only [f_X8_flatness, f_X8_flatness_b17, iI_f h, z_le1, gd, lt_, rd, bd, ↓reduceIte, eq_self, and_self, true_and, and_true, not_false_eq_true, vi_t, cl_6, cl_20, cl_21, cl_40, cl_64, cl_80, cl_1280, Nat.reduceLT, tn_0, true_or, or_true, ab_f, yB_k, yB_r7, yB_r8, yB_r9, yB_r10, yB_r11, yB_r12, yB_r13, yB_r15, yB_r16, yB_r17, yB_r30, yB_r31, yB_r33, yB_r34, yB_r35, yB_r36, yB_i0, yB_i0_s, yB_i1, yB_i1_s, yB_i2, yB_i2_s, yB_i3, yB_i3_s, yB_i4, yB_i4_s, yB_i5, yB_i5_s, yB_i6, yB_i6_s, yB_i14, yB_i14_s, yB_i18, yB_i18_s, yB_i19, yB_i19_s, yB_i20, yB_i20_s, yB_i21, yB_i21_s, yB_i22, yB_i22_s, yB_i23, yB_i23_s, yB_i24, yB_i24_s, yB_i25, yB_i25_s, yB_i29, yB_i29_s, yB_i32, yB_i32_s, yB_l26, yB_l26_s, yB_l27, yB_l27_s, yB_l28, yB_l28_s, yLa_k, yLa_n, yLa_ik, yLa_ik_s, yAn_k, yAn_n, yAn_ik, yAn_ik_s, yMa_k, yMa_n, yMa_ik, yMa_ik_s, yUn_k, yUn_n, yUn_ik, yUn_ik_s, yDa_k, yDa_n, yDa_ik, yDa_ik_s, yTh_k, yTh_n, yTh_ik, yTh_ik_s, yHm_k, yHm_n, yHm_ik, yHm_ik_s, yML_k, yML_n, yML_ik, yML_ik_s, yMn_k, yMn_n, yMn_ik, yMn_ik_s, yMm_k, yMm_n, yMm_ik, yMm_ik_s, yFr_k, yFr_n, yFr_ik, yFr_ik_s, yFt_k, yFt_n, yFt_ik, yFt_ik_s, yCf_k, yCf_n, yCf_ik, yCf_ik_s, yCo_k, yCo_n, yCo_ik, yCo_ik_s, yCt_k, yCt_n, yCt_ik, yCt_ik_s, yCm_k, yCm_n, yCm_ik, yCm_ik_s, M_no6, M_no9, M_no17, M_no18, M_no19, M_nl3, M_nl4, M_nl5, sI_1, sI_2, sL_1, sL_2, false_and, and_false, Nat.reduceEqDiff, reduceCtorEq, ↓reduceIte, eq_self, and_self, true_and, and_true]
