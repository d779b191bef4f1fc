/-! ===== PURE: a grain breaks ===== -/
def tBr0 (σ : Sg) (g n : Nat) : Sg := sI (sI (sI (sI (sI (sI (sI (sI (sI σ 10 0 (nI (n + 1))) 0 n (σ.1 0 g)) 1 n (σ.1 1 g)) 4 n (σ.1 4 g)) 3 n 0) 5 n 1) 2 n (σ.1 2 g - σ.1 2 g / (2 : Int32))) 2 g (σ.1 2 g / (2 : Int32))) 3 g 0
def tBrE (τ : Sg) (g n : Nat) (m0 : Int64) : Sg := sL (sI τ 10 7 (τ.1 10 7 + 1)) 2 (τ.2 2 + (m0 - car τ g - car τ n))
def tBreak (σ : Sg) (g n : Nat) : Sg := sI (tBrE (tGo (tGo (tBr0 σ g n) g (σ.1 0 g + -1)) n (σ.1 0 g + 1)) g n (car σ g)) 22 n 1
theorem e_X3_breakUp {b g n : Nat} {σ : Sg} (hg : g < 80) (hn : n < 80) (h1 : (g = n) = False) (h2 : (n = g) = False) (hc : σ.1 10 0 = nI n) : f_X3_breakUp (xH b) (xG b g) (memC b σ) = some (memC b (tBreak σ g n)) := by
  have hlt : (nI n < (80 : Int32)) = True := eq_true (nI_lt hn (by decide))
  have e : f_X3_breakUp (xH b) (xG b g) (memC b σ) = bd (f_X3_shift (xH b) (xG b g) (-1) (memC b (tBr0 σ g n))) fun z13 => gd (z13.1 (xH b) = 3) <| bd (f_X3_shift (xH b) (xG b n) (1) z13) fun z14 => gd (z14.1 (xH b) = 3) <| rd (mm_r z14 (xH b) 1) fun a15 => gd (z14.1 a15 = 4) <| gd (z14.1 a15 = 4) <| lt_ (ms_i z14 a15 1 ((mm_i z14 a15 1) + (1 : Int32))) fun M16 => gd (M16.1 (xH b) = 3) <| rd (mm_r M16 (xH b) 1) fun a17 => gd (M16.1 a17 = 4) <| gd (M16.1 (xG b g) = 2) <| bd (f_X2_carried (xG b g) M16) fun z18 => gd (z18.1.1 (xG b n) = 2) <| bd (f_X2_carried (xG b n) z18.1) fun z19 => gd (z19.1.1 a17 = 4) <| lt_ (ms_l z19.1 a17 12 ((mm_l M16 a17 12) + ((car σ g - z18.2) - z19.2))) fun M20 => some M20 := by
    simp only [f_X3_breakUp, hc, hlt, hg, hn, h1, h2, e_X2_carried hg, nI_1, tBr0, gd, lt_, rd, bd, ↓reduceIte, eq_self, and_self, true_and, and_true, not_false_eq_true, vi_t, cl_80, Nat.reduceLT, xB_k, xB_r0, xB_r1, xB_r3, xB_r5, xB_r8, xB_r9, xB_r10, xB_i2, xB_i2_s, xB_i4, xB_i4_s, xB_i6, xB_i6_s, xB_i7, xB_i7_s, xH_k, xH_r0, xH_r1, xH_r2, xH_i3, xH_i3_s, xH_i4, xH_i4_s, xH_i5, xH_i5_s, xH_i6, xH_i6_s, xP_k, xP_i0, xP_i0_s, xL_k, xL_i0, xL_i0_s, xL_i1, xL_i1_s, xL_i2, xL_i2_s, xL_i3, xL_i3_s, xL_i4, xL_i4_s, xL_i5, xL_i5_s, xL_i6, xL_i6_s, xL_i7, xL_i7_s, xL_l8, xL_l8_s, xL_l9, xL_l9_s, xL_l10, xL_l10_s, xL_l11, xL_l11_s, xL_l12, xL_l12_s, xA_k, xA_n, xA_rk, xG_k, xG_i0, xG_i0_s, xG_i1, xG_i1_s, xG_i2, xG_i2_s, xG_i3, xG_i3_s, xG_i4, xG_i4_s, xG_i5, xG_i5_s, xG_i6, xG_i6_s, xMA_k, xMA_n, xMA_rk, xM_k, xM_i0, xM_i0_s, xM_i1, xM_i1_s, xM_i2, xM_i2_s, xFA_k, xFA_n, xFA_rk, xF_k, xF_r0, xF_i1, xF_i1_s, xFm_k, xFm_n, xFm_ik, xFm_ik_s, xCA_k, xCA_n, xCA_rk, xC_k, xC_i0, xC_i0_s, xC_i1, xC_i1_s, xC_i2, xC_i2_s, xC_i3, xC_i3_s, xW_k, xW_n, xW_ik, xW_ik_s, x1_k, x1_n, x1_ik, x1_ik_s, x2_k, x2_n, x2_ik, x2_ik_s, C_no20, C_no21, C_no22, sI_1, sI_2, sL_1, sL_2, false_and, and_false, Nat.reduceEqDiff, reduceCtorEq, ↓reduceIte, eq_self, and_self, true_and, and_true]
  rw [e, e_X3_shift hg]
  have e0 : (tBr0 σ g n).1 0 g = σ.1 0 g := by simp only [tBr0, sI_1, sI_2, sL_1, sL_2, false_and, and_false, Nat.reduceEqDiff, reduceCtorEq, ↓reduceIte, eq_self, and_self, true_and, and_true, h1]
  have en : (tGo (tBr0 σ g n) g (σ.1 0 g + -1)).1 0 n = σ.1 0 g := by
    rw [tGo_0 (fun q => by rw [h2] at q; exact q : n ≠ g)]
    simp only [tBr0, sI_1, sI_2, sL_1, sL_2, false_and, and_false, Nat.reduceEqDiff, reduceCtorEq, ↓reduceIte, eq_self, and_self, true_and, and_true, h1, h2]
  rw [e0]
  unfold tBreak
  generalize tGo (tBr0 σ g n) g (σ.1 0 g + -1) = τ at en ⊢
  simp only [bd, gd, xH_k, e_X3_shift hn, ↓reduceIte, en]
  generalize tGo τ n (σ.1 0 g + 1) = υ
  simp only [hg, hn, e_X2_carried hg, e_X2_carried hn, gd, lt_, rd, bd, ↓reduceIte, eq_self, and_self, true_and, and_true, not_false_eq_true, vi_t, cl_6, cl_20, cl_21, cl_40, cl_64, cl_80, cl_1280, Nat.reduceLT, tn_0, true_or, or_true, ab_f, xB_k, xB_r0, xB_r1, xB_r3, xB_r5, xB_r8, xB_r9, xB_r10, xB_i2, xB_i2_s, xB_i4, xB_i4_s, xB_i6, xB_i6_s, xB_i7, xB_i7_s, xH_k, xH_r0, xH_r1, xH_r2, xH_i3, xH_i3_s, xH_i4, xH_i4_s, xH_i5, xH_i5_s, xH_i6, xH_i6_s, xP_k, xP_i0, xP_i0_s, xL_k, xL_i0, xL_i0_s, xL_i1, xL_i1_s, xL_i2, xL_i2_s, xL_i3, xL_i3_s, xL_i4, xL_i4_s, xL_i5, xL_i5_s, xL_i6, xL_i6_s, xL_i7, xL_i7_s, xL_l8, xL_l8_s, xL_l9, xL_l9_s, xL_l10, xL_l10_s, xL_l11, xL_l11_s, xL_l12, xL_l12_s, xA_k, xA_n, xA_rk, xG_k, xG_i0, xG_i0_s, xG_i1, xG_i1_s, xG_i2, xG_i2_s, xG_i3, xG_i3_s, xG_i4, xG_i4_s, xG_i5, xG_i5_s, xG_i6, xG_i6_s, xMA_k, xMA_n, xMA_rk, xM_k, xM_i0, xM_i0_s, xM_i1, xM_i1_s, xM_i2, xM_i2_s, xFA_k, xFA_n, xFA_rk, xF_k, xF_r0, xF_i1, xF_i1_s, xFm_k, xFm_n, xFm_ik, xFm_ik_s, xCA_k, xCA_n, xCA_rk, xC_k, xC_i0, xC_i0_s, xC_i1, xC_i1_s, xC_i2, xC_i2_s, xC_i3, xC_i3_s, xW_k, xW_n, xW_ik, xW_ik_s, x1_k, x1_n, x1_ik, x1_ik_s, x2_k, x2_n, x2_ik, x2_ik_s, C_no20, C_no21, C_no22]
  simp only [tBrE, car_sI _ 10 _ _ _ (by decide : (10:Nat) ≠ 0 ∧ (10:Nat) ≠ 2), sI_2]
theorem tBr0_eq (σ : Sg) {g n : Nat} (hgn : g ≠ n) : tBr0 σ g n = sI (sI (sI (sI (sI (sI (sI (sI (sI σ 2 g (σ.1 2 g / (2 : Int32))) 3 g 0) 10 0 (nI (n + 1))) 0 n (σ.1 0 g)) 1 n (σ.1 1 g)) 4 n (σ.1 4 g)) 3 n 0) 5 n 1) 2 n (σ.1 2 g - σ.1 2 g / (2 : Int32)) := by
  refine Sg_ext (fun c k => ?_) (fun _ => rfl)
  simp only [tBr0, sI_1]
  grind
/-- what the reference adds -/
def tAdd (τ : Sg) (n : Nat) (l a m u d : Int32) : Sg := sI (sI (sI (sI (sI (sI (sI τ 0 n l) 1 n a) 2 n m) 3 n u) 4 n d) 5 n 1) 10 0 (nI (n + 1))
theorem tGo_br {σ : Sg} {g n : Nat} {v : Int32} (hgn : n ≠ g) : tGo (tBr0 σ g n) g v = tAdd (tGo (sI (sI σ 2 g (σ.1 2 g / (2 : Int32))) 3 g 0) g v) n (σ.1 0 g) (σ.1 1 g) (σ.1 2 g - σ.1 2 g / (2 : Int32)) 0 (σ.1 4 g) := by
  rw [tBr0_eq σ (fun e => hgn e.symm)]
  rw [tGo_sI (Or.inr (Or.inl ⟨by decide, hgn⟩)), tGo_sI (Or.inr (Or.inl ⟨by decide, hgn⟩)), tGo_sI (Or.inl (by decide)), tGo_sI (Or.inl (by decide)), tGo_sI (Or.inl (by decide)), tGo_sI (Or.inr (Or.inl ⟨by decide, hgn⟩)), tGo_sI (Or.inr (Or.inr (by decide)))]
  generalize tGo (sI (sI σ 2 g (σ.1 2 g / (2 : Int32))) 3 g 0) g v = τ
  refine Sg_ext (fun c k => ?_) (fun _ => rfl)
  simp only [tAdd, sI_1]
  grind
theorem c_go (υ : Sg) (k i : Nat) (v : Int32) (n : Nat) (h : n ≠ 9 ∧ n ≠ 10 ∧ n ≠ 11 ∧ n ≠ 12) : (tGo υ i v).1 10 n = υ.1 10 n := by
  obtain ⟨h9, h10, h11, h12⟩ := h
  unfold tGo
  split
  · split <;> simp only [sI_1, sI_2, sL_1, sL_2, false_and, and_false, Nat.reduceEqDiff, reduceCtorEq, ↓reduceIte, eq_self, and_self, true_and, and_true, h9, h10, h11, h12]
  · simp only [sI_1, sI_2, sL_1, sL_2, false_and, and_false, Nat.reduceEqDiff, reduceCtorEq, ↓reduceIte, eq_self, and_self, true_and, and_true, h9, h10, h11, h12]
/-- the reference's way: before the first go, between, behind -/
def tBrM (σ : Sg) (g n : Nat) : Sg := sI (sI (tGo (tGo (tBr0 σ g n) g (σ.1 0 g + -1)) n (σ.1 0 g + 1)) 22 n 1) 10 7 (σ.1 10 7 + 1)
