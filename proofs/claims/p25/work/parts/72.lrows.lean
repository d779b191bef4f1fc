/-! ===== PURE: the law's meetings, all of them; darkening ===== -/
def LI (n0 : Nat) (σ : Sg) : Prop := MI n0 σ ∧ M01 σ ∧ Rn σ ∧ Sp σ ∧ Nm n0 σ ∧ Cm σ ∧ (∀ k, n0 ≤ k → k < 80 → σ.1 6 k = 0)
theorem LI.step {n0 : Nat} {σ : Sg} {i j : Nat} (h : LI n0 σ) (hn0 : n0 ≤ 80) (hi : i < n0) (hj : j < n0) (hij : i ≠ j) : LI n0 (tStep σ i j) := by
  obtain ⟨h1, h2, h3, h4, h5, h6, h7⟩ := h
  refine ⟨h1.step hi hj hij, h2.step, h3.step h4 (by omega) (by omega), h4.step, h5.step h1 hi hj hij, h6.step h1 hi hj hij, fun k k1 k2 => ?_⟩
  unfold tStep
  split
  · rw [tMeet_m (Or.inl rfl), if_neg (by omega)]
    exact h7 k k1 k2
  · exact h7 k k1 k2
theorem LI.row {n0 : Nat} {σ : Sg} {i : Nat} (h : LI n0 σ) (hn0 : n0 ≤ 80) (hi : i < n0) : ∀ m, i + 1 + m ≤ n0 → LI n0 (tRow σ i m) := by
  intro m
  induction m with
  | zero => intro _; exact h
  | succ m ih => intro hm; exact (ih (by omega)).step hn0 hi (by omega) (by omega)
theorem LI.rows {n0 : Nat} {σ : Sg} (h : LI n0 σ) (hn0 : n0 ≤ 80) : ∀ i, i ≤ n0 → LI n0 (tRows σ n0 i) := by
  intro i
  induction i with
  | zero => intro _; exact h
  | succ i ih => intro hi; exact (ih (by omega)).row hn0 (by omega) _ (by omega)
/-- what meetings leave alone of the longs -/
theorem br0_2 {σ : Sg} {g n c : Nat} : (tBr0 σ g n).2 c = σ.2 c := rfl
theorem bump_l1 {σ : Sg} {i j : Nat} : (tBump σ i j).2 1 = σ.2 1 := by
  have k : ∀ (v w : Int32) (m : Int64), (tBuE (tGo (tGo σ i v) j w) i j m).2 1 = σ.2 1 := fun v w m => by
    simp only [tBuE, sL_2, sI_2, Nat.reduceEqDiff, if_false, go_l01 (c := 1) (by omega : 1 < 3)]
  unfold tBump
  by_cases h : σ.1 0 j < σ.1 0 i
  · rw [if_pos h]; exact k _ _ _
  · rw [if_neg h]; exact k _ _ _
theorem break_l1 {σ : Sg} {g n : Nat} : (tBreak σ g n).2 1 = σ.2 1 := by
  unfold tBreak tBrE
  simp only [sL_2, sI_2, Nat.reduceEqDiff, if_false, go_l01 (c := 1) (by omega : 1 < 3), br0_2]
theorem stick_l1 {σ : Sg} {i j : Nat} : (tStick σ i j).2 1 = σ.2 1 := by
  simp only [tStick, sL_2, sI_2, Nat.reduceEqDiff, if_false]
theorem step_l1 {σ : Sg} {i j : Nat} : (tStep σ i j).2 1 = σ.2 1 := by
  unfold tStep
  by_cases h : cmS σ i j
  · rw [if_pos h]
    exact meet_cases (P := fun τ => τ.2 1 = σ.2 1) (bump_l1.trans mt_2) (fun g _ _ _ => break_l1.trans mt_2) (stick_l1.trans mt_2)
  · rw [if_neg h]
theorem row_l1 {σ : Sg} {i : Nat} : ∀ m, (tRow σ i m).2 1 = σ.2 1 := by
  intro m
  induction m with
  | zero => rfl
  | succ m ih => exact step_l1.trans ih
theorem rows_l1 {σ : Sg} {n0 : Nat} : ∀ i, (tRows σ n0 i).2 1 = σ.2 1 := by
  intro i
  induction i with
  | zero => rfl
  | succ i ih => exact (row_l1 _).trans ih
section M8
variable {b d nn n0 nc ns L : Nat} {xs : Nat → Int32} {σ : Sg} {M : Mem} {a1 a2 a3 : Int64} {n18 w19 w20 w21 w22 w24 n26 : Int32}
theorem l_950 {i : Nat} {k281 : _} {k937 : _} (hb : nc ≤ 600104 ∧ ns ≤ 7301314) (h : LI n0 σ) (hn0 : n0 ≤ 33) (hi : i < n0) : ∀ f m, i + 1 + m ≤ n0 → n0 < i + 1 + m + f →
    f_L_law_L950 L xs k281 k937 f b (yLa d) (yAn d) (yMa d) (yUn d) (yDa d) (yTh d) (yHm d) (yC d) (yM d) a1 ((tRow σ i m).2 2) a3 ((tRow σ i m).1 10 0) n18 w19 w20 w21 w22 w24 (nI n0) (nI i) (nI (i + 1 + m)) M (memM d (tRow σ i m)) nc ns = k937 b (yLa d) (yAn d) (yMa d) (yUn d) (yDa d) (yTh d) (yHm d) (yC d) (yM d) a1 ((tRow σ i (n0 - (i + 1))).2 2) a3 ((tRow σ i (n0 - (i + 1))).1 10 0) n18 w19 w20 w21 w22 w24 (nI n0) (nI (i + 1)) M (memM d (tRow σ i (n0 - (i + 1)))) nc ns := by
  intro f
  induction f with
  | zero => intro m h1 h2; omega
  | succ f ih =>
    intro m h1 h2
    obtain ⟨hM, h01, hR, hS, hN, hC, -⟩ := h.row (by omega) hi m h1
    obtain ⟨nn, hG, hn, h6, h22⟩ := hM
    have hnn : 2 * nn ≤ 3 * n0 := hN.lt hG
    rcases Nat.lt_or_ge (i + 1 + m) n0 with hj | hj
    · have e := s_950 (L := L) (xs := xs) (b := b) (d := d) (M := M) (a1 := a1) (a3 := a3) (n18 := n18) (w19 := w19) (w20 := w20) (w21 := w21) (w22 := w22) (w24 := w24) (k281 := k281) (k937 := k937) (k950 := f_L_law_L950 L xs k281 k937 f) hb hG (by omega) h6 h01 hR hi hj (by omega) hn
      have es : tStep (tRow σ i m) i (i + 1 + m) = tRow σ i (m + 1) := rfl
      rw [es] at e
      exact e.trans (ih (m + 1) (by omega) (by omega))
    · obtain rfl : m = n0 - (i + 1) := (by omega)
      show f_L_law_b950 L xs k281 k937 (f_L_law_L950 L xs k281 k937 f) _ _ _ _ _ _ _ _ _ _ _ _ _ _ _ _ _ _ _ _ _ _ (nI (i + 1 + (n0 - (i + 1)))) _ _ _ _ = _
      rw [show i + 1 + (n0 - (i + 1)) = n0 by omega]
      simp only [f_L_law_b950, Int32.le_refl, lt_, nI_1, ↓reduceIte]
theorem l_937 {k281 : _} (hb : nc ≤ 600104 ∧ ns ≤ 7301314) (h : LI n0 σ) (hn0 : n0 ≤ 33) : ∀ f i, i ≤ n0 → n0 < i + f →
    f_L_law_L937 L xs k281 f b (yLa d) (yAn d) (yMa d) (yUn d) (yDa d) (yTh d) (yHm d) (yC d) (yM d) a1 ((tRows σ n0 i).2 2) a3 ((tRows σ n0 i).1 10 0) n18 w19 w20 w21 w22 w24 (nI n0) (nI i) M (memM d (tRows σ n0 i)) nc ns = f_L_law_L1590 L xs k281 200 b (yLa d) (yAn d) (yMa d) (yUn d) (yDa d) (yTh d) (yHm d) (yC d) (yM d) a1 ((tRows σ n0 n0).2 2) a3 ((tRows σ n0 n0).1 10 0) n18 w19 w20 w21 w22 w24 (nI 0) M (memM d (tRows σ n0 n0)) nc ns := by
  intro f
  induction f with
  | zero => intro i h1 h2; omega
  | succ f ih =>
    intro i h1 h2
    rcases Nat.lt_or_ge i n0 with hi | hi
    · have hle := nle_t hi (by omega)
      have e := l_950 (L := L) (xs := xs) (b := b) (d := d) (M := M) (a1 := a1) (a3 := a3) (n18 := n18) (w19 := w19) (w20 := w20) (w21 := w21) (w22 := w22) (w24 := w24) (k281 := k281) (k937 := f_L_law_L937 L xs k281 f) hb (h.rows (by omega) i h1) hn0 hi 200 0 (by omega) (by omega)
      have e0 : tRow (tRows σ n0 i) i 0 = tRows σ n0 i := rfl
      have e1 : tRow (tRows σ n0 i) i (n0 - (i + 1)) = tRows σ n0 (i + 1) := rfl
      rw [e0, e1] at e
      show f_L_law_b937 L xs k281 (f_L_law_L937 L xs k281 f) _ _ _ _ _ _ _ _ _ _ _ _ _ _ _ _ _ _ _ _ _ (nI i) _ _ _ _ = _
      simp only [f_L_law_b937, hle, lt_, nI_1, ↓reduceIte]
      exact e.trans (ih (i + 1) (by omega) (by omega))
    · obtain rfl : i = n0 := by omega
      show f_L_law_b937 L xs k281 (f_L_law_L937 L xs k281 f) _ _ _ _ _ _ _ _ _ _ _ _ _ _ _ _ _ _ _ _ _ (nI i) _ _ _ _ = _
      simp only [f_L_law_b937, Int32.le_refl, ↓reduceIte]
      rfl
/-! darkening -/
theorem s_1590 {i : Nat} {k281 : _} {k1590 : _} (hG : InvG nn σ) (hnn : nn < 64) (hi : i < nn) :
    f_L_law_b1590 L xs k281 k1590 b (yLa d) (yAn d) (yMa d) (yUn d) (yDa d) (yTh d) (yHm d) (yC d) (yM d) a1 a2 a3 (nI nn) n18 w19 w20 w21 w22 w24 (nI i) M (memM d (tDk σ i)) nc ns = k1590 b (yLa d) (yAn d) (yMa d) (yUn d) (yDa d) (yTh d) (yHm d) (yC d) (yM d) a1 a2 a3 (nI nn) n18 w19 w20 w21 w22 w24 (nI (i + 1)) M (memM d (tDk σ (i + 1))) nc ns := by
  have hle := nle_t hi (by omega)
  have hi6 : i < 64 := by omega
  have c5 := tDk_c (σ := σ) (m := i) (c := 5) (k := i) (by decide)
  have c4 := tDk_4 (σ := σ) (m := i) (k := i) (Nat.le_refl i)
  rcases hG.2.2.1 i (by omega) with h5 | ⟨h5, -, -, d1, d2⟩
  · simp only [f_L_law_b1590, f_L_law_b1626, hle, hi6, c5, h5, z01, nI_1, gd, lt_, rd, bd, ↓reduceIte, eq_self, and_self, true_and, and_true, not_false_eq_true, vi_t, cl_6, cl_20, cl_21, cl_40, cl_64, cl_80, cl_1280, Nat.reduceLT, tn_0, true_or, or_true, ab_f, yLa_k, yLa_n, yLa_ik, yLa_ik_s, yAn_k, yAn_n, yAn_ik, yAn_ik_s, yMa_k, yMa_n, yMa_ik, yMa_ik_s, yUn_k, yUn_n, yUn_ik, yUn_ik_s, yDa_k, yDa_n, yDa_ik, yDa_ik_s, yTh_k, yTh_n, yTh_ik, yTh_ik_s, yHm_k, yHm_n, yHm_ik, yHm_ik_s, yC_k, yC_n, yC_i1, yC_i1_s, yC_i2, yC_i2_s, yC_i3, yC_i3_s, yC_i4, yC_i4_s, yC_i5, yC_i5_s, yC_i6, yC_i6_s, yC_i7, yC_i7_s, yC_i8, yC_i8_s, yC_i9, yC_i9_s, yM_k, yM_n, yM_m0, yM_m0_s, yM_m1, yM_m1_s, yM_m2, yM_m2_s, M_no11, M_no12, M_no13, M_no14, M_no15, M_no16, M_no17, M_no18, M_no19, M_no20, M_no21, M_no22, M_nl0, M_nl1, M_nl2, M_nl3, M_nl4, M_nl5]
    rw [tDk_z h5]
  · have e := tDk_1 (σ := σ) (m := i) (by rw [h5]; decide)
    have hdk := (dk_in d1 d2).2.2
    by_cases h6 : (1000 : Int32) ≤ σ.1 4 i
    · rw [if_pos h6] at hdk
      rw [hdk] at e
      have e9 : sI (tDk σ i) 4 i (σ.1 4 i) = tDk σ i := by
        refine Sg_ext (fun c k => ?_) (fun _ => rfl)
        rw [sI_1, ← c4]
        split
        · rename_i h; rw [h.1, h.2]
        · rfl
      rw [e9] at e
      simp only [f_L_law_b1590, f_L_law_b1626, hle, hi6, c5, h5, c4, h6, nI_1, gd, lt_, rd, bd, ↓reduceIte, eq_self, and_self, true_and, and_true, not_false_eq_true, vi_t, cl_6, cl_20, cl_21, cl_40, cl_64, cl_80, cl_1280, Nat.reduceLT, tn_0, true_or, or_true, ab_f, yLa_k, yLa_n, yLa_ik, yLa_ik_s, yAn_k, yAn_n, yAn_ik, yAn_ik_s, yMa_k, yMa_n, yMa_ik, yMa_ik_s, yUn_k, yUn_n, yUn_ik, yUn_ik_s, yDa_k, yDa_n, yDa_ik, yDa_ik_s, yTh_k, yTh_n, yTh_ik, yTh_ik_s, yHm_k, yHm_n, yHm_ik, yHm_ik_s, yC_k, yC_n, yC_i1, yC_i1_s, yC_i2, yC_i2_s, yC_i3, yC_i3_s, yC_i4, yC_i4_s, yC_i5, yC_i5_s, yC_i6, yC_i6_s, yC_i7, yC_i7_s, yC_i8, yC_i8_s, yC_i9, yC_i9_s, yM_k, yM_n, yM_m0, yM_m0_s, yM_m1, yM_m1_s, yM_m2, yM_m2_s, M_no11, M_no12, M_no13, M_no14, M_no15, M_no16, M_no17, M_no18, M_no19, M_no20, M_no21, M_no22, M_nl0, M_nl1, M_nl2, M_nl3, M_nl4, M_nl5]
      rw [e]
    · rw [if_neg h6] at hdk
      rw [hdk] at e
      simp only [f_L_law_b1590, f_L_law_b1626, hle, hi6, c5, h5, c4, h6, nI_1, gd, lt_, rd, bd, ↓reduceIte, eq_self, and_self, true_and, and_true, not_false_eq_true, vi_t, cl_6, cl_20, cl_21, cl_40, cl_64, cl_80, cl_1280, Nat.reduceLT, tn_0, true_or, or_true, ab_f, yLa_k, yLa_n, yLa_ik, yLa_ik_s, yAn_k, yAn_n, yAn_ik, yAn_ik_s, yMa_k, yMa_n, yMa_ik, yMa_ik_s, yUn_k, yUn_n, yUn_ik, yUn_ik_s, yDa_k, yDa_n, yDa_ik, yDa_ik_s, yTh_k, yTh_n, yTh_ik, yTh_ik_s, yHm_k, yHm_n, yHm_ik, yHm_ik_s, yC_k, yC_n, yC_i1, yC_i1_s, yC_i2, yC_i2_s, yC_i3, yC_i3_s, yC_i4, yC_i4_s, yC_i5, yC_i5_s, yC_i6, yC_i6_s, yC_i7, yC_i7_s, yC_i8, yC_i8_s, yC_i9, yC_i9_s, yM_k, yM_n, yM_m0, yM_m0_s, yM_m1, yM_m1_s, yM_m2, yM_m2_s, M_no11, M_no12, M_no13, M_no14, M_no15, M_no16, M_no17, M_no18, M_no19, M_no20, M_no21, M_no22, M_nl0, M_nl1, M_nl2, M_nl3, M_nl4, M_nl5]
      rw [e]
theorem l_1590 {k281 : _} (hG : InvG nn σ) (hnn : nn < 64) : ∀ f i, i ≤ nn → nn < i + f →
    f_L_law_L1590 L xs k281 f b (yLa d) (yAn d) (yMa d) (yUn d) (yDa d) (yTh d) (yHm d) (yC d) (yM d) a1 a2 a3 (nI nn) n18 w19 w20 w21 w22 w24 (nI i) M (memM d (tDk σ i)) nc ns = f_L_law_b1632 L xs k281 b (yLa d) (yAn d) (yMa d) (yUn d) (yDa d) (yTh d) (yHm d) (yC d) (yM d) a1 a2 a3 (nI nn) n18 w19 w20 w21 w22 w24 M (memM d (tDk σ 80)) nc ns := by
  intro f
  induction f with
  | zero => intro i h1 h2; omega
  | succ f ih =>
    intro i h1 h2
    show f_L_law_b1590 L xs k281 (f_L_law_L1590 L xs k281 f) _ _ _ _ _ _ _ _ _ _ _ _ _ _ _ _ _ _ _ _ (nI i) _ _ _ _ = _
    rcases Nat.lt_or_ge i nn with hi | hi
    · rw [s_1590 hG hnn hi]
      exact ih (i + 1) (by omega) (by omega)
    · obtain rfl : i = nn := by omega
      rw [tDk_end hG]
      simp only [f_L_law_b1590, Int32.le_refl, ↓reduceIte]
end M8
