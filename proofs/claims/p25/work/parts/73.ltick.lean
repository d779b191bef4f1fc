/-! ===== PURE: a tick of the law's is a tick ===== -/
def Fl (σ : Sg) : Prop := 0 ≤ (σ.1 10 2).toInt ∧ (σ.1 10 2).toInt ≤ 1000
def TI (nn mm : Nat) (σ : Sg) : Prop := InvG nn σ ∧ InvM mm σ ∧ (∃ ff cc, InvF ff cc σ) ∧ InvD σ ∧ mm ≤ 3 ∧ Rn σ ∧ (∀ j, j < mm → aOk (σ.1 8 j)) ∧ Sp σ ∧ Fl σ ∧ Mk nn σ ∧ Cm σ
theorem nI_ofI {x : Int32} {m : Nat} (h1 : 0 ≤ x.toInt) (h2 : x.toInt ≤ m) (hm : m < 2147483648) : ∃ k, k ≤ m ∧ x = nI k := by
  refine ⟨x.toInt.toNat, by omega, ?_⟩
  apply Int32.toInt_inj.mp
  rw [nI_toInt (by omega)]
  omega
theorem spd_ex {σ : Sg} {x : Int32} (hF : Fl σ) (hx : lnOk x) : ∃ s, s ≤ 136000 ∧ spd σ x = nI s := by
  obtain ⟨m, hm, rfl⟩ := hx
  obtain ⟨f, hf, ef⟩ := nI_ofI hF.1 (m := 1000) hF.2 (by omega)
  have e20 : nI m + (20 : Int32) = nI (m + 20) := nI_add m 20
  have e1 : (36000 : Int32) / nI (m + 20) = nI (36000 / (m + 20)) := pk_div (a := 36000) (by omega) (by omega) (by omega)
  have e2 : (100 : Int32) * nI f = nI (100 * f) := pk_mul 100 f
  have hsq : (m + 20) * (m + 20) ≤ 83 * 83 := Nat.mul_le_mul (by omega) (by omega)
  have hs0 : 0 < (m + 20) * (m + 20) := Nat.mul_pos (by omega) (by omega)
  have e3 : nI (100 * f) / nI ((m + 20) * (m + 20)) = nI (100 * f / ((m + 20) * (m + 20))) := pk_div (by omega) hs0 (by omega)
  refine ⟨36000 / (m + 20) + 100 * f / ((m + 20) * (m + 20)), ?_, ?_⟩
  · have a1 := Nat.div_le_self 36000 (m + 20)
    have a2 := Nat.div_le_self (100 * f) ((m + 20) * (m + 20))
    omega
  · unfold spd
    rw [ef, e20, e1, e2, pk_mul, e3, nI_add]
theorem trn_ok {a s : Int32} (ha : aOk a) (hs : ∃ k, k ≤ 136000 ∧ s = nI k) : aOk (trn a s) := by
  obtain ⟨k, hk, rfl⟩ := hs
  obtain ⟨j, hj, rfl⟩ := nI_ofI ha.1 (m := 35999) (by have := ha.2; omega) (by omega)
  unfold trn
  have e : (nI j + nI k) - (nI j + nI k) / (36000 : Int32) * (36000 : Int32) = nI ((j + k) % 36000) := by
    rw [nI_add]
    exact pk_rem (a := j + k) (d := 36000) (by omega) (by omega) (by omega)
  rw [e]
  have := Nat.mod_lt (j + k) (show 0 < 36000 by omega)
  unfold aOk
  rw [nI_toInt (by omega)]
  omega
theorem Rn.mv {σ : Sg} {nn g m : Nat} (h : Rn σ) (hG : InvG nn σ) (hF : Fl σ) : Rn (tMv σ g m) := fun k hk => by
  have e3 : (tMv σ g m).1 3 k = σ.1 3 k := tMv_c (by decide)
  rw [e3]
  refine ⟨?_, (h k hk).2⟩
  have e1 : (tMv σ g m).1 1 k = if k < g ∧ ¬ σ.1 5 k = 0 then trn (σ.1 1 k) (spd σ (σ.1 0 k)) else σ.1 1 k := by
    simp only [tMv]
    grind
  rw [e1]
  split
  · rename_i hh
    exact trn_ok (h k hk).1 (spd_ex hF ((hG.okG k hk).resolve_left hh.2).2)
  · exact (h k hk).1
theorem moon_mv {σ : Sg} {mm g m : Nat} (h : ∀ j, j < mm → aOk (σ.1 8 j)) (hM : InvM mm σ) (hF : Fl σ) : ∀ j, j < mm → aOk ((tMv σ g m).1 8 j) := fun j hj => by
  have e1 : (tMv σ g m).1 8 j = if j < m then trn (σ.1 8 j) (spd σ (σ.1 7 j)) else σ.1 8 j := by
    simp only [tMv]
    grind
  rw [e1]
  split
  · exact trn_ok (h j hj) (spd_ex hF (hM.2.2 j hj).1)
  · exact h j hj
theorem Cm.mv {σ : Sg} {g m : Nat} (h : Cm σ) : Cm (tMv σ g m) := h.same (fun k _ => ⟨tMv_c (by decide), tMv_c (by decide), tMv_c (by decide)⟩) (fun _ _ => rfl)
theorem Cm.r6 {σ : Sg} {m : Nat} (h : Cm σ) : Cm (tR6 σ m) := h.same (fun k _ => ⟨tR6_c (by decide), tR6_c (by decide), tR6_c (by decide)⟩) (fun _ _ => rfl)
theorem Cm.dk {σ : Sg} {m : Nat} (h : Cm σ) : Cm (tDk σ m) := h.same (fun k _ => ⟨tDk_c (by decide), tDk_c (by decide), tDk_c (by decide)⟩) (fun _ _ => rfl)
theorem Cm.now {σ : Sg} (h : Cm σ) : Cm (tNow σ) := h.same (fun k _ => by unfold tNow; simp only [sI_1, sI_2, sL_1, sL_2, false_and, and_false, Nat.reduceEqDiff, reduceCtorEq, ↓reduceIte, eq_self, and_self, true_and, and_true]) (fun _ _ => rfl)
theorem LI.pre {nn mm : Nat} {σ : Sg} (h : TI nn mm σ) : LI nn (tPre σ nn mm) := by
  obtain ⟨hG, hM, -, hD, hm, hR, hA, hS, hF, hK, hC⟩ := h
  have hn := hG.2.1
  have r6 : ∀ k, k < 80 → (tPre σ nn mm).1 6 k = 0 := fun k hk => if_pos ⟨rfl, hk⟩
  have hI := MI.pre (mm := mm) hG
  have hr : Rn (tPA (tMv σ nn mm) mm) := (hR.mv hG hF).pa mm
  refine ⟨hI, fun k hk => Or.inl (r6 k hk), hr.same (fun k _ => ⟨tPre_c (by decide), tPre_c (by decide)⟩), ?_, ?_, ?_, fun k _ hk => r6 k hk⟩
  · unfold Sp
    rw [(Sk.pre (σ := σ) (nn := nn) (mm := mm)).1 10 5 (by omega)]
    exact hS
  · unfold Nm
    have g1 : InvG nn (tPre σ nn mm) := by
      have := (hG.mv (g := nn) (m := mm)).pa mm
      exact this.r6
    rw [gn_eq g1]
    have : um (tPre σ nn mm) nn ≤ nn := by
      have : ∀ n (f : Nat → Int), (∀ k, k < n → f k ≤ 1) → smZ f n ≤ n := by
        intro n f
        induction n with
        | zero => intro _; exact Int.le_refl _
        | succ n ih =>
          intro hh
          have h1 := ih (fun k hk => hh k (by omega))
          have h2 := hh n (by omega)
          rw [smZ]
          omega
      exact this nn _ (fun k _ => by split <;> omega)
    omega
  · exact (hC.mv.pa (hG.mv (g := nn) (m := mm)) mm).r6
theorem pass_mem {d nn mm : Nat} {σ : Sg} : memM d (tPass σ nn mm) = memM d (tDk (tRows (tPre σ nn mm) nn nn) 80) := by
  unfold tPass tNow
  refine memM_congr (fun c k hc => ?_) (fun k h1 h2 => ?_) <;> rw [sI_1, if_neg (by omega)]
theorem TI.pass {nn mm : Nat} {σ : Sg} (h : TI nn mm σ) (hn : nn ≤ 33) : ∃ n2, TI n2 mm (tPass σ nn mm) ∧ 2 * n2 ≤ 3 * nn := by
  have hL := (LI.pre h).rows (by omega) nn (Nat.le_refl _)
  obtain ⟨hG, hM, ⟨ff, cc, hF0⟩, hD, hm, hR, hA, hS, hF, hK, hC⟩ := h
  have hD2 := hD.pass (mm := mm) hG
  have sk : Sk σ (tPass σ nn mm) := Sk.pass
  obtain ⟨⟨n2, g, hn2, -, -⟩, l01, lR, lS, lN, lC, l6⟩ := hL
  have gd : InvG n2 (tPass σ nn mm) := g.dk.now
  have e6 : ∀ k, (tPass σ nn mm).1 6 k = (tRows (tPre σ nn mm) nn nn).1 6 k := fun k => by
    unfold tPass tNow
    rw [sI_1, if_neg (by omega), tDk_c (by decide)]
  have e13 : ∀ c k, c = 1 ∨ c = 3 → (tPass σ nn mm).1 c k = (tRows (tPre σ nn mm) nn nn).1 c k := fun c k hc => by
    unfold tPass tNow
    rw [sI_1, if_neg (by omega), tDk_c (by omega)]
  have e8 : ∀ j, (tPass σ nn mm).1 8 j = (tMv σ nn mm).1 8 j := fun j => by
    unfold tPass tNow
    rw [sI_1, if_neg (by omega), tDk_c (by decide), (Sm.rows (σ := tPre σ nn mm) (n0 := nn) nn).1 8 j (by omega), tPre_c (by decide), (Sm.pa (σ := tMv σ nn mm) mm).1 8 j (by omega)]
  refine ⟨n2, ⟨gd, hM.sk sk, ⟨ff, cc, hF0.sk sk⟩, hD2, hm, lR.same (fun k _ => ⟨e13 1 k (Or.inl rfl), e13 3 k (Or.inr rfl)⟩), fun j hj => by rw [e8]; exact moon_mv hA hM hF j hj, ?_, ?_, fun k k1 k2 => by rw [e6]; exact l6 k (by omega) k2, lC.dk.now⟩, lN.lt g⟩
  · unfold Sp
    rw [sk.1 10 5 (by omega)]
    exact hS
  · unfold Fl
    rw [sk.1 10 2 (by omega)]
    exact hF
theorem pa_l2 {σ : Sg} {c : Nat} (hc : c = 0 ∨ c = 2) : ∀ m, (tPA σ m).2 c = σ.2 c := by
  have p1 : ∀ (τ : Sg) j i, (tPush τ j i).2 c = τ.2 c := fun τ j i => by
    unfold tPush
    split
    · rfl
    split
    · rfl
    · unfold tPuE
      rw [sL_2, if_neg (by omega), sI_2, go_l01 (by omega)]
  have p2 : ∀ (τ : Sg) j k, (tPushN τ j k).2 c = τ.2 c := fun τ j k => by
    induction k with
    | zero => rfl
    | succ k ih => exact (p1 _ _ _).trans ih
  intro m
  induction m with
  | zero => rfl
  | succ m ih => rw [tPA, p2]; exact ih
section M9
variable {b d nn mm nc ns L : Nat} {xs : Nat → Int32} {σ : Sg} {M : Mem} {n18 w19 w20 w21 w22 w24 : Int32}
theorem s_ltick {k281 : _} (hb : nc ≤ 600104 ∧ ns ≤ 7301314) (h : TI nn mm σ) (hn : nn ≤ 33) :
    f_L_law_L646 L xs k281 200 b (yLa d) (yAn d) (yMa d) (yUn d) (yDa d) (yTh d) (yHm d) (yC d) (yM d) (σ.2 1) (σ.2 2) (σ.2 0) (nI nn) (nI mm) w19 w20 w21 w22 w24 (nI 0) M (memM d σ) nc ns = f_L_law_b1632 L xs k281 b (yLa d) (yAn d) (yMa d) (yUn d) (yDa d) (yTh d) (yHm d) (yC d) (yM d) ((tPass σ nn mm).2 1) ((tPass σ nn mm).2 2) ((tPass σ nn mm).2 0) ((tPass σ nn mm).1 10 0) (nI mm) w19 w20 w21 w22 w24 M (memM d (tPass σ nn mm)) nc ns := by
  have hL := LI.pre h
  have hLr := hL.rows (by omega) nn (Nat.le_refl _)
  obtain ⟨hG, hM, -, hD, hm, hR, hA, hS, hF, hK, hC⟩ := h
  have e0 : memM d (tR6 (tMv σ 0 0) 0) = memM d σ := by
    rw [tMv_0]
    exact memM_congr (fun c k _ => if_neg (by omega)) (fun k _ _ => tR6_c (by decide))
  have s1 := l_646 (b := b) (d := d) (L := L) (xs := xs) (M := M) (a1 := σ.2 1) (a2 := σ.2 2) (a3 := σ.2 0) (n18 := nI mm) (w19 := w19) (w20 := w20) (w21 := w21) (w22 := w22) (w24 := w24) (k281 := k281) hb hG (by omega) 200 0 (by omega) (by omega)
  rw [e0] at s1
  have s2 := l_698 (b := b) (d := d) (nn := nn) (σ := σ) (L := L) (xs := xs) (M := M) (a1 := σ.2 1) (a2 := σ.2 2) (a3 := σ.2 0) (w19 := w19) (w20 := w20) (w21 := w21) (w22 := w22) (w24 := w24) (k281 := k281) hb hM (by omega) 200 0 (by omega) (by omega)
  rw [memM_80 (mm := mm) hK] at s2
  have g1 : InvG nn (tR6 (tMv σ nn mm) 80) := (hG.mv (g := nn) (m := mm)).r6
  have m1 : InvM mm (tR6 (tMv σ nn mm) 80) := hM.sk (Sk.mv.trans Sm.r6.sk)
  have r1 : Rn (tR6 (tMv σ nn mm) 80) := (hR.mv hG hF (g := nn) (m := mm)).same (fun k _ => ⟨tR6_c (by decide), tR6_c (by decide)⟩)
  have a1 : ∀ j, j < mm → aOk ((tR6 (tMv σ nn mm) 80).1 8 j) := fun j hj => by
    rw [tR6_c (by decide)]
    exact moon_mv hA hM hF j hj
  have s3 := l_748 (b := b) (d := d) (L := L) (xs := xs) (M := M) (a2 := σ.2 2) (a3 := σ.2 0) (w19 := w19) (w20 := w20) (w21 := w21) (w22 := w22) (w24 := w24) (k281 := k281) hb g1 m1 r1 a1 (by omega) (by omega) 200 0 (by omega) (by omega)
  rw [pre_eq] at s3
  have e3 : tPA (tR6 (tMv σ nn mm) 80) 0 = tR6 (tMv σ nn mm) 80 := rfl
  rw [e3] at s3
  have l1 : (tR6 (tMv σ nn mm) 80).2 1 = σ.2 1 := rfl
  rw [l1] at s3
  have gP : InvG nn (tPre σ nn mm) := by
    have := (hG.mv (g := nn) (m := mm)).pa mm
    exact this.r6
  have p2 : (tPre σ nn mm).2 2 = σ.2 2 := (pa_l2 (Or.inr rfl) mm : (tPA (tMv σ nn mm) mm).2 2 = _)
  have p0 : (tPre σ nn mm).2 0 = σ.2 0 := (pa_l2 (Or.inl rfl) mm : (tPA (tMv σ nn mm) mm).2 0 = _)
  have s4 := l_937 (b := b) (d := d) (L := L) (xs := xs) (M := M) (a1 := (tPre σ nn mm).2 1) (a3 := σ.2 0) (n18 := nI mm) (w19 := w19) (w20 := w20) (w21 := w21) (w22 := w22) (w24 := w24) (k281 := k281) hb hL hn 200 0 (by omega) (by omega)
  have e4 : tRows (tPre σ nn mm) nn 0 = tPre σ nn mm := rfl
  rw [e4, p2, gP.1] at s4
  obtain ⟨⟨n2, g2, hn2, -, -⟩, -, -, -, lN, -, -⟩ := hLr
  have hn2' := lN.lt g2
  have s5 := l_1590 (b := b) (d := d) (σ := tRows (tPre σ nn mm) nn nn) (L := L) (xs := xs) (M := M) (a1 := (tPre σ nn mm).2 1) (a2 := (tRows (tPre σ nn mm) nn nn).2 2) (a3 := σ.2 0) (n18 := nI mm) (w19 := w19) (w20 := w20) (w21 := w21) (w22 := w22) (w24 := w24) (nc := nc) (ns := ns) (k281 := k281) g2 (by omega) 200 0 (by omega) (by omega)
  rw [tDk_0] at s5
  rw [g2.1] at s4
  have q1 : (tPass σ nn mm).2 1 = (tPre σ nn mm).2 1 := (rows_l1 nn : (tRows (tPre σ nn mm) nn nn).2 1 = _)
  have q2 : (tPass σ nn mm).2 2 = (tRows (tPre σ nn mm) nn nn).2 2 := rfl
  have q0 : (tPass σ nn mm).2 0 = σ.2 0 := Sk.pass.2.1
  have qn : (tPass σ nn mm).1 10 0 = nI n2 := (g2.dk.now).1
  rw [q1, q2, q0, qn, pass_mem]
  rw [s1, s2, s3, s4, s5]
end M9
