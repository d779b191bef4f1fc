/-! ===== PURE: who keeps a gap ===== -/
/-- the first index below n that holds P -/
def fi (P : Nat → Bool) : Nat → Option Nat
  | 0 => none
  | n + 1 => match fi P n with | some k => some k | none => if P n = true then some n else none
def encN (r : Option Nat) (e : Int32) : Int32 := match r with | some k => nI k | none => e
theorem fi_dn {P : Nat → Bool} {n : Nat} {e : Int32} : encN (fi P (n + 1)) e = encN (fi P n) (if P n = true then nI n else e) := by
  rw [fi]
  cases fi P n with
  | some k => rfl
  | none =>
    by_cases h : P n = true
    · simp only [h, if_true]; rfl
    · simp only [h]; rfl
theorem fi_up {P : Nat → Bool} {n : Nat} (h : fi P n = none) (hP : P n = true) : ∀ m, n < m → fi P m = some n := by
  intro m
  induction m with
  | zero => intro h1; omega
  | succ m ih =>
    intro h1
    rw [fi]
    rcases Nat.lt_or_ge n m with h2 | h2
    · rw [ih h2]
    · obtain rfl : n = m := (by omega)
      rw [h]
      exact if_pos hP
theorem fi_no {P : Nat → Bool} {n : Nat} (h : fi P n = none) (hP : ¬ P n = true) : fi P (n + 1) = none := by
  rw [fi, h]
  exact if_neg hP
def inG (σ : Sg) (F L : Int32) (j : Nat) : Bool := if σ.1 7 j < F then false else if L < σ.1 7 j then false else true
def nearB (T : Nat → Nat → Bool) : Bool := match srD T 2 1 with | none => false | some _ => true
def neG (σ : Sg) (p x : Int32) (j : Nat) : Bool := if nearB (tun (spd σ (σ.1 7 j)) (spd σ p)) = true then true else nearB (tun (spd σ (σ.1 7 j)) (spd σ x))
theorem enc_m1 {T : Nat → Nat → Bool} : (enc (srD T 2 1) = -1) = ¬ nearB T = true := by
  unfold nearB
  rcases srD_all (T := T) 2 with ⟨e, -⟩ | ⟨a, c, e, a1, a2, a3, a4, -⟩
  · rw [e]; exact propext ⟨fun _ q => (by cases q), fun _ => rfl⟩
  · rw [e]
    exact propext ⟨fun q => absurd q (tb_d a (by omega) c (by omega)).2.2.2.2.2.2.1, fun q => absurd rfl q⟩
theorem e_X8_isNear {b j : Nat} {σ : Sg} {x : Int32} (hj : j < 6) (h7 : lnOk (σ.1 7 j)) (hx : lnOk x) : f_X8_isNear b (nI j) x (memM b σ) = some (memM b σ, if nearB (tun (spd σ (σ.1 7 j)) (spd σ x)) = true then 1 else 0) := by
  simp only [f_X8_isNear, f_X8_isNear_b32, f_X8_isNear_b33, e_X8_resonanceOf hj h7 hx, e_X8_size, bd_s, gd, yB_k, ↓reduceIte, true_or, or_true]
  generalize tun (spd σ (σ.1 7 j)) (spd σ x) = T
  have h2 := sr_2 T
  have hn : (nearB T = true) ↔ ∃ a c, gp T 9 1 none = some (a, c) ∧ dist a c ≤ 2 := by
    unfold nearB
    cases e : srD T 2 1 with
    | none => exact ⟨fun q => (by cases q), fun q => absurd q (h2.mp e)⟩
    | some r => exact ⟨fun _ => Classical.not_not.mp (fun q => by rw [h2.mpr q] at e; cases e), fun _ => rfl⟩
  rcases gp_all (T := T) with ⟨e, -⟩ | ⟨a, c, e, a1, a2, a3, a4, -⟩
  · rw [e] at hn ⊢
    rw [if_pos (show enc none = -1 from rfl), if_neg (fun q => by obtain ⟨_, _, z, _⟩ := hn.mp q; cases z)]
  · rw [e] at hn ⊢
    obtain ⟨-, -, -, -, -, t6, t7, t8, t9, -, t11⟩ := tb_d a (by omega) c (by omega)
    rw [if_neg (show ¬ enc (some (a, c)) = -1 from t7)]
    show (if (2 : Int32) < ab_ (nI (10 * a + c) / 10 - (nI (10 * a + c) - nI (10 * a + c) / 10 * 10)) then _ else _) = _
    rw [t8, t9, t6]
    have hlt : ((2 : Int32) < nI (dist a c)) = ¬ dist a c ≤ 2 := by
      rw [Int32.lt_iff_toInt_lt, ln_all _ (by omega)]
      exact propext ⟨fun h => (by have : (2 : Int32).toInt = 2 := rfl; omega), fun h => (by show (2 : Int) < _; omega)⟩
    by_cases hd : dist a c ≤ 2
    · rw [if_neg (by rw [hlt]; exact fun q => q hd), if_pos (hn.mpr ⟨a, c, rfl, hd⟩)]
    · rw [if_pos (by rw [hlt]; exact hd), if_neg (fun q => by obtain ⟨a', c', z, z2⟩ := hn.mp q; cases z; exact hd z2)]
theorem l_keep46 {b mm : Nat} {σ : Sg} {F L : Int32} (hM : InvM mm σ) (hF : lnOk (F - 1)) (hL : lnOk (L + 1)) : ∀ g j, j ≤ mm → 6 < j + g → fi (neG σ (F - 1) (L + 1)) j = none → f_X7_keeperOf_L46 g b F L (nI j) (memC b σ) = some (memC b σ, encN (fi (neG σ (F - 1) (L + 1)) mm) (-1)) := by
  have hm6 := hM.2.1
  intro g
  induction g with
  | zero => intro j h1 h2; omega
  | succ g ih =>
    intro j h1 h2 h3
    show f_X7_keeperOf_b46 (f_X7_keeperOf_L46 g) b F L (nI j) _ = _
    rcases Nat.lt_or_ge j mm with hj | hj
    · have hle := nle_t hj (by omega)
      have hj6 : j < 6 := by omega
      have h7 := (hM.2.2 j hj).1
      have e1 := e_X7_ratioOf (b := b) (m := 2) hj6 (by omega) h7 hF
      have e2 := e_X7_ratioOf (b := b) (m := 2) hj6 (by omega) h7 hL
      rw [show nI 2 = (2 : Int32) from rfl] at e1 e2
      simp only [f_X7_keeperOf_b46, f_X7_keeperOf_b90, hM.1, hle, hj6, e1, e2, enc_m1, bd_s, gd, lt_, rd, nI_1, xB_k, xB_r1, xB_i2, xMA_k, xMA_n, xMA_rk, vi_t, cl_6, Nat.reduceLT, true_and, not_false_eq_true, ↓reduceIte]
      by_cases c1 : nearB (tun (spd σ (σ.1 7 j)) (spd σ (F - 1))) = true
      · rw [if_neg (fun q => q c1), fi_up h3 (show neG σ (F - 1) (L + 1) j = true from if_pos c1) mm hj]
        rfl
      · rw [if_pos c1]
        by_cases c2 : nearB (tun (spd σ (σ.1 7 j)) (spd σ (L + 1))) = true
        · rw [if_neg (fun q => q c2), fi_up h3 (show neG σ (F - 1) (L + 1) j = true from (if_neg c1).trans c2) mm hj]
          rfl
        · rw [if_pos c2]
          exact ih (j + 1) (by omega) (by omega) (fi_no h3 (fun q => c2 ((if_neg c1).symm.trans q)))
    · obtain rfl : j = mm := (by omega)
      simp only [f_X7_keeperOf_b46, hM.1, Int32.le_refl, gd, xB_k, xB_i2, ↓reduceIte]
      rw [h3]
      rfl
theorem l_keep2 {b mm : Nat} {σ : Sg} {F L : Int32} (hM : InvM mm σ) (hF : lnOk (F - 1)) (hL : lnOk (L + 1)) : ∀ g j, j ≤ mm → 6 < j + g → fi (inG σ F L) j = none → f_X7_keeperOf_L2 g b F L (nI j) (memC b σ) = some (memC b σ, encN (fi (inG σ F L) mm) (encN (fi (neG σ (F - 1) (L + 1)) mm) (-1))) := by
  have hm6 := hM.2.1
  intro g
  induction g with
  | zero => intro j h1 h2; omega
  | succ g ih =>
    intro j h1 h2 h3
    show f_X7_keeperOf_b2 (f_X7_keeperOf_L2 g) b F L (nI j) _ = _
    rcases Nat.lt_or_ge j mm with hj | hj
    · have hle := nle_t hj (by omega)
      have hj6 : j < 6 := by omega
      simp only [f_X7_keeperOf_b2, f_X7_keeperOf_b38, hM.1, hle, hj6, bd_s, gd, lt_, rd, nI_1, xB_k, xB_r1, xB_i2, xMA_k, xMA_n, xMA_rk, xM_k, xM_i0, vi_t, cl_6, Nat.reduceLT, true_and, not_false_eq_true, ↓reduceIte]
      by_cases c1 : σ.1 7 j < F
      · rw [if_pos c1]
        exact ih (j + 1) (by omega) (by omega) (fi_no h3 (fun q => by rw [inG, if_pos c1] at q; cases q))
      · rw [if_neg c1]
        by_cases c2 : L < σ.1 7 j
        · rw [if_pos c2]
          exact ih (j + 1) (by omega) (by omega) (fi_no h3 (fun q => by rw [inG, if_neg c1, if_pos c2] at q; cases q))
        · rw [if_neg c2, fi_up h3 (show inG σ F L j = true from by rw [inG, if_neg c1, if_neg c2]) mm hj]
          rfl
    · obtain rfl : j = mm := (by omega)
      simp only [f_X7_keeperOf_b2, hM.1, Int32.le_refl, gd, xB_k, xB_i2, ↓reduceIte]
      rw [h3]
      exact l_keep46 hM hF hL 200 0 (by omega) (by omega) rfl
theorem e_X7_keeperOf {b mm : Nat} {σ : Sg} {F L : Int32} (hM : InvM mm σ) (hF : lnOk (F - 1)) (hL : lnOk (L + 1)) : f_X7_keeperOf b F L (memC b σ) = some (memC b σ, encN (fi (inG σ F L) mm) (encN (fi (neG σ (F - 1) (L + 1)) mm) (-1))) := l_keep2 hM hF hL 200 0 (by omega) (by omega) rfl
theorem nI_dn : ∀ j : Nat, j < 8 → nI (j + 1) - 1 = nI j ∧ nI (j + 1) + -1 = nI j ∧ ¬ nI j < 0 ∧ ¬ nI j = -1 := by decide +kernel
theorem iI_in {b j : Nat} {σ : Sg} {F L : Int32} {M : Mem} : f_X8_isIn (σ.1 7 j) F L M = some (M, if inG σ F L j = true then 1 else 0) := by
  unfold inG
  by_cases c1 : σ.1 7 j < F
  · rw [iI_f (fun q => q.1 c1), if_pos c1]; rfl
  · rw [if_neg c1]
    by_cases c2 : L < σ.1 7 j
    · rw [if_pos c2, iI_f (fun q => by have := q.2; rw [Int32.le_iff_toInt_le] at this; rw [Int32.lt_iff_toInt_lt] at c2; omega)]; rfl
    · rw [if_neg c2, iI_t ⟨c1, by rw [Int32.lt_iff_toInt_lt] at c2; rw [Int32.le_iff_toInt_le]; omega⟩]; rfl
/-- counting down from n: the place is nI n - 1 -/
theorem l_keep63 {b mm : Nat} {σ : Sg} {F L e3 : Int32} (hM : InvM mm σ) : ∀ n g e, n ≤ mm → n < g → f_X8_keeper_L63 g b F L e3 e (nI n - 1) (memM b σ) = some (memM b σ, if encN (fi (inG σ F L) n) e = -1 then e3 else encN (fi (inG σ F L) n) e) := by
  have hm6 := hM.2.1
  intro n
  induction n with
  | zero =>
    intro g e h1 h2
    obtain ⟨g, rfl⟩ : ∃ q, g = q + 1 := ⟨g - 1, by omega⟩
    have e0 : encN (fi (inG σ F L) 0) e = e := rfl
    rw [e0]
    show f_X8_keeper_b63 _ b F L e3 e _ _ = _
    simp only [f_X8_keeper_b63, f_X8_keeper_b110, show (nI 0 - 1 < 0) = True from eq_true (by decide), if_true]
    by_cases h : e = -1
    · rw [if_pos h, if_pos h]
    · rw [if_neg h, if_neg h]
  | succ n ih =>
    intro g e h1 h2
    obtain ⟨g, rfl⟩ : ∃ q, g = q + 1 := ⟨g - 1, by omega⟩
    obtain ⟨d1, d2, d3, d4⟩ := nI_dn n (by omega)
    have hj6 : n < 6 := by omega
    show f_X8_keeper_b63 (f_X8_keeper_L63 g) b F L e3 e _ _ = _
    rw [fi_dn, ← ih g _ (by omega) (by omega), d1]
    have z1 : ¬ (1 : Int32) = 0 := by decide
    simp only [f_X8_keeper_b63, f_X8_keeper_b90, d3, hj6, iI_in (b := b), bd_s, gd, lt_, rd, yB_k, yB_r15, yML_k, yML_n, yML_ik, vi_t, cl_6, Nat.reduceLT, true_and, not_false_eq_true, ↓reduceIte]
    by_cases c : inG σ F L n = true
    · rw [if_pos c, if_neg z1, if_pos c, Int32.sub_eq_add_neg]
    · rw [if_neg c, if_pos rfl, if_neg c, Int32.sub_eq_add_neg]
theorem l_keep10 {b mm : Nat} {σ : Sg} {F L : Int32} (hM : InvM mm σ) (hF : lnOk (F - 1)) (hL : lnOk (L + 1)) : ∀ n g e, n ≤ mm → n < g → f_X8_keeper_L10 g b F L e (nI n - 1) (memM b σ) = f_X8_keeper_L63 200 b F L (encN (fi (neG σ (F - 1) (L + 1)) n) e) (-1) (nI mm - 1) (memM b σ) := by
  have hm6 := hM.2.1
  intro n
  induction n with
  | zero =>
    intro g e h1 h2
    obtain ⟨g, rfl⟩ : ∃ q, g = q + 1 := ⟨g - 1, by omega⟩
    show f_X8_keeper_b10 _ b F L e _ _ = _
    simp only [f_X8_keeper_b10, show (nI 0 - 1 < 0) = True from eq_true (by decide), if_true, gd, lt_, yB_k, yB_i14, hM.1, fi, encN]
  | succ n ih =>
    intro g e h1 h2
    obtain ⟨g, rfl⟩ : ∃ q, g = q + 1 := ⟨g - 1, by omega⟩
    obtain ⟨d1, d2, d3, d4⟩ := nI_dn n (by omega)
    have hj6 : n < 6 := by omega
    have h7 := (hM.2.2 n (by omega)).1
    show f_X8_keeper_b10 (f_X8_keeper_L10 g) b F L e _ _ = _
    rw [fi_dn, ← ih g _ (by omega) (by omega), d1]
    have z1 : ¬ (1 : Int32) = 0 := by decide
    simp only [f_X8_keeper_b10, f_X8_keeper_b39, f_X8_keeper_b45, d3, e_X8_isNear hj6 h7 hF, e_X8_isNear hj6 h7 hL, bd_s, gd, lt_, yB_k, ↓reduceIte]
    unfold neG
    by_cases c1 : nearB (tun (spd σ (σ.1 7 n)) (spd σ (F - 1))) = true
    · rw [if_pos c1, if_neg z1, if_pos c1, if_pos rfl, Int32.sub_eq_add_neg]
    · rw [if_neg c1, if_pos rfl, if_neg c1]
      by_cases c2 : nearB (tun (spd σ (σ.1 7 n)) (spd σ (L + 1))) = true
      · rw [if_pos c2, if_neg z1, if_pos c2, Int32.sub_eq_add_neg]
      · rw [if_neg c2, if_pos rfl, if_neg c2, Int32.sub_eq_add_neg]
theorem fi_lt {P : Nat → Bool} : ∀ n k, fi P n = some k → k < n := by
  intro n
  induction n with
  | zero => intro k h; cases h
  | succ n ih =>
    intro k h
    rw [fi] at h
    cases e : fi P n with
    | some q =>
      rw [e] at h
      cases h
      have := ih k e
      omega
    | none =>
      rw [e] at h
      by_cases hp : P n = true
      · simp only [hp, if_true, Option.some.injEq] at h
        omega
      · simp only [hp] at h
        cases h
theorem e_X8_keeper {b mm : Nat} {σ : Sg} {F L : Int32} (hM : InvM mm σ) (hF : lnOk (F - 1)) (hL : lnOk (L + 1)) : f_X8_keeper b F L (memM b σ) = some (memM b σ, encN (fi (inG σ F L) mm) (encN (fi (neG σ (F - 1) (L + 1)) mm) (-1))) := by
  have hm6 := hM.2.1
  have e : f_X8_keeper b F L (memM b σ) = f_X8_keeper_L10 200 b F L (-1) (nI mm - 1) (memM b σ) := by
    simp only [f_X8_keeper, gd, lt_, yB_k, yB_i14, hM.1, ↓reduceIte]
  rw [e, l_keep10 hM hF hL mm 200 (-1) (Nat.le_refl _) (by omega), l_keep63 hM mm 200 (-1) (Nat.le_refl _) (by omega)]
  cases h : fi (inG σ F L) mm with
  | none => rw [if_pos (show encN none (-1) = -1 from rfl)]; rfl
  | some k =>
    have := fi_lt _ _ h
    rw [if_neg (show ¬ encN (some k) (-1) = -1 from (nI_dn k (by omega)).2.2.2)]
    rfl
