/-! ===== THE MEMORY: what the cells of a region hold, as functions of address and place ===== -/
/-- kinds (0 to 8: an object of class vwCl; 9 int[], 10 boolean[], 11 Claim[], 12 Frame[], 13 Grain[], 14 Moon[], 15 long[]; 16 and on: no cell), lengths, ints, longs, references, the next address -/
abbrev Mem : Type := (Nat → Nat) × (Nat → Nat) × (Nat → Nat → Int32) × (Nat → Nat → Int64) × (Nat → Nat → Option Nat) × Nat
abbrev mm_N (M : Mem) (q : Nat) : Nat := M.2.1 q
abbrev mm_i (M : Mem) (q k : Nat) : Int32 := M.2.2.1 q k
abbrev mm_l (M : Mem) (q k : Nat) : Int64 := M.2.2.2.1 q k
abbrev mm_r (M : Mem) (q k : Nat) : Option Nat := M.2.2.2.2.1 q k
abbrev mm_x (M : Mem) : Nat := M.2.2.2.2.2
def up2 {α : Type} (f : Nat → Nat → α) (q k : Nat) (v : α) : Nat → Nat → α := fun a j => if a = q ∧ j = k then v else f a j
def zr2 {α : Type} (f : Nat → Nat → α) (q : Nat) (v : α) : Nat → Nat → α := fun a j => if a = q then v else f a j
def ms_i (M : Mem) (q k : Nat) (v : Int32) : Mem := (M.1, M.2.1, up2 M.2.2.1 q k v, M.2.2.2)
def ms_l (M : Mem) (q k : Nat) (v : Int64) : Mem := (M.1, M.2.1, M.2.2.1, up2 M.2.2.2.1 q k v, M.2.2.2.2)
def ms_r (M : Mem) (q k : Nat) (v : Option Nat) : Mem := (M.1, M.2.1, M.2.2.1, M.2.2.2.1, up2 M.2.2.2.2.1 q k v, M.2.2.2.2.2)
/-- a new cell at the next address, all zero -/
def ms_n (M : Mem) (κ n : Nat) : Mem := (va_up M.1 M.2.2.2.2.2 κ, va_up M.2.1 M.2.2.2.2.2 n, zr2 M.2.2.1 M.2.2.2.2.2 0, zr2 M.2.2.2.1 M.2.2.2.2.2 0, zr2 M.2.2.2.2.1 M.2.2.2.2.2 none, M.2.2.2.2.2 + 1)
/-- the steps of a read-off function: a guard, a binding, a reference, a call -/
def gd {α : Type} (c : Prop) [Decidable c] (g : Option α) : Option α := if c then g else none
def lt_ {α β : Type} (a : α) (F : α → Option β) : Option β := F a
def rd {α : Type} (o : Option Nat) (F : Nat → Option α) : Option α := match o with | none => none | some a => F a
def bd {α β : Type} (o : Option α) (F : α → Option β) : Option β := match o with | none => none | some a => F a
/-- a call that may throw: what it throws goes on -/
def bx {β γ : Type} (o : Option (Mem × (β ⊕ Nat))) (F : Mem → β → Option (Mem × (γ ⊕ Nat))) : Option (Mem × (γ ⊕ Nat)) := match o with | none => none | some (M, .inl v) => F M v | some (M, .inr e) => some (M, .inr e)
theorem gd_e {α : Type} {c : Prop} [Decidable c] {g : Option α} {r : α} (h : gd c g = some r) : c ∧ g = some r := by
  unfold gd at h
  split at h
  · exact ⟨by assumption, h⟩
  · cases h
theorem rd_e {α : Type} {o : Option Nat} {F : Nat → Option α} {r : α} (h : rd o F = some r) : ∃ a, o = some a ∧ F a = some r := by
  cases o with
  | none => cases h
  | some a => exact ⟨a, rfl, h⟩
theorem bd_e {α β : Type} {o : Option α} {F : α → Option β} {r : β} (h : bd o F = some r) : ∃ a, o = some a ∧ F a = some r := by
  cases o with
  | none => cases h
  | some a => exact ⟨a, rfl, h⟩
theorem it_t {α : Type} {c : Prop} [Decidable c] {a b : Option α} {r : α} (h : (if c then a else b) = some r) (hc : c) : a = some r := by rwa [if_pos hc] at h
theorem it_f {α : Type} {c : Prop} [Decidable c] {a b : Option α} {r : α} (h : (if c then a else b) = some r) (hc : ¬ c) : b = some r := by rwa [if_neg hc] at h
def ftT : List (List Nat) := [[0, 0, 0, 0], [2, 0], [0, 0, 0, 0, 0, 0, 0], [2, 2, 2, 0, 0, 0, 0], [0, 0, 0, 0, 0, 0, 0, 0, 1, 1, 1, 1, 1], [0, 0, 0], [0], [2, 2, 0, 2, 0, 2, 0, 0, 2, 2, 2]]
def fty (κ k : Nat) : Nat := (ftT.getD κ []).getD k 0
/-- what an object of class κ holds at place k -/
def ov (M : Mem) (κ q k : Nat) : Value := if fty κ k = 0 then .int (mm_i M q k) else if fty κ k = 1 then .long (mm_l M q k) else va_rf (mm_r M q k)
/-- what an array of kind κ holds at place k -/
def av (M : Mem) (κ q k : Nat) : Value := if κ < 11 then .int (mm_i M q k) else if κ = 15 then .long (mm_l M q k) else va_rf (mm_r M q k)
def cOk (D : va_G) (ca : Nat → ClassId) (M : Mem) (q : Nat) (H : Heap) : Prop :=
  (M.1 q < 9 → ∃ r : vw_C, vwCl[M.1 q]? = some r ∧ t_OB q (D.1 (M.1 q)) r.2.2 (D.2 (M.1 q)) H (ov M (M.1 q) q)) ∧
  (9 ≤ M.1 q → M.1 q < 16 → H[q]? = some (arrV (ca (M.1 q)) (M.2.1 q) (av M (M.1 q) q)))
def Rg (D : va_G) (ca : Nat → ClassId) (M : Mem) (H : Heap) : Prop := ∀ q, cOk D ca M q H
theorem cOk.kept {D : va_G} {ca : Nat → ClassId} {M M1 : Mem} {q : Nat} {H H1 : Heap} (h : cOk D ca M q H) (hH : M.1 q < 16 → H1[q]? = H[q]?) (hk : M1.1 q = M.1 q) (hn : M1.2.1 q = M.2.1 q) (hi : ∀ k, mm_i M1 q k = mm_i M q k) (hl : ∀ k, mm_l M1 q k = mm_l M q k) (hr : ∀ k, mm_r M1 q k = mm_r M q k) : cOk D ca M1 q H1 := by
  have e1 : ∀ κ, ov M1 κ q = ov M κ q := fun κ => funext fun k => by unfold ov; rw [hi, hl, hr]
  have e2 : ∀ κ, av M1 κ q = av M κ q := fun κ => funext fun k => by unfold av; rw [hi, hl, hr]
  unfold cOk
  rw [hk, hn, e1, e2]
  refine ⟨fun h9 => ?_, fun h1 h2 => ?_⟩
  · obtain ⟨r, q1, q2⟩ := h.1 h9
    exact ⟨r, q1, q2.kept (hH (by omega))⟩
  · rw [hH h2]
    exact h.2 h1 h2
theorem Rg.kept {D : va_G} {ca : Nat → ClassId} {M : Mem} {H H1 : Heap} (h : Rg D ca M H) (hH : ∀ q, M.1 q < 16 → H1[q]? = H[q]?) : Rg D ca M H1 := fun q => (h q).kept (hH q) rfl rfl (fun _ => rfl) (fun _ => rfl) (fun _ => rfl)
theorem Rg.lt {D : va_G} {ca : Nat → ClassId} {M : Mem} {H : Heap} (h : Rg D ca M H) {q : Nat} (hq : M.1 q < 16) : q < H.size := by
  by_cases h9 : M.1 q < 9
  · obtain ⟨r, -, cell, q1, -⟩ := (h q).1 h9
    exact (Array.getElem?_eq_some_iff.mp q1).1
  · exact (Array.getElem?_eq_some_iff.mp ((h q).2 (by omega) hq)).1
theorem Rg.obj {D : va_G} {ca : Nat → ClassId} {M : Mem} {H : Heap} (h : Rg D ca M H) {q κ : Nat} (hk : M.1 q = κ) {C : String} {T : u_T} {N : Nat} (hc : vwCl[κ]? = some (C, T, N)) (h9 : κ < 9) : t_OB q (D.1 κ) N (D.2 κ) H (ov M κ q) := by
  subst hk
  obtain ⟨r, q1, q2⟩ := (h q).1 h9
  cases Option.some.inj (q1.symm.trans hc)
  exact q2
theorem Rg.arr {D : va_G} {ca : Nat → ClassId} {M : Mem} {H : Heap} (h : Rg D ca M H) {q κ : Nat} (hk : M.1 q = κ) (h9 : 9 ≤ κ) (h16 : κ < 16) : H[q]? = some (arrV (ca κ) (M.2.1 q) (av M κ q)) := by
  subst hk
  exact (h q).2 h9 h16
/-- the world of a method as it runs: the region, the next address where it is kept, the kinds lie in the frame set, what was written -/
def Wr (D : va_G) (ca : Nat → ClassId) (nx : Bool) (A : Nat → Prop) (M : Mem) (H : Heap) : Prop := Rg D ca M H ∧ (nx = true → mm_x M = H.size) ∧ ∀ q, M.1 q < 16 → A q
def Hp (D : va_G) (ca : Nat → ClassId) (nx : Bool) (A : Nat → Prop) (s : State) (M : Mem) (H : Heap) (locs : List Loc) : Prop := Wr D ca nx A M H ∧ va_S A s.heap H locs
theorem Hp.put {D : va_G} {ca : Nat → ClassId} {nx : Bool} {A : Nat → Prop} {s : State} {M M1 : Mem} {H H1 : Heap} {locs : List Loc} {a k : Nat} (h : Hp D ca nx A s M H locs) (ha : M.1 a < 16) (z : H1.size = H.size) (oq : ∀ q : Nat, q ≠ a → H1[q]? = H[q]?)
    (hk : M1.1 = M.1) (hn : M1.2.1 = M.2.1) (hx : mm_x M1 = mm_x M) (hi : ∀ q, q ≠ a → ∀ k, mm_i M1 q k = mm_i M q k) (hl : ∀ q, q ≠ a → ∀ k, mm_l M1 q k = mm_l M q k) (hr : ∀ q, q ≠ a → ∀ k, mm_r M1 q k = mm_r M q k) (hc : cOk D ca M1 a H1) : Hp D ca nx A s M1 H1 (locs ++ [⟨a, k⟩]) := by
  obtain ⟨⟨hR, hX, hA⟩, hS⟩ := h
  refine ⟨⟨fun q => ?_, fun hnx => by rw [hx, z]; exact hX hnx, fun q hq => hA q (by rw [← hk]; exact hq)⟩, hS.put z oq (hA a ha)⟩
  by_cases hqa : q = a
  · rw [hqa]; exact hc
  · exact (hR q).kept (fun _ => oq q hqa) (by rw [hk]) (by rw [hn]) (hi q hqa) (hl q hqa) (hr q hqa)
