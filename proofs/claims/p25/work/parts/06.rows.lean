/-! ===== ROWS over the memory: each takes the read-off function's step and the machine's step together ===== -/
abbrev vi_ (i : Int32) (n : Nat) : Prop := ¬ (i < 0 ∨ n ≤ i.toNatClampNeg)
def tysL (ca : Nat → ClassId) : List (ClassId × FieldType) := [(ca 9, .int), (ca 11, .object "RingHerd$Claim"), (ca 12, .object "RingHerd$Frame"), (ca 13, .object "RingHerd$Grain"), (ca 14, .object "RingHerd$Moon")]
theorem ov_i {M : Mem} {κ q k : Nat} {x : Int32} (h : fty κ k = 0) : ov (ms_i M q k x) κ q = updV (ov M κ q) k (.int x) := by
  funext j
  by_cases hj : j = k
  · subst hj; simp [ov, updV, ms_i, up2, mm_i, mm_l, mm_r, h]
  · simp [ov, updV, ms_i, up2, mm_i, mm_l, mm_r, hj]
theorem ov_l {M : Mem} {κ q k : Nat} {x : Int64} (h : fty κ k = 1) : ov (ms_l M q k x) κ q = updV (ov M κ q) k (.long x) := by
  funext j
  by_cases hj : j = k
  · subst hj; simp [ov, updV, ms_l, up2, mm_i, mm_l, mm_r, h]
  · simp [ov, updV, ms_l, up2, mm_i, mm_l, mm_r, hj]
theorem ov_r {M : Mem} {κ q k a : Nat} (h : fty κ k = 2) : ov (ms_r M q k (some a)) κ q = updV (ov M κ q) k (.ref a) := by
  funext j
  by_cases hj : j = k
  · subst hj; simp [ov, updV, ms_r, up2, mm_i, mm_l, mm_r, h, va_rf]
  · simp [ov, updV, ms_r, up2, mm_i, mm_l, mm_r, hj]
theorem av_i {M : Mem} {κ q k : Nat} {x : Int32} (h : κ < 11) : av (ms_i M q k x) κ q = updV (av M κ q) k (.int x) := by
  funext j
  by_cases hj : j = k
  · subst hj; simp [av, updV, ms_i, up2, mm_i, mm_l, mm_r, h]
  · simp [av, updV, ms_i, up2, mm_i, mm_l, mm_r, hj]
theorem av_l {M : Mem} {q k : Nat} {x : Int64} : av (ms_l M q k x) 15 q = updV (av M 15 q) k (.long x) := by
  funext j
  by_cases hj : j = k
  · subst hj; simp [av, updV, ms_l, up2, mm_i, mm_l, mm_r]
  · simp [av, updV, ms_l, up2, mm_i, mm_l, mm_r, hj]
theorem av_r {M : Mem} {κ q k a : Nat} (h : ¬ κ < 11) (h2 : κ ≠ 15) : av (ms_r M q k (some a)) κ q = updV (av M κ q) k (.ref a) := by
  funext j
  by_cases hj : j = k
  · subst hj; simp [av, updV, ms_r, up2, mm_i, mm_l, mm_r, h, h2, va_rf]
  · simp [av, updV, ms_r, up2, mm_i, mm_l, mm_r, hj]
theorem ms_i_off {M : Mem} {a k : Nat} {x : Int32} : ∀ q, q ≠ a → ∀ j, mm_i (ms_i M a k x) q j = mm_i M q j := fun q hq j => by simp [ms_i, up2, mm_i, mm_l, mm_r, hq]
theorem ms_l_off {M : Mem} {a k : Nat} {x : Int64} : ∀ q, q ≠ a → ∀ j, mm_l (ms_l M a k x) q j = mm_l M q j := fun q hq j => by simp [ms_l, up2, mm_i, mm_l, mm_r, hq]
theorem ms_r_off {M : Mem} {a k : Nat} {x : Option Nat} : ∀ q, q ≠ a → ∀ j, mm_r (ms_r M a k x) q j = mm_r M q j := fun q hq j => by simp [ms_r, up2, mm_i, mm_l, mm_r, hq]
section RG
variable {p : Program} {l : Launch} {e : Env} {R : Room} {s : State} {m : MethodId} {args : Array Value} {below : List Frame} {meth : Method} {c : Code} {H : Heap} {locs : List Loc} {cells slots : Nat} {Q : State → Prop}
variable {cc : ByteArray} {pc : Nat} {ls : Array Slot} {rest st0 : List Value} {D : va_G} {ca : Nat → ClassId} {nx : Bool} {A : Nat → Prop} {M : Mem} {α : Type} {r : α}
theorem rg_get (hx : p.tables.exec = Jvm.exec) (hb : c.code = cc) (hts : ∀ w ∈ aw, w.before args s = true) (hK : va_K D vwCl (tysL ca) s) (hR : Hp D ca nx A s M H locs) {own C : String} {T : u_T} {N κ index q : Nat} (hown : s.vm.findClass own = some m.cls) (hin : ∀ w ∈ u_ws C T N, w ∈ aw) (hc : vwCl[κ]? = some (C, T, N)) (h9 : κ < 9) (k : Nat) (hk : k < N)
    (hl : Cond.fieldLink own index (T k).1 (T k).2.1 (T k).2.2.1 ∈ aw) {v : Value} (hv : ov M κ q k = v) (hdg : decode cc pc = .ok (.getfield index, 3)) {g : Option α} (hf : gd (M.1 q = κ) g = some r)
    (kk : g = some r → W p l e R s m args below meth c H locs cells slots Q (F0 m (pc + 3) ls (v :: rest))) : W p l e R s m args below meth c H locs cells slots Q (F0 m pc ls (.ref q :: rest)) := by
  obtain ⟨hq, hf⟩ := gd_e hf
  obtain ⟨cell, q1, q2, q3, q4⟩ := hR.1.1.obj hq hc h9
  obtain ⟨hS, hfc, kC, hkC, hkind⟩ := hK.1 κ _ hc
  obtain ⟨cf, kf, fi, f, hi, hsl⟩ := hS k hk
  refine W.getf hx hb hown (hts _ hl) hi (u_facts hfc hkC (u_lays hts hin hk) hi).1 q1 (by rw [q3]; exact fun h => by cases h) (v := v) ?_ rfl rfl hdg (kk hf)
  rw [hsl, q4 k hk, hv]
theorem rg_getr (hx : p.tables.exec = Jvm.exec) (hb : c.code = cc) (hts : ∀ w ∈ aw, w.before args s = true) (hK : va_K D vwCl (tysL ca) s) (hR : Hp D ca nx A s M H locs) {own C : String} {T : u_T} {N κ index q : Nat} (hown : s.vm.findClass own = some m.cls) (hin : ∀ w ∈ u_ws C T N, w ∈ aw) (hc : vwCl[κ]? = some (C, T, N)) (h9 : κ < 9) (k : Nat) (hk : k < N)
    (hl : Cond.fieldLink own index (T k).1 (T k).2.1 (T k).2.2.1 ∈ aw) (hv : ov M κ q k = va_rf (mm_r M q k)) (hdg : decode cc pc = .ok (.getfield index, 3)) {F : Nat → Option α} (hf : gd (M.1 q = κ) (rd (mm_r M q k) F) = some r)
    (kk : ∀ a, F a = some r → W p l e R s m args below meth c H locs cells slots Q (F0 m (pc + 3) ls (.ref a :: rest))) : W p l e R s m args below meth c H locs cells slots Q (F0 m pc ls (.ref q :: rest)) := by
  obtain ⟨hq, hf⟩ := gd_e hf
  obtain ⟨a, ha, hf⟩ := rd_e hf
  have hf2 : gd (M.1 q = κ) (F a) = some r := by unfold gd; rw [if_pos hq]; exact hf
  exact rg_get hx hb hts hK hR hown hin hc h9 k hk hl (by rw [hv, ha]; rfl) hdg hf2 (kk a)
theorem rg_put (hx : p.tables.exec = Jvm.exec) (hb : c.code = cc) (hts : ∀ w ∈ aw, w.before args s = true) (hK : va_K D vwCl (tysL ca) s) (hR : Hp D ca nx A s M H locs) {own C : String} {T : u_T} {N κ index q : Nat} (hown : s.vm.findClass own = some m.cls) (hin : ∀ w ∈ u_ws C T N, w ∈ aw) (hc : vwCl[κ]? = some (C, T, N)) (h9 : κ < 9) (k : Nat) (hk : k < N)
    (hl : Cond.fieldLink own index (T k).1 (T k).2.1 (T k).2.2.1 ∈ aw) (ty0 : Nat → FieldType) (hty : ∀ k, k < N → parseFieldDescriptor (T k).2.2.1 = some (ty0 k)) (hnm : ∀ a, a < N → ∀ b, b < N → a ≠ b → (T a).2.1 ≠ (T b).2.1)
    (hfin : (T k).2.2.2 = false ∨ ((T k).2.2.2 = true ∧ meth.name = "<init>" ∧ (T k).1 = own)) {v : Value} (hn : narrow (ty0 k) v = v) (hfit : fits (ty0 k) v = true) (hq : M.1 q = κ) {M1 : Mem} (hk1 : M1.1 = M.1) (hn1 : M1.2.1 = M.2.1) (hx1 : mm_x M1 = mm_x M)
    (hi1 : ∀ z, z ≠ q → ∀ k, mm_i M1 z k = mm_i M z k) (hl1 : ∀ z, z ≠ q → ∀ k, mm_l M1 z k = mm_l M z k) (hr1 : ∀ z, z ≠ q → ∀ k, mm_r M1 z k = mm_r M z k) (hov : ov M1 κ q = updV (ov M κ q) k v) (hdg : decode cc pc = .ok (.putfield index, 3))
    (kk : ∀ (H1 : Heap) (locs1 : List Loc), Hp D ca nx A s M1 H1 locs1 → W p l e R s m args below meth c H1 locs1 cells slots Q (F0 m (pc + 3) ls rest)) : W p l e R s m args below meth c H locs cells slots Q (F0 m pc ls (v :: .ref q :: rest)) := by
  have hap := va_apart (own := own) hts hin ty0 hty hnm hK hc
  obtain ⟨cell, q1, q2, q3, q4⟩ := hR.1.1.obj hq hc h9
  obtain ⟨hS, hfc, kC, hkC, hkind⟩ := hK.1 κ _ hc
  obtain ⟨cf, kf, fi, f, hi, hsl⟩ := hS k hk
  have hlay := hts _ (hin _ (u_in_lay hk))
  unfold u_lay at hlay
  have hst := (u_facts hfc hkC (u_lays hts hin hk) hi).1
  have fin : ∀ H1 : Heap, H1[q]? = some (cell.setSlot f.slot v) → H1.size = H.size → (∀ z, z ≠ q → H1[z]? = H[z]?) → Hp D ca nx A s M1 H1 (locs ++ [⟨q, f.slot⟩]) := by
    intro H1 e1 e2 e3
    rw [hsl] at e1
    refine hR.put (by rw [hq]; omega) e2 e3 hk1 hn1 hx1 hi1 hl1 hr1 ⟨fun _ => ⟨(C, T, N), by rw [hk1, hq]; exact hc, ?_⟩, fun h => by rw [hk1, hq] at h; omega⟩
    rw [hk1, hq, hov]
    exact ⟨_, e1, q2, q3, t_set q4 hap hk v⟩
  rcases hfin with hfin | ⟨hfin, hin2, hdecl⟩
  · rw [if_neg (by rw [hfin]; decide)] at hlay
    have h6 := u_store hfc hkC hkind hlay hi (hty k hk) hn hfit
    exact W.putK hx hb (f := f) ⟨hown, hts _ hl, ⟨_, _, _, hi⟩, hst⟩ (by rw [q2]; exact h6) q1 q3 (by rw [hsl]; exact k2_hasslot (q4 k hk)) rfl rfl hdg fun H1 e1 e2 e3 => kk H1 _ (fin H1 e1 e2 e3)
  · rw [if_pos hfin] at hlay
    have h6 := u_fits hfc hkC hkind (Or.inr hlay) hi (hty k hk) hn hfit
    have hcf : m.cls = cf := by
      obtain ⟨_, _, c', _, _, _, -, -, hf', -, -, -, hown2, -⟩ := Cond.laysFinal_spec hlay
      have e1 : c' = cf := by have := hi.symm.trans hf'; simp at this; exact this.1.symm
      rw [hdecl] at hown2
      rw [← e1]; exact Option.some.inj (hown.symm.trans hown2)
    exact W.putFinK hx hb hown (hts _ hl) hi hst hcf hin2 (by rw [q2]; exact h6) q1 q3 (by rw [hsl]; exact k2_hasslot (q4 k hk)) rfl rfl hdg fun H1 e1 e2 e3 => kk H1 _ (fin H1 e1 e2 e3)
theorem rg_puti (hx : p.tables.exec = Jvm.exec) (hb : c.code = cc) (hts : ∀ w ∈ aw, w.before args s = true) (hK : va_K D vwCl (tysL ca) s) (hR : Hp D ca nx A s M H locs) {own C : String} {T : u_T} {N κ index q : Nat} (hown : s.vm.findClass own = some m.cls) (hin : ∀ w ∈ u_ws C T N, w ∈ aw) (hc : vwCl[κ]? = some (C, T, N)) (h9 : κ < 9) (k : Nat) (hk : k < N)
    (hl : Cond.fieldLink own index (T k).1 (T k).2.1 (T k).2.2.1 ∈ aw) (ty0 : Nat → FieldType) (hty : ∀ k, k < N → parseFieldDescriptor (T k).2.2.1 = some (ty0 k)) (hnm : ∀ a, a < N → ∀ b, b < N → a ≠ b → (T a).2.1 ≠ (T b).2.1)
    (hfin : (T k).2.2.2 = false) {x : Int32} (hn : narrow (ty0 k) (.int x) = .int x) (hfit : fits (ty0 k) (.int x) = true) (hft : fty κ k = 0) (hdg : decode cc pc = .ok (.putfield index, 3)) {F : Mem → Option α} (hf : gd (M.1 q = κ) (lt_ (ms_i M q k x) F) = some r)
    (kk : ∀ (M1 : Mem) (H1 : Heap) (locs1 : List Loc), F M1 = some r → Hp D ca nx A s M1 H1 locs1 → W p l e R s m args below meth c H1 locs1 cells slots Q (F0 m (pc + 3) ls rest)) : W p l e R s m args below meth c H locs cells slots Q (F0 m pc ls (.int x :: .ref q :: rest)) := by
  obtain ⟨hq, hf⟩ := gd_e hf
  exact rg_put (M1 := ms_i M q k x) hx hb hts hK hR hown hin hc h9 k hk hl ty0 hty hnm (Or.inl hfin) hn hfit hq rfl rfl rfl ms_i_off (fun _ _ _ => rfl) (fun _ _ _ => rfl) (ov_i hft) hdg (fun H1 locs1 h => kk _ H1 locs1 hf h)
theorem rg_putl (hx : p.tables.exec = Jvm.exec) (hb : c.code = cc) (hts : ∀ w ∈ aw, w.before args s = true) (hK : va_K D vwCl (tysL ca) s) (hR : Hp D ca nx A s M H locs) {own C : String} {T : u_T} {N κ index q : Nat} (hown : s.vm.findClass own = some m.cls) (hin : ∀ w ∈ u_ws C T N, w ∈ aw) (hc : vwCl[κ]? = some (C, T, N)) (h9 : κ < 9) (k : Nat) (hk : k < N)
    (hl : Cond.fieldLink own index (T k).1 (T k).2.1 (T k).2.2.1 ∈ aw) (ty0 : Nat → FieldType) (hty : ∀ k, k < N → parseFieldDescriptor (T k).2.2.1 = some (ty0 k)) (hnm : ∀ a, a < N → ∀ b, b < N → a ≠ b → (T a).2.1 ≠ (T b).2.1)
    (hfin : (T k).2.2.2 = false) {x : Int64} (hn : narrow (ty0 k) (.long x) = .long x) (hfit : fits (ty0 k) (.long x) = true) (hft : fty κ k = 1) (hdg : decode cc pc = .ok (.putfield index, 3)) {F : Mem → Option α} (hf : gd (M.1 q = κ) (lt_ (ms_l M q k x) F) = some r)
    (kk : ∀ (M1 : Mem) (H1 : Heap) (locs1 : List Loc), F M1 = some r → Hp D ca nx A s M1 H1 locs1 → W p l e R s m args below meth c H1 locs1 cells slots Q (F0 m (pc + 3) ls rest)) : W p l e R s m args below meth c H locs cells slots Q (F0 m pc ls (.long x :: .ref q :: rest)) := by
  obtain ⟨hq, hf⟩ := gd_e hf
  exact rg_put (M1 := ms_l M q k x) hx hb hts hK hR hown hin hc h9 k hk hl ty0 hty hnm (Or.inl hfin) hn hfit hq rfl rfl rfl (fun _ _ _ => rfl) ms_l_off (fun _ _ _ => rfl) (ov_l hft) hdg (fun H1 locs1 h => kk _ H1 locs1 hf h)
/-- a reference, in a constructor (final fields) -/
theorem rg_putr (hx : p.tables.exec = Jvm.exec) (hb : c.code = cc) (hts : ∀ w ∈ aw, w.before args s = true) (hK : va_K D vwCl (tysL ca) s) (hR : Hp D ca nx A s M H locs) {own C : String} {T : u_T} {N κ index q a : Nat} (hown : s.vm.findClass own = some m.cls) (hin : ∀ w ∈ u_ws C T N, w ∈ aw) (hc : vwCl[κ]? = some (C, T, N)) (h9 : κ < 9) (k : Nat) (hk : k < N)
    (hl : Cond.fieldLink own index (T k).1 (T k).2.1 (T k).2.2.1 ∈ aw) (ty0 : Nat → FieldType) (hty : ∀ k, k < N → parseFieldDescriptor (T k).2.2.1 = some (ty0 k)) (hnm : ∀ a, a < N → ∀ b, b < N → a ≠ b → (T a).2.1 ≠ (T b).2.1)
    (hfin : (T k).2.2.2 = true ∧ meth.name = "<init>" ∧ (T k).1 = own) (hn : narrow (ty0 k) (.ref a) = .ref a) (hfit : fits (ty0 k) (.ref a) = true) (hft : fty κ k = 2) (hdg : decode cc pc = .ok (.putfield index, 3)) {F : Mem → Option α} (hf : gd (M.1 q = κ) (lt_ (ms_r M q k (some a)) F) = some r)
    (kk : ∀ (M1 : Mem) (H1 : Heap) (locs1 : List Loc), F M1 = some r → Hp D ca nx A s M1 H1 locs1 → W p l e R s m args below meth c H1 locs1 cells slots Q (F0 m (pc + 3) ls rest)) : W p l e R s m args below meth c H locs cells slots Q (F0 m pc ls (.ref a :: .ref q :: rest)) := by
  obtain ⟨hq, hf⟩ := gd_e hf
  exact rg_put (M1 := ms_r M q k (some a)) hx hb hts hK hR hown hin hc h9 k hk hl ty0 hty hnm (Or.inr hfin) hn hfit hq rfl rfl rfl (fun _ _ _ => rfl) (fun _ _ _ => rfl) ms_r_off (ov_r hft) hdg (fun H1 locs1 h => kk _ H1 locs1 hf h)
-- arrays
theorem rg_iald (hx : p.tables.exec = Jvm.exec) (hb : c.code = cc) (hK : va_K D vwCl (tysL ca) s) (hR : Hp D ca nx A s M H locs) {q : Nat} {i : Int32} (hdg : decode cc pc = .ok (.iaload, 1)) {g : Option α} (hf : gd (M.1 q = 9 ∧ vi_ i (mm_N M q)) g = some r)
    (kk : g = some r → W p l e R s m args below meth c H locs cells slots Q (F0 m (pc + 1) ls (.int (mm_i M q i.toNatClampNeg) :: rest))) : W p l e R s m args below meth c H locs cells slots Q (F0 m pc ls (.int i :: .ref q :: rest)) := by
  obtain ⟨⟨hq, hin⟩, hf⟩ := gd_e hf
  have hlt : i.toNatClampNeg < M.2.1 q := Nat.not_le.mp fun z => hin (Or.inr z)
  exact W.iald (v := .int (mm_i M q i.toNatClampNeg)) hx hb (hR.1.1.arr hq (by decide) (by decide)) ((hK.2 0 _ rfl).1 _ _) (fun z => by cases z) (by rw [arrV_size]; exact hin) (by rw [arrV_read _ _ hlt]; rfl) rfl rfl hdg (kk hf)
/-- an element of an array of references, κ 11 to 14 -/
theorem rg_aald (hx : p.tables.exec = Jvm.exec) (hb : c.code = cc) (hK : va_K D vwCl (tysL ca) s) (hR : Hp D ca nx A s M H locs) {q : Nat} {i : Int32} {κ : Nat} (t0 : Nat) {C : String} (ht : (tysL ca)[t0]? = some (ca κ, .object C)) (hκ : 11 ≤ κ ∧ κ < 15) (hdg : decode cc pc = .ok (.aaload, 1)) {F : Nat → Option α} (hf : gd (M.1 q = κ ∧ vi_ i (mm_N M q)) (rd (mm_r M q i.toNatClampNeg) F) = some r)
    (kk : ∀ a, F a = some r → W p l e R s m args below meth c H locs cells slots Q (F0 m (pc + 1) ls (.ref a :: rest))) : W p l e R s m args below meth c H locs cells slots Q (F0 m pc ls (.int i :: .ref q :: rest)) := by
  obtain ⟨⟨hq, hin⟩, hf⟩ := gd_e hf
  obtain ⟨a, ha, hf⟩ := rd_e hf
  have hlt : i.toNatClampNeg < M.2.1 q := Nat.not_le.mp fun z => hin (Or.inr z)
  have hv : av M κ q i.toNatClampNeg = .ref a := by unfold av; rw [if_neg (by omega), if_neg (by omega), ha]; rfl
  exact W.aald (v := .ref a) (ty := .object C) hx hb (hR.1.1.arr hq (by omega) (by omega)) ((hK.2 t0 _ ht).1 _ _) rfl (fun z => by cases z) (by rw [arrV_size]; exact hin) (by rw [arrV_read _ _ hlt, hv]) rfl rfl hdg (kk a hf)
theorem rg_alen (hx : p.tables.exec = Jvm.exec) (hb : c.code = cc) (hK : va_K D vwCl (tysL ca) s) (hR : Hp D ca nx A s M H locs) {q κ : Nat} (t0 : Nat) {ty : FieldType} (ht : (tysL ca)[t0]? = some (ca κ, ty)) (hκ : 9 ≤ κ ∧ κ < 16) (hdg : decode cc pc = .ok (.arraylength, 1)) {g : Option α} (hf : gd (M.1 q = κ) g = some r)
    (kk : g = some r → W p l e R s m args below meth c H locs cells slots Q (F0 m (pc + 1) ls (.int (nI (mm_N M q)) :: rest))) : W p l e R s m args below meth c H locs cells slots Q (F0 m pc ls (.ref q :: rest)) := by
  obtain ⟨hq, hf⟩ := gd_e hf
  exact W.alen (n := Int32.ofNat (mm_N M q)) hx hb (hR.1.1.arr hq hκ.1 hκ.2) ((hK.2 t0 _ ht).1 _ _) (by rw [arrV_size] <;> rfl) rfl rfl hdg (kk hf)
theorem rg_ast {M1 : Mem} {q κ k : Nat} {v : Value} {H1 : Heap} (hR : Hp D ca nx A s M H locs) (hq : M.1 q = κ) (h1 : 9 ≤ κ) (h2 : κ < 16) (hk1 : M1.1 = M.1) (hn1 : M1.2.1 = M.2.1) (hx1 : mm_x M1 = mm_x M)
    (hi1 : ∀ z, z ≠ q → ∀ k, mm_i M1 z k = mm_i M z k) (hl1 : ∀ z, z ≠ q → ∀ k, mm_l M1 z k = mm_l M z k) (hr1 : ∀ z, z ≠ q → ∀ k, mm_r M1 z k = mm_r M z k) (hav : av M1 κ q = updV (av M κ q) k v)
    (e1 : H1[q]? = some ((arrV (ca κ) (M.2.1 q) (av M κ q)).setSlot k v)) (e2 : H1.size = H.size) (e3 : ∀ z, z ≠ q → H1[z]? = H[z]?) : Hp D ca nx A s M1 H1 (locs ++ [⟨q, k⟩]) := by
  refine hR.put (by rw [hq]; omega) e2 e3 hk1 hn1 hx1 hi1 hl1 hr1 ⟨fun h => by rw [hk1, hq] at h; omega, fun _ _ => ?_⟩
  rw [hk1, hn1, hq, hav, e1, arrV_store]
theorem rg_iast (hx : p.tables.exec = Jvm.exec) (hb : c.code = cc) (hK : va_K D vwCl (tysL ca) s) (hR : Hp D ca nx A s M H locs) {q : Nat} {i x : Int32} (hdg : decode cc pc = .ok (.iastore, 1)) {F : Mem → Option α} (hf : gd (M.1 q = 9 ∧ vi_ i (mm_N M q)) (lt_ (ms_i M q i.toNatClampNeg x) F) = some r)
    (kk : ∀ (M1 : Mem) (H1 : Heap) (locs1 : List Loc), F M1 = some r → Hp D ca nx A s M1 H1 locs1 → W p l e R s m args below meth c H1 locs1 cells slots Q (F0 m (pc + 1) ls rest)) : W p l e R s m args below meth c H locs cells slots Q (F0 m pc ls (.int x :: .int i :: .ref q :: rest)) := by
  obtain ⟨⟨hq, hin⟩, hf⟩ := gd_e hf
  exact W.iast hx hb (hR.1.1.arr hq (by decide) (by decide)) ((hK.2 0 _ rfl).1 _ _) (fun z => by cases z) (by rw [arrV_size]; exact hin) rfl rfl hdg fun H1 e1 e2 e3 => kk _ H1 _ hf (rg_ast hR hq (by decide) (by decide) rfl rfl rfl ms_i_off (fun _ _ _ => rfl) (fun _ _ _ => rfl) (av_i (by decide)) e1 e2 e3)
-- names and branches
theorem nm_i {x : Int32} {F : Int32 → Option α} (hf : lt_ x F = some r) (kk : ∀ y : Int32, F y = some r → W p l e R s m args below meth c H locs cells slots Q (F0 m pc ls (.int y :: rest))) : W p l e R s m args below meth c H locs cells slots Q (F0 m pc ls (.int x :: rest)) := kk x hf
theorem nm_l {x : Int64} {F : Int64 → Option α} (hf : lt_ x F = some r) (kk : ∀ y : Int64, F y = some r → W p l e R s m args below meth c H locs cells slots Q (F0 m pc ls (.long y :: rest))) : W p l e R s m args below meth c H locs cells slots Q (F0 m pc ls (.long x :: rest)) := kk x hf
end RG
